section
-- ===== PART A: goes FIRST, ahead of the names: the tables' words, and 'selects' of the private methods out of them =====
/-- a private method of a class that the tables say can be made, by its rows of tables_1 -/
def lw_okq (q : MethodName × Nat) : Prop := (q.1.cls ≠ "java/lang/invoke/MethodHandle" ∧ q.1.cls ≠ "java/lang/invoke/VarHandle") ∧ Cond.instantiable q.1.cls q.2 ∈ tables_1 ∧ Cond.privateMethod q.1 ∈ tables_1 ∧ Cond.instanceMethod q.1 ∈ tables_1
theorem lw_p0 : lw_okq (⟨"SurgeLine", "change", "(II)I"⟩, 7) := ⟨⟨by decide +kernel, by decide +kernel⟩, List.mem_of_getElem? (i := 8) (by decide +kernel), List.mem_of_getElem? (i := 130) (by decide +kernel), List.mem_of_getElem? (i := 131) (by decide +kernel)⟩
theorem lw_p1 : lw_okq (⟨"SurgeLine", "refuse", "(I)I"⟩, 7) := ⟨⟨by decide +kernel, by decide +kernel⟩, List.mem_of_getElem? (i := 8) (by decide +kernel), List.mem_of_getElem? (i := 141) (by decide +kernel), List.mem_of_getElem? (i := 142) (by decide +kernel)⟩
theorem lw_p2 : lw_okq (⟨"SurgeLine", "keep", "(LSurgeLine$Line;)V"⟩, 7) := ⟨⟨by decide +kernel, by decide +kernel⟩, List.mem_of_getElem? (i := 8) (by decide +kernel), List.mem_of_getElem? (i := 145) (by decide +kernel), List.mem_of_getElem? (i := 146) (by decide +kernel)⟩
theorem lw_p3 : lw_okq (⟨"SurgeLine", "hasTimeFor", "(I)Z"⟩, 7) := ⟨⟨by decide +kernel, by decide +kernel⟩, List.mem_of_getElem? (i := 8) (by decide +kernel), List.mem_of_getElem? (i := 192) (by decide +kernel), List.mem_of_getElem? (i := 193) (by decide +kernel)⟩
theorem lw_p4 : lw_okq (⟨"SurgeLine$Line", "shift", "()V"⟩, 8) := ⟨⟨by decide +kernel, by decide +kernel⟩, List.mem_of_getElem? (i := 16) (by decide +kernel), List.mem_of_getElem? (i := 200) (by decide +kernel), List.mem_of_getElem? (i := 201) (by decide +kernel)⟩
theorem lw_p5 : lw_okq (⟨"SurgeLine$Line", "turnLeft", "()V"⟩, 8) := ⟨⟨by decide +kernel, by decide +kernel⟩, List.mem_of_getElem? (i := 16) (by decide +kernel), List.mem_of_getElem? (i := 204) (by decide +kernel), List.mem_of_getElem? (i := 205) (by decide +kernel)⟩
theorem lw_p6 : lw_okq (⟨"SurgeLine$Line", "turnRight", "()V"⟩, 8) := ⟨⟨by decide +kernel, by decide +kernel⟩, List.mem_of_getElem? (i := 16) (by decide +kernel), List.mem_of_getElem? (i := 208) (by decide +kernel), List.mem_of_getElem? (i := 209) (by decide +kernel)⟩
theorem lw_p7 : lw_okq (⟨"SurgeLine$Line", "fillTank", "(D)V"⟩, 8) := ⟨⟨by decide +kernel, by decide +kernel⟩, List.mem_of_getElem? (i := 16) (by decide +kernel), List.mem_of_getElem? (i := 215) (by decide +kernel), List.mem_of_getElem? (i := 216) (by decide +kernel)⟩
theorem lw_p8 : lw_okq (⟨"SurgeLine$Line", "widenEnvelopes", "()V"⟩, 8) := ⟨⟨by decide +kernel, by decide +kernel⟩, List.mem_of_getElem? (i := 16) (by decide +kernel), List.mem_of_getElem? (i := 221) (by decide +kernel), List.mem_of_getElem? (i := 222) (by decide +kernel)⟩
theorem lw_p9 : lw_okq (⟨"SurgeLine", "refuseLong", "()J"⟩, 7) := ⟨⟨by decide +kernel, by decide +kernel⟩, List.mem_of_getElem? (i := 8) (by decide +kernel), List.mem_of_getElem? (i := 233) (by decide +kernel), List.mem_of_getElem? (i := 234) (by decide +kernel)⟩
theorem lw_p10 : lw_okq (⟨"SurgeLine", "staysWithin", "(IIII)Z"⟩, 7) := ⟨⟨by decide +kernel, by decide +kernel⟩, List.mem_of_getElem? (i := 8) (by decide +kernel), List.mem_of_getElem? (i := 285) (by decide +kernel), List.mem_of_getElem? (i := 286) (by decide +kernel)⟩
theorem lw_p11 : lw_okq (⟨"SurgeLine$Page", "skipBlanks", "()V"⟩, 8) := ⟨⟨by decide +kernel, by decide +kernel⟩, List.mem_of_getElem? (i := 67) (by decide +kernel), List.mem_of_getElem? (i := 321) (by decide +kernel), List.mem_of_getElem? (i := 322) (by decide +kernel)⟩
theorem lw_p12 : lw_okq (⟨"SurgeLine$Page", "byteHere", "()I"⟩, 8) := ⟨⟨by decide +kernel, by decide +kernel⟩, List.mem_of_getElem? (i := 67) (by decide +kernel), List.mem_of_getElem? (i := 325) (by decide +kernel), List.mem_of_getElem? (i := 326) (by decide +kernel)⟩
theorem lw_p13 : lw_okq (⟨"SurgeLine$Page", "takeNumbers", "()Z"⟩, 8) := ⟨⟨by decide +kernel, by decide +kernel⟩, List.mem_of_getElem? (i := 67) (by decide +kernel), List.mem_of_getElem? (i := 332) (by decide +kernel), List.mem_of_getElem? (i := 333) (by decide +kernel)⟩
theorem lw_p14 : lw_okq (⟨"SurgeLine$Page", "takeNumber", "()Z"⟩, 8) := ⟨⟨by decide +kernel, by decide +kernel⟩, List.mem_of_getElem? (i := 67) (by decide +kernel), List.mem_of_getElem? (i := 336) (by decide +kernel), List.mem_of_getElem? (i := 337) (by decide +kernel)⟩
theorem lw_p15 : lw_okq (⟨"SurgeLine", "obey", "(III)Z"⟩, 7) := ⟨⟨by decide +kernel, by decide +kernel⟩, List.mem_of_getElem? (i := 8) (by decide +kernel), List.mem_of_getElem? (i := 342) (by decide +kernel), List.mem_of_getElem? (i := 343) (by decide +kernel)⟩
def lw_privs_1 : List (MethodName × Nat) := [(⟨"SurgeLine", "change", "(II)I"⟩, 7), (⟨"SurgeLine", "refuse", "(I)I"⟩, 7), (⟨"SurgeLine", "keep", "(LSurgeLine$Line;)V"⟩, 7), (⟨"SurgeLine", "hasTimeFor", "(I)Z"⟩, 7), (⟨"SurgeLine$Line", "shift", "()V"⟩, 8), (⟨"SurgeLine$Line", "turnLeft", "()V"⟩, 8), (⟨"SurgeLine$Line", "turnRight", "()V"⟩, 8), (⟨"SurgeLine$Line", "fillTank", "(D)V"⟩, 8), (⟨"SurgeLine$Line", "widenEnvelopes", "()V"⟩, 8), (⟨"SurgeLine", "refuseLong", "()J"⟩, 7), (⟨"SurgeLine", "staysWithin", "(IIII)Z"⟩, 7), (⟨"SurgeLine$Page", "skipBlanks", "()V"⟩, 8), (⟨"SurgeLine$Page", "byteHere", "()I"⟩, 8), (⟨"SurgeLine$Page", "takeNumbers", "()Z"⟩, 8), (⟨"SurgeLine$Page", "takeNumber", "()Z"⟩, 8), (⟨"SurgeLine", "obey", "(III)Z"⟩, 7)]
theorem lw_r1 : ∀ q ∈ lw_privs_1, lw_okq q := List.forall_mem_cons.mpr ⟨lw_p0, List.forall_mem_cons.mpr ⟨lw_p1, List.forall_mem_cons.mpr ⟨lw_p2, List.forall_mem_cons.mpr ⟨lw_p3, List.forall_mem_cons.mpr ⟨lw_p4, List.forall_mem_cons.mpr ⟨lw_p5, List.forall_mem_cons.mpr ⟨lw_p6, List.forall_mem_cons.mpr ⟨lw_p7, List.forall_mem_cons.mpr ⟨lw_p8, List.forall_mem_cons.mpr ⟨lw_p9, List.forall_mem_cons.mpr ⟨lw_p10, List.forall_mem_cons.mpr ⟨lw_p11, List.forall_mem_cons.mpr ⟨lw_p12, List.forall_mem_cons.mpr ⟨lw_p13, List.forall_mem_cons.mpr ⟨lw_p14, List.forall_mem_cons.mpr ⟨lw_p15, fun _ h => absurd h List.not_mem_nil⟩⟩⟩⟩⟩⟩⟩⟩⟩⟩⟩⟩⟩⟩⟩⟩
theorem lw_p16 : lw_okq (⟨"SurgeLineModel", "laysSteady", "()V"⟩, 16) := ⟨⟨by decide +kernel, by decide +kernel⟩, List.mem_of_getElem? (i := 366) (by decide +kernel), List.mem_of_getElem? (i := 372) (by decide +kernel), List.mem_of_getElem? (i := 373) (by decide +kernel)⟩
theorem lw_p17 : lw_okq (⟨"SurgeLineModel", "counts", "(I)I"⟩, 16) := ⟨⟨by decide +kernel, by decide +kernel⟩, List.mem_of_getElem? (i := 366) (by decide +kernel), List.mem_of_getElem? (i := 430) (by decide +kernel), List.mem_of_getElem? (i := 431) (by decide +kernel)⟩
theorem lw_p18 : lw_okq (⟨"SurgeLineModel", "becomesPast", "(I)V"⟩, 16) := ⟨⟨by decide +kernel, by decide +kernel⟩, List.mem_of_getElem? (i := 366) (by decide +kernel), List.mem_of_getElem? (i := 434) (by decide +kernel), List.mem_of_getElem? (i := 435) (by decide +kernel)⟩
theorem lw_p19 : lw_okq (⟨"SurgeLineModel", "mayPipe", "(I)Z"⟩, 16) := ⟨⟨by decide +kernel, by decide +kernel⟩, List.mem_of_getElem? (i := 366) (by decide +kernel), List.mem_of_getElem? (i := 442) (by decide +kernel), List.mem_of_getElem? (i := 443) (by decide +kernel)⟩
theorem lw_p20 : lw_okq (⟨"SurgeLineModel", "leaves", "()V"⟩, 16) := ⟨⟨by decide +kernel, by decide +kernel⟩, List.mem_of_getElem? (i := 366) (by decide +kernel), List.mem_of_getElem? (i := 449) (by decide +kernel), List.mem_of_getElem? (i := 450) (by decide +kernel)⟩
theorem lw_p21 : lw_okq (⟨"SurgeLineModel", "becomes", "(II)I"⟩, 16) := ⟨⟨by decide +kernel, by decide +kernel⟩, List.mem_of_getElem? (i := 366) (by decide +kernel), List.mem_of_getElem? (i := 453) (by decide +kernel), List.mem_of_getElem? (i := 454) (by decide +kernel)⟩
theorem lw_p22 : lw_okq (⟨"SurgeLineModel", "maySet", "(II)Z"⟩, 16) := ⟨⟨by decide +kernel, by decide +kernel⟩, List.mem_of_getElem? (i := 366) (by decide +kernel), List.mem_of_getElem? (i := 461) (by decide +kernel), List.mem_of_getElem? (i := 462) (by decide +kernel)⟩
theorem lw_p23 : lw_okq (⟨"SurgeLineModel", "mayEnd", "(II)Z"⟩, 16) := ⟨⟨by decide +kernel, by decide +kernel⟩, List.mem_of_getElem? (i := 366) (by decide +kernel), List.mem_of_getElem? (i := 469) (by decide +kernel), List.mem_of_getElem? (i := 470) (by decide +kernel)⟩
theorem lw_p24 : lw_okq (⟨"SurgeLineModel", "isLaw", "(II)Z"⟩, 16) := ⟨⟨by decide +kernel, by decide +kernel⟩, List.mem_of_getElem? (i := 366) (by decide +kernel), List.mem_of_getElem? (i := 477) (by decide +kernel), List.mem_of_getElem? (i := 478) (by decide +kernel)⟩
theorem lw_p25 : lw_okq (⟨"SurgeLineModel", "becomesLaw", "(II)I"⟩, 16) := ⟨⟨by decide +kernel, by decide +kernel⟩, List.mem_of_getElem? (i := 366) (by decide +kernel), List.mem_of_getElem? (i := 481) (by decide +kernel), List.mem_of_getElem? (i := 482) (by decide +kernel)⟩
theorem lw_p26 : lw_okq (⟨"SurgeLineModel", "goesOnFor", "(I)I"⟩, 16) := ⟨⟨by decide +kernel, by decide +kernel⟩, List.mem_of_getElem? (i := 366) (by decide +kernel), List.mem_of_getElem? (i := 493) (by decide +kernel), List.mem_of_getElem? (i := 494) (by decide +kernel)⟩
theorem lw_p27 : lw_okq (⟨"SurgeLineModel", "goesOn", "()V"⟩, 16) := ⟨⟨by decide +kernel, by decide +kernel⟩, List.mem_of_getElem? (i := 366) (by decide +kernel), List.mem_of_getElem? (i := 497) (by decide +kernel), List.mem_of_getElem? (i := 498) (by decide +kernel)⟩
theorem lw_p28 : lw_okq (⟨"SurgeLineModel", "laysEnds", "()V"⟩, 16) := ⟨⟨by decide +kernel, by decide +kernel⟩, List.mem_of_getElem? (i := 366) (by decide +kernel), List.mem_of_getElem? (i := 501) (by decide +kernel), List.mem_of_getElem? (i := 502) (by decide +kernel)⟩
theorem lw_p29 : lw_okq (⟨"SurgeLineModel", "let", "(III)D"⟩, 16) := ⟨⟨by decide +kernel, by decide +kernel⟩, List.mem_of_getElem? (i := 366) (by decide +kernel), List.mem_of_getElem? (i := 505) (by decide +kernel), List.mem_of_getElem? (i := 506) (by decide +kernel)⟩
theorem lw_p30 : lw_okq (⟨"SurgeLineModel", "nodeIs", "(II)D"⟩, 16) := ⟨⟨by decide +kernel, by decide +kernel⟩, List.mem_of_getElem? (i := 366) (by decide +kernel), List.mem_of_getElem? (i := 515) (by decide +kernel), List.mem_of_getElem? (i := 516) (by decide +kernel)⟩
theorem lw_p31 : lw_okq (⟨"SurgeLineModel", "countsLong", "()J"⟩, 16) := ⟨⟨by decide +kernel, by decide +kernel⟩, List.mem_of_getElem? (i := 366) (by decide +kernel), List.mem_of_getElem? (i := 523) (by decide +kernel), List.mem_of_getElem? (i := 524) (by decide +kernel)⟩
def lw_privs_2 : List (MethodName × Nat) := [(⟨"SurgeLineModel", "laysSteady", "()V"⟩, 16), (⟨"SurgeLineModel", "counts", "(I)I"⟩, 16), (⟨"SurgeLineModel", "becomesPast", "(I)V"⟩, 16), (⟨"SurgeLineModel", "mayPipe", "(I)Z"⟩, 16), (⟨"SurgeLineModel", "leaves", "()V"⟩, 16), (⟨"SurgeLineModel", "becomes", "(II)I"⟩, 16), (⟨"SurgeLineModel", "maySet", "(II)Z"⟩, 16), (⟨"SurgeLineModel", "mayEnd", "(II)Z"⟩, 16), (⟨"SurgeLineModel", "isLaw", "(II)Z"⟩, 16), (⟨"SurgeLineModel", "becomesLaw", "(II)I"⟩, 16), (⟨"SurgeLineModel", "goesOnFor", "(I)I"⟩, 16), (⟨"SurgeLineModel", "goesOn", "()V"⟩, 16), (⟨"SurgeLineModel", "laysEnds", "()V"⟩, 16), (⟨"SurgeLineModel", "let", "(III)D"⟩, 16), (⟨"SurgeLineModel", "nodeIs", "(II)D"⟩, 16), (⟨"SurgeLineModel", "countsLong", "()J"⟩, 16)]
theorem lw_r2 : ∀ q ∈ lw_privs_2, lw_okq q := List.forall_mem_cons.mpr ⟨lw_p16, List.forall_mem_cons.mpr ⟨lw_p17, List.forall_mem_cons.mpr ⟨lw_p18, List.forall_mem_cons.mpr ⟨lw_p19, List.forall_mem_cons.mpr ⟨lw_p20, List.forall_mem_cons.mpr ⟨lw_p21, List.forall_mem_cons.mpr ⟨lw_p22, List.forall_mem_cons.mpr ⟨lw_p23, List.forall_mem_cons.mpr ⟨lw_p24, List.forall_mem_cons.mpr ⟨lw_p25, List.forall_mem_cons.mpr ⟨lw_p26, List.forall_mem_cons.mpr ⟨lw_p27, List.forall_mem_cons.mpr ⟨lw_p28, List.forall_mem_cons.mpr ⟨lw_p29, List.forall_mem_cons.mpr ⟨lw_p30, List.forall_mem_cons.mpr ⟨lw_p31, fun _ h => absurd h List.not_mem_nil⟩⟩⟩⟩⟩⟩⟩⟩⟩⟩⟩⟩⟩⟩⟩⟩
theorem lw_p32 : lw_okq (⟨"SurgeLineModel", "allIs", "(I)D"⟩, 16) := ⟨⟨by decide +kernel, by decide +kernel⟩, List.mem_of_getElem? (i := 366) (by decide +kernel), List.mem_of_getElem? (i := 532) (by decide +kernel), List.mem_of_getElem? (i := 533) (by decide +kernel)⟩
theorem lw_p33 : lw_okq (⟨"SurgeLineModel", "kept", "()D"⟩, 16) := ⟨⟨by decide +kernel, by decide +kernel⟩, List.mem_of_getElem? (i := 366) (by decide +kernel), List.mem_of_getElem? (i := 536) (by decide +kernel), List.mem_of_getElem? (i := 537) (by decide +kernel)⟩
theorem lw_p34 : lw_okq (⟨"SurgeLineModel", "farthest", "(IZ)D"⟩, 16) := ⟨⟨by decide +kernel, by decide +kernel⟩, List.mem_of_getElem? (i := 366) (by decide +kernel), List.mem_of_getElem? (i := 540) (by decide +kernel), List.mem_of_getElem? (i := 541) (by decide +kernel)⟩
theorem lw_p35 : lw_okq (⟨"SurgeLineModel", "tried", "(III)D"⟩, 16) := ⟨⟨by decide +kernel, by decide +kernel⟩, List.mem_of_getElem? (i := 366) (by decide +kernel), List.mem_of_getElem? (i := 566) (by decide +kernel), List.mem_of_getElem? (i := 567) (by decide +kernel)⟩
theorem lw_p36 : lw_okq (⟨"SurgeLineModel", "laysAside", "()V"⟩, 16) := ⟨⟨by decide +kernel, by decide +kernel⟩, List.mem_of_getElem? (i := 366) (by decide +kernel), List.mem_of_getElem? (i := 570) (by decide +kernel), List.mem_of_getElem? (i := 571) (by decide +kernel)⟩
theorem lw_p37 : lw_okq (⟨"SurgeLineModel", "becomesAside", "()V"⟩, 16) := ⟨⟨by decide +kernel, by decide +kernel⟩, List.mem_of_getElem? (i := 366) (by decide +kernel), List.mem_of_getElem? (i := 574) (by decide +kernel), List.mem_of_getElem? (i := 575) (by decide +kernel)⟩
theorem lw_p38 : lw_okq (⟨"SurgeLineModel", "soonestOf", "(III)I"⟩, 16) := ⟨⟨by decide +kernel, by decide +kernel⟩, List.mem_of_getElem? (i := 366) (by decide +kernel), List.mem_of_getElem? (i := 582) (by decide +kernel), List.mem_of_getElem? (i := 583) (by decide +kernel)⟩
theorem lw_p39 : lw_okq (⟨"SurgeLineModel", "isRead", "()Z"⟩, 16) := ⟨⟨by decide +kernel, by decide +kernel⟩, List.mem_of_getElem? (i := 366) (by decide +kernel), List.mem_of_getElem? (i := 602) (by decide +kernel), List.mem_of_getElem? (i := 603) (by decide +kernel)⟩
theorem lw_p40 : lw_okq (⟨"SurgeLineModel", "blanks", "()V"⟩, 16) := ⟨⟨by decide +kernel, by decide +kernel⟩, List.mem_of_getElem? (i := 366) (by decide +kernel), List.mem_of_getElem? (i := 606) (by decide +kernel), List.mem_of_getElem? (i := 607) (by decide +kernel)⟩
theorem lw_p41 : lw_okq (⟨"SurgeLineModel", "here", "()I"⟩, 16) := ⟨⟨by decide +kernel, by decide +kernel⟩, List.mem_of_getElem? (i := 366) (by decide +kernel), List.mem_of_getElem? (i := 610) (by decide +kernel), List.mem_of_getElem? (i := 611) (by decide +kernel)⟩
theorem lw_p42 : lw_okq (⟨"SurgeLineModel", "passesOrder", "()Z"⟩, 16) := ⟨⟨by decide +kernel, by decide +kernel⟩, List.mem_of_getElem? (i := 366) (by decide +kernel), List.mem_of_getElem? (i := 614) (by decide +kernel), List.mem_of_getElem? (i := 615) (by decide +kernel)⟩
theorem lw_p43 : lw_okq (⟨"SurgeLineModel", "passesNumber", "(IZ)Z"⟩, 16) := ⟨⟨by decide +kernel, by decide +kernel⟩, List.mem_of_getElem? (i := 366) (by decide +kernel), List.mem_of_getElem? (i := 621) (by decide +kernel), List.mem_of_getElem? (i := 622) (by decide +kernel)⟩
theorem lw_p44 : lw_okq (⟨"SurgeLineModel", "isDone", "(I)Z"⟩, 16) := ⟨⟨by decide +kernel, by decide +kernel⟩, List.mem_of_getElem? (i := 366) (by decide +kernel), List.mem_of_getElem? (i := 625) (by decide +kernel), List.mem_of_getElem? (i := 626) (by decide +kernel)⟩
theorem lw_p45 : lw_okq (⟨"SurgeLineModel", "swapsAside", "()V"⟩, 16) := ⟨⟨by decide +kernel, by decide +kernel⟩, List.mem_of_getElem? (i := 366) (by decide +kernel), List.mem_of_getElem? (i := 629) (by decide +kernel), List.mem_of_getElem? (i := 630) (by decide +kernel)⟩
theorem lw_p46 : lw_okq (⟨"SurgeLineModel", "toldIs", "(I)I"⟩, 16) := ⟨⟨by decide +kernel, by decide +kernel⟩, List.mem_of_getElem? (i := 366) (by decide +kernel), List.mem_of_getElem? (i := 637) (by decide +kernel), List.mem_of_getElem? (i := 638) (by decide +kernel)⟩
theorem lw_p47 : lw_okq (⟨"SurgeLineModel", "mix", "(J)V"⟩, 16) := ⟨⟨by decide +kernel, by decide +kernel⟩, List.mem_of_getElem? (i := 366) (by decide +kernel), List.mem_of_getElem? (i := 646) (by decide +kernel), List.mem_of_getElem? (i := 647) (by decide +kernel)⟩
def lw_privs_3 : List (MethodName × Nat) := [(⟨"SurgeLineModel", "allIs", "(I)D"⟩, 16), (⟨"SurgeLineModel", "kept", "()D"⟩, 16), (⟨"SurgeLineModel", "farthest", "(IZ)D"⟩, 16), (⟨"SurgeLineModel", "tried", "(III)D"⟩, 16), (⟨"SurgeLineModel", "laysAside", "()V"⟩, 16), (⟨"SurgeLineModel", "becomesAside", "()V"⟩, 16), (⟨"SurgeLineModel", "soonestOf", "(III)I"⟩, 16), (⟨"SurgeLineModel", "isRead", "()Z"⟩, 16), (⟨"SurgeLineModel", "blanks", "()V"⟩, 16), (⟨"SurgeLineModel", "here", "()I"⟩, 16), (⟨"SurgeLineModel", "passesOrder", "()Z"⟩, 16), (⟨"SurgeLineModel", "passesNumber", "(IZ)Z"⟩, 16), (⟨"SurgeLineModel", "isDone", "(I)Z"⟩, 16), (⟨"SurgeLineModel", "swapsAside", "()V"⟩, 16), (⟨"SurgeLineModel", "toldIs", "(I)I"⟩, 16), (⟨"SurgeLineModel", "mix", "(J)V"⟩, 16)]
theorem lw_r3 : ∀ q ∈ lw_privs_3, lw_okq q := List.forall_mem_cons.mpr ⟨lw_p32, List.forall_mem_cons.mpr ⟨lw_p33, List.forall_mem_cons.mpr ⟨lw_p34, List.forall_mem_cons.mpr ⟨lw_p35, List.forall_mem_cons.mpr ⟨lw_p36, List.forall_mem_cons.mpr ⟨lw_p37, List.forall_mem_cons.mpr ⟨lw_p38, List.forall_mem_cons.mpr ⟨lw_p39, List.forall_mem_cons.mpr ⟨lw_p40, List.forall_mem_cons.mpr ⟨lw_p41, List.forall_mem_cons.mpr ⟨lw_p42, List.forall_mem_cons.mpr ⟨lw_p43, List.forall_mem_cons.mpr ⟨lw_p44, List.forall_mem_cons.mpr ⟨lw_p45, List.forall_mem_cons.mpr ⟨lw_p46, List.forall_mem_cons.mpr ⟨lw_p47, fun _ h => absurd h List.not_mem_nil⟩⟩⟩⟩⟩⟩⟩⟩⟩⟩⟩⟩⟩⟩⟩⟩
def lw_privs : List (MethodName × Nat) := lw_privs_1 ++ (lw_privs_2 ++ (lw_privs_3))
def lw_tbl : List Cond := k2_sels lw_privs ++ tables_1
theorem lw_privs_ok : ∀ q ∈ lw_privs, lw_okq q := by
  show ∀ q ∈ lw_privs_1 ++ (lw_privs_2 ++ (lw_privs_3)), lw_okq q
  exact List.forall_mem_append.mpr ⟨lw_r1, List.forall_mem_append.mpr ⟨lw_r2, lw_r3⟩⟩
/-- the streams that the claim lets the run draw from -/
abbrev lw_cs : List Choice := [Jvm.Choice.named "NaN.bits"]
theorem lw_bits : nanBits ∈ lw_cs := by first | decide | exact List.mem_cons_self | simp [lw_cs, nanBits]
end
section
def RX0 : String := "SurgeLine$Line"
def TX0 : u_T := fun k => match k with
  | 0 => ("SurgeLine$Line", "values", "[I", true)
  | 1 => ("SurgeLine$Line", "forward", "[D", true)
  | 2 => ("SurgeLine$Line", "backward", "[D", true)
  | 3 => ("SurgeLine$Line", "greatest", "[D", true)
  | 4 => ("SurgeLine$Line", "least", "[D", true)
  | 5 => ("SurgeLine$Line", "highest", "D", false)
  | 6 => ("SurgeLine$Line", "lowest", "D", false)
  | _ => ("SurgeLine$Line", "level", "D", false)
def tyX0 : Nat → FieldType := fun k => match k with
  | 0 => .array .int
  | 1 => .array .double
  | 2 => .array .double
  | 3 => .array .double
  | 4 => .array .double
  | 5 => .double
  | 6 => .double
  | _ => .double
abbrev wsX00 : List Cond := u_ws RX0 TX0 8
theorem nmX0 : ∀ a, a < 8 → ∀ b, b < 8 → a ≠ b → (TX0 a).2.1 ≠ (TX0 b).2.1 := by decide +kernel
theorem tyX0_ok : ∀ k, k < 8 → parseFieldDescriptor (TX0 k).2.2.1 = some (tyX0 k) := by decide +kernel
abbrev cX0_init : ByteArray := prog_2_method_1_code
def yX0_init : MethodName := ⟨RX0, "<init>", "()V"⟩
abbrev cX0_fits : ByteArray := prog_2_method_2_code
def yX0_fits : MethodName := ⟨RX0, "fits", "(II)Z"⟩
abbrev cX0_isLaw : ByteArray := prog_2_method_3_code
def yX0_isLaw : MethodName := ⟨RX0, "isLaw", "(II)Z"⟩
abbrev cX0_letBy : ByteArray := prog_2_method_4_code
def yX0_letBy : MethodName := ⟨RX0, "letBy", "(IIII)D"⟩
abbrev cX0_hasNode : ByteArray := prog_2_method_5_code
def yX0_hasNode : MethodName := ⟨RX0, "hasNode", "(I)Z"⟩
abbrev cX0_pressure : ByteArray := prog_2_method_6_code
def yX0_pressure : MethodName := ⟨RX0, "pressure", "(I)D"⟩
abbrev cX0_sumOfSquares : ByteArray := prog_2_method_7_code
def yX0_sumOfSquares : MethodName := ⟨RX0, "sumOfSquares", "()D"⟩
abbrev cX0_put : ByteArray := prog_2_method_8_code
def yX0_put : MethodName := ⟨RX0, "put", "(II)V"⟩
abbrev cX0_govern : ByteArray := prog_2_method_9_code
def yX0_govern : MethodName := ⟨RX0, "govern", "(II)V"⟩
abbrev cX0_tryOut : ByteArray := prog_2_method_10_code
def yX0_tryOut : MethodName := ⟨RX0, "tryOut", "(LSurgeLine$Line;II)V"⟩
abbrev cX0_copyFrom : ByteArray := prog_2_method_11_code
def yX0_copyFrom : MethodName := ⟨RX0, "copyFrom", "(LSurgeLine$Line;)V"⟩
abbrev cX0_settle : ByteArray := prog_2_method_12_code
def yX0_settle : MethodName := ⟨RX0, "settle", "()V"⟩
abbrev cX0_advance : ByteArray := prog_2_method_13_code
def yX0_advance : MethodName := ⟨RX0, "advance", "(I)V"⟩
abbrev cX0_shift : ByteArray := prog_2_method_14_code
def yX0_shift : MethodName := ⟨RX0, "shift", "()V"⟩
abbrev cX0_turnLeft : ByteArray := prog_2_method_15_code
def yX0_turnLeft : MethodName := ⟨RX0, "turnLeft", "()V"⟩
abbrev cX0_turnRight : ByteArray := prog_2_method_16_code
def yX0_turnRight : MethodName := ⟨RX0, "turnRight", "()V"⟩
abbrev cX0_fillTank : ByteArray := prog_2_method_17_code
def yX0_fillTank : MethodName := ⟨RX0, "fillTank", "(D)V"⟩
abbrev cX0_widenEnvelopes : ByteArray := prog_2_method_18_code
def yX0_widenEnvelopes : MethodName := ⟨RX0, "widenEnvelopes", "()V"⟩
def RX1 : String := "SurgeLine$Page"
def TX1 : u_T := fun k => match k with
  | 0 => ("SurgeLine$Page", "text", "[B", true)
  | 1 => ("SurgeLine$Page", "length", "I", false)
  | 2 => ("SurgeLine$Page", "orders", "I", false)
  | 3 => ("SurgeLine$Page", "letter", "I", false)
  | 4 => ("SurgeLine$Page", "first", "I", false)
  | 5 => ("SurgeLine$Page", "second", "I", false)
  | 6 => ("SurgeLine$Page", "place", "I", false)
  | _ => ("SurgeLine$Page", "number", "I", false)
def tyX1 : Nat → FieldType := fun k => match k with
  | 0 => .array .byte
  | 1 => .int
  | 2 => .int
  | 3 => .int
  | 4 => .int
  | 5 => .int
  | 6 => .int
  | _ => .int
abbrev wsX10 : List Cond := u_ws RX1 TX1 8
theorem nmX1 : ∀ a, a < 8 → ∀ b, b < 8 → a ≠ b → (TX1 a).2.1 ≠ (TX1 b).2.1 := by decide +kernel
theorem tyX1_ok : ∀ k, k < 8 → parseFieldDescriptor (TX1 k).2.2.1 = some (tyX1 k) := by decide +kernel
abbrev cX1_init : ByteArray := prog_3_method_1_code
def yX1_init : MethodName := ⟨RX1, "<init>", "()V"⟩
abbrev cX1_valueNamed : ByteArray := prog_3_method_2_code
def yX1_valueNamed : MethodName := ⟨RX1, "valueNamed", "(I)I"⟩
abbrev cX1_append : ByteArray := prog_3_method_3_code
def yX1_append : MethodName := ⟨RX1, "append", "(I)Z"⟩
abbrev cX1_rewind : ByteArray := prog_3_method_4_code
def yX1_rewind : MethodName := ⟨RX1, "rewind", "()V"⟩
abbrev cX1_findFault : ByteArray := prog_3_method_5_code
def yX1_findFault : MethodName := ⟨RX1, "findFault", "()I"⟩
abbrev cX1_nextOrder : ByteArray := prog_3_method_6_code
def yX1_nextOrder : MethodName := ⟨RX1, "nextOrder", "()Z"⟩
abbrev cX1_takeNumbers : ByteArray := prog_3_method_7_code
def yX1_takeNumbers : MethodName := ⟨RX1, "takeNumbers", "()Z"⟩
abbrev cX1_takeNumber : ByteArray := prog_3_method_8_code
def yX1_takeNumber : MethodName := ⟨RX1, "takeNumber", "()Z"⟩
abbrev cX1_skipBlanks : ByteArray := prog_3_method_9_code
def yX1_skipBlanks : MethodName := ⟨RX1, "skipBlanks", "()V"⟩
abbrev cX1_byteHere : ByteArray := prog_3_method_10_code
def yX1_byteHere : MethodName := ⟨RX1, "byteHere", "()I"⟩
def RX2 : String := "SurgeLine"
def TX2 : u_T := fun k => match k with
  | 0 => ("SurgeLine", "now", "LSurgeLine$Line;", true)
  | 1 => ("SurgeLine", "spare", "LSurgeLine$Line;", true)
  | 2 => ("SurgeLine", "kept", "[LSurgeLine$Line;", true)
  | 3 => ("SurgeLine", "newest", "I", false)
  | 4 => ("SurgeLine", "states", "I", false)
  | 5 => ("SurgeLine", "refused", "[I", true)
  | _ => ("SurgeLine", "page", "LSurgeLine$Page;", true)
def tyX2 : Nat → FieldType := fun k => match k with
  | 0 => .object "SurgeLine$Line"
  | 1 => .object "SurgeLine$Line"
  | 2 => .array (.object "SurgeLine$Line")
  | 3 => .int
  | 4 => .int
  | 5 => .array .int
  | _ => .object "SurgeLine$Page"
abbrev wsX20 : List Cond := u_ws RX2 TX2 7
theorem nmX2 : ∀ a, a < 7 → ∀ b, b < 7 → a ≠ b → (TX2 a).2.1 ≠ (TX2 b).2.1 := by decide +kernel
theorem tyX2_ok : ∀ k, k < 7 → parseFieldDescriptor (TX2 k).2.2.1 = some (tyX2 k) := by decide +kernel
abbrev cX2_init : ByteArray := prog_1_method_1_code
def yX2_init : MethodName := ⟨RX2, "<init>", "()V"⟩
abbrev cX2_pipe : ByteArray := prog_1_method_2_code
def yX2_pipe : MethodName := ⟨RX2, "pipe", "(I)I"⟩
abbrev cX2_sets : ByteArray := prog_1_method_3_code
def yX2_sets : MethodName := ⟨RX2, "sets", "(II)I"⟩
abbrev cX2_ends : ByteArray := prog_1_method_4_code
def yX2_ends : MethodName := ⟨RX2, "ends", "(II)I"⟩
abbrev cX2_law : ByteArray := prog_1_method_5_code
def yX2_law : MethodName := ⟨RX2, "law", "(II)I"⟩
abbrev cX2_steady : ByteArray := prog_1_method_6_code
def yX2_steady : MethodName := ⟨RX2, "steady", "()I"⟩
abbrev cX2_steps : ByteArray := prog_1_method_7_code
def yX2_steps : MethodName := ⟨RX2, "steps", "(I)I"⟩
abbrev cX2_node : ByteArray := prog_1_method_8_code
def yX2_node : MethodName := ⟨RX2, "node", "(II)J"⟩
abbrev cX2_all : ByteArray := prog_1_method_9_code
def yX2_all : MethodName := ⟨RX2, "all", "(I)J"⟩
abbrev cX2_bits : ByteArray := prog_1_method_10_code
def yX2_bits : MethodName := ⟨RX2, "bits", "(I)J"⟩
abbrev cX2_lets : ByteArray := prog_1_method_11_code
def yX2_lets : MethodName := ⟨RX2, "lets", "(III)J"⟩
abbrev cX2_trial : ByteArray := prog_1_method_12_code
def yX2_trial : MethodName := ⟨RX2, "trial", "(III)J"⟩
abbrev cX2_soonest : ByteArray := prog_1_method_13_code
def yX2_soonest : MethodName := ⟨RX2, "soonest", "(III)I"⟩
abbrev cX2_best : ByteArray := prog_1_method_14_code
def yX2_best : MethodName := ⟨RX2, "best", "(III)I"⟩
abbrev cX2_type : ByteArray := prog_1_method_15_code
def yX2_type : MethodName := ⟨RX2, "type", "(I)I"⟩
abbrev cX2_clear : ByteArray := prog_1_method_16_code
def yX2_clear : MethodName := ⟨RX2, "clear", "()I"⟩
abbrev cX2_reads : ByteArray := prog_1_method_17_code
def yX2_reads : MethodName := ⟨RX2, "reads", "()I"⟩
abbrev cX2_back : ByteArray := prog_1_method_18_code
def yX2_back : MethodName := ⟨RX2, "back", "()I"⟩
abbrev cX2_told : ByteArray := prog_1_method_19_code
def yX2_told : MethodName := ⟨RX2, "told", "(I)I"⟩
abbrev cX2_digest : ByteArray := prog_1_method_20_code
def yX2_digest : MethodName := ⟨RX2, "digest", "()J"⟩
abbrev cX2_refuse : ByteArray := prog_1_method_21_code
def yX2_refuse : MethodName := ⟨RX2, "refuse", "(I)I"⟩
abbrev cX2_refuseLong : ByteArray := prog_1_method_22_code
def yX2_refuseLong : MethodName := ⟨RX2, "refuseLong", "()J"⟩
abbrev cX2_keep : ByteArray := prog_1_method_23_code
def yX2_keep : MethodName := ⟨RX2, "keep", "(LSurgeLine$Line;)V"⟩
abbrev cX2_change : ByteArray := prog_1_method_24_code
def yX2_change : MethodName := ⟨RX2, "change", "(II)I"⟩
abbrev cX2_isStepCount : ByteArray := prog_1_method_25_code
def yX2_isStepCount : MethodName := ⟨RX2, "isStepCount", "(I)Z"⟩
abbrev cX2_isTrialLength : ByteArray := prog_1_method_26_code
def yX2_isTrialLength : MethodName := ⟨RX2, "isTrialLength", "(I)Z"⟩
abbrev cX2_isBound : ByteArray := prog_1_method_27_code
def yX2_isBound : MethodName := ⟨RX2, "isBound", "(I)Z"⟩
abbrev cX2_hasTimeFor : ByteArray := prog_1_method_28_code
def yX2_hasTimeFor : MethodName := ⟨RX2, "hasTimeFor", "(I)Z"⟩
abbrev cX2_staysWithin : ByteArray := prog_1_method_29_code
def yX2_staysWithin : MethodName := ⟨RX2, "staysWithin", "(IIII)Z"⟩
abbrev cX2_obey : ByteArray := prog_1_method_30_code
def yX2_obey : MethodName := ⟨RX2, "obey", "(III)Z"⟩
abbrev cX2_thousandfold : ByteArray := prog_1_method_31_code
def yX2_thousandfold : MethodName := ⟨RX2, "thousandfold", "(D)J"⟩
abbrev cX2_bitsOf : ByteArray := prog_1_method_32_code
def yX2_bitsOf : MethodName := ⟨RX2, "bitsOf", "(D)J"⟩
def RX3 : String := "SurgeLineModel"
def TX3 : u_T := fun k => match k with
  | 0 => ("SurgeLineModel", "now", "[I", true)
  | 1 => ("SurgeLineModel", "waves", "[D", true)
  | 2 => ("SurgeLineModel", "ahead", "[D", true)
  | 3 => ("SurgeLineModel", "past", "[I", true)
  | 4 => ("SurgeLineModel", "pastWaves", "[D", true)
  | 5 => ("SurgeLineModel", "aside", "[I", true)
  | 6 => ("SurgeLineModel", "asideWaves", "[D", true)
  | 7 => ("SurgeLineModel", "states", "I", false)
  | 8 => ("SurgeLineModel", "refused", "[I", true)
  | 9 => ("SurgeLineModel", "text", "[I", true)
  | 10 => ("SurgeLineModel", "length", "I", false)
  | 11 => ("SurgeLineModel", "place", "I", false)
  | 12 => ("SurgeLineModel", "orders", "I", false)
  | 13 => ("SurgeLineModel", "letters", "[I", true)
  | 14 => ("SurgeLineModel", "numbers", "[I", true)
  | _ => ("SurgeLineModel", "hash", "J", false)
def tyX3 : Nat → FieldType := fun k => match k with
  | 0 => .array .int
  | 1 => .array .double
  | 2 => .array .double
  | 3 => .array .int
  | 4 => .array .double
  | 5 => .array .int
  | 6 => .array .double
  | 7 => .int
  | 8 => .array .int
  | 9 => .array .int
  | 10 => .int
  | 11 => .int
  | 12 => .int
  | 13 => .array .int
  | 14 => .array .int
  | _ => .long
abbrev wsX30 : List Cond := u_ws RX3 TX3 16
theorem nmX3 : ∀ a, a < 16 → ∀ b, b < 16 → a ≠ b → (TX3 a).2.1 ≠ (TX3 b).2.1 := by decide +kernel
theorem tyX3_ok : ∀ k, k < 16 → parseFieldDescriptor (TX3 k).2.2.1 = some (tyX3 k) := by decide +kernel
abbrev cX3_init : ByteArray := prog_5_method_1_code
def yX3_init : MethodName := ⟨RX3, "<init>", "()V"⟩
abbrev cX3_within : ByteArray := prog_5_method_3_code
def yX3_within : MethodName := ⟨RX3, "within", "(III)Z"⟩
abbrev cX3_counts : ByteArray := prog_5_method_4_code
def yX3_counts : MethodName := ⟨RX3, "counts", "(I)I"⟩
abbrev cX3_countsLong : ByteArray := prog_5_method_5_code
def yX3_countsLong : MethodName := ⟨RX3, "countsLong", "()J"⟩
abbrev cX3_leaves : ByteArray := prog_5_method_6_code
def yX3_leaves : MethodName := ⟨RX3, "leaves", "()V"⟩
abbrev cX3_becomesPast : ByteArray := prog_5_method_7_code
def yX3_becomesPast : MethodName := ⟨RX3, "becomesPast", "(I)V"⟩
abbrev cX3_back : ByteArray := prog_5_method_8_code
def yX3_back : MethodName := ⟨RX3, "back", "()I"⟩
abbrev cX3_laysAside : ByteArray := prog_5_method_9_code
def yX3_laysAside : MethodName := ⟨RX3, "laysAside", "()V"⟩
abbrev cX3_becomesAside : ByteArray := prog_5_method_10_code
def yX3_becomesAside : MethodName := ⟨RX3, "becomesAside", "()V"⟩
abbrev cX3_laysSteady : ByteArray := prog_5_method_11_code
def yX3_laysSteady : MethodName := ⟨RX3, "laysSteady", "()V"⟩
abbrev cX3_let : ByteArray := prog_5_method_12_code
def yX3_let : MethodName := ⟨RX3, "let", "(III)D"⟩
abbrev cX3_laysEnds : ByteArray := prog_5_method_13_code
def yX3_laysEnds : MethodName := ⟨RX3, "laysEnds", "()V"⟩
abbrev cX3_goesOn : ByteArray := prog_5_method_14_code
def yX3_goesOn : MethodName := ⟨RX3, "goesOn", "()V"⟩
abbrev cX3_mayPipe : ByteArray := prog_5_method_15_code
def yX3_mayPipe : MethodName := ⟨RX3, "mayPipe", "(I)Z"⟩
abbrev cX3_maySet : ByteArray := prog_5_method_16_code
def yX3_maySet : MethodName := ⟨RX3, "maySet", "(II)Z"⟩
abbrev cX3_mayEnd : ByteArray := prog_5_method_17_code
def yX3_mayEnd : MethodName := ⟨RX3, "mayEnd", "(II)Z"⟩
abbrev cX3_isLaw : ByteArray := prog_5_method_18_code
def yX3_isLaw : MethodName := ⟨RX3, "isLaw", "(II)Z"⟩
abbrev cX3_becomes : ByteArray := prog_5_method_19_code
def yX3_becomes : MethodName := ⟨RX3, "becomes", "(II)I"⟩
abbrev cX3_becomesLaw : ByteArray := prog_5_method_20_code
def yX3_becomesLaw : MethodName := ⟨RX3, "becomesLaw", "(II)I"⟩
abbrev cX3_goesOnFor : ByteArray := prog_5_method_21_code
def yX3_goesOnFor : MethodName := ⟨RX3, "goesOnFor", "(I)I"⟩
abbrev cX3_pipe : ByteArray := prog_5_method_22_code
def yX3_pipe : MethodName := ⟨RX3, "pipe", "(I)I"⟩
abbrev cX3_sets : ByteArray := prog_5_method_23_code
def yX3_sets : MethodName := ⟨RX3, "sets", "(II)I"⟩
abbrev cX3_ends : ByteArray := prog_5_method_24_code
def yX3_ends : MethodName := ⟨RX3, "ends", "(II)I"⟩
abbrev cX3_law : ByteArray := prog_5_method_25_code
def yX3_law : MethodName := ⟨RX3, "law", "(II)I"⟩
abbrev cX3_steady : ByteArray := prog_5_method_26_code
def yX3_steady : MethodName := ⟨RX3, "steady", "()I"⟩
abbrev cX3_steps : ByteArray := prog_5_method_27_code
def yX3_steps : MethodName := ⟨RX3, "steps", "(I)I"⟩
abbrev cX3_whole : ByteArray := prog_5_method_28_code
def yX3_whole : MethodName := ⟨RX3, "whole", "(D)J"⟩
abbrev cX3_nodeIs : ByteArray := prog_5_method_29_code
def yX3_nodeIs : MethodName := ⟨RX3, "nodeIs", "(II)D"⟩
abbrev cX3_node : ByteArray := prog_5_method_30_code
def yX3_node : MethodName := ⟨RX3, "node", "(II)J"⟩
abbrev cX3_kept : ByteArray := prog_5_method_31_code
def yX3_kept : MethodName := ⟨RX3, "kept", "()D"⟩
abbrev cX3_farthest : ByteArray := prog_5_method_32_code
def yX3_farthest : MethodName := ⟨RX3, "farthest", "(IZ)D"⟩
abbrev cX3_allIs : ByteArray := prog_5_method_33_code
def yX3_allIs : MethodName := ⟨RX3, "allIs", "(I)D"⟩
abbrev cX3_all : ByteArray := prog_5_method_34_code
def yX3_all : MethodName := ⟨RX3, "all", "(I)J"⟩
abbrev cX3_bits : ByteArray := prog_5_method_35_code
def yX3_bits : MethodName := ⟨RX3, "bits", "(I)J"⟩
abbrev cX3_lets : ByteArray := prog_5_method_36_code
def yX3_lets : MethodName := ⟨RX3, "lets", "(III)J"⟩
abbrev cX3_tried : ByteArray := prog_5_method_37_code
def yX3_tried : MethodName := ⟨RX3, "tried", "(III)D"⟩
abbrev cX3_trial : ByteArray := prog_5_method_38_code
def yX3_trial : MethodName := ⟨RX3, "trial", "(III)J"⟩
abbrev cX3_soonestOf : ByteArray := prog_5_method_39_code
def yX3_soonestOf : MethodName := ⟨RX3, "soonestOf", "(III)I"⟩
abbrev cX3_soonest : ByteArray := prog_5_method_40_code
def yX3_soonest : MethodName := ⟨RX3, "soonest", "(III)I"⟩
abbrev cX3_best : ByteArray := prog_5_method_41_code
def yX3_best : MethodName := ⟨RX3, "best", "(III)I"⟩
abbrev cX3_type : ByteArray := prog_5_method_42_code
def yX3_type : MethodName := ⟨RX3, "type", "(I)I"⟩
abbrev cX3_clear : ByteArray := prog_5_method_43_code
def yX3_clear : MethodName := ⟨RX3, "clear", "()I"⟩
abbrev cX3_here : ByteArray := prog_5_method_44_code
def yX3_here : MethodName := ⟨RX3, "here", "()I"⟩
abbrev cX3_blanks : ByteArray := prog_5_method_45_code
def yX3_blanks : MethodName := ⟨RX3, "blanks", "()V"⟩
abbrev cX3_passesNumber : ByteArray := prog_5_method_46_code
def yX3_passesNumber : MethodName := ⟨RX3, "passesNumber", "(IZ)Z"⟩
abbrev cX3_isOrder : ByteArray := prog_5_method_47_code
def yX3_isOrder : MethodName := ⟨RX3, "isOrder", "(I)Z"⟩
abbrev cX3_passesOrder : ByteArray := prog_5_method_48_code
def yX3_passesOrder : MethodName := ⟨RX3, "passesOrder", "()Z"⟩
abbrev cX3_isRead : ByteArray := prog_5_method_49_code
def yX3_isRead : MethodName := ⟨RX3, "isRead", "()Z"⟩
abbrev cX3_isDone : ByteArray := prog_5_method_50_code
def yX3_isDone : MethodName := ⟨RX3, "isDone", "(I)Z"⟩
abbrev cX3_reads : ByteArray := prog_5_method_51_code
def yX3_reads : MethodName := ⟨RX3, "reads", "()I"⟩
abbrev cX3_swapsAside : ByteArray := prog_5_method_52_code
def yX3_swapsAside : MethodName := ⟨RX3, "swapsAside", "()V"⟩
abbrev cX3_toldIs : ByteArray := prog_5_method_53_code
def yX3_toldIs : MethodName := ⟨RX3, "toldIs", "(I)I"⟩
abbrev cX3_told : ByteArray := prog_5_method_54_code
def yX3_told : MethodName := ⟨RX3, "told", "(I)I"⟩
abbrev cX3_mix : ByteArray := prog_5_method_55_code
def yX3_mix : MethodName := ⟨RX3, "mix", "(J)V"⟩
abbrev cX3_digest : ByteArray := prog_5_method_56_code
def yX3_digest : MethodName := ⟨RX3, "digest", "()J"⟩
def RJxe99ae : String := "java/lang/Double"
def TJxe99ae : u_T := fun k => match k with
  | _ => ("", "", "", false)
def tyJxe99ae : Nat → FieldType := fun k => match k with
  | _ => .int
abbrev cJxe99ae_isNaN_b9ae7 : ByteArray := prog_6_method_6_code
def yJxe99ae_isNaN_b9ae7 : MethodName := ⟨RJxe99ae, "isNaN", "(D)Z"⟩
abbrev cJxe99ae_doubleToLongBits_ccdee : ByteArray := prog_6_method_23_code
def yJxe99ae_doubleToLongBits_ccdee : MethodName := ⟨RJxe99ae, "doubleToLongBits", "(D)J"⟩
def RJ10 : String := "java/lang/System"
def TJ10 : u_T := fun k => match k with
  | _ => ("", "", "", false)
def tyJ10 : Nat → FieldType := fun k => match k with
  | _ => .int
def RL : String := "SurgeLineLaw"
abbrev cL_law : ByteArray := code
def yL_law : MethodName := ⟨RL, "law", "([I)Z"⟩
abbrev vwCl : List vw_C := [(RX0, TX0, 8), (RX1, TX1, 8), (RX2, TX2, 7), (RX3, TX3, 16)]
abbrev y_raw : MethodName := ⟨"java/lang/Double", "doubleToRawLongBits", "(D)J"⟩
/-- the words of the tables that stay as they are while a run goes on: every method's words -/
def Tw : List Cond := lw_tbl.filter goodWord
theorem tw_1 {w : Cond} (i : Nat) (h : tables_1_1[i]? = some w) (g : goodWord w = true) : w ∈ Tw := List.mem_filter.mpr ⟨List.mem_append_right _ (List.mem_append_left _ (List.mem_of_getElem? h)), g⟩
theorem tw_2 {w : Cond} (i : Nat) (h : tables_1_2[i]? = some w) (g : goodWord w = true) : w ∈ Tw := List.mem_filter.mpr ⟨List.mem_append_right _ (List.mem_append_right _ (List.mem_append_left _ (List.mem_of_getElem? h))), g⟩
theorem tw_3 {w : Cond} (i : Nat) (h : tables_1_3[i]? = some w) (g : goodWord w = true) : w ∈ Tw := List.mem_filter.mpr ⟨List.mem_append_right _ (List.mem_append_right _ (List.mem_append_right _ (List.mem_of_getElem? h))), g⟩
theorem tw_s {y : MethodName} {n : Nat} (i : Nat) (h : lw_privs[i]? = some (y, n)) (g : goodWord (Cond.selects y.cls y y) = true) : Cond.selects y.cls y y ∈ Tw := List.mem_filter.mpr ⟨List.mem_append_left _ (List.mem_map.mpr ⟨(y, n), List.mem_of_getElem? h, rfl⟩), g⟩
theorem twin_L : Cond.initialized RL ∈ Tw := tw_1 0 (by decide +kernel) (by rfl)
theorem twin_X2 : Cond.initialized RX2 ∈ Tw := tw_1 1 (by decide +kernel) (by rfl)
theorem twin_X0 : Cond.initialized RX0 ∈ Tw := tw_1 2 (by decide +kernel) (by rfl)
theorem twin_X1 : Cond.initialized RX1 ∈ Tw := tw_1 3 (by decide +kernel) (by rfl)
theorem twin_X3 : Cond.initialized RX3 ∈ Tw := tw_1 4 (by decide +kernel) (by rfl)
theorem twin_J10 : Cond.initialized RJ10 ∈ Tw := tw_1 5 (by decide +kernel) (by rfl)
theorem twin_Jxe99ae : Cond.initialized RJxe99ae ∈ Tw := tw_1 6 (by decide +kernel) (by rfl)
theorem twcl_L_7 : Cond.classLink RL 7 RX2 ∈ Tw := tw_1 7 (by decide +kernel) (by rfl)
theorem twia_X2 : Cond.instantiable RX2 7 ∈ Tw := tw_1 8 (by decide +kernel) (by rfl)
theorem twm_L_9 : Cond.methodLink RL 9 yX2_init ∈ Tw := tw_1 9 (by decide +kernel) (by rfl)
theorem twi_yX2_init : Cond.instanceMethod yX2_init ∈ Tw := tw_1 10 (by decide +kernel) (by rfl)
theorem twc_yX2_init : Cond.code yX2_init cX2_init 2 none ∈ Tw := tw_1 11 (by rfl) (by rfl)
theorem twm_X2_1 : Cond.methodLink RX2 1 objectInit ∈ Tw := tw_1 12 (by decide +kernel) (by rfl)
theorem twi_objectInit : Cond.instanceMethod objectInit ∈ Tw := tw_1 13 (by decide +kernel) (by rfl)
theorem twc_objectInit : Cond.code objectInit ⟨#[0xb1]⟩ 1 none ∈ Tw := tw_1 14 (by rfl) (by rfl)
theorem twcl_X2_7 : Cond.classLink RX2 7 RX0 ∈ Tw := tw_1 15 (by decide +kernel) (by rfl)
theorem twia_X0 : Cond.instantiable RX0 8 ∈ Tw := tw_1 16 (by decide +kernel) (by rfl)
theorem twm_X2_9 : Cond.methodLink RX2 9 yX0_init ∈ Tw := tw_1 17 (by decide +kernel) (by rfl)
theorem twi_yX0_init : Cond.instanceMethod yX0_init ∈ Tw := tw_1 18 (by decide +kernel) (by rfl)
theorem twc_yX0_init : Cond.code yX0_init cX0_init 1 none ∈ Tw := tw_1 19 (by rfl) (by rfl)
theorem twm_X0_1 : Cond.methodLink RX0 1 objectInit ∈ Tw := tw_1 20 (by decide +kernel) (by rfl)
theorem twm_X0_26 : Cond.methodLink RX0 26 yX0_settle ∈ Tw := tw_1 21 (by decide +kernel) (by rfl)
theorem twi_yX0_settle : Cond.instanceMethod yX0_settle ∈ Tw := tw_1 22 (by decide +kernel) (by rfl)
theorem twv_yX0_settle : Cond.selects RX0 yX0_settle yX0_settle ∈ Tw := tw_1 23 (by decide +kernel) (by rfl)
theorem twc_yX0_settle : Cond.code yX0_settle cX0_settle 6 none ∈ Tw := tw_1 24 (by rfl) (by rfl)
theorem twd_X0_39 : Cond.constantDouble RX0 39 (4611686018427387904) ∈ Tw := tw_1 25 (by decide +kernel) (by rfl)
theorem twm_X0_61 : Cond.methodLink RX0 61 yX0_pressure ∈ Tw := tw_1 26 (by decide +kernel) (by rfl)
theorem twi_yX0_pressure : Cond.instanceMethod yX0_pressure ∈ Tw := tw_1 27 (by decide +kernel) (by rfl)
theorem twv_yX0_pressure : Cond.selects RX0 yX0_pressure yX0_pressure ∈ Tw := tw_1 28 (by decide +kernel) (by rfl)
theorem twc_yX0_pressure : Cond.code yX0_pressure cX0_pressure 2 (some .double) ∈ Tw := tw_1 29 (by rfl) (by rfl)
theorem twf_X0_7 : Cond.fieldLink RX0 7 "SurgeLine$Line" "values" "[I" ∈ Tw := tw_1 30 (by decide +kernel) (by rfl)
theorem twf_X2_57 : Cond.fieldLink RX2 57 "SurgeLine$Line" "values" "[I" ∈ Tw := tw_1 31 (by decide +kernel) (by rfl)
theorem twf_X0_13 : Cond.fieldLink RX0 13 "SurgeLine$Line" "forward" "[D" ∈ Tw := tw_1 32 (by decide +kernel) (by rfl)
theorem twf_X2_93 : Cond.fieldLink RX2 93 "SurgeLine$Line" "forward" "[D" ∈ Tw := tw_1 33 (by decide +kernel) (by rfl)
theorem twf_X0_17 : Cond.fieldLink RX0 17 "SurgeLine$Line" "backward" "[D" ∈ Tw := tw_1 34 (by decide +kernel) (by rfl)
theorem twf_X2_97 : Cond.fieldLink RX2 97 "SurgeLine$Line" "backward" "[D" ∈ Tw := tw_1 35 (by decide +kernel) (by rfl)
theorem twf_X0_20 : Cond.fieldLink RX0 20 "SurgeLine$Line" "greatest" "[D" ∈ Tw := tw_1 36 (by decide +kernel) (by rfl)
theorem twf_X2_100 : Cond.fieldLink RX2 100 "SurgeLine$Line" "greatest" "[D" ∈ Tw := tw_1 37 (by decide +kernel) (by rfl)
theorem twf_X0_23 : Cond.fieldLink RX0 23 "SurgeLine$Line" "least" "[D" ∈ Tw := tw_1 38 (by decide +kernel) (by rfl)
theorem twf_X2_103 : Cond.fieldLink RX2 103 "SurgeLine$Line" "least" "[D" ∈ Tw := tw_1 39 (by decide +kernel) (by rfl)
theorem twf_X2_110 : Cond.fieldLink RX2 110 "SurgeLine$Line" "highest" "D" ∈ Tw := tw_1 40 (by decide +kernel) (by rfl)
theorem twf_X0_51 : Cond.fieldLink RX0 51 "SurgeLine$Line" "highest" "D" ∈ Tw := tw_1 41 (by decide +kernel) (by rfl)
theorem twf_X2_114 : Cond.fieldLink RX2 114 "SurgeLine$Line" "lowest" "D" ∈ Tw := tw_1 42 (by decide +kernel) (by rfl)
theorem twf_X0_55 : Cond.fieldLink RX0 55 "SurgeLine$Line" "lowest" "D" ∈ Tw := tw_1 43 (by decide +kernel) (by rfl)
theorem twf_X2_117 : Cond.fieldLink RX2 117 "SurgeLine$Line" "level" "D" ∈ Tw := tw_1 44 (by decide +kernel) (by rfl)
theorem twf_X0_58 : Cond.fieldLink RX0 58 "SurgeLine$Line" "level" "D" ∈ Tw := tw_1 45 (by decide +kernel) (by rfl)
theorem twa_int : Cond.arrayClass .int ∈ Tw := tw_1 63 (by decide +kernel) (by rfl)
theorem twa_double : Cond.arrayClass .double ∈ Tw := tw_1 64 (by decide +kernel) (by rfl)
theorem twao_Line : Cond.arrayOver (.object RX0) ∈ lw_tbl := List.mem_append_right _ (List.mem_append_left _ (List.mem_of_getElem? (i := 65) (by decide +kernel)))
theorem twcl_X2_34 : Cond.classLink RX2 34 RX1 ∈ Tw := tw_1 66 (by decide +kernel) (by rfl)
theorem twia_X1 : Cond.instantiable RX1 8 ∈ Tw := tw_1 67 (by decide +kernel) (by rfl)
theorem twm_X2_36 : Cond.methodLink RX2 36 yX1_init ∈ Tw := tw_1 68 (by decide +kernel) (by rfl)
theorem twi_yX1_init : Cond.instanceMethod yX1_init ∈ Tw := tw_1 69 (by decide +kernel) (by rfl)
theorem twc_yX1_init : Cond.code yX1_init cX1_init 1 none ∈ Tw := tw_1 70 (by rfl) (by rfl)
theorem twm_X1_3 : Cond.methodLink RX1 3 objectInit ∈ Tw := tw_1 71 (by decide +kernel) (by rfl)
theorem twf_X1_11 : Cond.fieldLink RX1 11 "SurgeLine$Page" "text" "[B" ∈ Tw := tw_1 72 (by decide +kernel) (by rfl)
theorem twf_X1_15 : Cond.fieldLink RX1 15 "SurgeLine$Page" "length" "I" ∈ Tw := tw_1 73 (by decide +kernel) (by rfl)
theorem twf_X2_147 : Cond.fieldLink RX2 147 "SurgeLine$Page" "length" "I" ∈ Tw := tw_1 74 (by decide +kernel) (by rfl)
theorem twf_X1_19 : Cond.fieldLink RX1 19 "SurgeLine$Page" "orders" "I" ∈ Tw := tw_1 75 (by decide +kernel) (by rfl)
theorem twf_X2_160 : Cond.fieldLink RX2 160 "SurgeLine$Page" "orders" "I" ∈ Tw := tw_1 76 (by decide +kernel) (by rfl)
theorem twf_X1_22 : Cond.fieldLink RX1 22 "SurgeLine$Page" "letter" "I" ∈ Tw := tw_1 77 (by decide +kernel) (by rfl)
theorem twf_X2_167 : Cond.fieldLink RX2 167 "SurgeLine$Page" "letter" "I" ∈ Tw := tw_1 78 (by decide +kernel) (by rfl)
theorem twf_X1_25 : Cond.fieldLink RX1 25 "SurgeLine$Page" "first" "I" ∈ Tw := tw_1 79 (by decide +kernel) (by rfl)
theorem twf_X2_170 : Cond.fieldLink RX2 170 "SurgeLine$Page" "first" "I" ∈ Tw := tw_1 80 (by decide +kernel) (by rfl)
theorem twf_X1_28 : Cond.fieldLink RX1 28 "SurgeLine$Page" "second" "I" ∈ Tw := tw_1 81 (by decide +kernel) (by rfl)
theorem twf_X2_173 : Cond.fieldLink RX2 173 "SurgeLine$Page" "second" "I" ∈ Tw := tw_1 82 (by decide +kernel) (by rfl)
theorem twf_X1_31 : Cond.fieldLink RX1 31 "SurgeLine$Page" "place" "I" ∈ Tw := tw_1 83 (by decide +kernel) (by rfl)
theorem twf_X1_34 : Cond.fieldLink RX1 34 "SurgeLine$Page" "number" "I" ∈ Tw := tw_1 84 (by decide +kernel) (by rfl)
theorem twa_byte : Cond.arrayClass .byte ∈ Tw := tw_1 102 (by decide +kernel) (by rfl)
theorem twf_X2_10 : Cond.fieldLink RX2 10 "SurgeLine" "now" "LSurgeLine$Line;" ∈ Tw := tw_1 103 (by decide +kernel) (by rfl)
theorem twf_X2_16 : Cond.fieldLink RX2 16 "SurgeLine" "spare" "LSurgeLine$Line;" ∈ Tw := tw_1 104 (by decide +kernel) (by rfl)
theorem twf_X2_19 : Cond.fieldLink RX2 19 "SurgeLine" "kept" "[LSurgeLine$Line;" ∈ Tw := tw_1 105 (by decide +kernel) (by rfl)
theorem twf_X2_23 : Cond.fieldLink RX2 23 "SurgeLine" "newest" "I" ∈ Tw := tw_1 106 (by decide +kernel) (by rfl)
theorem twf_X2_27 : Cond.fieldLink RX2 27 "SurgeLine" "states" "I" ∈ Tw := tw_1 107 (by decide +kernel) (by rfl)
theorem twf_X2_30 : Cond.fieldLink RX2 30 "SurgeLine" "refused" "[I" ∈ Tw := tw_1 108 (by decide +kernel) (by rfl)
theorem twf_X2_37 : Cond.fieldLink RX2 37 "SurgeLine" "page" "LSurgeLine$Page;" ∈ Tw := tw_1 109 (by decide +kernel) (by rfl)
theorem twm_L_13 : Cond.methodLink RL 13 yX2_pipe ∈ Tw := tw_1 125 (by decide +kernel) (by rfl)
theorem twi_yX2_pipe : Cond.instanceMethod yX2_pipe ∈ Tw := tw_1 126 (by decide +kernel) (by rfl)
theorem twv_yX2_pipe : Cond.selects RX2 yX2_pipe yX2_pipe ∈ Tw := tw_1 127 (by decide +kernel) (by rfl)
theorem twc_yX2_pipe : Cond.code yX2_pipe cX2_pipe 2 (some .int) ∈ Tw := tw_1 128 (by rfl) (by rfl)
theorem twm_X2_41 : Cond.methodLink RX2 41 yX2_change ∈ Tw := tw_1 129 (by decide +kernel) (by rfl)
theorem twi_yX2_change : Cond.instanceMethod yX2_change ∈ Tw := tw_1 131 (by decide +kernel) (by rfl)
theorem twc_yX2_change : Cond.code yX2_change cX2_change 4 (some .int) ∈ Tw := tw_1 132 (by rfl) (by rfl)
theorem twm_X2_134 : Cond.methodLink RX2 134 yX0_fits ∈ Tw := tw_1 133 (by decide +kernel) (by rfl)
theorem tws_yX0_fits : Cond.static yX0_fits ∈ Tw := tw_1 134 (by decide +kernel) (by rfl)
theorem twc_yX0_fits : Cond.code yX0_fits cX0_fits 2 (some .boolean) ∈ Tw := tw_1 135 (by rfl) (by rfl)
theorem twf_X0_29 : Cond.fieldLink RX0 29 "SurgeLine$Line" "LEAST_OF" "[I" ∈ Tw := tw_1 136 (by decide +kernel) (by rfl)
theorem twls_LEAST_OF : Cond.laysStatic RX0 "LEAST_OF" "[I" ∈ lw_tbl := List.mem_append_right _ (List.mem_append_left _ (List.mem_of_getElem? (i := 137) (by decide +kernel)))
theorem twf_X0_32 : Cond.fieldLink RX0 32 "SurgeLine$Line" "MOST_OF" "[I" ∈ Tw := tw_1 138 (by decide +kernel) (by rfl)
theorem twls_MOST_OF : Cond.laysStatic RX0 "MOST_OF" "[I" ∈ lw_tbl := List.mem_append_right _ (List.mem_append_left _ (List.mem_of_getElem? (i := 139) (by decide +kernel)))
theorem twm_X2_45 : Cond.methodLink RX2 45 yX2_refuse ∈ Tw := tw_1 140 (by decide +kernel) (by rfl)
theorem twi_yX2_refuse : Cond.instanceMethod yX2_refuse ∈ Tw := tw_1 142 (by decide +kernel) (by rfl)
theorem twc_yX2_refuse : Cond.code yX2_refuse cX2_refuse 2 (some .int) ∈ Tw := tw_1 143 (by rfl) (by rfl)
theorem twm_X2_53 : Cond.methodLink RX2 53 yX2_keep ∈ Tw := tw_1 144 (by decide +kernel) (by rfl)
theorem twi_yX2_keep : Cond.instanceMethod yX2_keep ∈ Tw := tw_1 146 (by decide +kernel) (by rfl)
theorem twc_yX2_keep : Cond.code yX2_keep cX2_keep 2 none ∈ Tw := tw_1 147 (by rfl) (by rfl)
theorem twm_X2_154 : Cond.methodLink RX2 154 yX0_copyFrom ∈ Tw := tw_1 148 (by decide +kernel) (by rfl)
theorem twi_yX0_copyFrom : Cond.instanceMethod yX0_copyFrom ∈ Tw := tw_1 149 (by decide +kernel) (by rfl)
theorem twv_yX0_copyFrom : Cond.selects RX0 yX0_copyFrom yX0_copyFrom ∈ Tw := tw_1 150 (by decide +kernel) (by rfl)
theorem twc_yX0_copyFrom : Cond.code yX0_copyFrom cX0_copyFrom 2 none ∈ Tw := tw_1 151 (by rfl) (by rfl)
theorem twm_X0_41 : Cond.methodLink RX0 41 arraycopyName ∈ Tw := tw_1 152 (by decide +kernel) (by rfl)
theorem tws_arraycopyName : Cond.static arraycopyName ∈ Tw := tw_1 153 (by decide +kernel) (by rfl)
theorem twn_arraycopyName : Cond.native arraycopyName ∈ Tw := tw_1 154 (by decide +kernel) (by rfl)
theorem twm_X2_204 : Cond.methodLink RX2 204 yX0_put ∈ Tw := tw_1 155 (by decide +kernel) (by rfl)
theorem twi_yX0_put : Cond.instanceMethod yX0_put ∈ Tw := tw_1 156 (by decide +kernel) (by rfl)
theorem twv_yX0_put : Cond.selects RX0 yX0_put yX0_put ∈ Tw := tw_1 157 (by decide +kernel) (by rfl)
theorem twc_yX0_put : Cond.code yX0_put cX0_put 3 none ∈ Tw := tw_1 158 (by rfl) (by rfl)
theorem twm_L_18 : Cond.methodLink RL 18 yX2_sets ∈ Tw := tw_1 159 (by decide +kernel) (by rfl)
theorem twi_yX2_sets : Cond.instanceMethod yX2_sets ∈ Tw := tw_1 160 (by decide +kernel) (by rfl)
theorem twv_yX2_sets : Cond.selects RX2 yX2_sets yX2_sets ∈ Tw := tw_1 161 (by decide +kernel) (by rfl)
theorem twc_yX2_sets : Cond.code yX2_sets cX2_sets 3 (some .int) ∈ Tw := tw_1 162 (by rfl) (by rfl)
theorem twm_L_23 : Cond.methodLink RL 23 yX2_ends ∈ Tw := tw_1 163 (by decide +kernel) (by rfl)
theorem twi_yX2_ends : Cond.instanceMethod yX2_ends ∈ Tw := tw_1 164 (by decide +kernel) (by rfl)
theorem twv_yX2_ends : Cond.selects RX2 yX2_ends yX2_ends ∈ Tw := tw_1 165 (by decide +kernel) (by rfl)
theorem twc_yX2_ends : Cond.code yX2_ends cX2_ends 3 (some .int) ∈ Tw := tw_1 166 (by rfl) (by rfl)
theorem twm_L_27 : Cond.methodLink RL 27 yX2_law ∈ Tw := tw_1 167 (by decide +kernel) (by rfl)
theorem twi_yX2_law : Cond.instanceMethod yX2_law ∈ Tw := tw_1 168 (by decide +kernel) (by rfl)
theorem twv_yX2_law : Cond.selects RX2 yX2_law yX2_law ∈ Tw := tw_1 169 (by decide +kernel) (by rfl)
theorem twc_yX2_law : Cond.code yX2_law cX2_law 4 (some .int) ∈ Tw := tw_1 170 (by rfl) (by rfl)
theorem twm_X2_49 : Cond.methodLink RX2 49 yX0_isLaw ∈ Tw := tw_1 171 (by decide +kernel) (by rfl)
theorem tws_yX0_isLaw : Cond.static yX0_isLaw ∈ Tw := tw_1 172 (by decide +kernel) (by rfl)
theorem twc_yX0_isLaw : Cond.code yX0_isLaw cX0_isLaw 2 (some .boolean) ∈ Tw := tw_1 173 (by rfl) (by rfl)
theorem twm_X0_35 : Cond.methodLink RX0 35 yX0_fits ∈ Tw := tw_1 174 (by decide +kernel) (by rfl)
theorem twm_X2_60 : Cond.methodLink RX2 60 yX0_govern ∈ Tw := tw_1 175 (by decide +kernel) (by rfl)
theorem twi_yX0_govern : Cond.instanceMethod yX0_govern ∈ Tw := tw_1 176 (by decide +kernel) (by rfl)
theorem twv_yX0_govern : Cond.selects RX0 yX0_govern yX0_govern ∈ Tw := tw_1 177 (by decide +kernel) (by rfl)
theorem twc_yX0_govern : Cond.code yX0_govern cX0_govern 3 none ∈ Tw := tw_1 178 (by rfl) (by rfl)
theorem twm_L_31 : Cond.methodLink RL 31 yX2_steady ∈ Tw := tw_1 179 (by decide +kernel) (by rfl)
theorem twi_yX2_steady : Cond.instanceMethod yX2_steady ∈ Tw := tw_1 180 (by decide +kernel) (by rfl)
theorem twv_yX2_steady : Cond.selects RX2 yX2_steady yX2_steady ∈ Tw := tw_1 181 (by decide +kernel) (by rfl)
theorem twc_yX2_steady : Cond.code yX2_steady cX2_steady 2 (some .int) ∈ Tw := tw_1 182 (by rfl) (by rfl)
theorem twm_X2_64 : Cond.methodLink RX2 64 yX0_settle ∈ Tw := tw_1 183 (by decide +kernel) (by rfl)
theorem twm_L_36 : Cond.methodLink RL 36 yX2_steps ∈ Tw := tw_1 184 (by decide +kernel) (by rfl)
theorem twi_yX2_steps : Cond.instanceMethod yX2_steps ∈ Tw := tw_1 185 (by decide +kernel) (by rfl)
theorem twv_yX2_steps : Cond.selects RX2 yX2_steps yX2_steps ∈ Tw := tw_1 186 (by decide +kernel) (by rfl)
theorem twc_yX2_steps : Cond.code yX2_steps cX2_steps 2 (some .int) ∈ Tw := tw_1 187 (by rfl) (by rfl)
theorem twm_X2_67 : Cond.methodLink RX2 67 yX2_isStepCount ∈ Tw := tw_1 188 (by decide +kernel) (by rfl)
theorem tws_yX2_isStepCount : Cond.static yX2_isStepCount ∈ Tw := tw_1 189 (by decide +kernel) (by rfl)
theorem twc_yX2_isStepCount : Cond.code yX2_isStepCount cX2_isStepCount 1 (some .boolean) ∈ Tw := tw_1 190 (by rfl) (by rfl)
theorem twm_X2_71 : Cond.methodLink RX2 71 yX2_hasTimeFor ∈ Tw := tw_1 191 (by decide +kernel) (by rfl)
theorem twi_yX2_hasTimeFor : Cond.instanceMethod yX2_hasTimeFor ∈ Tw := tw_1 193 (by decide +kernel) (by rfl)
theorem twc_yX2_hasTimeFor : Cond.code yX2_hasTimeFor cX2_hasTimeFor 2 (some .boolean) ∈ Tw := tw_1 194 (by rfl) (by rfl)
theorem twm_X2_74 : Cond.methodLink RX2 74 yX0_advance ∈ Tw := tw_1 195 (by decide +kernel) (by rfl)
theorem twi_yX0_advance : Cond.instanceMethod yX0_advance ∈ Tw := tw_1 196 (by decide +kernel) (by rfl)
theorem twv_yX0_advance : Cond.selects RX0 yX0_advance yX0_advance ∈ Tw := tw_1 197 (by decide +kernel) (by rfl)
theorem twc_yX0_advance : Cond.code yX0_advance cX0_advance 3 none ∈ Tw := tw_1 198 (by rfl) (by rfl)
theorem twm_X0_65 : Cond.methodLink RX0 65 yX0_shift ∈ Tw := tw_1 199 (by decide +kernel) (by rfl)
theorem twi_yX0_shift : Cond.instanceMethod yX0_shift ∈ Tw := tw_1 201 (by decide +kernel) (by rfl)
theorem twc_yX0_shift : Cond.code yX0_shift cX0_shift 3 none ∈ Tw := tw_1 202 (by rfl) (by rfl)
theorem twm_X0_68 : Cond.methodLink RX0 68 yX0_turnLeft ∈ Tw := tw_1 203 (by decide +kernel) (by rfl)
theorem twi_yX0_turnLeft : Cond.instanceMethod yX0_turnLeft ∈ Tw := tw_1 205 (by decide +kernel) (by rfl)
theorem twc_yX0_turnLeft : Cond.code yX0_turnLeft cX0_turnLeft 3 none ∈ Tw := tw_1 206 (by rfl) (by rfl)
theorem twm_X0_71 : Cond.methodLink RX0 71 yX0_turnRight ∈ Tw := tw_1 207 (by decide +kernel) (by rfl)
theorem twi_yX0_turnRight : Cond.instanceMethod yX0_turnRight ∈ Tw := tw_1 209 (by decide +kernel) (by rfl)
theorem twc_yX0_turnRight : Cond.code yX0_turnRight cX0_turnRight 4 none ∈ Tw := tw_1 210 (by rfl) (by rfl)
theorem twm_X0_77 : Cond.methodLink RX0 77 yX0_letBy ∈ Tw := tw_1 211 (by decide +kernel) (by rfl)
theorem tws_yX0_letBy : Cond.static yX0_letBy ∈ Tw := tw_1 212 (by decide +kernel) (by rfl)
theorem twc_yX0_letBy : Cond.code yX0_letBy cX0_letBy 11 (some .double) ∈ Tw := tw_1 213 (by rfl) (by rfl)
theorem twm_X0_81 : Cond.methodLink RX0 81 yX0_fillTank ∈ Tw := tw_1 214 (by decide +kernel) (by rfl)
theorem twi_yX0_fillTank : Cond.instanceMethod yX0_fillTank ∈ Tw := tw_1 216 (by decide +kernel) (by rfl)
theorem twc_yX0_fillTank : Cond.code yX0_fillTank cX0_fillTank 7 none ∈ Tw := tw_1 217 (by rfl) (by rfl)
theorem twd_X0_85 : Cond.constantDouble RX0 85 (4666723172467343360) ∈ Tw := tw_1 218 (by decide +kernel) (by rfl)
theorem twd_X0_87 : Cond.constantDouble RX0 87 (13890095209322119168) ∈ Tw := tw_1 219 (by decide +kernel) (by rfl)
theorem twm_X0_74 : Cond.methodLink RX0 74 yX0_widenEnvelopes ∈ Tw := tw_1 220 (by decide +kernel) (by rfl)
theorem twi_yX0_widenEnvelopes : Cond.instanceMethod yX0_widenEnvelopes ∈ Tw := tw_1 222 (by decide +kernel) (by rfl)
theorem twc_yX0_widenEnvelopes : Cond.code yX0_widenEnvelopes cX0_widenEnvelopes 4 none ∈ Tw := tw_1 223 (by rfl) (by rfl)
theorem twm_L_40 : Cond.methodLink RL 40 yX2_node ∈ Tw := tw_1 224 (by decide +kernel) (by rfl)
theorem twi_yX2_node : Cond.instanceMethod yX2_node ∈ Tw := tw_1 225 (by decide +kernel) (by rfl)
theorem twv_yX2_node : Cond.selects RX2 yX2_node yX2_node ∈ Tw := tw_1 226 (by decide +kernel) (by rfl)
theorem twc_yX2_node : Cond.code yX2_node cX2_node 3 (some .long) ∈ Tw := tw_1 227 (by rfl) (by rfl)
theorem twm_X2_78 : Cond.methodLink RX2 78 yX0_hasNode ∈ Tw := tw_1 228 (by decide +kernel) (by rfl)
theorem twi_yX0_hasNode : Cond.instanceMethod yX0_hasNode ∈ Tw := tw_1 229 (by decide +kernel) (by rfl)
theorem twv_yX0_hasNode : Cond.selects RX0 yX0_hasNode yX0_hasNode ∈ Tw := tw_1 230 (by decide +kernel) (by rfl)
theorem twc_yX0_hasNode : Cond.code yX0_hasNode cX0_hasNode 2 (some .boolean) ∈ Tw := tw_1 231 (by rfl) (by rfl)
theorem twm_X2_81 : Cond.methodLink RX2 81 yX2_refuseLong ∈ Tw := tw_1 232 (by decide +kernel) (by rfl)
theorem twi_yX2_refuseLong : Cond.instanceMethod yX2_refuseLong ∈ Tw := tw_1 234 (by decide +kernel) (by rfl)
theorem twc_yX2_refuseLong : Cond.code yX2_refuseLong cX2_refuseLong 1 (some .long) ∈ Tw := tw_1 235 (by rfl) (by rfl)
theorem twl_X2_202 : Cond.constantLong RX2 202 (-9000000000000000) ∈ Tw := tw_1 236 (by decide +kernel) (by rfl)
theorem twm_X2_85 : Cond.methodLink RX2 85 yX0_pressure ∈ Tw := tw_1 237 (by decide +kernel) (by rfl)
theorem twm_X2_89 : Cond.methodLink RX2 89 yX2_thousandfold ∈ Tw := tw_1 238 (by decide +kernel) (by rfl)
theorem tws_yX2_thousandfold : Cond.static yX2_thousandfold ∈ Tw := tw_1 239 (by decide +kernel) (by rfl)
theorem twc_yX2_thousandfold : Cond.code yX2_thousandfold cX2_thousandfold 2 (some .long) ∈ Tw := tw_2 0 (by rfl) (by rfl)
theorem twd_X2_210 : Cond.constantDouble RX2 210 (4652007308841189376) ∈ Tw := tw_2 1 (by decide +kernel) (by rfl)
theorem twm_L_45 : Cond.methodLink RL 45 yX2_all ∈ Tw := tw_2 2 (by decide +kernel) (by rfl)
theorem twi_yX2_all : Cond.instanceMethod yX2_all ∈ Tw := tw_2 3 (by decide +kernel) (by rfl)
theorem twv_yX2_all : Cond.selects RX2 yX2_all yX2_all ∈ Tw := tw_2 4 (by decide +kernel) (by rfl)
theorem twc_yX2_all : Cond.code yX2_all cX2_all 2 (some .long) ∈ Tw := tw_2 5 (by rfl) (by rfl)
theorem twm_X2_106 : Cond.methodLink RX2 106 yX0_sumOfSquares ∈ Tw := tw_2 6 (by decide +kernel) (by rfl)
theorem twi_yX0_sumOfSquares : Cond.instanceMethod yX0_sumOfSquares ∈ Tw := tw_2 7 (by decide +kernel) (by rfl)
theorem twv_yX0_sumOfSquares : Cond.selects RX0 yX0_sumOfSquares yX0_sumOfSquares ∈ Tw := tw_2 8 (by decide +kernel) (by rfl)
theorem twc_yX0_sumOfSquares : Cond.code yX0_sumOfSquares cX0_sumOfSquares 4 (some .double) ∈ Tw := tw_2 9 (by rfl) (by rfl)
theorem twm_L_50 : Cond.methodLink RL 50 yX2_bits ∈ Tw := tw_2 10 (by decide +kernel) (by rfl)
theorem twi_yX2_bits : Cond.instanceMethod yX2_bits ∈ Tw := tw_2 11 (by decide +kernel) (by rfl)
theorem twv_yX2_bits : Cond.selects RX2 yX2_bits yX2_bits ∈ Tw := tw_2 12 (by decide +kernel) (by rfl)
theorem twc_yX2_bits : Cond.code yX2_bits cX2_bits 2 (some .long) ∈ Tw := tw_2 13 (by rfl) (by rfl)
theorem twm_X2_120 : Cond.methodLink RX2 120 yX2_bitsOf ∈ Tw := tw_2 14 (by decide +kernel) (by rfl)
theorem tws_yX2_bitsOf : Cond.static yX2_bitsOf ∈ Tw := tw_2 15 (by decide +kernel) (by rfl)
theorem twc_yX2_bitsOf : Cond.code yX2_bitsOf cX2_bitsOf 11 (some .long) ∈ Tw := tw_2 16 (by rfl) (by rfl)
theorem twl_X2_212 : Cond.constantLong RX2 212 (4503599627370496) ∈ Tw := tw_2 17 (by decide +kernel) (by rfl)
theorem twd_X2_214 : Cond.constantDouble RX2 214 (4611686018427387904) ∈ Tw := tw_2 18 (by decide +kernel) (by rfl)
theorem twl_X2_216 : Cond.constantLong RX2 216 (-9223372036854775808) ∈ Tw := tw_2 19 (by decide +kernel) (by rfl)
theorem twm_L_54 : Cond.methodLink RL 54 yX2_lets ∈ Tw := tw_2 20 (by decide +kernel) (by rfl)
theorem twi_yX2_lets : Cond.instanceMethod yX2_lets ∈ Tw := tw_2 21 (by decide +kernel) (by rfl)
theorem twv_yX2_lets : Cond.selects RX2 yX2_lets yX2_lets ∈ Tw := tw_2 22 (by decide +kernel) (by rfl)
theorem twc_yX2_lets : Cond.code yX2_lets cX2_lets 4 (some .long) ∈ Tw := tw_2 23 (by rfl) (by rfl)
theorem twm_X2_123 : Cond.methodLink RX2 123 yX0_letBy ∈ Tw := tw_2 24 (by decide +kernel) (by rfl)
theorem twm_L_59 : Cond.methodLink RL 59 yX2_trial ∈ Tw := tw_2 25 (by decide +kernel) (by rfl)
theorem twi_yX2_trial : Cond.instanceMethod yX2_trial ∈ Tw := tw_2 26 (by decide +kernel) (by rfl)
theorem twv_yX2_trial : Cond.selects RX2 yX2_trial yX2_trial ∈ Tw := tw_2 27 (by decide +kernel) (by rfl)
theorem twc_yX2_trial : Cond.code yX2_trial cX2_trial 4 (some .long) ∈ Tw := tw_2 28 (by rfl) (by rfl)
theorem twm_X2_127 : Cond.methodLink RX2 127 yX2_isTrialLength ∈ Tw := tw_2 29 (by decide +kernel) (by rfl)
theorem tws_yX2_isTrialLength : Cond.static yX2_isTrialLength ∈ Tw := tw_2 30 (by decide +kernel) (by rfl)
theorem twc_yX2_isTrialLength : Cond.code yX2_isTrialLength cX2_isTrialLength 1 (some .boolean) ∈ Tw := tw_2 31 (by rfl) (by rfl)
theorem twm_X2_130 : Cond.methodLink RX2 130 yX0_tryOut ∈ Tw := tw_2 32 (by decide +kernel) (by rfl)
theorem twi_yX0_tryOut : Cond.instanceMethod yX0_tryOut ∈ Tw := tw_2 33 (by decide +kernel) (by rfl)
theorem twv_yX0_tryOut : Cond.selects RX0 yX0_tryOut yX0_tryOut ∈ Tw := tw_2 34 (by decide +kernel) (by rfl)
theorem twc_yX0_tryOut : Cond.code yX0_tryOut cX0_tryOut 4 none ∈ Tw := tw_2 35 (by rfl) (by rfl)
theorem twm_X0_47 : Cond.methodLink RX0 47 yX0_govern ∈ Tw := tw_2 36 (by decide +kernel) (by rfl)
theorem twm_L_63 : Cond.methodLink RL 63 yX2_soonest ∈ Tw := tw_2 37 (by decide +kernel) (by rfl)
theorem twi_yX2_soonest : Cond.instanceMethod yX2_soonest ∈ Tw := tw_2 38 (by decide +kernel) (by rfl)
theorem twv_yX2_soonest : Cond.selects RX2 yX2_soonest yX2_soonest ∈ Tw := tw_2 39 (by decide +kernel) (by rfl)
theorem twc_yX2_soonest : Cond.code yX2_soonest cX2_soonest 5 (some .int) ∈ Tw := tw_2 40 (by rfl) (by rfl)
theorem twm_X2_137 : Cond.methodLink RX2 137 yX2_isBound ∈ Tw := tw_2 41 (by decide +kernel) (by rfl)
theorem tws_yX2_isBound : Cond.static yX2_isBound ∈ Tw := tw_2 42 (by decide +kernel) (by rfl)
theorem twc_yX2_isBound : Cond.code yX2_isBound cX2_isBound 1 (some .boolean) ∈ Tw := tw_2 43 (by rfl) (by rfl)
theorem twm_X2_140 : Cond.methodLink RX2 140 yX2_staysWithin ∈ Tw := tw_2 44 (by decide +kernel) (by rfl)
theorem twi_yX2_staysWithin : Cond.instanceMethod yX2_staysWithin ∈ Tw := tw_2 46 (by decide +kernel) (by rfl)
theorem twc_yX2_staysWithin : Cond.code yX2_staysWithin cX2_staysWithin 8 (some .boolean) ∈ Tw := tw_2 47 (by rfl) (by rfl)
theorem twm_L_68 : Cond.methodLink RL 68 yX2_best ∈ Tw := tw_2 48 (by decide +kernel) (by rfl)
theorem twi_yX2_best : Cond.instanceMethod yX2_best ∈ Tw := tw_2 49 (by decide +kernel) (by rfl)
theorem twv_yX2_best : Cond.selects RX2 yX2_best yX2_best ∈ Tw := tw_2 50 (by decide +kernel) (by rfl)
theorem twc_yX2_best : Cond.code yX2_best cX2_best 6 (some .int) ∈ Tw := tw_2 51 (by rfl) (by rfl)
theorem twm_L_72 : Cond.methodLink RL 72 yX2_type ∈ Tw := tw_2 52 (by decide +kernel) (by rfl)
theorem twi_yX2_type : Cond.instanceMethod yX2_type ∈ Tw := tw_2 53 (by decide +kernel) (by rfl)
theorem twv_yX2_type : Cond.selects RX2 yX2_type yX2_type ∈ Tw := tw_2 54 (by decide +kernel) (by rfl)
theorem twc_yX2_type : Cond.code yX2_type cX2_type 2 (some .int) ∈ Tw := tw_2 55 (by rfl) (by rfl)
theorem twm_X2_144 : Cond.methodLink RX2 144 yX1_append ∈ Tw := tw_2 56 (by decide +kernel) (by rfl)
theorem twi_yX1_append : Cond.instanceMethod yX1_append ∈ Tw := tw_2 57 (by decide +kernel) (by rfl)
theorem twv_yX1_append : Cond.selects RX1 yX1_append yX1_append ∈ Tw := tw_2 58 (by decide +kernel) (by rfl)
theorem twc_yX1_append : Cond.code yX1_append cX1_append 2 (some .boolean) ∈ Tw := tw_2 59 (by rfl) (by rfl)
theorem twm_L_76 : Cond.methodLink RL 76 yX2_clear ∈ Tw := tw_2 60 (by decide +kernel) (by rfl)
theorem twi_yX2_clear : Cond.instanceMethod yX2_clear ∈ Tw := tw_2 61 (by decide +kernel) (by rfl)
theorem twv_yX2_clear : Cond.selects RX2 yX2_clear yX2_clear ∈ Tw := tw_2 62 (by decide +kernel) (by rfl)
theorem twc_yX2_clear : Cond.code yX2_clear cX2_clear 2 (some .int) ∈ Tw := tw_2 63 (by rfl) (by rfl)
theorem twm_L_80 : Cond.methodLink RL 80 yX2_reads ∈ Tw := tw_2 64 (by decide +kernel) (by rfl)
theorem twi_yX2_reads : Cond.instanceMethod yX2_reads ∈ Tw := tw_2 65 (by decide +kernel) (by rfl)
theorem twv_yX2_reads : Cond.selects RX2 yX2_reads yX2_reads ∈ Tw := tw_2 66 (by decide +kernel) (by rfl)
theorem twc_yX2_reads : Cond.code yX2_reads cX2_reads 3 (some .int) ∈ Tw := tw_2 67 (by rfl) (by rfl)
theorem twm_X2_150 : Cond.methodLink RX2 150 yX1_findFault ∈ Tw := tw_2 68 (by decide +kernel) (by rfl)
theorem twi_yX1_findFault : Cond.instanceMethod yX1_findFault ∈ Tw := tw_2 69 (by decide +kernel) (by rfl)
theorem twv_yX1_findFault : Cond.selects RX1 yX1_findFault yX1_findFault ∈ Tw := tw_2 70 (by decide +kernel) (by rfl)
theorem twc_yX1_findFault : Cond.code yX1_findFault cX1_findFault 1 (some .int) ∈ Tw := tw_2 71 (by rfl) (by rfl)
theorem twm_X1_39 : Cond.methodLink RX1 39 yX1_rewind ∈ Tw := tw_2 72 (by decide +kernel) (by rfl)
theorem twi_yX1_rewind : Cond.instanceMethod yX1_rewind ∈ Tw := tw_2 73 (by decide +kernel) (by rfl)
theorem twv_yX1_rewind : Cond.selects RX1 yX1_rewind yX1_rewind ∈ Tw := tw_2 74 (by decide +kernel) (by rfl)
theorem twc_yX1_rewind : Cond.code yX1_rewind cX1_rewind 1 none ∈ Tw := tw_2 75 (by rfl) (by rfl)
theorem twm_X1_42 : Cond.methodLink RX1 42 yX1_nextOrder ∈ Tw := tw_2 76 (by decide +kernel) (by rfl)
theorem twi_yX1_nextOrder : Cond.instanceMethod yX1_nextOrder ∈ Tw := tw_2 77 (by decide +kernel) (by rfl)
theorem twv_yX1_nextOrder : Cond.selects RX1 yX1_nextOrder yX1_nextOrder ∈ Tw := tw_2 78 (by decide +kernel) (by rfl)
theorem twc_yX1_nextOrder : Cond.code yX1_nextOrder cX1_nextOrder 1 (some .boolean) ∈ Tw := tw_2 79 (by rfl) (by rfl)
theorem twm_X1_46 : Cond.methodLink RX1 46 yX1_skipBlanks ∈ Tw := tw_2 80 (by decide +kernel) (by rfl)
theorem twi_yX1_skipBlanks : Cond.instanceMethod yX1_skipBlanks ∈ Tw := tw_2 82 (by decide +kernel) (by rfl)
theorem twc_yX1_skipBlanks : Cond.code yX1_skipBlanks cX1_skipBlanks 1 none ∈ Tw := tw_2 83 (by rfl) (by rfl)
theorem twm_X1_49 : Cond.methodLink RX1 49 yX1_byteHere ∈ Tw := tw_2 84 (by decide +kernel) (by rfl)
theorem twi_yX1_byteHere : Cond.instanceMethod yX1_byteHere ∈ Tw := tw_2 86 (by decide +kernel) (by rfl)
theorem twc_yX1_byteHere : Cond.code yX1_byteHere cX1_byteHere 1 (some .int) ∈ Tw := tw_2 87 (by rfl) (by rfl)
theorem twm_X1_53 : Cond.methodLink RX1 53 yX1_valueNamed ∈ Tw := tw_2 88 (by decide +kernel) (by rfl)
theorem tws_yX1_valueNamed : Cond.static yX1_valueNamed ∈ Tw := tw_2 89 (by decide +kernel) (by rfl)
theorem twc_yX1_valueNamed : Cond.code yX1_valueNamed cX1_valueNamed 1 (some .int) ∈ Tw := tw_2 90 (by rfl) (by rfl)
theorem twm_X1_57 : Cond.methodLink RX1 57 yX1_takeNumbers ∈ Tw := tw_2 91 (by decide +kernel) (by rfl)
theorem twi_yX1_takeNumbers : Cond.instanceMethod yX1_takeNumbers ∈ Tw := tw_2 93 (by decide +kernel) (by rfl)
theorem twc_yX1_takeNumbers : Cond.code yX1_takeNumbers cX1_takeNumbers 2 (some .boolean) ∈ Tw := tw_2 94 (by rfl) (by rfl)
theorem twm_X1_60 : Cond.methodLink RX1 60 yX1_takeNumber ∈ Tw := tw_2 95 (by decide +kernel) (by rfl)
theorem twi_yX1_takeNumber : Cond.instanceMethod yX1_takeNumber ∈ Tw := tw_2 97 (by decide +kernel) (by rfl)
theorem twc_yX1_takeNumber : Cond.code yX1_takeNumber cX1_takeNumber 2 (some .boolean) ∈ Tw := tw_2 98 (by rfl) (by rfl)
theorem twm_X2_157 : Cond.methodLink RX2 157 yX1_rewind ∈ Tw := tw_2 99 (by decide +kernel) (by rfl)
theorem twm_X2_163 : Cond.methodLink RX2 163 yX1_nextOrder ∈ Tw := tw_2 100 (by decide +kernel) (by rfl)
theorem twm_X2_176 : Cond.methodLink RX2 176 yX2_obey ∈ Tw := tw_2 101 (by decide +kernel) (by rfl)
theorem twi_yX2_obey : Cond.instanceMethod yX2_obey ∈ Tw := tw_2 103 (by decide +kernel) (by rfl)
theorem twc_yX2_obey : Cond.code yX2_obey cX2_obey 5 (some .boolean) ∈ Tw := tw_2 104 (by rfl) (by rfl)
theorem twm_X2_207 : Cond.methodLink RX2 207 yX1_valueNamed ∈ Tw := tw_2 105 (by decide +kernel) (by rfl)
theorem twm_L_84 : Cond.methodLink RL 84 yX2_back ∈ Tw := tw_2 106 (by decide +kernel) (by rfl)
theorem twi_yX2_back : Cond.instanceMethod yX2_back ∈ Tw := tw_2 107 (by decide +kernel) (by rfl)
theorem twv_yX2_back : Cond.selects RX2 yX2_back yX2_back ∈ Tw := tw_2 108 (by decide +kernel) (by rfl)
theorem twc_yX2_back : Cond.code yX2_back cX2_back 1 (some .int) ∈ Tw := tw_2 109 (by rfl) (by rfl)
theorem twm_L_88 : Cond.methodLink RL 88 yX2_told ∈ Tw := tw_2 110 (by decide +kernel) (by rfl)
theorem twi_yX2_told : Cond.instanceMethod yX2_told ∈ Tw := tw_2 111 (by decide +kernel) (by rfl)
theorem twv_yX2_told : Cond.selects RX2 yX2_told yX2_told ∈ Tw := tw_2 112 (by decide +kernel) (by rfl)
theorem twc_yX2_told : Cond.code yX2_told cX2_told 2 (some .int) ∈ Tw := tw_2 113 (by rfl) (by rfl)
theorem twm_L_92 : Cond.methodLink RL 92 yX2_digest ∈ Tw := tw_2 114 (by decide +kernel) (by rfl)
theorem twi_yX2_digest : Cond.instanceMethod yX2_digest ∈ Tw := tw_2 115 (by decide +kernel) (by rfl)
theorem twv_yX2_digest : Cond.selects RX2 yX2_digest yX2_digest ∈ Tw := tw_2 116 (by decide +kernel) (by rfl)
theorem twc_yX2_digest : Cond.code yX2_digest cX2_digest 5 (some .long) ∈ Tw := tw_2 117 (by rfl) (by rfl)
theorem twl_X2_180 : Cond.constantLong RX2 180 (2549) ∈ Tw := tw_2 118 (by decide +kernel) (by rfl)
theorem twl_X2_182 : Cond.constantLong RX2 182 (31) ∈ Tw := tw_2 119 (by decide +kernel) (by rfl)
theorem twm_X2_184 : Cond.methodLink RX2 184 yX2_told ∈ Tw := tw_2 120 (by decide +kernel) (by rfl)
theorem twm_X2_187 : Cond.methodLink RX2 187 yX2_node ∈ Tw := tw_2 121 (by decide +kernel) (by rfl)
theorem twm_X2_191 : Cond.methodLink RX2 191 yX2_bits ∈ Tw := tw_2 122 (by decide +kernel) (by rfl)
theorem twm_X2_195 : Cond.methodLink RX2 195 yX2_all ∈ Tw := tw_2 123 (by decide +kernel) (by rfl)
theorem twm_X2_198 : Cond.methodLink RX2 198 yX2_trial ∈ Tw := tw_2 124 (by decide +kernel) (by rfl)
theorem twcl_L_10 : Cond.classLink RL 10 RX3 ∈ Tw := tw_2 125 (by decide +kernel) (by rfl)
theorem twia_X3 : Cond.instantiable RX3 16 ∈ Tw := tw_2 126 (by decide +kernel) (by rfl)
theorem twm_L_12 : Cond.methodLink RL 12 yX3_init ∈ Tw := tw_2 127 (by decide +kernel) (by rfl)
theorem twi_yX3_init : Cond.instanceMethod yX3_init ∈ Tw := tw_2 128 (by decide +kernel) (by rfl)
theorem twc_yX3_init : Cond.code yX3_init cX3_init 1 none ∈ Tw := tw_2 129 (by rfl) (by rfl)
theorem twm_X3_1 : Cond.methodLink RX3 1 objectInit ∈ Tw := tw_2 130 (by decide +kernel) (by rfl)
theorem twm_X3_44 : Cond.methodLink RX3 44 yX3_laysSteady ∈ Tw := tw_2 131 (by decide +kernel) (by rfl)
theorem twi_yX3_laysSteady : Cond.instanceMethod yX3_laysSteady ∈ Tw := tw_2 133 (by decide +kernel) (by rfl)
theorem twc_yX3_laysSteady : Cond.code yX3_laysSteady cX3_laysSteady 6 none ∈ Tw := tw_2 134 (by rfl) (by rfl)
theorem twd_X3_61 : Cond.constantDouble RX3 61 (4611686018427387904) ∈ Tw := tw_2 135 (by decide +kernel) (by rfl)
theorem twf_X3_7 : Cond.fieldLink RX3 7 "SurgeLineModel" "now" "[I" ∈ Tw := tw_2 136 (by decide +kernel) (by rfl)
theorem twf_X3_13 : Cond.fieldLink RX3 13 "SurgeLineModel" "waves" "[D" ∈ Tw := tw_2 137 (by decide +kernel) (by rfl)
theorem twf_X3_17 : Cond.fieldLink RX3 17 "SurgeLineModel" "ahead" "[D" ∈ Tw := tw_2 138 (by decide +kernel) (by rfl)
theorem twf_X3_20 : Cond.fieldLink RX3 20 "SurgeLineModel" "past" "[I" ∈ Tw := tw_2 139 (by decide +kernel) (by rfl)
theorem twf_X3_23 : Cond.fieldLink RX3 23 "SurgeLineModel" "pastWaves" "[D" ∈ Tw := tw_2 140 (by decide +kernel) (by rfl)
theorem twf_X3_26 : Cond.fieldLink RX3 26 "SurgeLineModel" "aside" "[I" ∈ Tw := tw_2 141 (by decide +kernel) (by rfl)
theorem twf_X3_29 : Cond.fieldLink RX3 29 "SurgeLineModel" "asideWaves" "[D" ∈ Tw := tw_2 142 (by decide +kernel) (by rfl)
theorem twf_X3_49 : Cond.fieldLink RX3 49 "SurgeLineModel" "states" "I" ∈ Tw := tw_2 143 (by decide +kernel) (by rfl)
theorem twf_X3_32 : Cond.fieldLink RX3 32 "SurgeLineModel" "refused" "[I" ∈ Tw := tw_2 144 (by decide +kernel) (by rfl)
theorem twf_X3_35 : Cond.fieldLink RX3 35 "SurgeLineModel" "text" "[I" ∈ Tw := tw_2 145 (by decide +kernel) (by rfl)
theorem twf_X3_152 : Cond.fieldLink RX3 152 "SurgeLineModel" "length" "I" ∈ Tw := tw_2 146 (by decide +kernel) (by rfl)
theorem twf_X3_155 : Cond.fieldLink RX3 155 "SurgeLineModel" "place" "I" ∈ Tw := tw_2 147 (by decide +kernel) (by rfl)
theorem twf_X3_168 : Cond.fieldLink RX3 168 "SurgeLineModel" "orders" "I" ∈ Tw := tw_2 148 (by decide +kernel) (by rfl)
theorem twf_X3_38 : Cond.fieldLink RX3 38 "SurgeLineModel" "letters" "[I" ∈ Tw := tw_2 149 (by decide +kernel) (by rfl)
theorem twf_X3_41 : Cond.fieldLink RX3 41 "SurgeLineModel" "numbers" "[I" ∈ Tw := tw_2 150 (by decide +kernel) (by rfl)
theorem twf_X3_193 : Cond.fieldLink RX3 193 "SurgeLineModel" "hash" "J" ∈ Tw := tw_2 151 (by decide +kernel) (by rfl)
theorem twm_L_87 : Cond.methodLink RL 87 yX3_back ∈ Tw := tw_2 185 (by decide +kernel) (by rfl)
theorem twi_yX3_back : Cond.instanceMethod yX3_back ∈ Tw := tw_2 186 (by decide +kernel) (by rfl)
theorem twv_yX3_back : Cond.selects RX3 yX3_back yX3_back ∈ Tw := tw_2 187 (by decide +kernel) (by rfl)
theorem twc_yX3_back : Cond.code yX3_back cX3_back 1 (some .int) ∈ Tw := tw_2 188 (by rfl) (by rfl)
theorem twm_X3_53 : Cond.methodLink RX3 53 yX3_counts ∈ Tw := tw_2 189 (by decide +kernel) (by rfl)
theorem twi_yX3_counts : Cond.instanceMethod yX3_counts ∈ Tw := tw_2 191 (by decide +kernel) (by rfl)
theorem twc_yX3_counts : Cond.code yX3_counts cX3_counts 2 (some .int) ∈ Tw := tw_2 192 (by rfl) (by rfl)
theorem twm_X3_57 : Cond.methodLink RX3 57 yX3_becomesPast ∈ Tw := tw_2 193 (by decide +kernel) (by rfl)
theorem twi_yX3_becomesPast : Cond.instanceMethod yX3_becomesPast ∈ Tw := tw_2 195 (by decide +kernel) (by rfl)
theorem twc_yX3_becomesPast : Cond.code yX3_becomesPast cX3_becomesPast 3 none ∈ Tw := tw_2 196 (by rfl) (by rfl)
theorem twm_L_17 : Cond.methodLink RL 17 yX3_pipe ∈ Tw := tw_2 197 (by decide +kernel) (by rfl)
theorem twi_yX3_pipe : Cond.instanceMethod yX3_pipe ∈ Tw := tw_2 198 (by decide +kernel) (by rfl)
theorem twv_yX3_pipe : Cond.selects RX3 yX3_pipe yX3_pipe ∈ Tw := tw_2 199 (by decide +kernel) (by rfl)
theorem twc_yX3_pipe : Cond.code yX3_pipe cX3_pipe 2 (some .int) ∈ Tw := tw_2 200 (by rfl) (by rfl)
theorem twm_X3_81 : Cond.methodLink RX3 81 yX3_mayPipe ∈ Tw := tw_2 201 (by decide +kernel) (by rfl)
theorem twi_yX3_mayPipe : Cond.instanceMethod yX3_mayPipe ∈ Tw := tw_2 203 (by decide +kernel) (by rfl)
theorem twc_yX3_mayPipe : Cond.code yX3_mayPipe cX3_mayPipe 2 (some .boolean) ∈ Tw := tw_2 204 (by rfl) (by rfl)
theorem twm_X3_74 : Cond.methodLink RX3 74 yX3_within ∈ Tw := tw_2 205 (by decide +kernel) (by rfl)
theorem tws_yX3_within : Cond.static yX3_within ∈ Tw := tw_2 206 (by decide +kernel) (by rfl)
theorem twc_yX3_within : Cond.code yX3_within cX3_within 3 (some .boolean) ∈ Tw := tw_2 207 (by rfl) (by rfl)
theorem twm_X3_85 : Cond.methodLink RX3 85 yX3_leaves ∈ Tw := tw_2 208 (by decide +kernel) (by rfl)
theorem twi_yX3_leaves : Cond.instanceMethod yX3_leaves ∈ Tw := tw_2 210 (by decide +kernel) (by rfl)
theorem twc_yX3_leaves : Cond.code yX3_leaves cX3_leaves 2 none ∈ Tw := tw_2 211 (by rfl) (by rfl)
theorem twm_X3_88 : Cond.methodLink RX3 88 yX3_becomes ∈ Tw := tw_2 212 (by decide +kernel) (by rfl)
theorem twi_yX3_becomes : Cond.instanceMethod yX3_becomes ∈ Tw := tw_2 214 (by decide +kernel) (by rfl)
theorem twc_yX3_becomes : Cond.code yX3_becomes cX3_becomes 4 (some .int) ∈ Tw := tw_2 215 (by rfl) (by rfl)
theorem twm_L_22 : Cond.methodLink RL 22 yX3_sets ∈ Tw := tw_2 216 (by decide +kernel) (by rfl)
theorem twi_yX3_sets : Cond.instanceMethod yX3_sets ∈ Tw := tw_2 217 (by decide +kernel) (by rfl)
theorem twv_yX3_sets : Cond.selects RX3 yX3_sets yX3_sets ∈ Tw := tw_2 218 (by decide +kernel) (by rfl)
theorem twc_yX3_sets : Cond.code yX3_sets cX3_sets 3 (some .int) ∈ Tw := tw_2 219 (by rfl) (by rfl)
theorem twm_X3_92 : Cond.methodLink RX3 92 yX3_maySet ∈ Tw := tw_2 220 (by decide +kernel) (by rfl)
theorem twi_yX3_maySet : Cond.instanceMethod yX3_maySet ∈ Tw := tw_2 222 (by decide +kernel) (by rfl)
theorem twc_yX3_maySet : Cond.code yX3_maySet cX3_maySet 3 (some .boolean) ∈ Tw := tw_2 223 (by rfl) (by rfl)
theorem twm_L_26 : Cond.methodLink RL 26 yX3_ends ∈ Tw := tw_2 224 (by decide +kernel) (by rfl)
theorem twi_yX3_ends : Cond.instanceMethod yX3_ends ∈ Tw := tw_2 225 (by decide +kernel) (by rfl)
theorem twv_yX3_ends : Cond.selects RX3 yX3_ends yX3_ends ∈ Tw := tw_2 226 (by decide +kernel) (by rfl)
theorem twc_yX3_ends : Cond.code yX3_ends cX3_ends 3 (some .int) ∈ Tw := tw_2 227 (by rfl) (by rfl)
theorem twm_X3_96 : Cond.methodLink RX3 96 yX3_mayEnd ∈ Tw := tw_2 228 (by decide +kernel) (by rfl)
theorem twi_yX3_mayEnd : Cond.instanceMethod yX3_mayEnd ∈ Tw := tw_2 230 (by decide +kernel) (by rfl)
theorem twc_yX3_mayEnd : Cond.code yX3_mayEnd cX3_mayEnd 3 (some .boolean) ∈ Tw := tw_2 231 (by rfl) (by rfl)
theorem twm_L_30 : Cond.methodLink RL 30 yX3_law ∈ Tw := tw_2 232 (by decide +kernel) (by rfl)
theorem twi_yX3_law : Cond.instanceMethod yX3_law ∈ Tw := tw_2 233 (by decide +kernel) (by rfl)
theorem twv_yX3_law : Cond.selects RX3 yX3_law yX3_law ∈ Tw := tw_2 234 (by decide +kernel) (by rfl)
theorem twc_yX3_law : Cond.code yX3_law cX3_law 3 (some .int) ∈ Tw := tw_2 235 (by rfl) (by rfl)
theorem twm_X3_99 : Cond.methodLink RX3 99 yX3_isLaw ∈ Tw := tw_2 236 (by decide +kernel) (by rfl)
theorem twi_yX3_isLaw : Cond.instanceMethod yX3_isLaw ∈ Tw := tw_2 238 (by decide +kernel) (by rfl)
theorem twc_yX3_isLaw : Cond.code yX3_isLaw cX3_isLaw 3 (some .boolean) ∈ Tw := tw_2 239 (by rfl) (by rfl)
theorem twm_X3_102 : Cond.methodLink RX3 102 yX3_becomesLaw ∈ Tw := tw_3 0 (by decide +kernel) (by rfl)
theorem twi_yX3_becomesLaw : Cond.instanceMethod yX3_becomesLaw ∈ Tw := tw_3 2 (by decide +kernel) (by rfl)
theorem twc_yX3_becomesLaw : Cond.code yX3_becomesLaw cX3_becomesLaw 4 (some .int) ∈ Tw := tw_3 3 (by rfl) (by rfl)
theorem twm_L_35 : Cond.methodLink RL 35 yX3_steady ∈ Tw := tw_3 4 (by decide +kernel) (by rfl)
theorem twi_yX3_steady : Cond.instanceMethod yX3_steady ∈ Tw := tw_3 5 (by decide +kernel) (by rfl)
theorem twv_yX3_steady : Cond.selects RX3 yX3_steady yX3_steady ∈ Tw := tw_3 6 (by decide +kernel) (by rfl)
theorem twc_yX3_steady : Cond.code yX3_steady cX3_steady 2 (some .int) ∈ Tw := tw_3 7 (by rfl) (by rfl)
theorem twm_L_39 : Cond.methodLink RL 39 yX3_steps ∈ Tw := tw_3 8 (by decide +kernel) (by rfl)
theorem twi_yX3_steps : Cond.instanceMethod yX3_steps ∈ Tw := tw_3 9 (by decide +kernel) (by rfl)
theorem twv_yX3_steps : Cond.selects RX3 yX3_steps yX3_steps ∈ Tw := tw_3 10 (by decide +kernel) (by rfl)
theorem twc_yX3_steps : Cond.code yX3_steps cX3_steps 2 (some .int) ∈ Tw := tw_3 11 (by rfl) (by rfl)
theorem twm_X3_105 : Cond.methodLink RX3 105 yX3_goesOnFor ∈ Tw := tw_3 12 (by decide +kernel) (by rfl)
theorem twi_yX3_goesOnFor : Cond.instanceMethod yX3_goesOnFor ∈ Tw := tw_3 14 (by decide +kernel) (by rfl)
theorem twc_yX3_goesOnFor : Cond.code yX3_goesOnFor cX3_goesOnFor 3 (some .int) ∈ Tw := tw_3 15 (by rfl) (by rfl)
theorem twm_X3_78 : Cond.methodLink RX3 78 yX3_goesOn ∈ Tw := tw_3 16 (by decide +kernel) (by rfl)
theorem twi_yX3_goesOn : Cond.instanceMethod yX3_goesOn ∈ Tw := tw_3 18 (by decide +kernel) (by rfl)
theorem twc_yX3_goesOn : Cond.code yX3_goesOn cX3_goesOn 5 none ∈ Tw := tw_3 19 (by rfl) (by rfl)
theorem twm_X3_71 : Cond.methodLink RX3 71 yX3_laysEnds ∈ Tw := tw_3 20 (by decide +kernel) (by rfl)
theorem twi_yX3_laysEnds : Cond.instanceMethod yX3_laysEnds ∈ Tw := tw_3 22 (by decide +kernel) (by rfl)
theorem twc_yX3_laysEnds : Cond.code yX3_laysEnds cX3_laysEnds 6 none ∈ Tw := tw_3 23 (by rfl) (by rfl)
theorem twm_X3_63 : Cond.methodLink RX3 63 yX3_let ∈ Tw := tw_3 24 (by decide +kernel) (by rfl)
theorem twi_yX3_let : Cond.instanceMethod yX3_let ∈ Tw := tw_3 26 (by decide +kernel) (by rfl)
theorem twc_yX3_let : Cond.code yX3_let cX3_let 10 (some .double) ∈ Tw := tw_3 27 (by rfl) (by rfl)
theorem twd_X3_67 : Cond.constantDouble RX3 67 (4666723172467343360) ∈ Tw := tw_3 28 (by decide +kernel) (by rfl)
theorem twd_X3_69 : Cond.constantDouble RX3 69 (13890095209322119168) ∈ Tw := tw_3 29 (by decide +kernel) (by rfl)
theorem twm_L_44 : Cond.methodLink RL 44 yX3_node ∈ Tw := tw_3 30 (by decide +kernel) (by rfl)
theorem twi_yX3_node : Cond.instanceMethod yX3_node ∈ Tw := tw_3 31 (by decide +kernel) (by rfl)
theorem twv_yX3_node : Cond.selects RX3 yX3_node yX3_node ∈ Tw := tw_3 32 (by decide +kernel) (by rfl)
theorem twc_yX3_node : Cond.code yX3_node cX3_node 3 (some .long) ∈ Tw := tw_3 33 (by rfl) (by rfl)
theorem twm_X3_110 : Cond.methodLink RX3 110 yX3_nodeIs ∈ Tw := tw_3 34 (by decide +kernel) (by rfl)
theorem twi_yX3_nodeIs : Cond.instanceMethod yX3_nodeIs ∈ Tw := tw_3 36 (by decide +kernel) (by rfl)
theorem twc_yX3_nodeIs : Cond.code yX3_nodeIs cX3_nodeIs 3 (some .double) ∈ Tw := tw_3 37 (by rfl) (by rfl)
theorem twm_X3_114 : Cond.methodLink RX3 114 yX3_whole ∈ Tw := tw_3 38 (by decide +kernel) (by rfl)
theorem tws_yX3_whole : Cond.static yX3_whole ∈ Tw := tw_3 39 (by decide +kernel) (by rfl)
theorem twc_yX3_whole : Cond.code yX3_whole cX3_whole 2 (some .long) ∈ Tw := tw_3 40 (by rfl) (by rfl)
theorem twd_X3_108 : Cond.constantDouble RX3 108 (4652007308841189376) ∈ Tw := tw_3 41 (by decide +kernel) (by rfl)
theorem twm_X3_118 : Cond.methodLink RX3 118 yX3_countsLong ∈ Tw := tw_3 42 (by decide +kernel) (by rfl)
theorem twi_yX3_countsLong : Cond.instanceMethod yX3_countsLong ∈ Tw := tw_3 44 (by decide +kernel) (by rfl)
theorem twc_yX3_countsLong : Cond.code yX3_countsLong cX3_countsLong 1 (some .long) ∈ Tw := tw_3 45 (by rfl) (by rfl)
theorem twl_X3_47 : Cond.constantLong RX3 47 (-9000000000000000) ∈ Tw := tw_3 46 (by decide +kernel) (by rfl)
theorem twm_L_49 : Cond.methodLink RL 49 yX3_all ∈ Tw := tw_3 47 (by decide +kernel) (by rfl)
theorem twi_yX3_all : Cond.instanceMethod yX3_all ∈ Tw := tw_3 48 (by decide +kernel) (by rfl)
theorem twv_yX3_all : Cond.selects RX3 yX3_all yX3_all ∈ Tw := tw_3 49 (by decide +kernel) (by rfl)
theorem twc_yX3_all : Cond.code yX3_all cX3_all 2 (some .long) ∈ Tw := tw_3 50 (by rfl) (by rfl)
theorem twm_X3_130 : Cond.methodLink RX3 130 yX3_allIs ∈ Tw := tw_3 51 (by decide +kernel) (by rfl)
theorem twi_yX3_allIs : Cond.instanceMethod yX3_allIs ∈ Tw := tw_3 53 (by decide +kernel) (by rfl)
theorem twc_yX3_allIs : Cond.code yX3_allIs cX3_allIs 2 (some .double) ∈ Tw := tw_3 54 (by rfl) (by rfl)
theorem twm_X3_122 : Cond.methodLink RX3 122 yX3_kept ∈ Tw := tw_3 55 (by decide +kernel) (by rfl)
theorem twi_yX3_kept : Cond.instanceMethod yX3_kept ∈ Tw := tw_3 57 (by decide +kernel) (by rfl)
theorem twc_yX3_kept : Cond.code yX3_kept cX3_kept 4 (some .double) ∈ Tw := tw_3 58 (by rfl) (by rfl)
theorem twm_X3_126 : Cond.methodLink RX3 126 yX3_farthest ∈ Tw := tw_3 59 (by decide +kernel) (by rfl)
theorem twi_yX3_farthest : Cond.instanceMethod yX3_farthest ∈ Tw := tw_3 61 (by decide +kernel) (by rfl)
theorem twc_yX3_farthest : Cond.code yX3_farthest cX3_farthest 8 (some .double) ∈ Tw := tw_3 62 (by rfl) (by rfl)
theorem twm_L_53 : Cond.methodLink RL 53 yX3_bits ∈ Tw := tw_3 63 (by decide +kernel) (by rfl)
theorem twi_yX3_bits : Cond.instanceMethod yX3_bits ∈ Tw := tw_3 64 (by decide +kernel) (by rfl)
theorem twv_yX3_bits : Cond.selects RX3 yX3_bits yX3_bits ∈ Tw := tw_3 65 (by decide +kernel) (by rfl)
theorem twc_yX3_bits : Cond.code yX3_bits cX3_bits 2 (some .long) ∈ Tw := tw_3 66 (by rfl) (by rfl)
theorem twm_X3_134 : Cond.methodLink RX3 134 yJxe99ae_doubleToLongBits_ccdee ∈ Tw := tw_3 67 (by decide +kernel) (by rfl)
theorem tws_yJxe99ae_doubleToLongBits_ccdee : Cond.static yJxe99ae_doubleToLongBits_ccdee ∈ Tw := tw_3 68 (by decide +kernel) (by rfl)
theorem twc_yJxe99ae_doubleToLongBits_ccdee : Cond.code yJxe99ae_doubleToLongBits_ccdee cJxe99ae_doubleToLongBits_ccdee 2 (some .long) ∈ Tw := tw_3 69 (by rfl) (by rfl)
theorem twm_Jxe99ae_122 : Cond.methodLink RJxe99ae 122 yJxe99ae_isNaN_b9ae7 ∈ Tw := tw_3 70 (by decide +kernel) (by rfl)
theorem tws_yJxe99ae_isNaN_b9ae7 : Cond.static yJxe99ae_isNaN_b9ae7 ∈ Tw := tw_3 71 (by decide +kernel) (by rfl)
theorem twc_yJxe99ae_isNaN_b9ae7 : Cond.code yJxe99ae_isNaN_b9ae7 cJxe99ae_isNaN_b9ae7 2 (some .boolean) ∈ Tw := tw_3 72 (by rfl) (by rfl)
theorem twm_Jxe99ae_134 : Cond.methodLink RJxe99ae 134 y_raw ∈ Tw := tw_3 73 (by decide +kernel) (by rfl)
theorem tws_y_raw : Cond.static y_raw ∈ Tw := tw_3 74 (by decide +kernel) (by rfl)
theorem twn_y_raw : Cond.native y_raw ∈ Tw := tw_3 75 (by decide +kernel) (by rfl)
theorem twl_Jxe99ae_137 : Cond.constantLong RJxe99ae 137 (9221120237041090560) ∈ Tw := tw_3 76 (by decide +kernel) (by rfl)
theorem twm_L_58 : Cond.methodLink RL 58 yX3_lets ∈ Tw := tw_3 77 (by decide +kernel) (by rfl)
theorem twi_yX3_lets : Cond.instanceMethod yX3_lets ∈ Tw := tw_3 78 (by decide +kernel) (by rfl)
theorem twv_yX3_lets : Cond.selects RX3 yX3_lets yX3_lets ∈ Tw := tw_3 79 (by decide +kernel) (by rfl)
theorem twc_yX3_lets : Cond.code yX3_lets cX3_lets 4 (some .long) ∈ Tw := tw_3 80 (by rfl) (by rfl)
theorem twm_L_62 : Cond.methodLink RL 62 yX3_trial ∈ Tw := tw_3 81 (by decide +kernel) (by rfl)
theorem twi_yX3_trial : Cond.instanceMethod yX3_trial ∈ Tw := tw_3 82 (by decide +kernel) (by rfl)
theorem twv_yX3_trial : Cond.selects RX3 yX3_trial yX3_trial ∈ Tw := tw_3 83 (by decide +kernel) (by rfl)
theorem twc_yX3_trial : Cond.code yX3_trial cX3_trial 4 (some .long) ∈ Tw := tw_3 84 (by rfl) (by rfl)
theorem twm_X3_145 : Cond.methodLink RX3 145 yX3_tried ∈ Tw := tw_3 85 (by decide +kernel) (by rfl)
theorem twi_yX3_tried : Cond.instanceMethod yX3_tried ∈ Tw := tw_3 87 (by decide +kernel) (by rfl)
theorem twc_yX3_tried : Cond.code yX3_tried cX3_tried 6 (some .double) ∈ Tw := tw_3 88 (by rfl) (by rfl)
theorem twm_X3_139 : Cond.methodLink RX3 139 yX3_laysAside ∈ Tw := tw_3 89 (by decide +kernel) (by rfl)
theorem twi_yX3_laysAside : Cond.instanceMethod yX3_laysAside ∈ Tw := tw_3 91 (by decide +kernel) (by rfl)
theorem twc_yX3_laysAside : Cond.code yX3_laysAside cX3_laysAside 2 none ∈ Tw := tw_3 92 (by rfl) (by rfl)
theorem twm_X3_142 : Cond.methodLink RX3 142 yX3_becomesAside ∈ Tw := tw_3 93 (by decide +kernel) (by rfl)
theorem twi_yX3_becomesAside : Cond.instanceMethod yX3_becomesAside ∈ Tw := tw_3 95 (by decide +kernel) (by rfl)
theorem twc_yX3_becomesAside : Cond.code yX3_becomesAside cX3_becomesAside 2 none ∈ Tw := tw_3 96 (by rfl) (by rfl)
theorem twm_L_67 : Cond.methodLink RL 67 yX3_soonest ∈ Tw := tw_3 97 (by decide +kernel) (by rfl)
theorem twi_yX3_soonest : Cond.instanceMethod yX3_soonest ∈ Tw := tw_3 98 (by decide +kernel) (by rfl)
theorem twv_yX3_soonest : Cond.selects RX3 yX3_soonest yX3_soonest ∈ Tw := tw_3 99 (by decide +kernel) (by rfl)
theorem twc_yX3_soonest : Cond.code yX3_soonest cX3_soonest 4 (some .int) ∈ Tw := tw_3 100 (by rfl) (by rfl)
theorem twm_X3_148 : Cond.methodLink RX3 148 yX3_soonestOf ∈ Tw := tw_3 101 (by decide +kernel) (by rfl)
theorem twi_yX3_soonestOf : Cond.instanceMethod yX3_soonestOf ∈ Tw := tw_3 103 (by decide +kernel) (by rfl)
theorem twc_yX3_soonestOf : Cond.code yX3_soonestOf cX3_soonestOf 5 (some .int) ∈ Tw := tw_3 104 (by rfl) (by rfl)
theorem twm_L_71 : Cond.methodLink RL 71 yX3_best ∈ Tw := tw_3 105 (by decide +kernel) (by rfl)
theorem twi_yX3_best : Cond.instanceMethod yX3_best ∈ Tw := tw_3 106 (by decide +kernel) (by rfl)
theorem twv_yX3_best : Cond.selects RX3 yX3_best yX3_best ∈ Tw := tw_3 107 (by decide +kernel) (by rfl)
theorem twc_yX3_best : Cond.code yX3_best cX3_best 8 (some .int) ∈ Tw := tw_3 108 (by rfl) (by rfl)
theorem twm_L_75 : Cond.methodLink RL 75 yX3_type ∈ Tw := tw_3 109 (by decide +kernel) (by rfl)
theorem twi_yX3_type : Cond.instanceMethod yX3_type ∈ Tw := tw_3 110 (by decide +kernel) (by rfl)
theorem twv_yX3_type : Cond.selects RX3 yX3_type yX3_type ∈ Tw := tw_3 111 (by decide +kernel) (by rfl)
theorem twc_yX3_type : Cond.code yX3_type cX3_type 2 (some .int) ∈ Tw := tw_3 112 (by rfl) (by rfl)
theorem twm_L_79 : Cond.methodLink RL 79 yX3_clear ∈ Tw := tw_3 113 (by decide +kernel) (by rfl)
theorem twi_yX3_clear : Cond.instanceMethod yX3_clear ∈ Tw := tw_3 114 (by decide +kernel) (by rfl)
theorem twv_yX3_clear : Cond.selects RX3 yX3_clear yX3_clear ∈ Tw := tw_3 115 (by decide +kernel) (by rfl)
theorem twc_yX3_clear : Cond.code yX3_clear cX3_clear 2 (some .int) ∈ Tw := tw_3 116 (by rfl) (by rfl)
theorem twm_L_83 : Cond.methodLink RL 83 yX3_reads ∈ Tw := tw_3 117 (by decide +kernel) (by rfl)
theorem twi_yX3_reads : Cond.instanceMethod yX3_reads ∈ Tw := tw_3 118 (by decide +kernel) (by rfl)
theorem twv_yX3_reads : Cond.selects RX3 yX3_reads yX3_reads ∈ Tw := tw_3 119 (by decide +kernel) (by rfl)
theorem twc_yX3_reads : Cond.code yX3_reads cX3_reads 2 (some .int) ∈ Tw := tw_3 120 (by rfl) (by rfl)
theorem twm_X3_179 : Cond.methodLink RX3 179 yX3_isRead ∈ Tw := tw_3 121 (by decide +kernel) (by rfl)
theorem twi_yX3_isRead : Cond.instanceMethod yX3_isRead ∈ Tw := tw_3 123 (by decide +kernel) (by rfl)
theorem twc_yX3_isRead : Cond.code yX3_isRead cX3_isRead 1 (some .boolean) ∈ Tw := tw_3 124 (by rfl) (by rfl)
theorem twm_X3_162 : Cond.methodLink RX3 162 yX3_blanks ∈ Tw := tw_3 125 (by decide +kernel) (by rfl)
theorem twi_yX3_blanks : Cond.instanceMethod yX3_blanks ∈ Tw := tw_3 127 (by decide +kernel) (by rfl)
theorem twc_yX3_blanks : Cond.code yX3_blanks cX3_blanks 1 none ∈ Tw := tw_3 128 (by rfl) (by rfl)
theorem twm_X3_158 : Cond.methodLink RX3 158 yX3_here ∈ Tw := tw_3 129 (by decide +kernel) (by rfl)
theorem twi_yX3_here : Cond.instanceMethod yX3_here ∈ Tw := tw_3 131 (by decide +kernel) (by rfl)
theorem twc_yX3_here : Cond.code yX3_here cX3_here 1 (some .int) ∈ Tw := tw_3 132 (by rfl) (by rfl)
theorem twm_X3_175 : Cond.methodLink RX3 175 yX3_passesOrder ∈ Tw := tw_3 133 (by decide +kernel) (by rfl)
theorem twi_yX3_passesOrder : Cond.instanceMethod yX3_passesOrder ∈ Tw := tw_3 135 (by decide +kernel) (by rfl)
theorem twc_yX3_passesOrder : Cond.code yX3_passesOrder cX3_passesOrder 2 (some .boolean) ∈ Tw := tw_3 136 (by rfl) (by rfl)
theorem twm_X3_165 : Cond.methodLink RX3 165 yX3_isOrder ∈ Tw := tw_3 137 (by decide +kernel) (by rfl)
theorem tws_yX3_isOrder : Cond.static yX3_isOrder ∈ Tw := tw_3 138 (by decide +kernel) (by rfl)
theorem twc_yX3_isOrder : Cond.code yX3_isOrder cX3_isOrder 1 (some .boolean) ∈ Tw := tw_3 139 (by rfl) (by rfl)
theorem twm_X3_171 : Cond.methodLink RX3 171 yX3_passesNumber ∈ Tw := tw_3 140 (by decide +kernel) (by rfl)
theorem twi_yX3_passesNumber : Cond.instanceMethod yX3_passesNumber ∈ Tw := tw_3 142 (by decide +kernel) (by rfl)
theorem twc_yX3_passesNumber : Cond.code yX3_passesNumber cX3_passesNumber 6 (some .boolean) ∈ Tw := tw_3 143 (by rfl) (by rfl)
theorem twm_X3_182 : Cond.methodLink RX3 182 yX3_isDone ∈ Tw := tw_3 144 (by decide +kernel) (by rfl)
theorem twi_yX3_isDone : Cond.instanceMethod yX3_isDone ∈ Tw := tw_3 146 (by decide +kernel) (by rfl)
theorem twc_yX3_isDone : Cond.code yX3_isDone cX3_isDone 8 (some .boolean) ∈ Tw := tw_3 147 (by rfl) (by rfl)
theorem twm_X3_185 : Cond.methodLink RX3 185 yX3_swapsAside ∈ Tw := tw_3 148 (by decide +kernel) (by rfl)
theorem twi_yX3_swapsAside : Cond.instanceMethod yX3_swapsAside ∈ Tw := tw_3 150 (by decide +kernel) (by rfl)
theorem twc_yX3_swapsAside : Cond.code yX3_swapsAside cX3_swapsAside 4 none ∈ Tw := tw_3 151 (by rfl) (by rfl)
theorem twm_L_91 : Cond.methodLink RL 91 yX3_told ∈ Tw := tw_3 152 (by decide +kernel) (by rfl)
theorem twi_yX3_told : Cond.instanceMethod yX3_told ∈ Tw := tw_3 153 (by decide +kernel) (by rfl)
theorem twv_yX3_told : Cond.selects RX3 yX3_told yX3_told ∈ Tw := tw_3 154 (by decide +kernel) (by rfl)
theorem twc_yX3_told : Cond.code yX3_told cX3_told 2 (some .int) ∈ Tw := tw_3 155 (by rfl) (by rfl)
theorem twm_X3_188 : Cond.methodLink RX3 188 yX3_toldIs ∈ Tw := tw_3 156 (by decide +kernel) (by rfl)
theorem twi_yX3_toldIs : Cond.instanceMethod yX3_toldIs ∈ Tw := tw_3 158 (by decide +kernel) (by rfl)
theorem twc_yX3_toldIs : Cond.code yX3_toldIs cX3_toldIs 2 (some .int) ∈ Tw := tw_3 159 (by rfl) (by rfl)
theorem twm_L_96 : Cond.methodLink RL 96 yX3_digest ∈ Tw := tw_3 160 (by decide +kernel) (by rfl)
theorem twi_yX3_digest : Cond.instanceMethod yX3_digest ∈ Tw := tw_3 161 (by decide +kernel) (by rfl)
theorem twv_yX3_digest : Cond.selects RX3 yX3_digest yX3_digest ∈ Tw := tw_3 162 (by decide +kernel) (by rfl)
theorem twc_yX3_digest : Cond.code yX3_digest cX3_digest 3 (some .long) ∈ Tw := tw_3 163 (by rfl) (by rfl)
theorem twl_X3_197 : Cond.constantLong RX3 197 (2549) ∈ Tw := tw_3 164 (by decide +kernel) (by rfl)
theorem twm_X3_199 : Cond.methodLink RX3 199 yX3_mix ∈ Tw := tw_3 165 (by decide +kernel) (by rfl)
theorem twi_yX3_mix : Cond.instanceMethod yX3_mix ∈ Tw := tw_3 167 (by decide +kernel) (by rfl)
theorem twc_yX3_mix : Cond.code yX3_mix cX3_mix 3 none ∈ Tw := tw_3 168 (by rfl) (by rfl)
theorem twl_X3_191 : Cond.constantLong RX3 191 (31) ∈ Tw := tw_3 169 (by decide +kernel) (by rfl)
theorem twv_yX2_change : Cond.selects RX2 yX2_change yX2_change ∈ Tw := tw_s (n := 7) 0 (by rfl) (by rfl)
theorem twv_yX2_refuse : Cond.selects RX2 yX2_refuse yX2_refuse ∈ Tw := tw_s (n := 7) 1 (by rfl) (by rfl)
theorem twv_yX2_keep : Cond.selects RX2 yX2_keep yX2_keep ∈ Tw := tw_s (n := 7) 2 (by rfl) (by rfl)
theorem twv_yX2_hasTimeFor : Cond.selects RX2 yX2_hasTimeFor yX2_hasTimeFor ∈ Tw := tw_s (n := 7) 3 (by rfl) (by rfl)
theorem twv_yX0_shift : Cond.selects RX0 yX0_shift yX0_shift ∈ Tw := tw_s (n := 8) 4 (by rfl) (by rfl)
theorem twv_yX0_turnLeft : Cond.selects RX0 yX0_turnLeft yX0_turnLeft ∈ Tw := tw_s (n := 8) 5 (by rfl) (by rfl)
theorem twv_yX0_turnRight : Cond.selects RX0 yX0_turnRight yX0_turnRight ∈ Tw := tw_s (n := 8) 6 (by rfl) (by rfl)
theorem twv_yX0_fillTank : Cond.selects RX0 yX0_fillTank yX0_fillTank ∈ Tw := tw_s (n := 8) 7 (by rfl) (by rfl)
theorem twv_yX0_widenEnvelopes : Cond.selects RX0 yX0_widenEnvelopes yX0_widenEnvelopes ∈ Tw := tw_s (n := 8) 8 (by rfl) (by rfl)
theorem twv_yX2_refuseLong : Cond.selects RX2 yX2_refuseLong yX2_refuseLong ∈ Tw := tw_s (n := 7) 9 (by rfl) (by rfl)
theorem twv_yX2_staysWithin : Cond.selects RX2 yX2_staysWithin yX2_staysWithin ∈ Tw := tw_s (n := 7) 10 (by rfl) (by rfl)
theorem twv_yX1_skipBlanks : Cond.selects RX1 yX1_skipBlanks yX1_skipBlanks ∈ Tw := tw_s (n := 8) 11 (by rfl) (by rfl)
theorem twv_yX1_byteHere : Cond.selects RX1 yX1_byteHere yX1_byteHere ∈ Tw := tw_s (n := 8) 12 (by rfl) (by rfl)
theorem twv_yX1_takeNumbers : Cond.selects RX1 yX1_takeNumbers yX1_takeNumbers ∈ Tw := tw_s (n := 8) 13 (by rfl) (by rfl)
theorem twv_yX1_takeNumber : Cond.selects RX1 yX1_takeNumber yX1_takeNumber ∈ Tw := tw_s (n := 8) 14 (by rfl) (by rfl)
theorem twv_yX2_obey : Cond.selects RX2 yX2_obey yX2_obey ∈ Tw := tw_s (n := 7) 15 (by rfl) (by rfl)
theorem twv_yX3_laysSteady : Cond.selects RX3 yX3_laysSteady yX3_laysSteady ∈ Tw := tw_s (n := 16) 16 (by rfl) (by rfl)
theorem twv_yX3_counts : Cond.selects RX3 yX3_counts yX3_counts ∈ Tw := tw_s (n := 16) 17 (by rfl) (by rfl)
theorem twv_yX3_becomesPast : Cond.selects RX3 yX3_becomesPast yX3_becomesPast ∈ Tw := tw_s (n := 16) 18 (by rfl) (by rfl)
theorem twv_yX3_mayPipe : Cond.selects RX3 yX3_mayPipe yX3_mayPipe ∈ Tw := tw_s (n := 16) 19 (by rfl) (by rfl)
theorem twv_yX3_leaves : Cond.selects RX3 yX3_leaves yX3_leaves ∈ Tw := tw_s (n := 16) 20 (by rfl) (by rfl)
theorem twv_yX3_becomes : Cond.selects RX3 yX3_becomes yX3_becomes ∈ Tw := tw_s (n := 16) 21 (by rfl) (by rfl)
theorem twv_yX3_maySet : Cond.selects RX3 yX3_maySet yX3_maySet ∈ Tw := tw_s (n := 16) 22 (by rfl) (by rfl)
theorem twv_yX3_mayEnd : Cond.selects RX3 yX3_mayEnd yX3_mayEnd ∈ Tw := tw_s (n := 16) 23 (by rfl) (by rfl)
theorem twv_yX3_isLaw : Cond.selects RX3 yX3_isLaw yX3_isLaw ∈ Tw := tw_s (n := 16) 24 (by rfl) (by rfl)
theorem twv_yX3_becomesLaw : Cond.selects RX3 yX3_becomesLaw yX3_becomesLaw ∈ Tw := tw_s (n := 16) 25 (by rfl) (by rfl)
theorem twv_yX3_goesOnFor : Cond.selects RX3 yX3_goesOnFor yX3_goesOnFor ∈ Tw := tw_s (n := 16) 26 (by rfl) (by rfl)
theorem twv_yX3_goesOn : Cond.selects RX3 yX3_goesOn yX3_goesOn ∈ Tw := tw_s (n := 16) 27 (by rfl) (by rfl)
theorem twv_yX3_laysEnds : Cond.selects RX3 yX3_laysEnds yX3_laysEnds ∈ Tw := tw_s (n := 16) 28 (by rfl) (by rfl)
theorem twv_yX3_let : Cond.selects RX3 yX3_let yX3_let ∈ Tw := tw_s (n := 16) 29 (by rfl) (by rfl)
theorem twv_yX3_nodeIs : Cond.selects RX3 yX3_nodeIs yX3_nodeIs ∈ Tw := tw_s (n := 16) 30 (by rfl) (by rfl)
theorem twv_yX3_countsLong : Cond.selects RX3 yX3_countsLong yX3_countsLong ∈ Tw := tw_s (n := 16) 31 (by rfl) (by rfl)
theorem twv_yX3_allIs : Cond.selects RX3 yX3_allIs yX3_allIs ∈ Tw := tw_s (n := 16) 32 (by rfl) (by rfl)
theorem twv_yX3_kept : Cond.selects RX3 yX3_kept yX3_kept ∈ Tw := tw_s (n := 16) 33 (by rfl) (by rfl)
theorem twv_yX3_farthest : Cond.selects RX3 yX3_farthest yX3_farthest ∈ Tw := tw_s (n := 16) 34 (by rfl) (by rfl)
theorem twv_yX3_tried : Cond.selects RX3 yX3_tried yX3_tried ∈ Tw := tw_s (n := 16) 35 (by rfl) (by rfl)
theorem twv_yX3_laysAside : Cond.selects RX3 yX3_laysAside yX3_laysAside ∈ Tw := tw_s (n := 16) 36 (by rfl) (by rfl)
theorem twv_yX3_becomesAside : Cond.selects RX3 yX3_becomesAside yX3_becomesAside ∈ Tw := tw_s (n := 16) 37 (by rfl) (by rfl)
theorem twv_yX3_soonestOf : Cond.selects RX3 yX3_soonestOf yX3_soonestOf ∈ Tw := tw_s (n := 16) 38 (by rfl) (by rfl)
theorem twv_yX3_isRead : Cond.selects RX3 yX3_isRead yX3_isRead ∈ Tw := tw_s (n := 16) 39 (by rfl) (by rfl)
theorem twv_yX3_blanks : Cond.selects RX3 yX3_blanks yX3_blanks ∈ Tw := tw_s (n := 16) 40 (by rfl) (by rfl)
theorem twv_yX3_here : Cond.selects RX3 yX3_here yX3_here ∈ Tw := tw_s (n := 16) 41 (by rfl) (by rfl)
theorem twv_yX3_passesOrder : Cond.selects RX3 yX3_passesOrder yX3_passesOrder ∈ Tw := tw_s (n := 16) 42 (by rfl) (by rfl)
theorem twv_yX3_passesNumber : Cond.selects RX3 yX3_passesNumber yX3_passesNumber ∈ Tw := tw_s (n := 16) 43 (by rfl) (by rfl)
theorem twv_yX3_isDone : Cond.selects RX3 yX3_isDone yX3_isDone ∈ Tw := tw_s (n := 16) 44 (by rfl) (by rfl)
theorem twv_yX3_swapsAside : Cond.selects RX3 yX3_swapsAside yX3_swapsAside ∈ Tw := tw_s (n := 16) 45 (by rfl) (by rfl)
theorem twv_yX3_toldIs : Cond.selects RX3 yX3_toldIs yX3_toldIs ∈ Tw := tw_s (n := 16) 46 (by rfl) (by rfl)
theorem twv_yX3_mix : Cond.selects RX3 yX3_mix yX3_mix ∈ Tw := tw_s (n := 16) 47 (by rfl) (by rfl)
theorem tw_X0 : ∀ w ∈ wsX00, w ∈ Tw := by decide +kernel
theorem tw_X1 : ∀ w ∈ wsX10, w ∈ Tw := by decide +kernel
theorem tw_X2 : ∀ w ∈ wsX20, w ∈ Tw := by decide +kernel
theorem tw_X3 : ∀ w ∈ wsX30, w ∈ Tw := by decide +kernel
end
section
theorem dX0_init_0 : decode cX0_init 0 = .ok (.aload_n 0, 1) := by decide +kernel
theorem dX0_init_1 : decode cX0_init 1 = .ok (.invokespecial 1, 3) := by decide +kernel
theorem dX0_init_4 : decode cX0_init 4 = .ok (.aload_n 0, 1) := by decide +kernel
theorem dX0_init_5 : decode cX0_init 5 = .ok (.bipush 9, 2) := by decide +kernel
theorem dX0_init_7 : decode cX0_init 7 = .ok (.newarray .int, 2) := by decide +kernel
theorem dX0_init_9 : decode cX0_init 9 = .ok (.dup, 1) := by decide +kernel
theorem dX0_init_10 : decode cX0_init 10 = .ok (.iconst 0, 1) := by decide +kernel
theorem dX0_init_11 : decode cX0_init 11 = .ok (.iconst 4, 1) := by decide +kernel
theorem dX0_init_12 : decode cX0_init 12 = .ok (.iastore, 1) := by decide +kernel
theorem dX0_init_13 : decode cX0_init 13 = .ok (.dup, 1) := by decide +kernel
theorem dX0_init_14 : decode cX0_init 14 = .ok (.iconst 1, 1) := by decide +kernel
theorem dX0_init_15 : decode cX0_init 15 = .ok (.bipush 100, 2) := by decide +kernel
theorem dX0_init_17 : decode cX0_init 17 = .ok (.iastore, 1) := by decide +kernel
theorem dX0_init_18 : decode cX0_init 18 = .ok (.dup, 1) := by decide +kernel
theorem dX0_init_19 : decode cX0_init 19 = .ok (.iconst 2, 1) := by decide +kernel
theorem dX0_init_20 : decode cX0_init 20 = .ok (.bipush 20, 2) := by decide +kernel
theorem dX0_init_22 : decode cX0_init 22 = .ok (.iastore, 1) := by decide +kernel
theorem dX0_init_23 : decode cX0_init 23 = .ok (.dup, 1) := by decide +kernel
theorem dX0_init_24 : decode cX0_init 24 = .ok (.iconst 3, 1) := by decide +kernel
theorem dX0_init_25 : decode cX0_init 25 = .ok (.iconst 5, 1) := by decide +kernel
theorem dX0_init_26 : decode cX0_init 26 = .ok (.iastore, 1) := by decide +kernel
theorem dX0_init_27 : decode cX0_init 27 = .ok (.dup, 1) := by decide +kernel
theorem dX0_init_28 : decode cX0_init 28 = .ok (.iconst 4, 1) := by decide +kernel
theorem dX0_init_29 : decode cX0_init 29 = .ok (.iconst 0, 1) := by decide +kernel
theorem dX0_init_30 : decode cX0_init 30 = .ok (.iastore, 1) := by decide +kernel
theorem dX0_init_31 : decode cX0_init 31 = .ok (.dup, 1) := by decide +kernel
theorem dX0_init_32 : decode cX0_init 32 = .ok (.iconst 5, 1) := by decide +kernel
theorem dX0_init_33 : decode cX0_init 33 = .ok (.iconst 0, 1) := by decide +kernel
theorem dX0_init_34 : decode cX0_init 34 = .ok (.iastore, 1) := by decide +kernel
theorem dX0_init_35 : decode cX0_init 35 = .ok (.dup, 1) := by decide +kernel
theorem dX0_init_36 : decode cX0_init 36 = .ok (.bipush 6, 2) := by decide +kernel
theorem dX0_init_38 : decode cX0_init 38 = .ok (.iconst 0, 1) := by decide +kernel
theorem dX0_init_39 : decode cX0_init 39 = .ok (.iastore, 1) := by decide +kernel
theorem dX0_init_40 : decode cX0_init 40 = .ok (.dup, 1) := by decide +kernel
theorem dX0_init_41 : decode cX0_init 41 = .ok (.bipush 7, 2) := by decide +kernel
theorem dX0_init_43 : decode cX0_init 43 = .ok (.bipush 10, 2) := by decide +kernel
theorem dX0_init_45 : decode cX0_init 45 = .ok (.iastore, 1) := by decide +kernel
theorem dX0_init_46 : decode cX0_init 46 = .ok (.dup, 1) := by decide +kernel
theorem dX0_init_47 : decode cX0_init 47 = .ok (.bipush 8, 2) := by decide +kernel
theorem dX0_init_49 : decode cX0_init 49 = .ok (.iconst 0, 1) := by decide +kernel
theorem dX0_init_50 : decode cX0_init 50 = .ok (.iastore, 1) := by decide +kernel
theorem dX0_init_51 : decode cX0_init 51 = .ok (.putfield 7, 3) := by decide +kernel
theorem dX0_init_54 : decode cX0_init 54 = .ok (.aload_n 0, 1) := by decide +kernel
theorem dX0_init_55 : decode cX0_init 55 = .ok (.bipush 11, 2) := by decide +kernel
theorem dX0_init_57 : decode cX0_init 57 = .ok (.newarray .double, 2) := by decide +kernel
theorem dX0_init_59 : decode cX0_init 59 = .ok (.putfield 13, 3) := by decide +kernel
theorem dX0_init_62 : decode cX0_init 62 = .ok (.aload_n 0, 1) := by decide +kernel
theorem dX0_init_63 : decode cX0_init 63 = .ok (.bipush 11, 2) := by decide +kernel
theorem dX0_init_65 : decode cX0_init 65 = .ok (.newarray .double, 2) := by decide +kernel
theorem dX0_init_67 : decode cX0_init 67 = .ok (.putfield 17, 3) := by decide +kernel
theorem dX0_init_70 : decode cX0_init 70 = .ok (.aload_n 0, 1) := by decide +kernel
theorem dX0_init_71 : decode cX0_init 71 = .ok (.bipush 11, 2) := by decide +kernel
theorem dX0_init_73 : decode cX0_init 73 = .ok (.newarray .double, 2) := by decide +kernel
theorem dX0_init_75 : decode cX0_init 75 = .ok (.putfield 20, 3) := by decide +kernel
theorem dX0_init_78 : decode cX0_init 78 = .ok (.aload_n 0, 1) := by decide +kernel
theorem dX0_init_79 : decode cX0_init 79 = .ok (.bipush 11, 2) := by decide +kernel
theorem dX0_init_81 : decode cX0_init 81 = .ok (.newarray .double, 2) := by decide +kernel
theorem dX0_init_83 : decode cX0_init 83 = .ok (.putfield 23, 3) := by decide +kernel
theorem dX0_init_86 : decode cX0_init 86 = .ok (.aload_n 0, 1) := by decide +kernel
theorem dX0_init_87 : decode cX0_init 87 = .ok (.invokevirtual 26, 3) := by decide +kernel
theorem dX0_init_90 : decode cX0_init 90 = .ok (.return_, 1) := by decide +kernel
theorem dX0_fits_0 : decode cX0_fits 0 = .ok (.iload_n 0, 1) := by decide +kernel
theorem dX0_fits_1 : decode cX0_fits 1 = .ok (.ifCond .lt 33, 3) := by decide +kernel
theorem dX0_fits_4 : decode cX0_fits 4 = .ok (.iload_n 0, 1) := by decide +kernel
theorem dX0_fits_5 : decode cX0_fits 5 = .ok (.getstatic 29, 3) := by decide +kernel
theorem dX0_fits_8 : decode cX0_fits 8 = .ok (.arraylength, 1) := by decide +kernel
theorem dX0_fits_9 : decode cX0_fits 9 = .ok (.if_icmp .ge 25, 3) := by decide +kernel
theorem dX0_fits_12 : decode cX0_fits 12 = .ok (.iload_n 1, 1) := by decide +kernel
theorem dX0_fits_13 : decode cX0_fits 13 = .ok (.getstatic 29, 3) := by decide +kernel
theorem dX0_fits_16 : decode cX0_fits 16 = .ok (.iload_n 0, 1) := by decide +kernel
theorem dX0_fits_17 : decode cX0_fits 17 = .ok (.iaload, 1) := by decide +kernel
theorem dX0_fits_18 : decode cX0_fits 18 = .ok (.if_icmp .lt 16, 3) := by decide +kernel
theorem dX0_fits_21 : decode cX0_fits 21 = .ok (.iload_n 1, 1) := by decide +kernel
theorem dX0_fits_22 : decode cX0_fits 22 = .ok (.getstatic 32, 3) := by decide +kernel
theorem dX0_fits_25 : decode cX0_fits 25 = .ok (.iload_n 0, 1) := by decide +kernel
theorem dX0_fits_26 : decode cX0_fits 26 = .ok (.iaload, 1) := by decide +kernel
theorem dX0_fits_27 : decode cX0_fits 27 = .ok (.if_icmp .gt 7, 3) := by decide +kernel
theorem dX0_fits_30 : decode cX0_fits 30 = .ok (.iconst 1, 1) := by decide +kernel
theorem dX0_fits_31 : decode cX0_fits 31 = .ok (.goto 4, 3) := by decide +kernel
theorem dX0_fits_34 : decode cX0_fits 34 = .ok (.iconst 0, 1) := by decide +kernel
theorem dX0_fits_35 : decode cX0_fits 35 = .ok (.ireturn, 1) := by decide +kernel
theorem dX0_isLaw_0 : decode cX0_isLaw 0 = .ok (.bipush 6, 2) := by decide +kernel
theorem dX0_isLaw_2 : decode cX0_isLaw 2 = .ok (.iload_n 0, 1) := by decide +kernel
theorem dX0_isLaw_3 : decode cX0_isLaw 3 = .ok (.invokestatic 35, 3) := by decide +kernel
theorem dX0_isLaw_6 : decode cX0_isLaw 6 = .ok (.ifCond .eq 16, 3) := by decide +kernel
theorem dX0_isLaw_9 : decode cX0_isLaw 9 = .ok (.bipush 7, 2) := by decide +kernel
theorem dX0_isLaw_11 : decode cX0_isLaw 11 = .ok (.iload_n 1, 1) := by decide +kernel
theorem dX0_isLaw_12 : decode cX0_isLaw 12 = .ok (.invokestatic 35, 3) := by decide +kernel
theorem dX0_isLaw_15 : decode cX0_isLaw 15 = .ok (.ifCond .eq 7, 3) := by decide +kernel
theorem dX0_isLaw_18 : decode cX0_isLaw 18 = .ok (.iconst 1, 1) := by decide +kernel
theorem dX0_isLaw_19 : decode cX0_isLaw 19 = .ok (.goto 4, 3) := by decide +kernel
theorem dX0_isLaw_22 : decode cX0_isLaw 22 = .ok (.iconst 0, 1) := by decide +kernel
theorem dX0_isLaw_23 : decode cX0_isLaw 23 = .ok (.ireturn, 1) := by decide +kernel
theorem dX0_letBy_0 : decode cX0_letBy 0 = .ok (.iload_n 1, 1) := by decide +kernel
theorem dX0_letBy_1 : decode cX0_letBy 1 = .ok (.i2d, 1) := by decide +kernel
theorem dX0_letBy_2 : decode cX0_letBy 2 = .ok (.dstore 4, 2) := by decide +kernel
theorem dX0_letBy_4 : decode cX0_letBy 4 = .ok (.iload_n 2, 1) := by decide +kernel
theorem dX0_letBy_5 : decode cX0_letBy 5 = .ok (.i2d, 1) := by decide +kernel
theorem dX0_letBy_6 : decode cX0_letBy 6 = .ok (.dstore 6, 2) := by decide +kernel
theorem dX0_letBy_8 : decode cX0_letBy 8 = .ok (.iload_n 3, 1) := by decide +kernel
theorem dX0_letBy_9 : decode cX0_letBy 9 = .ok (.i2d, 1) := by decide +kernel
theorem dX0_letBy_10 : decode cX0_letBy 10 = .ok (.dstore 8, 2) := by decide +kernel
theorem dX0_letBy_12 : decode cX0_letBy 12 = .ok (.iload_n 3, 1) := by decide +kernel
theorem dX0_letBy_13 : decode cX0_letBy 13 = .ok (.iload_n 2, 1) := by decide +kernel
theorem dX0_letBy_14 : decode cX0_letBy 14 = .ok (.if_icmp .ge 7, 3) := by decide +kernel
theorem dX0_letBy_17 : decode cX0_letBy 17 = .ok (.iconst 1, 1) := by decide +kernel
theorem dX0_letBy_18 : decode cX0_letBy 18 = .ok (.goto 4, 3) := by decide +kernel
theorem dX0_letBy_21 : decode cX0_letBy 21 = .ok (.iconst 0, 1) := by decide +kernel
theorem dX0_letBy_22 : decode cX0_letBy 22 = .ok (.istore 10, 2) := by decide +kernel
theorem dX0_letBy_24 : decode cX0_letBy 24 = .ok (.iload_n 0, 1) := by decide +kernel
theorem dX0_letBy_25 : decode cX0_letBy 25 = .ok (.tableswitch 138 1 5 #[35, 47, 68, 98, 114], 35) := by decide +kernel
theorem dX0_letBy_60 : decode cX0_letBy 60 = .ok (.iload 10, 2) := by decide +kernel
theorem dX0_letBy_62 : decode cX0_letBy 62 = .ok (.ifCond .eq 8, 3) := by decide +kernel
theorem dX0_letBy_65 : decode cX0_letBy 65 = .ok (.dload 4, 2) := by decide +kernel
theorem dX0_letBy_67 : decode cX0_letBy 67 = .ok (.goto 4, 3) := by decide +kernel
theorem dX0_letBy_70 : decode cX0_letBy 70 = .ok (.dconst 0, 1) := by decide +kernel
theorem dX0_letBy_71 : decode cX0_letBy 71 = .ok (.dreturn, 1) := by decide +kernel
theorem dX0_letBy_72 : decode cX0_letBy 72 = .ok (.iload 10, 2) := by decide +kernel
theorem dX0_letBy_74 : decode cX0_letBy 74 = .ok (.ifCond .eq 17, 3) := by decide +kernel
theorem dX0_letBy_77 : decode cX0_letBy 77 = .ok (.dload 4, 2) := by decide +kernel
theorem dX0_letBy_79 : decode cX0_letBy 79 = .ok (.dload 6, 2) := by decide +kernel
theorem dX0_letBy_81 : decode cX0_letBy 81 = .ok (.dload 8, 2) := by decide +kernel
theorem dX0_letBy_83 : decode cX0_letBy 83 = .ok (.dsub, 1) := by decide +kernel
theorem dX0_letBy_84 : decode cX0_letBy 84 = .ok (.dmul, 1) := by decide +kernel
theorem dX0_letBy_85 : decode cX0_letBy 85 = .ok (.dload 6, 2) := by decide +kernel
theorem dX0_letBy_87 : decode cX0_letBy 87 = .ok (.ddiv, 1) := by decide +kernel
theorem dX0_letBy_88 : decode cX0_letBy 88 = .ok (.goto 4, 3) := by decide +kernel
theorem dX0_letBy_91 : decode cX0_letBy 91 = .ok (.dconst 0, 1) := by decide +kernel
theorem dX0_letBy_92 : decode cX0_letBy 92 = .ok (.dreturn, 1) := by decide +kernel
theorem dX0_letBy_93 : decode cX0_letBy 93 = .ok (.iload 10, 2) := by decide +kernel
theorem dX0_letBy_95 : decode cX0_letBy 95 = .ok (.ifCond .eq 26, 3) := by decide +kernel
theorem dX0_letBy_98 : decode cX0_letBy 98 = .ok (.dload 4, 2) := by decide +kernel
theorem dX0_letBy_100 : decode cX0_letBy 100 = .ok (.dload 6, 2) := by decide +kernel
theorem dX0_letBy_102 : decode cX0_letBy 102 = .ok (.dload 6, 2) := by decide +kernel
theorem dX0_letBy_104 : decode cX0_letBy 104 = .ok (.dmul, 1) := by decide +kernel
theorem dX0_letBy_105 : decode cX0_letBy 105 = .ok (.dload 8, 2) := by decide +kernel
theorem dX0_letBy_107 : decode cX0_letBy 107 = .ok (.dload 8, 2) := by decide +kernel
theorem dX0_letBy_109 : decode cX0_letBy 109 = .ok (.dmul, 1) := by decide +kernel
theorem dX0_letBy_110 : decode cX0_letBy 110 = .ok (.dsub, 1) := by decide +kernel
theorem dX0_letBy_111 : decode cX0_letBy 111 = .ok (.dmul, 1) := by decide +kernel
theorem dX0_letBy_112 : decode cX0_letBy 112 = .ok (.dload 6, 2) := by decide +kernel
theorem dX0_letBy_114 : decode cX0_letBy 114 = .ok (.dload 6, 2) := by decide +kernel
theorem dX0_letBy_116 : decode cX0_letBy 116 = .ok (.dmul, 1) := by decide +kernel
theorem dX0_letBy_117 : decode cX0_letBy 117 = .ok (.ddiv, 1) := by decide +kernel
theorem dX0_letBy_118 : decode cX0_letBy 118 = .ok (.goto 4, 3) := by decide +kernel
theorem dX0_letBy_121 : decode cX0_letBy 121 = .ok (.dconst 0, 1) := by decide +kernel
theorem dX0_letBy_122 : decode cX0_letBy 122 = .ok (.dreturn, 1) := by decide +kernel
theorem dX0_letBy_123 : decode cX0_letBy 123 = .ok (.iload 10, 2) := by decide +kernel
theorem dX0_letBy_125 : decode cX0_letBy 125 = .ok (.ifCond .eq 12, 3) := by decide +kernel
theorem dX0_letBy_128 : decode cX0_letBy 128 = .ok (.dload 4, 2) := by decide +kernel
theorem dX0_letBy_130 : decode cX0_letBy 130 = .ok (.ldc2_w 39, 3) := by decide +kernel
theorem dX0_letBy_133 : decode cX0_letBy 133 = .ok (.ddiv, 1) := by decide +kernel
theorem dX0_letBy_134 : decode cX0_letBy 134 = .ok (.goto 4, 3) := by decide +kernel
theorem dX0_letBy_137 : decode cX0_letBy 137 = .ok (.dconst 0, 1) := by decide +kernel
theorem dX0_letBy_138 : decode cX0_letBy 138 = .ok (.dreturn, 1) := by decide +kernel
theorem dX0_letBy_139 : decode cX0_letBy 139 = .ok (.iload_n 2, 1) := by decide +kernel
theorem dX0_letBy_140 : decode cX0_letBy 140 = .ok (.ifCond .le 20, 3) := by decide +kernel
theorem dX0_letBy_143 : decode cX0_letBy 143 = .ok (.iload_n 3, 1) := by decide +kernel
theorem dX0_letBy_144 : decode cX0_letBy 144 = .ok (.iload_n 2, 1) := by decide +kernel
theorem dX0_letBy_145 : decode cX0_letBy 145 = .ok (.idiv, 1) := by decide +kernel
theorem dX0_letBy_146 : decode cX0_letBy 146 = .ok (.iconst 2, 1) := by decide +kernel
theorem dX0_letBy_147 : decode cX0_letBy 147 = .ok (.irem, 1) := by decide +kernel
theorem dX0_letBy_148 : decode cX0_letBy 148 = .ok (.ifCond .eq 12, 3) := by decide +kernel
theorem dX0_letBy_151 : decode cX0_letBy 151 = .ok (.dload 4, 2) := by decide +kernel
theorem dX0_letBy_153 : decode cX0_letBy 153 = .ok (.ldc2_w 39, 3) := by decide +kernel
theorem dX0_letBy_156 : decode cX0_letBy 156 = .ok (.ddiv, 1) := by decide +kernel
theorem dX0_letBy_157 : decode cX0_letBy 157 = .ok (.goto 5, 3) := by decide +kernel
theorem dX0_letBy_160 : decode cX0_letBy 160 = .ok (.dload 4, 2) := by decide +kernel
theorem dX0_letBy_162 : decode cX0_letBy 162 = .ok (.dreturn, 1) := by decide +kernel
theorem dX0_letBy_163 : decode cX0_letBy 163 = .ok (.dload 4, 2) := by decide +kernel
theorem dX0_letBy_165 : decode cX0_letBy 165 = .ok (.dreturn, 1) := by decide +kernel
theorem dX0_hasNode_0 : decode cX0_hasNode 0 = .ok (.iload_n 1, 1) := by decide +kernel
theorem dX0_hasNode_1 : decode cX0_hasNode 1 = .ok (.ifCond .lt 17, 3) := by decide +kernel
theorem dX0_hasNode_4 : decode cX0_hasNode 4 = .ok (.iload_n 1, 1) := by decide +kernel
theorem dX0_hasNode_5 : decode cX0_hasNode 5 = .ok (.aload_n 0, 1) := by decide +kernel
theorem dX0_hasNode_6 : decode cX0_hasNode 6 = .ok (.getfield 7, 3) := by decide +kernel
theorem dX0_hasNode_9 : decode cX0_hasNode 9 = .ok (.iconst 0, 1) := by decide +kernel
theorem dX0_hasNode_10 : decode cX0_hasNode 10 = .ok (.iaload, 1) := by decide +kernel
theorem dX0_hasNode_11 : decode cX0_hasNode 11 = .ok (.if_icmp .gt 7, 3) := by decide +kernel
theorem dX0_hasNode_14 : decode cX0_hasNode 14 = .ok (.iconst 1, 1) := by decide +kernel
theorem dX0_hasNode_15 : decode cX0_hasNode 15 = .ok (.goto 4, 3) := by decide +kernel
theorem dX0_hasNode_18 : decode cX0_hasNode 18 = .ok (.iconst 0, 1) := by decide +kernel
theorem dX0_hasNode_19 : decode cX0_hasNode 19 = .ok (.ireturn, 1) := by decide +kernel
theorem dX0_pressure_0 : decode cX0_pressure 0 = .ok (.aload_n 0, 1) := by decide +kernel
theorem dX0_pressure_1 : decode cX0_pressure 1 = .ok (.getfield 13, 3) := by decide +kernel
theorem dX0_pressure_4 : decode cX0_pressure 4 = .ok (.iload_n 1, 1) := by decide +kernel
theorem dX0_pressure_5 : decode cX0_pressure 5 = .ok (.daload, 1) := by decide +kernel
theorem dX0_pressure_6 : decode cX0_pressure 6 = .ok (.aload_n 0, 1) := by decide +kernel
theorem dX0_pressure_7 : decode cX0_pressure 7 = .ok (.getfield 17, 3) := by decide +kernel
theorem dX0_pressure_10 : decode cX0_pressure 10 = .ok (.iload_n 1, 1) := by decide +kernel
theorem dX0_pressure_11 : decode cX0_pressure 11 = .ok (.daload, 1) := by decide +kernel
theorem dX0_pressure_12 : decode cX0_pressure 12 = .ok (.dadd, 1) := by decide +kernel
theorem dX0_pressure_13 : decode cX0_pressure 13 = .ok (.dreturn, 1) := by decide +kernel
theorem dX0_sumOfSquares_0 : decode cX0_sumOfSquares 0 = .ok (.dconst 0, 1) := by decide +kernel
theorem dX0_sumOfSquares_1 : decode cX0_sumOfSquares 1 = .ok (.dstore_n 1, 1) := by decide +kernel
theorem dX0_sumOfSquares_2 : decode cX0_sumOfSquares 2 = .ok (.iconst 0, 1) := by decide +kernel
theorem dX0_sumOfSquares_3 : decode cX0_sumOfSquares 3 = .ok (.istore_n 3, 1) := by decide +kernel
theorem dX0_sumOfSquares_4 : decode cX0_sumOfSquares 4 = .ok (.iload_n 3, 1) := by decide +kernel
theorem dX0_sumOfSquares_5 : decode cX0_sumOfSquares 5 = .ok (.aload_n 0, 1) := by decide +kernel
theorem dX0_sumOfSquares_6 : decode cX0_sumOfSquares 6 = .ok (.getfield 7, 3) := by decide +kernel
theorem dX0_sumOfSquares_9 : decode cX0_sumOfSquares 9 = .ok (.iconst 0, 1) := by decide +kernel
theorem dX0_sumOfSquares_10 : decode cX0_sumOfSquares 10 = .ok (.iaload, 1) := by decide +kernel
theorem dX0_sumOfSquares_11 : decode cX0_sumOfSquares 11 = .ok (.if_icmp .gt 39, 3) := by decide +kernel
theorem dX0_sumOfSquares_14 : decode cX0_sumOfSquares 14 = .ok (.dload_n 1, 1) := by decide +kernel
theorem dX0_sumOfSquares_15 : decode cX0_sumOfSquares 15 = .ok (.aload_n 0, 1) := by decide +kernel
theorem dX0_sumOfSquares_16 : decode cX0_sumOfSquares 16 = .ok (.getfield 13, 3) := by decide +kernel
theorem dX0_sumOfSquares_19 : decode cX0_sumOfSquares 19 = .ok (.iload_n 3, 1) := by decide +kernel
theorem dX0_sumOfSquares_20 : decode cX0_sumOfSquares 20 = .ok (.daload, 1) := by decide +kernel
theorem dX0_sumOfSquares_21 : decode cX0_sumOfSquares 21 = .ok (.aload_n 0, 1) := by decide +kernel
theorem dX0_sumOfSquares_22 : decode cX0_sumOfSquares 22 = .ok (.getfield 13, 3) := by decide +kernel
theorem dX0_sumOfSquares_25 : decode cX0_sumOfSquares 25 = .ok (.iload_n 3, 1) := by decide +kernel
theorem dX0_sumOfSquares_26 : decode cX0_sumOfSquares 26 = .ok (.daload, 1) := by decide +kernel
theorem dX0_sumOfSquares_27 : decode cX0_sumOfSquares 27 = .ok (.dmul, 1) := by decide +kernel
theorem dX0_sumOfSquares_28 : decode cX0_sumOfSquares 28 = .ok (.aload_n 0, 1) := by decide +kernel
theorem dX0_sumOfSquares_29 : decode cX0_sumOfSquares 29 = .ok (.getfield 17, 3) := by decide +kernel
theorem dX0_sumOfSquares_32 : decode cX0_sumOfSquares 32 = .ok (.iload_n 3, 1) := by decide +kernel
theorem dX0_sumOfSquares_33 : decode cX0_sumOfSquares 33 = .ok (.daload, 1) := by decide +kernel
theorem dX0_sumOfSquares_34 : decode cX0_sumOfSquares 34 = .ok (.aload_n 0, 1) := by decide +kernel
theorem dX0_sumOfSquares_35 : decode cX0_sumOfSquares 35 = .ok (.getfield 17, 3) := by decide +kernel
theorem dX0_sumOfSquares_38 : decode cX0_sumOfSquares 38 = .ok (.iload_n 3, 1) := by decide +kernel
theorem dX0_sumOfSquares_39 : decode cX0_sumOfSquares 39 = .ok (.daload, 1) := by decide +kernel
theorem dX0_sumOfSquares_40 : decode cX0_sumOfSquares 40 = .ok (.dmul, 1) := by decide +kernel
theorem dX0_sumOfSquares_41 : decode cX0_sumOfSquares 41 = .ok (.dadd, 1) := by decide +kernel
theorem dX0_sumOfSquares_42 : decode cX0_sumOfSquares 42 = .ok (.dadd, 1) := by decide +kernel
theorem dX0_sumOfSquares_43 : decode cX0_sumOfSquares 43 = .ok (.dstore_n 1, 1) := by decide +kernel
theorem dX0_sumOfSquares_44 : decode cX0_sumOfSquares 44 = .ok (.iinc 3 1, 3) := by decide +kernel
theorem dX0_sumOfSquares_47 : decode cX0_sumOfSquares 47 = .ok (.goto (-43), 3) := by decide +kernel
theorem dX0_sumOfSquares_50 : decode cX0_sumOfSquares 50 = .ok (.dload_n 1, 1) := by decide +kernel
theorem dX0_sumOfSquares_51 : decode cX0_sumOfSquares 51 = .ok (.dreturn, 1) := by decide +kernel
theorem dX0_put_0 : decode cX0_put 0 = .ok (.aload_n 0, 1) := by decide +kernel
theorem dX0_put_1 : decode cX0_put 1 = .ok (.getfield 7, 3) := by decide +kernel
theorem dX0_put_4 : decode cX0_put 4 = .ok (.iload_n 1, 1) := by decide +kernel
theorem dX0_put_5 : decode cX0_put 5 = .ok (.iload_n 2, 1) := by decide +kernel
theorem dX0_put_6 : decode cX0_put 6 = .ok (.iastore, 1) := by decide +kernel
theorem dX0_put_7 : decode cX0_put 7 = .ok (.aload_n 0, 1) := by decide +kernel
theorem dX0_put_8 : decode cX0_put 8 = .ok (.invokevirtual 26, 3) := by decide +kernel
theorem dX0_put_11 : decode cX0_put 11 = .ok (.return_, 1) := by decide +kernel
theorem dX0_govern_0 : decode cX0_govern 0 = .ok (.aload_n 0, 1) := by decide +kernel
theorem dX0_govern_1 : decode cX0_govern 1 = .ok (.getfield 7, 3) := by decide +kernel
theorem dX0_govern_4 : decode cX0_govern 4 = .ok (.bipush 6, 2) := by decide +kernel
theorem dX0_govern_6 : decode cX0_govern 6 = .ok (.iload_n 1, 1) := by decide +kernel
theorem dX0_govern_7 : decode cX0_govern 7 = .ok (.iastore, 1) := by decide +kernel
theorem dX0_govern_8 : decode cX0_govern 8 = .ok (.aload_n 0, 1) := by decide +kernel
theorem dX0_govern_9 : decode cX0_govern 9 = .ok (.getfield 7, 3) := by decide +kernel
theorem dX0_govern_12 : decode cX0_govern 12 = .ok (.bipush 7, 2) := by decide +kernel
theorem dX0_govern_14 : decode cX0_govern 14 = .ok (.iload_n 2, 1) := by decide +kernel
theorem dX0_govern_15 : decode cX0_govern 15 = .ok (.iastore, 1) := by decide +kernel
theorem dX0_govern_16 : decode cX0_govern 16 = .ok (.return_, 1) := by decide +kernel
theorem dX0_tryOut_0 : decode cX0_tryOut 0 = .ok (.aload_n 1, 1) := by decide +kernel
theorem dX0_tryOut_1 : decode cX0_tryOut 1 = .ok (.getfield 7, 3) := by decide +kernel
theorem dX0_tryOut_4 : decode cX0_tryOut 4 = .ok (.iconst 0, 1) := by decide +kernel
theorem dX0_tryOut_5 : decode cX0_tryOut 5 = .ok (.aload_n 0, 1) := by decide +kernel
theorem dX0_tryOut_6 : decode cX0_tryOut 6 = .ok (.getfield 7, 3) := by decide +kernel
theorem dX0_tryOut_9 : decode cX0_tryOut 9 = .ok (.iconst 0, 1) := by decide +kernel
theorem dX0_tryOut_10 : decode cX0_tryOut 10 = .ok (.aload_n 0, 1) := by decide +kernel
theorem dX0_tryOut_11 : decode cX0_tryOut 11 = .ok (.getfield 7, 3) := by decide +kernel
theorem dX0_tryOut_14 : decode cX0_tryOut 14 = .ok (.arraylength, 1) := by decide +kernel
theorem dX0_tryOut_15 : decode cX0_tryOut 15 = .ok (.invokestatic 41, 3) := by decide +kernel
theorem dX0_tryOut_18 : decode cX0_tryOut 18 = .ok (.aload_n 0, 1) := by decide +kernel
theorem dX0_tryOut_19 : decode cX0_tryOut 19 = .ok (.getfield 7, 3) := by decide +kernel
theorem dX0_tryOut_22 : decode cX0_tryOut 22 = .ok (.iconst 5, 1) := by decide +kernel
theorem dX0_tryOut_23 : decode cX0_tryOut 23 = .ok (.iconst 0, 1) := by decide +kernel
theorem dX0_tryOut_24 : decode cX0_tryOut 24 = .ok (.iastore, 1) := by decide +kernel
theorem dX0_tryOut_25 : decode cX0_tryOut 25 = .ok (.aload_n 0, 1) := by decide +kernel
theorem dX0_tryOut_26 : decode cX0_tryOut 26 = .ok (.iload_n 2, 1) := by decide +kernel
theorem dX0_tryOut_27 : decode cX0_tryOut 27 = .ok (.iload_n 3, 1) := by decide +kernel
theorem dX0_tryOut_28 : decode cX0_tryOut 28 = .ok (.invokevirtual 47, 3) := by decide +kernel
theorem dX0_tryOut_31 : decode cX0_tryOut 31 = .ok (.aload_n 0, 1) := by decide +kernel
theorem dX0_tryOut_32 : decode cX0_tryOut 32 = .ok (.invokevirtual 26, 3) := by decide +kernel
theorem dX0_tryOut_35 : decode cX0_tryOut 35 = .ok (.return_, 1) := by decide +kernel
theorem dX0_copyFrom_0 : decode cX0_copyFrom 0 = .ok (.aload_n 1, 1) := by decide +kernel
theorem dX0_copyFrom_1 : decode cX0_copyFrom 1 = .ok (.getfield 7, 3) := by decide +kernel
theorem dX0_copyFrom_4 : decode cX0_copyFrom 4 = .ok (.iconst 0, 1) := by decide +kernel
theorem dX0_copyFrom_5 : decode cX0_copyFrom 5 = .ok (.aload_n 0, 1) := by decide +kernel
theorem dX0_copyFrom_6 : decode cX0_copyFrom 6 = .ok (.getfield 7, 3) := by decide +kernel
theorem dX0_copyFrom_9 : decode cX0_copyFrom 9 = .ok (.iconst 0, 1) := by decide +kernel
theorem dX0_copyFrom_10 : decode cX0_copyFrom 10 = .ok (.aload_n 0, 1) := by decide +kernel
theorem dX0_copyFrom_11 : decode cX0_copyFrom 11 = .ok (.getfield 7, 3) := by decide +kernel
theorem dX0_copyFrom_14 : decode cX0_copyFrom 14 = .ok (.arraylength, 1) := by decide +kernel
theorem dX0_copyFrom_15 : decode cX0_copyFrom 15 = .ok (.invokestatic 41, 3) := by decide +kernel
theorem dX0_copyFrom_18 : decode cX0_copyFrom 18 = .ok (.aload_n 1, 1) := by decide +kernel
theorem dX0_copyFrom_19 : decode cX0_copyFrom 19 = .ok (.getfield 13, 3) := by decide +kernel
theorem dX0_copyFrom_22 : decode cX0_copyFrom 22 = .ok (.iconst 0, 1) := by decide +kernel
theorem dX0_copyFrom_23 : decode cX0_copyFrom 23 = .ok (.aload_n 0, 1) := by decide +kernel
theorem dX0_copyFrom_24 : decode cX0_copyFrom 24 = .ok (.getfield 13, 3) := by decide +kernel
theorem dX0_copyFrom_27 : decode cX0_copyFrom 27 = .ok (.iconst 0, 1) := by decide +kernel
theorem dX0_copyFrom_28 : decode cX0_copyFrom 28 = .ok (.bipush 11, 2) := by decide +kernel
theorem dX0_copyFrom_30 : decode cX0_copyFrom 30 = .ok (.invokestatic 41, 3) := by decide +kernel
theorem dX0_copyFrom_33 : decode cX0_copyFrom 33 = .ok (.aload_n 1, 1) := by decide +kernel
theorem dX0_copyFrom_34 : decode cX0_copyFrom 34 = .ok (.getfield 17, 3) := by decide +kernel
theorem dX0_copyFrom_37 : decode cX0_copyFrom 37 = .ok (.iconst 0, 1) := by decide +kernel
theorem dX0_copyFrom_38 : decode cX0_copyFrom 38 = .ok (.aload_n 0, 1) := by decide +kernel
theorem dX0_copyFrom_39 : decode cX0_copyFrom 39 = .ok (.getfield 17, 3) := by decide +kernel
theorem dX0_copyFrom_42 : decode cX0_copyFrom 42 = .ok (.iconst 0, 1) := by decide +kernel
theorem dX0_copyFrom_43 : decode cX0_copyFrom 43 = .ok (.bipush 11, 2) := by decide +kernel
theorem dX0_copyFrom_45 : decode cX0_copyFrom 45 = .ok (.invokestatic 41, 3) := by decide +kernel
theorem dX0_copyFrom_48 : decode cX0_copyFrom 48 = .ok (.aload_n 1, 1) := by decide +kernel
theorem dX0_copyFrom_49 : decode cX0_copyFrom 49 = .ok (.getfield 20, 3) := by decide +kernel
theorem dX0_copyFrom_52 : decode cX0_copyFrom 52 = .ok (.iconst 0, 1) := by decide +kernel
theorem dX0_copyFrom_53 : decode cX0_copyFrom 53 = .ok (.aload_n 0, 1) := by decide +kernel
theorem dX0_copyFrom_54 : decode cX0_copyFrom 54 = .ok (.getfield 20, 3) := by decide +kernel
theorem dX0_copyFrom_57 : decode cX0_copyFrom 57 = .ok (.iconst 0, 1) := by decide +kernel
theorem dX0_copyFrom_58 : decode cX0_copyFrom 58 = .ok (.bipush 11, 2) := by decide +kernel
theorem dX0_copyFrom_60 : decode cX0_copyFrom 60 = .ok (.invokestatic 41, 3) := by decide +kernel
theorem dX0_copyFrom_63 : decode cX0_copyFrom 63 = .ok (.aload_n 1, 1) := by decide +kernel
theorem dX0_copyFrom_64 : decode cX0_copyFrom 64 = .ok (.getfield 23, 3) := by decide +kernel
theorem dX0_copyFrom_67 : decode cX0_copyFrom 67 = .ok (.iconst 0, 1) := by decide +kernel
theorem dX0_copyFrom_68 : decode cX0_copyFrom 68 = .ok (.aload_n 0, 1) := by decide +kernel
theorem dX0_copyFrom_69 : decode cX0_copyFrom 69 = .ok (.getfield 23, 3) := by decide +kernel
theorem dX0_copyFrom_72 : decode cX0_copyFrom 72 = .ok (.iconst 0, 1) := by decide +kernel
theorem dX0_copyFrom_73 : decode cX0_copyFrom 73 = .ok (.bipush 11, 2) := by decide +kernel
theorem dX0_copyFrom_75 : decode cX0_copyFrom 75 = .ok (.invokestatic 41, 3) := by decide +kernel
theorem dX0_copyFrom_78 : decode cX0_copyFrom 78 = .ok (.aload_n 0, 1) := by decide +kernel
theorem dX0_copyFrom_79 : decode cX0_copyFrom 79 = .ok (.aload_n 1, 1) := by decide +kernel
theorem dX0_copyFrom_80 : decode cX0_copyFrom 80 = .ok (.getfield 51, 3) := by decide +kernel
theorem dX0_copyFrom_83 : decode cX0_copyFrom 83 = .ok (.putfield 51, 3) := by decide +kernel
theorem dX0_copyFrom_86 : decode cX0_copyFrom 86 = .ok (.aload_n 0, 1) := by decide +kernel
theorem dX0_copyFrom_87 : decode cX0_copyFrom 87 = .ok (.aload_n 1, 1) := by decide +kernel
theorem dX0_copyFrom_88 : decode cX0_copyFrom 88 = .ok (.getfield 55, 3) := by decide +kernel
theorem dX0_copyFrom_91 : decode cX0_copyFrom 91 = .ok (.putfield 55, 3) := by decide +kernel
theorem dX0_copyFrom_94 : decode cX0_copyFrom 94 = .ok (.aload_n 0, 1) := by decide +kernel
theorem dX0_copyFrom_95 : decode cX0_copyFrom 95 = .ok (.aload_n 1, 1) := by decide +kernel
theorem dX0_copyFrom_96 : decode cX0_copyFrom 96 = .ok (.getfield 58, 3) := by decide +kernel
theorem dX0_copyFrom_99 : decode cX0_copyFrom 99 = .ok (.putfield 58, 3) := by decide +kernel
theorem dX0_copyFrom_102 : decode cX0_copyFrom 102 = .ok (.return_, 1) := by decide +kernel
theorem dX0_settle_0 : decode cX0_settle 0 = .ok (.aload_n 0, 1) := by decide +kernel
theorem dX0_settle_1 : decode cX0_settle 1 = .ok (.getfield 7, 3) := by decide +kernel
theorem dX0_settle_4 : decode cX0_settle 4 = .ok (.iconst 1, 1) := by decide +kernel
theorem dX0_settle_5 : decode cX0_settle 5 = .ok (.iaload, 1) := by decide +kernel
theorem dX0_settle_6 : decode cX0_settle 6 = .ok (.i2d, 1) := by decide +kernel
theorem dX0_settle_7 : decode cX0_settle 7 = .ok (.dstore_n 1, 1) := by decide +kernel
theorem dX0_settle_8 : decode cX0_settle 8 = .ok (.aload_n 0, 1) := by decide +kernel
theorem dX0_settle_9 : decode cX0_settle 9 = .ok (.getfield 7, 3) := by decide +kernel
theorem dX0_settle_12 : decode cX0_settle 12 = .ok (.iconst 2, 1) := by decide +kernel
theorem dX0_settle_13 : decode cX0_settle 13 = .ok (.iaload, 1) := by decide +kernel
theorem dX0_settle_14 : decode cX0_settle 14 = .ok (.i2d, 1) := by decide +kernel
theorem dX0_settle_15 : decode cX0_settle 15 = .ok (.dstore_n 3, 1) := by decide +kernel
theorem dX0_settle_16 : decode cX0_settle 16 = .ok (.aload_n 0, 1) := by decide +kernel
theorem dX0_settle_17 : decode cX0_settle 17 = .ok (.getfield 7, 3) := by decide +kernel
theorem dX0_settle_20 : decode cX0_settle 20 = .ok (.bipush 8, 2) := by decide +kernel
theorem dX0_settle_22 : decode cX0_settle 22 = .ok (.iconst 0, 1) := by decide +kernel
theorem dX0_settle_23 : decode cX0_settle 23 = .ok (.iastore, 1) := by decide +kernel
theorem dX0_settle_24 : decode cX0_settle 24 = .ok (.aload_n 0, 1) := by decide +kernel
theorem dX0_settle_25 : decode cX0_settle 25 = .ok (.dload_n 1, 1) := by decide +kernel
theorem dX0_settle_26 : decode cX0_settle 26 = .ok (.putfield 58, 3) := by decide +kernel
theorem dX0_settle_29 : decode cX0_settle 29 = .ok (.iconst 0, 1) := by decide +kernel
theorem dX0_settle_30 : decode cX0_settle 30 = .ok (.istore 5, 2) := by decide +kernel
theorem dX0_settle_32 : decode cX0_settle 32 = .ok (.iload 5, 2) := by decide +kernel
theorem dX0_settle_34 : decode cX0_settle 34 = .ok (.aload_n 0, 1) := by decide +kernel
theorem dX0_settle_35 : decode cX0_settle 35 = .ok (.getfield 7, 3) := by decide +kernel
theorem dX0_settle_38 : decode cX0_settle 38 = .ok (.iconst 0, 1) := by decide +kernel
theorem dX0_settle_39 : decode cX0_settle 39 = .ok (.iaload, 1) := by decide +kernel
theorem dX0_settle_40 : decode cX0_settle 40 = .ok (.if_icmp .gt 63, 3) := by decide +kernel
theorem dX0_settle_43 : decode cX0_settle 43 = .ok (.aload_n 0, 1) := by decide +kernel
theorem dX0_settle_44 : decode cX0_settle 44 = .ok (.getfield 13, 3) := by decide +kernel
theorem dX0_settle_47 : decode cX0_settle 47 = .ok (.iload 5, 2) := by decide +kernel
theorem dX0_settle_49 : decode cX0_settle 49 = .ok (.dload_n 1, 1) := by decide +kernel
theorem dX0_settle_50 : decode cX0_settle 50 = .ok (.dload_n 3, 1) := by decide +kernel
theorem dX0_settle_51 : decode cX0_settle 51 = .ok (.dadd, 1) := by decide +kernel
theorem dX0_settle_52 : decode cX0_settle 52 = .ok (.ldc2_w 39, 3) := by decide +kernel
theorem dX0_settle_55 : decode cX0_settle 55 = .ok (.ddiv, 1) := by decide +kernel
theorem dX0_settle_56 : decode cX0_settle 56 = .ok (.dastore, 1) := by decide +kernel
theorem dX0_settle_57 : decode cX0_settle 57 = .ok (.aload_n 0, 1) := by decide +kernel
theorem dX0_settle_58 : decode cX0_settle 58 = .ok (.getfield 17, 3) := by decide +kernel
theorem dX0_settle_61 : decode cX0_settle 61 = .ok (.iload 5, 2) := by decide +kernel
theorem dX0_settle_63 : decode cX0_settle 63 = .ok (.dload_n 1, 1) := by decide +kernel
theorem dX0_settle_64 : decode cX0_settle 64 = .ok (.dload_n 3, 1) := by decide +kernel
theorem dX0_settle_65 : decode cX0_settle 65 = .ok (.dsub, 1) := by decide +kernel
theorem dX0_settle_66 : decode cX0_settle 66 = .ok (.ldc2_w 39, 3) := by decide +kernel
theorem dX0_settle_69 : decode cX0_settle 69 = .ok (.ddiv, 1) := by decide +kernel
theorem dX0_settle_70 : decode cX0_settle 70 = .ok (.dastore, 1) := by decide +kernel
theorem dX0_settle_71 : decode cX0_settle 71 = .ok (.aload_n 0, 1) := by decide +kernel
theorem dX0_settle_72 : decode cX0_settle 72 = .ok (.getfield 20, 3) := by decide +kernel
theorem dX0_settle_75 : decode cX0_settle 75 = .ok (.iload 5, 2) := by decide +kernel
theorem dX0_settle_77 : decode cX0_settle 77 = .ok (.aload_n 0, 1) := by decide +kernel
theorem dX0_settle_78 : decode cX0_settle 78 = .ok (.iload 5, 2) := by decide +kernel
theorem dX0_settle_80 : decode cX0_settle 80 = .ok (.invokevirtual 61, 3) := by decide +kernel
theorem dX0_settle_83 : decode cX0_settle 83 = .ok (.dastore, 1) := by decide +kernel
theorem dX0_settle_84 : decode cX0_settle 84 = .ok (.aload_n 0, 1) := by decide +kernel
theorem dX0_settle_85 : decode cX0_settle 85 = .ok (.getfield 23, 3) := by decide +kernel
theorem dX0_settle_88 : decode cX0_settle 88 = .ok (.iload 5, 2) := by decide +kernel
theorem dX0_settle_90 : decode cX0_settle 90 = .ok (.aload_n 0, 1) := by decide +kernel
theorem dX0_settle_91 : decode cX0_settle 91 = .ok (.iload 5, 2) := by decide +kernel
theorem dX0_settle_93 : decode cX0_settle 93 = .ok (.invokevirtual 61, 3) := by decide +kernel
theorem dX0_settle_96 : decode cX0_settle 96 = .ok (.dastore, 1) := by decide +kernel
theorem dX0_settle_97 : decode cX0_settle 97 = .ok (.iinc 5 1, 3) := by decide +kernel
theorem dX0_settle_100 : decode cX0_settle 100 = .ok (.goto (-68), 3) := by decide +kernel
theorem dX0_settle_103 : decode cX0_settle 103 = .ok (.aload_n 0, 1) := by decide +kernel
theorem dX0_settle_104 : decode cX0_settle 104 = .ok (.aload_n 0, 1) := by decide +kernel
theorem dX0_settle_105 : decode cX0_settle 105 = .ok (.iconst 0, 1) := by decide +kernel
theorem dX0_settle_106 : decode cX0_settle 106 = .ok (.invokevirtual 61, 3) := by decide +kernel
theorem dX0_settle_109 : decode cX0_settle 109 = .ok (.putfield 51, 3) := by decide +kernel
theorem dX0_settle_112 : decode cX0_settle 112 = .ok (.aload_n 0, 1) := by decide +kernel
theorem dX0_settle_113 : decode cX0_settle 113 = .ok (.aload_n 0, 1) := by decide +kernel
theorem dX0_settle_114 : decode cX0_settle 114 = .ok (.iconst 0, 1) := by decide +kernel
theorem dX0_settle_115 : decode cX0_settle 115 = .ok (.invokevirtual 61, 3) := by decide +kernel
theorem dX0_settle_118 : decode cX0_settle 118 = .ok (.putfield 55, 3) := by decide +kernel
theorem dX0_settle_121 : decode cX0_settle 121 = .ok (.return_, 1) := by decide +kernel
theorem dX0_advance_0 : decode cX0_advance 0 = .ok (.iconst 0, 1) := by decide +kernel
theorem dX0_advance_1 : decode cX0_advance 1 = .ok (.istore_n 2, 1) := by decide +kernel
theorem dX0_advance_2 : decode cX0_advance 2 = .ok (.iload_n 2, 1) := by decide +kernel
theorem dX0_advance_3 : decode cX0_advance 3 = .ok (.iload_n 1, 1) := by decide +kernel
theorem dX0_advance_4 : decode cX0_advance 4 = .ok (.if_icmp .ge 36, 3) := by decide +kernel
theorem dX0_advance_7 : decode cX0_advance 7 = .ok (.aload_n 0, 1) := by decide +kernel
theorem dX0_advance_8 : decode cX0_advance 8 = .ok (.getfield 7, 3) := by decide +kernel
theorem dX0_advance_11 : decode cX0_advance 11 = .ok (.bipush 8, 2) := by decide +kernel
theorem dX0_advance_13 : decode cX0_advance 13 = .ok (.dup2, 1) := by decide +kernel
theorem dX0_advance_14 : decode cX0_advance 14 = .ok (.iaload, 1) := by decide +kernel
theorem dX0_advance_15 : decode cX0_advance 15 = .ok (.iconst 1, 1) := by decide +kernel
theorem dX0_advance_16 : decode cX0_advance 16 = .ok (.iadd, 1) := by decide +kernel
theorem dX0_advance_17 : decode cX0_advance 17 = .ok (.iastore, 1) := by decide +kernel
theorem dX0_advance_18 : decode cX0_advance 18 = .ok (.aload_n 0, 1) := by decide +kernel
theorem dX0_advance_19 : decode cX0_advance 19 = .ok (.invokevirtual 65, 3) := by decide +kernel
theorem dX0_advance_22 : decode cX0_advance 22 = .ok (.aload_n 0, 1) := by decide +kernel
theorem dX0_advance_23 : decode cX0_advance 23 = .ok (.invokevirtual 68, 3) := by decide +kernel
theorem dX0_advance_26 : decode cX0_advance 26 = .ok (.aload_n 0, 1) := by decide +kernel
theorem dX0_advance_27 : decode cX0_advance 27 = .ok (.invokevirtual 71, 3) := by decide +kernel
theorem dX0_advance_30 : decode cX0_advance 30 = .ok (.aload_n 0, 1) := by decide +kernel
theorem dX0_advance_31 : decode cX0_advance 31 = .ok (.invokevirtual 74, 3) := by decide +kernel
theorem dX0_advance_34 : decode cX0_advance 34 = .ok (.iinc 2 1, 3) := by decide +kernel
theorem dX0_advance_37 : decode cX0_advance 37 = .ok (.goto (-35), 3) := by decide +kernel
theorem dX0_advance_40 : decode cX0_advance 40 = .ok (.return_, 1) := by decide +kernel
theorem dX0_shift_0 : decode cX0_shift 0 = .ok (.aload_n 0, 1) := by decide +kernel
theorem dX0_shift_1 : decode cX0_shift 1 = .ok (.getfield 7, 3) := by decide +kernel
theorem dX0_shift_4 : decode cX0_shift 4 = .ok (.iconst 0, 1) := by decide +kernel
theorem dX0_shift_5 : decode cX0_shift 5 = .ok (.iaload, 1) := by decide +kernel
theorem dX0_shift_6 : decode cX0_shift 6 = .ok (.istore_n 1, 1) := by decide +kernel
theorem dX0_shift_7 : decode cX0_shift 7 = .ok (.iload_n 1, 1) := by decide +kernel
theorem dX0_shift_8 : decode cX0_shift 8 = .ok (.istore_n 2, 1) := by decide +kernel
theorem dX0_shift_9 : decode cX0_shift 9 = .ok (.iload_n 2, 1) := by decide +kernel
theorem dX0_shift_10 : decode cX0_shift 10 = .ok (.ifCond .le 23, 3) := by decide +kernel
theorem dX0_shift_13 : decode cX0_shift 13 = .ok (.aload_n 0, 1) := by decide +kernel
theorem dX0_shift_14 : decode cX0_shift 14 = .ok (.getfield 13, 3) := by decide +kernel
theorem dX0_shift_17 : decode cX0_shift 17 = .ok (.iload_n 2, 1) := by decide +kernel
theorem dX0_shift_18 : decode cX0_shift 18 = .ok (.aload_n 0, 1) := by decide +kernel
theorem dX0_shift_19 : decode cX0_shift 19 = .ok (.getfield 13, 3) := by decide +kernel
theorem dX0_shift_22 : decode cX0_shift 22 = .ok (.iload_n 2, 1) := by decide +kernel
theorem dX0_shift_23 : decode cX0_shift 23 = .ok (.iconst 1, 1) := by decide +kernel
theorem dX0_shift_24 : decode cX0_shift 24 = .ok (.isub, 1) := by decide +kernel
theorem dX0_shift_25 : decode cX0_shift 25 = .ok (.daload, 1) := by decide +kernel
theorem dX0_shift_26 : decode cX0_shift 26 = .ok (.dastore, 1) := by decide +kernel
theorem dX0_shift_27 : decode cX0_shift 27 = .ok (.iinc 2 (-1), 3) := by decide +kernel
theorem dX0_shift_30 : decode cX0_shift 30 = .ok (.goto (-21), 3) := by decide +kernel
theorem dX0_shift_33 : decode cX0_shift 33 = .ok (.iconst 0, 1) := by decide +kernel
theorem dX0_shift_34 : decode cX0_shift 34 = .ok (.istore_n 2, 1) := by decide +kernel
theorem dX0_shift_35 : decode cX0_shift 35 = .ok (.iload_n 2, 1) := by decide +kernel
theorem dX0_shift_36 : decode cX0_shift 36 = .ok (.iload_n 1, 1) := by decide +kernel
theorem dX0_shift_37 : decode cX0_shift 37 = .ok (.if_icmp .ge 23, 3) := by decide +kernel
theorem dX0_shift_40 : decode cX0_shift 40 = .ok (.aload_n 0, 1) := by decide +kernel
theorem dX0_shift_41 : decode cX0_shift 41 = .ok (.getfield 17, 3) := by decide +kernel
theorem dX0_shift_44 : decode cX0_shift 44 = .ok (.iload_n 2, 1) := by decide +kernel
theorem dX0_shift_45 : decode cX0_shift 45 = .ok (.aload_n 0, 1) := by decide +kernel
theorem dX0_shift_46 : decode cX0_shift 46 = .ok (.getfield 17, 3) := by decide +kernel
theorem dX0_shift_49 : decode cX0_shift 49 = .ok (.iload_n 2, 1) := by decide +kernel
theorem dX0_shift_50 : decode cX0_shift 50 = .ok (.iconst 1, 1) := by decide +kernel
theorem dX0_shift_51 : decode cX0_shift 51 = .ok (.iadd, 1) := by decide +kernel
theorem dX0_shift_52 : decode cX0_shift 52 = .ok (.daload, 1) := by decide +kernel
theorem dX0_shift_53 : decode cX0_shift 53 = .ok (.dastore, 1) := by decide +kernel
theorem dX0_shift_54 : decode cX0_shift 54 = .ok (.iinc 2 1, 3) := by decide +kernel
theorem dX0_shift_57 : decode cX0_shift 57 = .ok (.goto (-22), 3) := by decide +kernel
theorem dX0_shift_60 : decode cX0_shift 60 = .ok (.return_, 1) := by decide +kernel
theorem dX0_turnLeft_0 : decode cX0_turnLeft 0 = .ok (.aload_n 0, 1) := by decide +kernel
theorem dX0_turnLeft_1 : decode cX0_turnLeft 1 = .ok (.getfield 7, 3) := by decide +kernel
theorem dX0_turnLeft_4 : decode cX0_turnLeft 4 = .ok (.iconst 1, 1) := by decide +kernel
theorem dX0_turnLeft_5 : decode cX0_turnLeft 5 = .ok (.iaload, 1) := by decide +kernel
theorem dX0_turnLeft_6 : decode cX0_turnLeft 6 = .ok (.i2d, 1) := by decide +kernel
theorem dX0_turnLeft_7 : decode cX0_turnLeft 7 = .ok (.dstore_n 1, 1) := by decide +kernel
theorem dX0_turnLeft_8 : decode cX0_turnLeft 8 = .ok (.aload_n 0, 1) := by decide +kernel
theorem dX0_turnLeft_9 : decode cX0_turnLeft 9 = .ok (.getfield 13, 3) := by decide +kernel
theorem dX0_turnLeft_12 : decode cX0_turnLeft 12 = .ok (.iconst 0, 1) := by decide +kernel
theorem dX0_turnLeft_13 : decode cX0_turnLeft 13 = .ok (.aload_n 0, 1) := by decide +kernel
theorem dX0_turnLeft_14 : decode cX0_turnLeft 14 = .ok (.getfield 7, 3) := by decide +kernel
theorem dX0_turnLeft_17 : decode cX0_turnLeft 17 = .ok (.iconst 4, 1) := by decide +kernel
theorem dX0_turnLeft_18 : decode cX0_turnLeft 18 = .ok (.iaload, 1) := by decide +kernel
theorem dX0_turnLeft_19 : decode cX0_turnLeft 19 = .ok (.ifCond .ne 14, 3) := by decide +kernel
theorem dX0_turnLeft_22 : decode cX0_turnLeft 22 = .ok (.dload_n 1, 1) := by decide +kernel
theorem dX0_turnLeft_23 : decode cX0_turnLeft 23 = .ok (.aload_n 0, 1) := by decide +kernel
theorem dX0_turnLeft_24 : decode cX0_turnLeft 24 = .ok (.getfield 17, 3) := by decide +kernel
theorem dX0_turnLeft_27 : decode cX0_turnLeft 27 = .ok (.iconst 0, 1) := by decide +kernel
theorem dX0_turnLeft_28 : decode cX0_turnLeft 28 = .ok (.daload, 1) := by decide +kernel
theorem dX0_turnLeft_29 : decode cX0_turnLeft 29 = .ok (.dsub, 1) := by decide +kernel
theorem dX0_turnLeft_30 : decode cX0_turnLeft 30 = .ok (.goto 9, 3) := by decide +kernel
theorem dX0_turnLeft_33 : decode cX0_turnLeft 33 = .ok (.aload_n 0, 1) := by decide +kernel
theorem dX0_turnLeft_34 : decode cX0_turnLeft 34 = .ok (.getfield 17, 3) := by decide +kernel
theorem dX0_turnLeft_37 : decode cX0_turnLeft 37 = .ok (.iconst 0, 1) := by decide +kernel
theorem dX0_turnLeft_38 : decode cX0_turnLeft 38 = .ok (.daload, 1) := by decide +kernel
theorem dX0_turnLeft_39 : decode cX0_turnLeft 39 = .ok (.dastore, 1) := by decide +kernel
theorem dX0_turnLeft_40 : decode cX0_turnLeft 40 = .ok (.return_, 1) := by decide +kernel
theorem dX0_turnRight_0 : decode cX0_turnRight 0 = .ok (.aload_n 0, 1) := by decide +kernel
theorem dX0_turnRight_1 : decode cX0_turnRight 1 = .ok (.getfield 7, 3) := by decide +kernel
theorem dX0_turnRight_4 : decode cX0_turnRight 4 = .ok (.iconst 0, 1) := by decide +kernel
theorem dX0_turnRight_5 : decode cX0_turnRight 5 = .ok (.iaload, 1) := by decide +kernel
theorem dX0_turnRight_6 : decode cX0_turnRight 6 = .ok (.istore_n 1, 1) := by decide +kernel
theorem dX0_turnRight_7 : decode cX0_turnRight 7 = .ok (.aload_n 0, 1) := by decide +kernel
theorem dX0_turnRight_8 : decode cX0_turnRight 8 = .ok (.getfield 7, 3) := by decide +kernel
theorem dX0_turnRight_11 : decode cX0_turnRight 11 = .ok (.iconst 1, 1) := by decide +kernel
theorem dX0_turnRight_12 : decode cX0_turnRight 12 = .ok (.iaload, 1) := by decide +kernel
theorem dX0_turnRight_13 : decode cX0_turnRight 13 = .ok (.i2d, 1) := by decide +kernel
theorem dX0_turnRight_14 : decode cX0_turnRight 14 = .ok (.dstore_n 2, 1) := by decide +kernel
theorem dX0_turnRight_15 : decode cX0_turnRight 15 = .ok (.aload_n 0, 1) := by decide +kernel
theorem dX0_turnRight_16 : decode cX0_turnRight 16 = .ok (.getfield 7, 3) := by decide +kernel
theorem dX0_turnRight_19 : decode cX0_turnRight 19 = .ok (.iconst 5, 1) := by decide +kernel
theorem dX0_turnRight_20 : decode cX0_turnRight 20 = .ok (.iaload, 1) := by decide +kernel
theorem dX0_turnRight_21 : decode cX0_turnRight 21 = .ok (.tableswitch 105 0 2 #[27, 73, 90], 27) := by decide +kernel
theorem dX0_turnRight_48 : decode cX0_turnRight 48 = .ok (.aload_n 0, 1) := by decide +kernel
theorem dX0_turnRight_49 : decode cX0_turnRight 49 = .ok (.getfield 17, 3) := by decide +kernel
theorem dX0_turnRight_52 : decode cX0_turnRight 52 = .ok (.iload_n 1, 1) := by decide +kernel
theorem dX0_turnRight_53 : decode cX0_turnRight 53 = .ok (.aload_n 0, 1) := by decide +kernel
theorem dX0_turnRight_54 : decode cX0_turnRight 54 = .ok (.getfield 13, 3) := by decide +kernel
theorem dX0_turnRight_57 : decode cX0_turnRight 57 = .ok (.iload_n 1, 1) := by decide +kernel
theorem dX0_turnRight_58 : decode cX0_turnRight 58 = .ok (.daload, 1) := by decide +kernel
theorem dX0_turnRight_59 : decode cX0_turnRight 59 = .ok (.aload_n 0, 1) := by decide +kernel
theorem dX0_turnRight_60 : decode cX0_turnRight 60 = .ok (.getfield 7, 3) := by decide +kernel
theorem dX0_turnRight_63 : decode cX0_turnRight 63 = .ok (.bipush 6, 2) := by decide +kernel
theorem dX0_turnRight_65 : decode cX0_turnRight 65 = .ok (.iaload, 1) := by decide +kernel
theorem dX0_turnRight_66 : decode cX0_turnRight 66 = .ok (.aload_n 0, 1) := by decide +kernel
theorem dX0_turnRight_67 : decode cX0_turnRight 67 = .ok (.getfield 7, 3) := by decide +kernel
theorem dX0_turnRight_70 : decode cX0_turnRight 70 = .ok (.iconst 2, 1) := by decide +kernel
theorem dX0_turnRight_71 : decode cX0_turnRight 71 = .ok (.iaload, 1) := by decide +kernel
theorem dX0_turnRight_72 : decode cX0_turnRight 72 = .ok (.aload_n 0, 1) := by decide +kernel
theorem dX0_turnRight_73 : decode cX0_turnRight 73 = .ok (.getfield 7, 3) := by decide +kernel
theorem dX0_turnRight_76 : decode cX0_turnRight 76 = .ok (.bipush 7, 2) := by decide +kernel
theorem dX0_turnRight_78 : decode cX0_turnRight 78 = .ok (.iaload, 1) := by decide +kernel
theorem dX0_turnRight_79 : decode cX0_turnRight 79 = .ok (.aload_n 0, 1) := by decide +kernel
theorem dX0_turnRight_80 : decode cX0_turnRight 80 = .ok (.getfield 7, 3) := by decide +kernel
theorem dX0_turnRight_83 : decode cX0_turnRight 83 = .ok (.bipush 8, 2) := by decide +kernel
theorem dX0_turnRight_85 : decode cX0_turnRight 85 = .ok (.iaload, 1) := by decide +kernel
theorem dX0_turnRight_86 : decode cX0_turnRight 86 = .ok (.invokestatic 77, 3) := by decide +kernel
theorem dX0_turnRight_89 : decode cX0_turnRight 89 = .ok (.dsub, 1) := by decide +kernel
theorem dX0_turnRight_90 : decode cX0_turnRight 90 = .ok (.dastore, 1) := by decide +kernel
theorem dX0_turnRight_91 : decode cX0_turnRight 91 = .ok (.goto 69, 3) := by decide +kernel
theorem dX0_turnRight_94 : decode cX0_turnRight 94 = .ok (.aload_n 0, 1) := by decide +kernel
theorem dX0_turnRight_95 : decode cX0_turnRight 95 = .ok (.getfield 17, 3) := by decide +kernel
theorem dX0_turnRight_98 : decode cX0_turnRight 98 = .ok (.iload_n 1, 1) := by decide +kernel
theorem dX0_turnRight_99 : decode cX0_turnRight 99 = .ok (.dload_n 2, 1) := by decide +kernel
theorem dX0_turnRight_100 : decode cX0_turnRight 100 = .ok (.aload_n 0, 1) := by decide +kernel
theorem dX0_turnRight_101 : decode cX0_turnRight 101 = .ok (.getfield 13, 3) := by decide +kernel
theorem dX0_turnRight_104 : decode cX0_turnRight 104 = .ok (.iload_n 1, 1) := by decide +kernel
theorem dX0_turnRight_105 : decode cX0_turnRight 105 = .ok (.daload, 1) := by decide +kernel
theorem dX0_turnRight_106 : decode cX0_turnRight 106 = .ok (.dsub, 1) := by decide +kernel
theorem dX0_turnRight_107 : decode cX0_turnRight 107 = .ok (.dastore, 1) := by decide +kernel
theorem dX0_turnRight_108 : decode cX0_turnRight 108 = .ok (.goto 52, 3) := by decide +kernel
theorem dX0_turnRight_111 : decode cX0_turnRight 111 = .ok (.aload_n 0, 1) := by decide +kernel
theorem dX0_turnRight_112 : decode cX0_turnRight 112 = .ok (.getfield 17, 3) := by decide +kernel
theorem dX0_turnRight_115 : decode cX0_turnRight 115 = .ok (.iload_n 1, 1) := by decide +kernel
theorem dX0_turnRight_116 : decode cX0_turnRight 116 = .ok (.aload_n 0, 1) := by decide +kernel
theorem dX0_turnRight_117 : decode cX0_turnRight 117 = .ok (.getfield 13, 3) := by decide +kernel
theorem dX0_turnRight_120 : decode cX0_turnRight 120 = .ok (.iload_n 1, 1) := by decide +kernel
theorem dX0_turnRight_121 : decode cX0_turnRight 121 = .ok (.daload, 1) := by decide +kernel
theorem dX0_turnRight_122 : decode cX0_turnRight 122 = .ok (.dastore, 1) := by decide +kernel
theorem dX0_turnRight_123 : decode cX0_turnRight 123 = .ok (.goto 37, 3) := by decide +kernel
theorem dX0_turnRight_126 : decode cX0_turnRight 126 = .ok (.aload_n 0, 1) := by decide +kernel
theorem dX0_turnRight_127 : decode cX0_turnRight 127 = .ok (.getfield 17, 3) := by decide +kernel
theorem dX0_turnRight_130 : decode cX0_turnRight 130 = .ok (.iload_n 1, 1) := by decide +kernel
theorem dX0_turnRight_131 : decode cX0_turnRight 131 = .ok (.aload_n 0, 1) := by decide +kernel
theorem dX0_turnRight_132 : decode cX0_turnRight 132 = .ok (.getfield 58, 3) := by decide +kernel
theorem dX0_turnRight_135 : decode cX0_turnRight 135 = .ok (.aload_n 0, 1) := by decide +kernel
theorem dX0_turnRight_136 : decode cX0_turnRight 136 = .ok (.getfield 13, 3) := by decide +kernel
theorem dX0_turnRight_139 : decode cX0_turnRight 139 = .ok (.iload_n 1, 1) := by decide +kernel
theorem dX0_turnRight_140 : decode cX0_turnRight 140 = .ok (.daload, 1) := by decide +kernel
theorem dX0_turnRight_141 : decode cX0_turnRight 141 = .ok (.dsub, 1) := by decide +kernel
theorem dX0_turnRight_142 : decode cX0_turnRight 142 = .ok (.dastore, 1) := by decide +kernel
theorem dX0_turnRight_143 : decode cX0_turnRight 143 = .ok (.aload_n 0, 1) := by decide +kernel
theorem dX0_turnRight_144 : decode cX0_turnRight 144 = .ok (.aload_n 0, 1) := by decide +kernel
theorem dX0_turnRight_145 : decode cX0_turnRight 145 = .ok (.getfield 13, 3) := by decide +kernel
theorem dX0_turnRight_148 : decode cX0_turnRight 148 = .ok (.iload_n 1, 1) := by decide +kernel
theorem dX0_turnRight_149 : decode cX0_turnRight 149 = .ok (.daload, 1) := by decide +kernel
theorem dX0_turnRight_150 : decode cX0_turnRight 150 = .ok (.aload_n 0, 1) := by decide +kernel
theorem dX0_turnRight_151 : decode cX0_turnRight 151 = .ok (.getfield 17, 3) := by decide +kernel
theorem dX0_turnRight_154 : decode cX0_turnRight 154 = .ok (.iload_n 1, 1) := by decide +kernel
theorem dX0_turnRight_155 : decode cX0_turnRight 155 = .ok (.daload, 1) := by decide +kernel
theorem dX0_turnRight_156 : decode cX0_turnRight 156 = .ok (.dsub, 1) := by decide +kernel
theorem dX0_turnRight_157 : decode cX0_turnRight 157 = .ok (.invokevirtual 81, 3) := by decide +kernel
theorem dX0_turnRight_160 : decode cX0_turnRight 160 = .ok (.return_, 1) := by decide +kernel
theorem dX0_fillTank_0 : decode cX0_fillTank 0 = .ok (.aload_n 0, 1) := by decide +kernel
theorem dX0_fillTank_1 : decode cX0_fillTank 1 = .ok (.getfield 7, 3) := by decide +kernel
theorem dX0_fillTank_4 : decode cX0_fillTank 4 = .ok (.iconst 3, 1) := by decide +kernel
theorem dX0_fillTank_5 : decode cX0_fillTank 5 = .ok (.iaload, 1) := by decide +kernel
theorem dX0_fillTank_6 : decode cX0_fillTank 6 = .ok (.i2d, 1) := by decide +kernel
theorem dX0_fillTank_7 : decode cX0_fillTank 7 = .ok (.dstore_n 3, 1) := by decide +kernel
theorem dX0_fillTank_8 : decode cX0_fillTank 8 = .ok (.aload_n 0, 1) := by decide +kernel
theorem dX0_fillTank_9 : decode cX0_fillTank 9 = .ok (.getfield 58, 3) := by decide +kernel
theorem dX0_fillTank_12 : decode cX0_fillTank 12 = .ok (.dload_n 1, 1) := by decide +kernel
theorem dX0_fillTank_13 : decode cX0_fillTank 13 = .ok (.dload_n 3, 1) := by decide +kernel
theorem dX0_fillTank_14 : decode cX0_fillTank 14 = .ok (.ddiv, 1) := by decide +kernel
theorem dX0_fillTank_15 : decode cX0_fillTank 15 = .ok (.dadd, 1) := by decide +kernel
theorem dX0_fillTank_16 : decode cX0_fillTank 16 = .ok (.dstore 5, 2) := by decide +kernel
theorem dX0_fillTank_18 : decode cX0_fillTank 18 = .ok (.aload_n 0, 1) := by decide +kernel
theorem dX0_fillTank_19 : decode cX0_fillTank 19 = .ok (.dload 5, 2) := by decide +kernel
theorem dX0_fillTank_21 : decode cX0_fillTank 21 = .ok (.ldc2_w 85, 3) := by decide +kernel
theorem dX0_fillTank_24 : decode cX0_fillTank 24 = .ok (.dcmp .l, 1) := by decide +kernel
theorem dX0_fillTank_25 : decode cX0_fillTank 25 = .ok (.ifCond .le 9, 3) := by decide +kernel
theorem dX0_fillTank_28 : decode cX0_fillTank 28 = .ok (.ldc2_w 85, 3) := by decide +kernel
theorem dX0_fillTank_31 : decode cX0_fillTank 31 = .ok (.goto 20, 3) := by decide +kernel
theorem dX0_fillTank_34 : decode cX0_fillTank 34 = .ok (.dload 5, 2) := by decide +kernel
theorem dX0_fillTank_36 : decode cX0_fillTank 36 = .ok (.ldc2_w 87, 3) := by decide +kernel
theorem dX0_fillTank_39 : decode cX0_fillTank 39 = .ok (.dcmp .g, 1) := by decide +kernel
theorem dX0_fillTank_40 : decode cX0_fillTank 40 = .ok (.ifCond .ge 9, 3) := by decide +kernel
theorem dX0_fillTank_43 : decode cX0_fillTank 43 = .ok (.ldc2_w 87, 3) := by decide +kernel
theorem dX0_fillTank_46 : decode cX0_fillTank 46 = .ok (.goto 5, 3) := by decide +kernel
theorem dX0_fillTank_49 : decode cX0_fillTank 49 = .ok (.dload 5, 2) := by decide +kernel
theorem dX0_fillTank_51 : decode cX0_fillTank 51 = .ok (.putfield 58, 3) := by decide +kernel
theorem dX0_fillTank_54 : decode cX0_fillTank 54 = .ok (.return_, 1) := by decide +kernel
theorem dX0_widenEnvelopes_0 : decode cX0_widenEnvelopes 0 = .ok (.iconst 0, 1) := by decide +kernel
theorem dX0_widenEnvelopes_1 : decode cX0_widenEnvelopes 1 = .ok (.istore_n 1, 1) := by decide +kernel
theorem dX0_widenEnvelopes_2 : decode cX0_widenEnvelopes 2 = .ok (.iload_n 1, 1) := by decide +kernel
theorem dX0_widenEnvelopes_3 : decode cX0_widenEnvelopes 3 = .ok (.aload_n 0, 1) := by decide +kernel
theorem dX0_widenEnvelopes_4 : decode cX0_widenEnvelopes 4 = .ok (.getfield 7, 3) := by decide +kernel
theorem dX0_widenEnvelopes_7 : decode cX0_widenEnvelopes 7 = .ok (.iconst 0, 1) := by decide +kernel
theorem dX0_widenEnvelopes_8 : decode cX0_widenEnvelopes 8 = .ok (.iaload, 1) := by decide +kernel
theorem dX0_widenEnvelopes_9 : decode cX0_widenEnvelopes 9 = .ok (.if_icmp .gt 93, 3) := by decide +kernel
theorem dX0_widenEnvelopes_12 : decode cX0_widenEnvelopes 12 = .ok (.aload_n 0, 1) := by decide +kernel
theorem dX0_widenEnvelopes_13 : decode cX0_widenEnvelopes 13 = .ok (.iload_n 1, 1) := by decide +kernel
theorem dX0_widenEnvelopes_14 : decode cX0_widenEnvelopes 14 = .ok (.invokevirtual 61, 3) := by decide +kernel
theorem dX0_widenEnvelopes_17 : decode cX0_widenEnvelopes 17 = .ok (.dstore_n 2, 1) := by decide +kernel
theorem dX0_widenEnvelopes_18 : decode cX0_widenEnvelopes 18 = .ok (.dload_n 2, 1) := by decide +kernel
theorem dX0_widenEnvelopes_19 : decode cX0_widenEnvelopes 19 = .ok (.aload_n 0, 1) := by decide +kernel
theorem dX0_widenEnvelopes_20 : decode cX0_widenEnvelopes 20 = .ok (.getfield 20, 3) := by decide +kernel
theorem dX0_widenEnvelopes_23 : decode cX0_widenEnvelopes 23 = .ok (.iload_n 1, 1) := by decide +kernel
theorem dX0_widenEnvelopes_24 : decode cX0_widenEnvelopes 24 = .ok (.daload, 1) := by decide +kernel
theorem dX0_widenEnvelopes_25 : decode cX0_widenEnvelopes 25 = .ok (.dcmp .l, 1) := by decide +kernel
theorem dX0_widenEnvelopes_26 : decode cX0_widenEnvelopes 26 = .ok (.ifCond .le 31, 3) := by decide +kernel
theorem dX0_widenEnvelopes_29 : decode cX0_widenEnvelopes 29 = .ok (.aload_n 0, 1) := by decide +kernel
theorem dX0_widenEnvelopes_30 : decode cX0_widenEnvelopes 30 = .ok (.getfield 20, 3) := by decide +kernel
theorem dX0_widenEnvelopes_33 : decode cX0_widenEnvelopes 33 = .ok (.iload_n 1, 1) := by decide +kernel
theorem dX0_widenEnvelopes_34 : decode cX0_widenEnvelopes 34 = .ok (.dload_n 2, 1) := by decide +kernel
theorem dX0_widenEnvelopes_35 : decode cX0_widenEnvelopes 35 = .ok (.dastore, 1) := by decide +kernel
theorem dX0_widenEnvelopes_36 : decode cX0_widenEnvelopes 36 = .ok (.aload_n 0, 1) := by decide +kernel
theorem dX0_widenEnvelopes_37 : decode cX0_widenEnvelopes 37 = .ok (.dload_n 2, 1) := by decide +kernel
theorem dX0_widenEnvelopes_38 : decode cX0_widenEnvelopes 38 = .ok (.aload_n 0, 1) := by decide +kernel
theorem dX0_widenEnvelopes_39 : decode cX0_widenEnvelopes 39 = .ok (.getfield 51, 3) := by decide +kernel
theorem dX0_widenEnvelopes_42 : decode cX0_widenEnvelopes 42 = .ok (.dcmp .l, 1) := by decide +kernel
theorem dX0_widenEnvelopes_43 : decode cX0_widenEnvelopes 43 = .ok (.ifCond .le 7, 3) := by decide +kernel
theorem dX0_widenEnvelopes_46 : decode cX0_widenEnvelopes 46 = .ok (.dload_n 2, 1) := by decide +kernel
theorem dX0_widenEnvelopes_47 : decode cX0_widenEnvelopes 47 = .ok (.goto 7, 3) := by decide +kernel
theorem dX0_widenEnvelopes_50 : decode cX0_widenEnvelopes 50 = .ok (.aload_n 0, 1) := by decide +kernel
theorem dX0_widenEnvelopes_51 : decode cX0_widenEnvelopes 51 = .ok (.getfield 51, 3) := by decide +kernel
theorem dX0_widenEnvelopes_54 : decode cX0_widenEnvelopes 54 = .ok (.putfield 51, 3) := by decide +kernel
theorem dX0_widenEnvelopes_57 : decode cX0_widenEnvelopes 57 = .ok (.dload_n 2, 1) := by decide +kernel
theorem dX0_widenEnvelopes_58 : decode cX0_widenEnvelopes 58 = .ok (.aload_n 0, 1) := by decide +kernel
theorem dX0_widenEnvelopes_59 : decode cX0_widenEnvelopes 59 = .ok (.getfield 23, 3) := by decide +kernel
theorem dX0_widenEnvelopes_62 : decode cX0_widenEnvelopes 62 = .ok (.iload_n 1, 1) := by decide +kernel
theorem dX0_widenEnvelopes_63 : decode cX0_widenEnvelopes 63 = .ok (.daload, 1) := by decide +kernel
theorem dX0_widenEnvelopes_64 : decode cX0_widenEnvelopes 64 = .ok (.dcmp .g, 1) := by decide +kernel
theorem dX0_widenEnvelopes_65 : decode cX0_widenEnvelopes 65 = .ok (.ifCond .ge 31, 3) := by decide +kernel
theorem dX0_widenEnvelopes_68 : decode cX0_widenEnvelopes 68 = .ok (.aload_n 0, 1) := by decide +kernel
theorem dX0_widenEnvelopes_69 : decode cX0_widenEnvelopes 69 = .ok (.getfield 23, 3) := by decide +kernel
theorem dX0_widenEnvelopes_72 : decode cX0_widenEnvelopes 72 = .ok (.iload_n 1, 1) := by decide +kernel
theorem dX0_widenEnvelopes_73 : decode cX0_widenEnvelopes 73 = .ok (.dload_n 2, 1) := by decide +kernel
theorem dX0_widenEnvelopes_74 : decode cX0_widenEnvelopes 74 = .ok (.dastore, 1) := by decide +kernel
theorem dX0_widenEnvelopes_75 : decode cX0_widenEnvelopes 75 = .ok (.aload_n 0, 1) := by decide +kernel
theorem dX0_widenEnvelopes_76 : decode cX0_widenEnvelopes 76 = .ok (.dload_n 2, 1) := by decide +kernel
theorem dX0_widenEnvelopes_77 : decode cX0_widenEnvelopes 77 = .ok (.aload_n 0, 1) := by decide +kernel
theorem dX0_widenEnvelopes_78 : decode cX0_widenEnvelopes 78 = .ok (.getfield 55, 3) := by decide +kernel
theorem dX0_widenEnvelopes_81 : decode cX0_widenEnvelopes 81 = .ok (.dcmp .g, 1) := by decide +kernel
theorem dX0_widenEnvelopes_82 : decode cX0_widenEnvelopes 82 = .ok (.ifCond .ge 7, 3) := by decide +kernel
theorem dX0_widenEnvelopes_85 : decode cX0_widenEnvelopes 85 = .ok (.dload_n 2, 1) := by decide +kernel
theorem dX0_widenEnvelopes_86 : decode cX0_widenEnvelopes 86 = .ok (.goto 7, 3) := by decide +kernel
theorem dX0_widenEnvelopes_89 : decode cX0_widenEnvelopes 89 = .ok (.aload_n 0, 1) := by decide +kernel
theorem dX0_widenEnvelopes_90 : decode cX0_widenEnvelopes 90 = .ok (.getfield 55, 3) := by decide +kernel
theorem dX0_widenEnvelopes_93 : decode cX0_widenEnvelopes 93 = .ok (.putfield 55, 3) := by decide +kernel
theorem dX0_widenEnvelopes_96 : decode cX0_widenEnvelopes 96 = .ok (.iinc 1 1, 3) := by decide +kernel
theorem dX0_widenEnvelopes_99 : decode cX0_widenEnvelopes 99 = .ok (.goto (-97), 3) := by decide +kernel
theorem dX0_widenEnvelopes_102 : decode cX0_widenEnvelopes 102 = .ok (.return_, 1) := by decide +kernel
theorem dX1_init_0 : decode cX1_init 0 = .ok (.aload_n 0, 1) := by decide +kernel
theorem dX1_init_1 : decode cX1_init 1 = .ok (.invokespecial 3, 3) := by decide +kernel
theorem dX1_init_4 : decode cX1_init 4 = .ok (.aload_n 0, 1) := by decide +kernel
theorem dX1_init_5 : decode cX1_init 5 = .ok (.bipush 100, 2) := by decide +kernel
theorem dX1_init_7 : decode cX1_init 7 = .ok (.newarray .byte, 2) := by decide +kernel
theorem dX1_init_9 : decode cX1_init 9 = .ok (.putfield 11, 3) := by decide +kernel
theorem dX1_init_12 : decode cX1_init 12 = .ok (.aload_n 0, 1) := by decide +kernel
theorem dX1_init_13 : decode cX1_init 13 = .ok (.iconst 0, 1) := by decide +kernel
theorem dX1_init_14 : decode cX1_init 14 = .ok (.putfield 15, 3) := by decide +kernel
theorem dX1_init_17 : decode cX1_init 17 = .ok (.aload_n 0, 1) := by decide +kernel
theorem dX1_init_18 : decode cX1_init 18 = .ok (.iconst 0, 1) := by decide +kernel
theorem dX1_init_19 : decode cX1_init 19 = .ok (.putfield 19, 3) := by decide +kernel
theorem dX1_init_22 : decode cX1_init 22 = .ok (.aload_n 0, 1) := by decide +kernel
theorem dX1_init_23 : decode cX1_init 23 = .ok (.iconst 0, 1) := by decide +kernel
theorem dX1_init_24 : decode cX1_init 24 = .ok (.putfield 22, 3) := by decide +kernel
theorem dX1_init_27 : decode cX1_init 27 = .ok (.aload_n 0, 1) := by decide +kernel
theorem dX1_init_28 : decode cX1_init 28 = .ok (.iconst 0, 1) := by decide +kernel
theorem dX1_init_29 : decode cX1_init 29 = .ok (.putfield 25, 3) := by decide +kernel
theorem dX1_init_32 : decode cX1_init 32 = .ok (.aload_n 0, 1) := by decide +kernel
theorem dX1_init_33 : decode cX1_init 33 = .ok (.iconst 0, 1) := by decide +kernel
theorem dX1_init_34 : decode cX1_init 34 = .ok (.putfield 28, 3) := by decide +kernel
theorem dX1_init_37 : decode cX1_init 37 = .ok (.aload_n 0, 1) := by decide +kernel
theorem dX1_init_38 : decode cX1_init 38 = .ok (.iconst 0, 1) := by decide +kernel
theorem dX1_init_39 : decode cX1_init 39 = .ok (.putfield 31, 3) := by decide +kernel
theorem dX1_init_42 : decode cX1_init 42 = .ok (.aload_n 0, 1) := by decide +kernel
theorem dX1_init_43 : decode cX1_init 43 = .ok (.iconst 0, 1) := by decide +kernel
theorem dX1_init_44 : decode cX1_init 44 = .ok (.putfield 34, 3) := by decide +kernel
theorem dX1_init_47 : decode cX1_init 47 = .ok (.return_, 1) := by decide +kernel
theorem dX1_valueNamed_0 : decode cX1_valueNamed 0 = .ok (.iload_n 0, 1) := by decide +kernel
theorem dX1_valueNamed_1 : decode cX1_valueNamed 1 = .ok (.tableswitch 99 97 114 #[93, 99, 99, 99, 99, 99, 99, 89, 99, 99, 99, 95, 99, 99, 99, 87, 91, 97], 87) := by decide +kernel
theorem dX1_valueNamed_88 : decode cX1_valueNamed 88 = .ok (.iconst 0, 1) := by decide +kernel
theorem dX1_valueNamed_89 : decode cX1_valueNamed 89 = .ok (.ireturn, 1) := by decide +kernel
theorem dX1_valueNamed_90 : decode cX1_valueNamed 90 = .ok (.iconst 1, 1) := by decide +kernel
theorem dX1_valueNamed_91 : decode cX1_valueNamed 91 = .ok (.ireturn, 1) := by decide +kernel
theorem dX1_valueNamed_92 : decode cX1_valueNamed 92 = .ok (.iconst 2, 1) := by decide +kernel
theorem dX1_valueNamed_93 : decode cX1_valueNamed 93 = .ok (.ireturn, 1) := by decide +kernel
theorem dX1_valueNamed_94 : decode cX1_valueNamed 94 = .ok (.iconst 3, 1) := by decide +kernel
theorem dX1_valueNamed_95 : decode cX1_valueNamed 95 = .ok (.ireturn, 1) := by decide +kernel
theorem dX1_valueNamed_96 : decode cX1_valueNamed 96 = .ok (.iconst 4, 1) := by decide +kernel
theorem dX1_valueNamed_97 : decode cX1_valueNamed 97 = .ok (.ireturn, 1) := by decide +kernel
theorem dX1_valueNamed_98 : decode cX1_valueNamed 98 = .ok (.iconst 5, 1) := by decide +kernel
theorem dX1_valueNamed_99 : decode cX1_valueNamed 99 = .ok (.ireturn, 1) := by decide +kernel
theorem dX1_valueNamed_100 : decode cX1_valueNamed 100 = .ok (.iconst (-1), 1) := by decide +kernel
theorem dX1_valueNamed_101 : decode cX1_valueNamed 101 = .ok (.ireturn, 1) := by decide +kernel
theorem dX1_append_0 : decode cX1_append 0 = .ok (.aload_n 0, 1) := by decide +kernel
theorem dX1_append_1 : decode cX1_append 1 = .ok (.getfield 15, 3) := by decide +kernel
theorem dX1_append_4 : decode cX1_append 4 = .ok (.bipush 100, 2) := by decide +kernel
theorem dX1_append_6 : decode cX1_append 6 = .ok (.if_icmp .lt 5, 3) := by decide +kernel
theorem dX1_append_9 : decode cX1_append 9 = .ok (.iconst 0, 1) := by decide +kernel
theorem dX1_append_10 : decode cX1_append 10 = .ok (.ireturn, 1) := by decide +kernel
theorem dX1_append_11 : decode cX1_append 11 = .ok (.aload_n 0, 1) := by decide +kernel
theorem dX1_append_12 : decode cX1_append 12 = .ok (.getfield 11, 3) := by decide +kernel
theorem dX1_append_15 : decode cX1_append 15 = .ok (.aload_n 0, 1) := by decide +kernel
theorem dX1_append_16 : decode cX1_append 16 = .ok (.getfield 15, 3) := by decide +kernel
theorem dX1_append_19 : decode cX1_append 19 = .ok (.iload_n 1, 1) := by decide +kernel
theorem dX1_append_20 : decode cX1_append 20 = .ok (.i2b, 1) := by decide +kernel
theorem dX1_append_21 : decode cX1_append 21 = .ok (.bastore, 1) := by decide +kernel
theorem dX1_append_22 : decode cX1_append 22 = .ok (.aload_n 0, 1) := by decide +kernel
theorem dX1_append_23 : decode cX1_append 23 = .ok (.dup, 1) := by decide +kernel
theorem dX1_append_24 : decode cX1_append 24 = .ok (.getfield 15, 3) := by decide +kernel
theorem dX1_append_27 : decode cX1_append 27 = .ok (.iconst 1, 1) := by decide +kernel
theorem dX1_append_28 : decode cX1_append 28 = .ok (.iadd, 1) := by decide +kernel
theorem dX1_append_29 : decode cX1_append 29 = .ok (.putfield 15, 3) := by decide +kernel
theorem dX1_append_32 : decode cX1_append 32 = .ok (.iconst 1, 1) := by decide +kernel
theorem dX1_append_33 : decode cX1_append 33 = .ok (.ireturn, 1) := by decide +kernel
theorem dX1_rewind_0 : decode cX1_rewind 0 = .ok (.aload_n 0, 1) := by decide +kernel
theorem dX1_rewind_1 : decode cX1_rewind 1 = .ok (.iconst 0, 1) := by decide +kernel
theorem dX1_rewind_2 : decode cX1_rewind 2 = .ok (.putfield 31, 3) := by decide +kernel
theorem dX1_rewind_5 : decode cX1_rewind 5 = .ok (.return_, 1) := by decide +kernel
theorem dX1_findFault_0 : decode cX1_findFault 0 = .ok (.aload_n 0, 1) := by decide +kernel
theorem dX1_findFault_1 : decode cX1_findFault 1 = .ok (.invokevirtual 39, 3) := by decide +kernel
theorem dX1_findFault_4 : decode cX1_findFault 4 = .ok (.aload_n 0, 1) := by decide +kernel
theorem dX1_findFault_5 : decode cX1_findFault 5 = .ok (.iconst 0, 1) := by decide +kernel
theorem dX1_findFault_6 : decode cX1_findFault 6 = .ok (.putfield 19, 3) := by decide +kernel
theorem dX1_findFault_9 : decode cX1_findFault 9 = .ok (.aload_n 0, 1) := by decide +kernel
theorem dX1_findFault_10 : decode cX1_findFault 10 = .ok (.getfield 19, 3) := by decide +kernel
theorem dX1_findFault_13 : decode cX1_findFault 13 = .ok (.bipush 100, 2) := by decide +kernel
theorem dX1_findFault_15 : decode cX1_findFault 15 = .ok (.if_icmp .ge 48, 3) := by decide +kernel
theorem dX1_findFault_18 : decode cX1_findFault 18 = .ok (.aload_n 0, 1) := by decide +kernel
theorem dX1_findFault_19 : decode cX1_findFault 19 = .ok (.getfield 19, 3) := by decide +kernel
theorem dX1_findFault_22 : decode cX1_findFault 22 = .ok (.ifCond .le 16, 3) := by decide +kernel
theorem dX1_findFault_25 : decode cX1_findFault 25 = .ok (.aload_n 0, 1) := by decide +kernel
theorem dX1_findFault_26 : decode cX1_findFault 26 = .ok (.getfield 31, 3) := by decide +kernel
theorem dX1_findFault_29 : decode cX1_findFault 29 = .ok (.aload_n 0, 1) := by decide +kernel
theorem dX1_findFault_30 : decode cX1_findFault 30 = .ok (.getfield 15, 3) := by decide +kernel
theorem dX1_findFault_33 : decode cX1_findFault 33 = .ok (.if_icmp .lt 5, 3) := by decide +kernel
theorem dX1_findFault_36 : decode cX1_findFault 36 = .ok (.iconst (-1), 1) := by decide +kernel
theorem dX1_findFault_37 : decode cX1_findFault 37 = .ok (.ireturn, 1) := by decide +kernel
theorem dX1_findFault_38 : decode cX1_findFault 38 = .ok (.aload_n 0, 1) := by decide +kernel
theorem dX1_findFault_39 : decode cX1_findFault 39 = .ok (.invokevirtual 42, 3) := by decide +kernel
theorem dX1_findFault_42 : decode cX1_findFault 42 = .ok (.ifCond .ne 8, 3) := by decide +kernel
theorem dX1_findFault_45 : decode cX1_findFault 45 = .ok (.aload_n 0, 1) := by decide +kernel
theorem dX1_findFault_46 : decode cX1_findFault 46 = .ok (.getfield 31, 3) := by decide +kernel
theorem dX1_findFault_49 : decode cX1_findFault 49 = .ok (.ireturn, 1) := by decide +kernel
theorem dX1_findFault_50 : decode cX1_findFault 50 = .ok (.aload_n 0, 1) := by decide +kernel
theorem dX1_findFault_51 : decode cX1_findFault 51 = .ok (.dup, 1) := by decide +kernel
theorem dX1_findFault_52 : decode cX1_findFault 52 = .ok (.getfield 19, 3) := by decide +kernel
theorem dX1_findFault_55 : decode cX1_findFault 55 = .ok (.iconst 1, 1) := by decide +kernel
theorem dX1_findFault_56 : decode cX1_findFault 56 = .ok (.iadd, 1) := by decide +kernel
theorem dX1_findFault_57 : decode cX1_findFault 57 = .ok (.putfield 19, 3) := by decide +kernel
theorem dX1_findFault_60 : decode cX1_findFault 60 = .ok (.goto (-51), 3) := by decide +kernel
theorem dX1_findFault_63 : decode cX1_findFault 63 = .ok (.iconst (-1), 1) := by decide +kernel
theorem dX1_findFault_64 : decode cX1_findFault 64 = .ok (.ireturn, 1) := by decide +kernel
theorem dX1_nextOrder_0 : decode cX1_nextOrder 0 = .ok (.aload_n 0, 1) := by decide +kernel
theorem dX1_nextOrder_1 : decode cX1_nextOrder 1 = .ok (.invokevirtual 46, 3) := by decide +kernel
theorem dX1_nextOrder_4 : decode cX1_nextOrder 4 = .ok (.aload_n 0, 1) := by decide +kernel
theorem dX1_nextOrder_5 : decode cX1_nextOrder 5 = .ok (.aload_n 0, 1) := by decide +kernel
theorem dX1_nextOrder_6 : decode cX1_nextOrder 6 = .ok (.invokevirtual 49, 3) := by decide +kernel
theorem dX1_nextOrder_9 : decode cX1_nextOrder 9 = .ok (.putfield 22, 3) := by decide +kernel
theorem dX1_nextOrder_12 : decode cX1_nextOrder 12 = .ok (.aload_n 0, 1) := by decide +kernel
theorem dX1_nextOrder_13 : decode cX1_nextOrder 13 = .ok (.getfield 22, 3) := by decide +kernel
theorem dX1_nextOrder_16 : decode cX1_nextOrder 16 = .ok (.bipush 119, 2) := by decide +kernel
theorem dX1_nextOrder_18 : decode cX1_nextOrder 18 = .ok (.if_icmp .eq 25, 3) := by decide +kernel
theorem dX1_nextOrder_21 : decode cX1_nextOrder 21 = .ok (.aload_n 0, 1) := by decide +kernel
theorem dX1_nextOrder_22 : decode cX1_nextOrder 22 = .ok (.getfield 22, 3) := by decide +kernel
theorem dX1_nextOrder_25 : decode cX1_nextOrder 25 = .ok (.bipush 115, 2) := by decide +kernel
theorem dX1_nextOrder_27 : decode cX1_nextOrder 27 = .ok (.if_icmp .eq 16, 3) := by decide +kernel
theorem dX1_nextOrder_30 : decode cX1_nextOrder 30 = .ok (.aload_n 0, 1) := by decide +kernel
theorem dX1_nextOrder_31 : decode cX1_nextOrder 31 = .ok (.getfield 22, 3) := by decide +kernel
theorem dX1_nextOrder_34 : decode cX1_nextOrder 34 = .ok (.invokestatic 53, 3) := by decide +kernel
theorem dX1_nextOrder_37 : decode cX1_nextOrder 37 = .ok (.iconst (-1), 1) := by decide +kernel
theorem dX1_nextOrder_38 : decode cX1_nextOrder 38 = .ok (.if_icmp .ne 5, 3) := by decide +kernel
theorem dX1_nextOrder_41 : decode cX1_nextOrder 41 = .ok (.iconst 0, 1) := by decide +kernel
theorem dX1_nextOrder_42 : decode cX1_nextOrder 42 = .ok (.ireturn, 1) := by decide +kernel
theorem dX1_nextOrder_43 : decode cX1_nextOrder 43 = .ok (.aload_n 0, 1) := by decide +kernel
theorem dX1_nextOrder_44 : decode cX1_nextOrder 44 = .ok (.dup, 1) := by decide +kernel
theorem dX1_nextOrder_45 : decode cX1_nextOrder 45 = .ok (.getfield 31, 3) := by decide +kernel
theorem dX1_nextOrder_48 : decode cX1_nextOrder 48 = .ok (.iconst 1, 1) := by decide +kernel
theorem dX1_nextOrder_49 : decode cX1_nextOrder 49 = .ok (.iadd, 1) := by decide +kernel
theorem dX1_nextOrder_50 : decode cX1_nextOrder 50 = .ok (.putfield 31, 3) := by decide +kernel
theorem dX1_nextOrder_53 : decode cX1_nextOrder 53 = .ok (.aload_n 0, 1) := by decide +kernel
theorem dX1_nextOrder_54 : decode cX1_nextOrder 54 = .ok (.invokevirtual 46, 3) := by decide +kernel
theorem dX1_nextOrder_57 : decode cX1_nextOrder 57 = .ok (.aload_n 0, 1) := by decide +kernel
theorem dX1_nextOrder_58 : decode cX1_nextOrder 58 = .ok (.invokevirtual 57, 3) := by decide +kernel
theorem dX1_nextOrder_61 : decode cX1_nextOrder 61 = .ok (.ifCond .eq 12, 3) := by decide +kernel
theorem dX1_nextOrder_64 : decode cX1_nextOrder 64 = .ok (.aload_n 0, 1) := by decide +kernel
theorem dX1_nextOrder_65 : decode cX1_nextOrder 65 = .ok (.invokevirtual 49, 3) := by decide +kernel
theorem dX1_nextOrder_68 : decode cX1_nextOrder 68 = .ok (.bipush 59, 2) := by decide +kernel
theorem dX1_nextOrder_70 : decode cX1_nextOrder 70 = .ok (.if_icmp .eq 5, 3) := by decide +kernel
theorem dX1_nextOrder_73 : decode cX1_nextOrder 73 = .ok (.iconst 0, 1) := by decide +kernel
theorem dX1_nextOrder_74 : decode cX1_nextOrder 74 = .ok (.ireturn, 1) := by decide +kernel
theorem dX1_nextOrder_75 : decode cX1_nextOrder 75 = .ok (.aload_n 0, 1) := by decide +kernel
theorem dX1_nextOrder_76 : decode cX1_nextOrder 76 = .ok (.dup, 1) := by decide +kernel
theorem dX1_nextOrder_77 : decode cX1_nextOrder 77 = .ok (.getfield 31, 3) := by decide +kernel
theorem dX1_nextOrder_80 : decode cX1_nextOrder 80 = .ok (.iconst 1, 1) := by decide +kernel
theorem dX1_nextOrder_81 : decode cX1_nextOrder 81 = .ok (.iadd, 1) := by decide +kernel
theorem dX1_nextOrder_82 : decode cX1_nextOrder 82 = .ok (.putfield 31, 3) := by decide +kernel
theorem dX1_nextOrder_85 : decode cX1_nextOrder 85 = .ok (.aload_n 0, 1) := by decide +kernel
theorem dX1_nextOrder_86 : decode cX1_nextOrder 86 = .ok (.invokevirtual 46, 3) := by decide +kernel
theorem dX1_nextOrder_89 : decode cX1_nextOrder 89 = .ok (.iconst 1, 1) := by decide +kernel
theorem dX1_nextOrder_90 : decode cX1_nextOrder 90 = .ok (.ireturn, 1) := by decide +kernel
theorem dX1_takeNumbers_0 : decode cX1_takeNumbers 0 = .ok (.aload_n 0, 1) := by decide +kernel
theorem dX1_takeNumbers_1 : decode cX1_takeNumbers 1 = .ok (.getfield 22, 3) := by decide +kernel
theorem dX1_takeNumbers_4 : decode cX1_takeNumbers 4 = .ok (.bipush 104, 2) := by decide +kernel
theorem dX1_takeNumbers_6 : decode cX1_takeNumbers 6 = .ok (.if_icmp .eq 12, 3) := by decide +kernel
theorem dX1_takeNumbers_9 : decode cX1_takeNumbers 9 = .ok (.aload_n 0, 1) := by decide +kernel
theorem dX1_takeNumbers_10 : decode cX1_takeNumbers 10 = .ok (.getfield 22, 3) := by decide +kernel
theorem dX1_takeNumbers_13 : decode cX1_takeNumbers 13 = .ok (.bipush 113, 2) := by decide +kernel
theorem dX1_takeNumbers_15 : decode cX1_takeNumbers 15 = .ok (.if_icmp .ne 16, 3) := by decide +kernel
theorem dX1_takeNumbers_18 : decode cX1_takeNumbers 18 = .ok (.aload_n 0, 1) := by decide +kernel
theorem dX1_takeNumbers_19 : decode cX1_takeNumbers 19 = .ok (.invokevirtual 49, 3) := by decide +kernel
theorem dX1_takeNumbers_22 : decode cX1_takeNumbers 22 = .ok (.bipush 45, 2) := by decide +kernel
theorem dX1_takeNumbers_24 : decode cX1_takeNumbers 24 = .ok (.if_icmp .ne 7, 3) := by decide +kernel
theorem dX1_takeNumbers_27 : decode cX1_takeNumbers 27 = .ok (.iconst 1, 1) := by decide +kernel
theorem dX1_takeNumbers_28 : decode cX1_takeNumbers 28 = .ok (.goto 4, 3) := by decide +kernel
theorem dX1_takeNumbers_31 : decode cX1_takeNumbers 31 = .ok (.iconst 0, 1) := by decide +kernel
theorem dX1_takeNumbers_32 : decode cX1_takeNumbers 32 = .ok (.istore_n 1, 1) := by decide +kernel
theorem dX1_takeNumbers_33 : decode cX1_takeNumbers 33 = .ok (.iload_n 1, 1) := by decide +kernel
theorem dX1_takeNumbers_34 : decode cX1_takeNumbers 34 = .ok (.ifCond .eq 13, 3) := by decide +kernel
theorem dX1_takeNumbers_37 : decode cX1_takeNumbers 37 = .ok (.aload_n 0, 1) := by decide +kernel
theorem dX1_takeNumbers_38 : decode cX1_takeNumbers 38 = .ok (.dup, 1) := by decide +kernel
theorem dX1_takeNumbers_39 : decode cX1_takeNumbers 39 = .ok (.getfield 31, 3) := by decide +kernel
theorem dX1_takeNumbers_42 : decode cX1_takeNumbers 42 = .ok (.iconst 1, 1) := by decide +kernel
theorem dX1_takeNumbers_43 : decode cX1_takeNumbers 43 = .ok (.iadd, 1) := by decide +kernel
theorem dX1_takeNumbers_44 : decode cX1_takeNumbers 44 = .ok (.putfield 31, 3) := by decide +kernel
theorem dX1_takeNumbers_47 : decode cX1_takeNumbers 47 = .ok (.aload_n 0, 1) := by decide +kernel
theorem dX1_takeNumbers_48 : decode cX1_takeNumbers 48 = .ok (.invokevirtual 60, 3) := by decide +kernel
theorem dX1_takeNumbers_51 : decode cX1_takeNumbers 51 = .ok (.ifCond .ne 5, 3) := by decide +kernel
theorem dX1_takeNumbers_54 : decode cX1_takeNumbers 54 = .ok (.iconst 0, 1) := by decide +kernel
theorem dX1_takeNumbers_55 : decode cX1_takeNumbers 55 = .ok (.ireturn, 1) := by decide +kernel
theorem dX1_takeNumbers_56 : decode cX1_takeNumbers 56 = .ok (.aload_n 0, 1) := by decide +kernel
theorem dX1_takeNumbers_57 : decode cX1_takeNumbers 57 = .ok (.iload_n 1, 1) := by decide +kernel
theorem dX1_takeNumbers_58 : decode cX1_takeNumbers 58 = .ok (.ifCond .eq 11, 3) := by decide +kernel
theorem dX1_takeNumbers_61 : decode cX1_takeNumbers 61 = .ok (.aload_n 0, 1) := by decide +kernel
theorem dX1_takeNumbers_62 : decode cX1_takeNumbers 62 = .ok (.getfield 34, 3) := by decide +kernel
theorem dX1_takeNumbers_65 : decode cX1_takeNumbers 65 = .ok (.ineg, 1) := by decide +kernel
theorem dX1_takeNumbers_66 : decode cX1_takeNumbers 66 = .ok (.goto 7, 3) := by decide +kernel
theorem dX1_takeNumbers_69 : decode cX1_takeNumbers 69 = .ok (.aload_n 0, 1) := by decide +kernel
theorem dX1_takeNumbers_70 : decode cX1_takeNumbers 70 = .ok (.getfield 34, 3) := by decide +kernel
theorem dX1_takeNumbers_73 : decode cX1_takeNumbers 73 = .ok (.putfield 25, 3) := by decide +kernel
theorem dX1_takeNumbers_76 : decode cX1_takeNumbers 76 = .ok (.aload_n 0, 1) := by decide +kernel
theorem dX1_takeNumbers_77 : decode cX1_takeNumbers 77 = .ok (.getfield 22, 3) := by decide +kernel
theorem dX1_takeNumbers_80 : decode cX1_takeNumbers 80 = .ok (.bipush 119, 2) := by decide +kernel
theorem dX1_takeNumbers_82 : decode cX1_takeNumbers 82 = .ok (.if_icmp .ne 35, 3) := by decide +kernel
theorem dX1_takeNumbers_85 : decode cX1_takeNumbers 85 = .ok (.aload_n 0, 1) := by decide +kernel
theorem dX1_takeNumbers_86 : decode cX1_takeNumbers 86 = .ok (.invokevirtual 49, 3) := by decide +kernel
theorem dX1_takeNumbers_89 : decode cX1_takeNumbers 89 = .ok (.bipush 32, 2) := by decide +kernel
theorem dX1_takeNumbers_91 : decode cX1_takeNumbers 91 = .ok (.if_icmp .eq 5, 3) := by decide +kernel
theorem dX1_takeNumbers_94 : decode cX1_takeNumbers 94 = .ok (.iconst 0, 1) := by decide +kernel
theorem dX1_takeNumbers_95 : decode cX1_takeNumbers 95 = .ok (.ireturn, 1) := by decide +kernel
theorem dX1_takeNumbers_96 : decode cX1_takeNumbers 96 = .ok (.aload_n 0, 1) := by decide +kernel
theorem dX1_takeNumbers_97 : decode cX1_takeNumbers 97 = .ok (.invokevirtual 46, 3) := by decide +kernel
theorem dX1_takeNumbers_100 : decode cX1_takeNumbers 100 = .ok (.aload_n 0, 1) := by decide +kernel
theorem dX1_takeNumbers_101 : decode cX1_takeNumbers 101 = .ok (.invokevirtual 60, 3) := by decide +kernel
theorem dX1_takeNumbers_104 : decode cX1_takeNumbers 104 = .ok (.ifCond .ne 5, 3) := by decide +kernel
theorem dX1_takeNumbers_107 : decode cX1_takeNumbers 107 = .ok (.iconst 0, 1) := by decide +kernel
theorem dX1_takeNumbers_108 : decode cX1_takeNumbers 108 = .ok (.ireturn, 1) := by decide +kernel
theorem dX1_takeNumbers_109 : decode cX1_takeNumbers 109 = .ok (.aload_n 0, 1) := by decide +kernel
theorem dX1_takeNumbers_110 : decode cX1_takeNumbers 110 = .ok (.aload_n 0, 1) := by decide +kernel
theorem dX1_takeNumbers_111 : decode cX1_takeNumbers 111 = .ok (.getfield 34, 3) := by decide +kernel
theorem dX1_takeNumbers_114 : decode cX1_takeNumbers 114 = .ok (.putfield 28, 3) := by decide +kernel
theorem dX1_takeNumbers_117 : decode cX1_takeNumbers 117 = .ok (.aload_n 0, 1) := by decide +kernel
theorem dX1_takeNumbers_118 : decode cX1_takeNumbers 118 = .ok (.invokevirtual 46, 3) := by decide +kernel
theorem dX1_takeNumbers_121 : decode cX1_takeNumbers 121 = .ok (.iconst 1, 1) := by decide +kernel
theorem dX1_takeNumbers_122 : decode cX1_takeNumbers 122 = .ok (.ireturn, 1) := by decide +kernel
end
section
theorem dX1_takeNumber_0 : decode cX1_takeNumber 0 = .ok (.aload_n 0, 1) := by decide +kernel
theorem dX1_takeNumber_1 : decode cX1_takeNumber 1 = .ok (.iconst 0, 1) := by decide +kernel
theorem dX1_takeNumber_2 : decode cX1_takeNumber 2 = .ok (.putfield 34, 3) := by decide +kernel
theorem dX1_takeNumber_5 : decode cX1_takeNumber 5 = .ok (.iconst 0, 1) := by decide +kernel
theorem dX1_takeNumber_6 : decode cX1_takeNumber 6 = .ok (.istore_n 1, 1) := by decide +kernel
theorem dX1_takeNumber_7 : decode cX1_takeNumber 7 = .ok (.iload_n 1, 1) := by decide +kernel
theorem dX1_takeNumber_8 : decode cX1_takeNumber 8 = .ok (.iconst 4, 1) := by decide +kernel
theorem dX1_takeNumber_9 : decode cX1_takeNumber 9 = .ok (.if_icmp .ge 56, 3) := by decide +kernel
theorem dX1_takeNumber_12 : decode cX1_takeNumber 12 = .ok (.aload_n 0, 1) := by decide +kernel
theorem dX1_takeNumber_13 : decode cX1_takeNumber 13 = .ok (.invokevirtual 49, 3) := by decide +kernel
theorem dX1_takeNumber_16 : decode cX1_takeNumber 16 = .ok (.bipush 48, 2) := by decide +kernel
theorem dX1_takeNumber_18 : decode cX1_takeNumber 18 = .ok (.if_icmp .lt 47, 3) := by decide +kernel
theorem dX1_takeNumber_21 : decode cX1_takeNumber 21 = .ok (.aload_n 0, 1) := by decide +kernel
theorem dX1_takeNumber_22 : decode cX1_takeNumber 22 = .ok (.invokevirtual 49, 3) := by decide +kernel
theorem dX1_takeNumber_25 : decode cX1_takeNumber 25 = .ok (.bipush 57, 2) := by decide +kernel
theorem dX1_takeNumber_27 : decode cX1_takeNumber 27 = .ok (.if_icmp .gt 38, 3) := by decide +kernel
theorem dX1_takeNumber_30 : decode cX1_takeNumber 30 = .ok (.aload_n 0, 1) := by decide +kernel
theorem dX1_takeNumber_31 : decode cX1_takeNumber 31 = .ok (.aload_n 0, 1) := by decide +kernel
theorem dX1_takeNumber_32 : decode cX1_takeNumber 32 = .ok (.getfield 34, 3) := by decide +kernel
theorem dX1_takeNumber_35 : decode cX1_takeNumber 35 = .ok (.bipush 10, 2) := by decide +kernel
theorem dX1_takeNumber_37 : decode cX1_takeNumber 37 = .ok (.imul, 1) := by decide +kernel
theorem dX1_takeNumber_38 : decode cX1_takeNumber 38 = .ok (.aload_n 0, 1) := by decide +kernel
theorem dX1_takeNumber_39 : decode cX1_takeNumber 39 = .ok (.invokevirtual 49, 3) := by decide +kernel
theorem dX1_takeNumber_42 : decode cX1_takeNumber 42 = .ok (.bipush 48, 2) := by decide +kernel
theorem dX1_takeNumber_44 : decode cX1_takeNumber 44 = .ok (.isub, 1) := by decide +kernel
theorem dX1_takeNumber_45 : decode cX1_takeNumber 45 = .ok (.iadd, 1) := by decide +kernel
theorem dX1_takeNumber_46 : decode cX1_takeNumber 46 = .ok (.putfield 34, 3) := by decide +kernel
theorem dX1_takeNumber_49 : decode cX1_takeNumber 49 = .ok (.aload_n 0, 1) := by decide +kernel
theorem dX1_takeNumber_50 : decode cX1_takeNumber 50 = .ok (.dup, 1) := by decide +kernel
theorem dX1_takeNumber_51 : decode cX1_takeNumber 51 = .ok (.getfield 31, 3) := by decide +kernel
theorem dX1_takeNumber_54 : decode cX1_takeNumber 54 = .ok (.iconst 1, 1) := by decide +kernel
theorem dX1_takeNumber_55 : decode cX1_takeNumber 55 = .ok (.iadd, 1) := by decide +kernel
theorem dX1_takeNumber_56 : decode cX1_takeNumber 56 = .ok (.putfield 31, 3) := by decide +kernel
theorem dX1_takeNumber_59 : decode cX1_takeNumber 59 = .ok (.iinc 1 1, 3) := by decide +kernel
theorem dX1_takeNumber_62 : decode cX1_takeNumber 62 = .ok (.goto (-55), 3) := by decide +kernel
theorem dX1_takeNumber_65 : decode cX1_takeNumber 65 = .ok (.iload_n 1, 1) := by decide +kernel
theorem dX1_takeNumber_66 : decode cX1_takeNumber 66 = .ok (.ifCond .le 7, 3) := by decide +kernel
theorem dX1_takeNumber_69 : decode cX1_takeNumber 69 = .ok (.iconst 1, 1) := by decide +kernel
theorem dX1_takeNumber_70 : decode cX1_takeNumber 70 = .ok (.goto 4, 3) := by decide +kernel
theorem dX1_takeNumber_73 : decode cX1_takeNumber 73 = .ok (.iconst 0, 1) := by decide +kernel
theorem dX1_takeNumber_74 : decode cX1_takeNumber 74 = .ok (.ireturn, 1) := by decide +kernel
theorem dX1_skipBlanks_0 : decode cX1_skipBlanks 0 = .ok (.aload_n 0, 1) := by decide +kernel
theorem dX1_skipBlanks_1 : decode cX1_skipBlanks 1 = .ok (.getfield 31, 3) := by decide +kernel
theorem dX1_skipBlanks_4 : decode cX1_skipBlanks 4 = .ok (.aload_n 0, 1) := by decide +kernel
theorem dX1_skipBlanks_5 : decode cX1_skipBlanks 5 = .ok (.getfield 15, 3) := by decide +kernel
theorem dX1_skipBlanks_8 : decode cX1_skipBlanks 8 = .ok (.if_icmp .ge 30, 3) := by decide +kernel
theorem dX1_skipBlanks_11 : decode cX1_skipBlanks 11 = .ok (.aload_n 0, 1) := by decide +kernel
theorem dX1_skipBlanks_12 : decode cX1_skipBlanks 12 = .ok (.getfield 11, 3) := by decide +kernel
theorem dX1_skipBlanks_15 : decode cX1_skipBlanks 15 = .ok (.aload_n 0, 1) := by decide +kernel
theorem dX1_skipBlanks_16 : decode cX1_skipBlanks 16 = .ok (.getfield 31, 3) := by decide +kernel
theorem dX1_skipBlanks_19 : decode cX1_skipBlanks 19 = .ok (.baload, 1) := by decide +kernel
theorem dX1_skipBlanks_20 : decode cX1_skipBlanks 20 = .ok (.bipush 32, 2) := by decide +kernel
theorem dX1_skipBlanks_22 : decode cX1_skipBlanks 22 = .ok (.if_icmp .ne 16, 3) := by decide +kernel
theorem dX1_skipBlanks_25 : decode cX1_skipBlanks 25 = .ok (.aload_n 0, 1) := by decide +kernel
theorem dX1_skipBlanks_26 : decode cX1_skipBlanks 26 = .ok (.dup, 1) := by decide +kernel
theorem dX1_skipBlanks_27 : decode cX1_skipBlanks 27 = .ok (.getfield 31, 3) := by decide +kernel
theorem dX1_skipBlanks_30 : decode cX1_skipBlanks 30 = .ok (.iconst 1, 1) := by decide +kernel
theorem dX1_skipBlanks_31 : decode cX1_skipBlanks 31 = .ok (.iadd, 1) := by decide +kernel
theorem dX1_skipBlanks_32 : decode cX1_skipBlanks 32 = .ok (.putfield 31, 3) := by decide +kernel
theorem dX1_skipBlanks_35 : decode cX1_skipBlanks 35 = .ok (.goto (-35), 3) := by decide +kernel
theorem dX1_skipBlanks_38 : decode cX1_skipBlanks 38 = .ok (.return_, 1) := by decide +kernel
theorem dX1_byteHere_0 : decode cX1_byteHere 0 = .ok (.aload_n 0, 1) := by decide +kernel
theorem dX1_byteHere_1 : decode cX1_byteHere 1 = .ok (.getfield 31, 3) := by decide +kernel
theorem dX1_byteHere_4 : decode cX1_byteHere 4 = .ok (.aload_n 0, 1) := by decide +kernel
theorem dX1_byteHere_5 : decode cX1_byteHere 5 = .ok (.getfield 15, 3) := by decide +kernel
theorem dX1_byteHere_8 : decode cX1_byteHere 8 = .ok (.if_icmp .ge 15, 3) := by decide +kernel
theorem dX1_byteHere_11 : decode cX1_byteHere 11 = .ok (.aload_n 0, 1) := by decide +kernel
theorem dX1_byteHere_12 : decode cX1_byteHere 12 = .ok (.getfield 11, 3) := by decide +kernel
theorem dX1_byteHere_15 : decode cX1_byteHere 15 = .ok (.aload_n 0, 1) := by decide +kernel
theorem dX1_byteHere_16 : decode cX1_byteHere 16 = .ok (.getfield 31, 3) := by decide +kernel
theorem dX1_byteHere_19 : decode cX1_byteHere 19 = .ok (.baload, 1) := by decide +kernel
theorem dX1_byteHere_20 : decode cX1_byteHere 20 = .ok (.goto 4, 3) := by decide +kernel
theorem dX1_byteHere_23 : decode cX1_byteHere 23 = .ok (.iconst (-1), 1) := by decide +kernel
theorem dX1_byteHere_24 : decode cX1_byteHere 24 = .ok (.ireturn, 1) := by decide +kernel
theorem dX2_init_0 : decode cX2_init 0 = .ok (.aload_n 0, 1) := by decide +kernel
theorem dX2_init_1 : decode cX2_init 1 = .ok (.invokespecial 1, 3) := by decide +kernel
theorem dX2_init_4 : decode cX2_init 4 = .ok (.aload_n 0, 1) := by decide +kernel
theorem dX2_init_5 : decode cX2_init 5 = .ok (.new 7, 3) := by decide +kernel
theorem dX2_init_8 : decode cX2_init 8 = .ok (.dup, 1) := by decide +kernel
theorem dX2_init_9 : decode cX2_init 9 = .ok (.invokespecial 9, 3) := by decide +kernel
theorem dX2_init_12 : decode cX2_init 12 = .ok (.putfield 10, 3) := by decide +kernel
theorem dX2_init_15 : decode cX2_init 15 = .ok (.aload_n 0, 1) := by decide +kernel
theorem dX2_init_16 : decode cX2_init 16 = .ok (.new 7, 3) := by decide +kernel
theorem dX2_init_19 : decode cX2_init 19 = .ok (.dup, 1) := by decide +kernel
theorem dX2_init_20 : decode cX2_init 20 = .ok (.invokespecial 9, 3) := by decide +kernel
theorem dX2_init_23 : decode cX2_init 23 = .ok (.putfield 16, 3) := by decide +kernel
theorem dX2_init_26 : decode cX2_init 26 = .ok (.aload_n 0, 1) := by decide +kernel
theorem dX2_init_27 : decode cX2_init 27 = .ok (.iconst 4, 1) := by decide +kernel
theorem dX2_init_28 : decode cX2_init 28 = .ok (.anewarray 7, 3) := by decide +kernel
theorem dX2_init_31 : decode cX2_init 31 = .ok (.putfield 19, 3) := by decide +kernel
theorem dX2_init_34 : decode cX2_init 34 = .ok (.aload_n 0, 1) := by decide +kernel
theorem dX2_init_35 : decode cX2_init 35 = .ok (.iconst 0, 1) := by decide +kernel
theorem dX2_init_36 : decode cX2_init 36 = .ok (.putfield 23, 3) := by decide +kernel
theorem dX2_init_39 : decode cX2_init 39 = .ok (.aload_n 0, 1) := by decide +kernel
theorem dX2_init_40 : decode cX2_init 40 = .ok (.iconst 0, 1) := by decide +kernel
theorem dX2_init_41 : decode cX2_init 41 = .ok (.putfield 27, 3) := by decide +kernel
theorem dX2_init_44 : decode cX2_init 44 = .ok (.aload_n 0, 1) := by decide +kernel
theorem dX2_init_45 : decode cX2_init 45 = .ok (.iconst 3, 1) := by decide +kernel
theorem dX2_init_46 : decode cX2_init 46 = .ok (.newarray .int, 2) := by decide +kernel
theorem dX2_init_48 : decode cX2_init 48 = .ok (.putfield 30, 3) := by decide +kernel
theorem dX2_init_51 : decode cX2_init 51 = .ok (.aload_n 0, 1) := by decide +kernel
theorem dX2_init_52 : decode cX2_init 52 = .ok (.new 34, 3) := by decide +kernel
theorem dX2_init_55 : decode cX2_init 55 = .ok (.dup, 1) := by decide +kernel
theorem dX2_init_56 : decode cX2_init 56 = .ok (.invokespecial 36, 3) := by decide +kernel
theorem dX2_init_59 : decode cX2_init 59 = .ok (.putfield 37, 3) := by decide +kernel
theorem dX2_init_62 : decode cX2_init 62 = .ok (.iconst 0, 1) := by decide +kernel
theorem dX2_init_63 : decode cX2_init 63 = .ok (.istore_n 1, 1) := by decide +kernel
theorem dX2_init_64 : decode cX2_init 64 = .ok (.iload_n 1, 1) := by decide +kernel
theorem dX2_init_65 : decode cX2_init 65 = .ok (.iconst 4, 1) := by decide +kernel
theorem dX2_init_66 : decode cX2_init 66 = .ok (.if_icmp .ge 22, 3) := by decide +kernel
theorem dX2_init_69 : decode cX2_init 69 = .ok (.aload_n 0, 1) := by decide +kernel
theorem dX2_init_70 : decode cX2_init 70 = .ok (.getfield 19, 3) := by decide +kernel
theorem dX2_init_73 : decode cX2_init 73 = .ok (.iload_n 1, 1) := by decide +kernel
theorem dX2_init_74 : decode cX2_init 74 = .ok (.new 7, 3) := by decide +kernel
theorem dX2_init_77 : decode cX2_init 77 = .ok (.dup, 1) := by decide +kernel
theorem dX2_init_78 : decode cX2_init 78 = .ok (.invokespecial 9, 3) := by decide +kernel
theorem dX2_init_81 : decode cX2_init 81 = .ok (.aastore, 1) := by decide +kernel
theorem dX2_init_82 : decode cX2_init 82 = .ok (.iinc 1 1, 3) := by decide +kernel
theorem dX2_init_85 : decode cX2_init 85 = .ok (.goto (-21), 3) := by decide +kernel
theorem dX2_init_88 : decode cX2_init 88 = .ok (.return_, 1) := by decide +kernel
theorem dX2_pipe_0 : decode cX2_pipe 0 = .ok (.aload_n 0, 1) := by decide +kernel
theorem dX2_pipe_1 : decode cX2_pipe 1 = .ok (.iconst 0, 1) := by decide +kernel
theorem dX2_pipe_2 : decode cX2_pipe 2 = .ok (.iload_n 1, 1) := by decide +kernel
theorem dX2_pipe_3 : decode cX2_pipe 3 = .ok (.invokevirtual 41, 3) := by decide +kernel
theorem dX2_pipe_6 : decode cX2_pipe 6 = .ok (.ireturn, 1) := by decide +kernel
theorem dX2_sets_0 : decode cX2_sets 0 = .ok (.iload_n 1, 1) := by decide +kernel
theorem dX2_sets_1 : decode cX2_sets 1 = .ok (.ifCond .lt 8, 3) := by decide +kernel
theorem dX2_sets_4 : decode cX2_sets 4 = .ok (.iload_n 1, 1) := by decide +kernel
theorem dX2_sets_5 : decode cX2_sets 5 = .ok (.iconst 2, 1) := by decide +kernel
theorem dX2_sets_6 : decode cX2_sets 6 = .ok (.if_icmp .le 10, 3) := by decide +kernel
theorem dX2_sets_9 : decode cX2_sets 9 = .ok (.aload_n 0, 1) := by decide +kernel
theorem dX2_sets_10 : decode cX2_sets 10 = .ok (.bipush (-2), 2) := by decide +kernel
theorem dX2_sets_12 : decode cX2_sets 12 = .ok (.invokevirtual 45, 3) := by decide +kernel
theorem dX2_sets_15 : decode cX2_sets 15 = .ok (.ireturn, 1) := by decide +kernel
theorem dX2_sets_16 : decode cX2_sets 16 = .ok (.aload_n 0, 1) := by decide +kernel
theorem dX2_sets_17 : decode cX2_sets 17 = .ok (.iconst 1, 1) := by decide +kernel
theorem dX2_sets_18 : decode cX2_sets 18 = .ok (.iload_n 1, 1) := by decide +kernel
theorem dX2_sets_19 : decode cX2_sets 19 = .ok (.iadd, 1) := by decide +kernel
theorem dX2_sets_20 : decode cX2_sets 20 = .ok (.iload_n 2, 1) := by decide +kernel
theorem dX2_sets_21 : decode cX2_sets 21 = .ok (.invokevirtual 41, 3) := by decide +kernel
theorem dX2_sets_24 : decode cX2_sets 24 = .ok (.ireturn, 1) := by decide +kernel
theorem dX2_ends_0 : decode cX2_ends 0 = .ok (.iload_n 1, 1) := by decide +kernel
theorem dX2_ends_1 : decode cX2_ends 1 = .ok (.ifCond .lt 8, 3) := by decide +kernel
theorem dX2_ends_4 : decode cX2_ends 4 = .ok (.iload_n 1, 1) := by decide +kernel
theorem dX2_ends_5 : decode cX2_ends 5 = .ok (.iconst 1, 1) := by decide +kernel
theorem dX2_ends_6 : decode cX2_ends 6 = .ok (.if_icmp .le 10, 3) := by decide +kernel
theorem dX2_ends_9 : decode cX2_ends 9 = .ok (.aload_n 0, 1) := by decide +kernel
theorem dX2_ends_10 : decode cX2_ends 10 = .ok (.bipush (-2), 2) := by decide +kernel
theorem dX2_ends_12 : decode cX2_ends 12 = .ok (.invokevirtual 45, 3) := by decide +kernel
theorem dX2_ends_15 : decode cX2_ends 15 = .ok (.ireturn, 1) := by decide +kernel
theorem dX2_ends_16 : decode cX2_ends 16 = .ok (.aload_n 0, 1) := by decide +kernel
theorem dX2_ends_17 : decode cX2_ends 17 = .ok (.iconst 4, 1) := by decide +kernel
theorem dX2_ends_18 : decode cX2_ends 18 = .ok (.iload_n 1, 1) := by decide +kernel
theorem dX2_ends_19 : decode cX2_ends 19 = .ok (.iadd, 1) := by decide +kernel
theorem dX2_ends_20 : decode cX2_ends 20 = .ok (.iload_n 2, 1) := by decide +kernel
theorem dX2_ends_21 : decode cX2_ends 21 = .ok (.invokevirtual 41, 3) := by decide +kernel
theorem dX2_ends_24 : decode cX2_ends 24 = .ok (.ireturn, 1) := by decide +kernel
theorem dX2_law_0 : decode cX2_law 0 = .ok (.iload_n 1, 1) := by decide +kernel
theorem dX2_law_1 : decode cX2_law 1 = .ok (.iload_n 2, 1) := by decide +kernel
theorem dX2_law_2 : decode cX2_law 2 = .ok (.invokestatic 49, 3) := by decide +kernel
theorem dX2_law_5 : decode cX2_law 5 = .ok (.ifCond .ne 10, 3) := by decide +kernel
theorem dX2_law_8 : decode cX2_law 8 = .ok (.aload_n 0, 1) := by decide +kernel
theorem dX2_law_9 : decode cX2_law 9 = .ok (.bipush (-2), 2) := by decide +kernel
theorem dX2_law_11 : decode cX2_law 11 = .ok (.invokevirtual 45, 3) := by decide +kernel
theorem dX2_law_14 : decode cX2_law 14 = .ok (.ireturn, 1) := by decide +kernel
theorem dX2_law_15 : decode cX2_law 15 = .ok (.aload_n 0, 1) := by decide +kernel
theorem dX2_law_16 : decode cX2_law 16 = .ok (.aload_n 0, 1) := by decide +kernel
theorem dX2_law_17 : decode cX2_law 17 = .ok (.getfield 10, 3) := by decide +kernel
theorem dX2_law_20 : decode cX2_law 20 = .ok (.invokevirtual 53, 3) := by decide +kernel
theorem dX2_law_23 : decode cX2_law 23 = .ok (.aload_n 0, 1) := by decide +kernel
theorem dX2_law_24 : decode cX2_law 24 = .ok (.getfield 10, 3) := by decide +kernel
theorem dX2_law_27 : decode cX2_law 27 = .ok (.getfield 57, 3) := by decide +kernel
theorem dX2_law_30 : decode cX2_law 30 = .ok (.bipush 6, 2) := by decide +kernel
theorem dX2_law_32 : decode cX2_law 32 = .ok (.iaload, 1) := by decide +kernel
theorem dX2_law_33 : decode cX2_law 33 = .ok (.istore_n 3, 1) := by decide +kernel
theorem dX2_law_34 : decode cX2_law 34 = .ok (.aload_n 0, 1) := by decide +kernel
theorem dX2_law_35 : decode cX2_law 35 = .ok (.getfield 10, 3) := by decide +kernel
theorem dX2_law_38 : decode cX2_law 38 = .ok (.iload_n 1, 1) := by decide +kernel
theorem dX2_law_39 : decode cX2_law 39 = .ok (.iload_n 2, 1) := by decide +kernel
theorem dX2_law_40 : decode cX2_law 40 = .ok (.invokevirtual 60, 3) := by decide +kernel
theorem dX2_law_43 : decode cX2_law 43 = .ok (.iload_n 3, 1) := by decide +kernel
theorem dX2_law_44 : decode cX2_law 44 = .ok (.ireturn, 1) := by decide +kernel
theorem dX2_steady_0 : decode cX2_steady 0 = .ok (.aload_n 0, 1) := by decide +kernel
theorem dX2_steady_1 : decode cX2_steady 1 = .ok (.aload_n 0, 1) := by decide +kernel
theorem dX2_steady_2 : decode cX2_steady 2 = .ok (.getfield 10, 3) := by decide +kernel
theorem dX2_steady_5 : decode cX2_steady 5 = .ok (.invokevirtual 53, 3) := by decide +kernel
theorem dX2_steady_8 : decode cX2_steady 8 = .ok (.aload_n 0, 1) := by decide +kernel
theorem dX2_steady_9 : decode cX2_steady 9 = .ok (.getfield 10, 3) := by decide +kernel
theorem dX2_steady_12 : decode cX2_steady 12 = .ok (.getfield 57, 3) := by decide +kernel
theorem dX2_steady_15 : decode cX2_steady 15 = .ok (.bipush 8, 2) := by decide +kernel
theorem dX2_steady_17 : decode cX2_steady 17 = .ok (.iaload, 1) := by decide +kernel
theorem dX2_steady_18 : decode cX2_steady 18 = .ok (.istore_n 1, 1) := by decide +kernel
theorem dX2_steady_19 : decode cX2_steady 19 = .ok (.aload_n 0, 1) := by decide +kernel
theorem dX2_steady_20 : decode cX2_steady 20 = .ok (.getfield 10, 3) := by decide +kernel
theorem dX2_steady_23 : decode cX2_steady 23 = .ok (.invokevirtual 64, 3) := by decide +kernel
theorem dX2_steady_26 : decode cX2_steady 26 = .ok (.iload_n 1, 1) := by decide +kernel
theorem dX2_steady_27 : decode cX2_steady 27 = .ok (.ireturn, 1) := by decide +kernel
theorem dX2_steps_0 : decode cX2_steps 0 = .ok (.iload_n 1, 1) := by decide +kernel
theorem dX2_steps_1 : decode cX2_steps 1 = .ok (.invokestatic 67, 3) := by decide +kernel
theorem dX2_steps_4 : decode cX2_steps 4 = .ok (.ifCond .ne 10, 3) := by decide +kernel
theorem dX2_steps_7 : decode cX2_steps 7 = .ok (.aload_n 0, 1) := by decide +kernel
theorem dX2_steps_8 : decode cX2_steps 8 = .ok (.bipush (-2), 2) := by decide +kernel
theorem dX2_steps_10 : decode cX2_steps 10 = .ok (.invokevirtual 45, 3) := by decide +kernel
theorem dX2_steps_13 : decode cX2_steps 13 = .ok (.ireturn, 1) := by decide +kernel
theorem dX2_steps_14 : decode cX2_steps 14 = .ok (.aload_n 0, 1) := by decide +kernel
theorem dX2_steps_15 : decode cX2_steps 15 = .ok (.iload_n 1, 1) := by decide +kernel
theorem dX2_steps_16 : decode cX2_steps 16 = .ok (.invokevirtual 71, 3) := by decide +kernel
theorem dX2_steps_19 : decode cX2_steps 19 = .ok (.ifCond .ne 10, 3) := by decide +kernel
theorem dX2_steps_22 : decode cX2_steps 22 = .ok (.aload_n 0, 1) := by decide +kernel
theorem dX2_steps_23 : decode cX2_steps 23 = .ok (.bipush (-4), 2) := by decide +kernel
theorem dX2_steps_25 : decode cX2_steps 25 = .ok (.invokevirtual 45, 3) := by decide +kernel
theorem dX2_steps_28 : decode cX2_steps 28 = .ok (.ireturn, 1) := by decide +kernel
theorem dX2_steps_29 : decode cX2_steps 29 = .ok (.aload_n 0, 1) := by decide +kernel
theorem dX2_steps_30 : decode cX2_steps 30 = .ok (.aload_n 0, 1) := by decide +kernel
theorem dX2_steps_31 : decode cX2_steps 31 = .ok (.getfield 10, 3) := by decide +kernel
theorem dX2_steps_34 : decode cX2_steps 34 = .ok (.invokevirtual 53, 3) := by decide +kernel
theorem dX2_steps_37 : decode cX2_steps 37 = .ok (.aload_n 0, 1) := by decide +kernel
theorem dX2_steps_38 : decode cX2_steps 38 = .ok (.getfield 10, 3) := by decide +kernel
theorem dX2_steps_41 : decode cX2_steps 41 = .ok (.iload_n 1, 1) := by decide +kernel
theorem dX2_steps_42 : decode cX2_steps 42 = .ok (.invokevirtual 74, 3) := by decide +kernel
theorem dX2_steps_45 : decode cX2_steps 45 = .ok (.aload_n 0, 1) := by decide +kernel
theorem dX2_steps_46 : decode cX2_steps 46 = .ok (.getfield 10, 3) := by decide +kernel
theorem dX2_steps_49 : decode cX2_steps 49 = .ok (.getfield 57, 3) := by decide +kernel
theorem dX2_steps_52 : decode cX2_steps 52 = .ok (.bipush 8, 2) := by decide +kernel
theorem dX2_steps_54 : decode cX2_steps 54 = .ok (.iaload, 1) := by decide +kernel
theorem dX2_steps_55 : decode cX2_steps 55 = .ok (.ireturn, 1) := by decide +kernel
theorem dX2_node_0 : decode cX2_node 0 = .ok (.aload_n 0, 1) := by decide +kernel
theorem dX2_node_1 : decode cX2_node 1 = .ok (.getfield 10, 3) := by decide +kernel
theorem dX2_node_4 : decode cX2_node 4 = .ok (.iload_n 1, 1) := by decide +kernel
theorem dX2_node_5 : decode cX2_node 5 = .ok (.invokevirtual 78, 3) := by decide +kernel
theorem dX2_node_8 : decode cX2_node 8 = .ok (.ifCond .eq 12, 3) := by decide +kernel
theorem dX2_node_11 : decode cX2_node 11 = .ok (.iload_n 2, 1) := by decide +kernel
theorem dX2_node_12 : decode cX2_node 12 = .ok (.ifCond .lt 8, 3) := by decide +kernel
theorem dX2_node_15 : decode cX2_node 15 = .ok (.iload_n 2, 1) := by decide +kernel
theorem dX2_node_16 : decode cX2_node 16 = .ok (.iconst 5, 1) := by decide +kernel
theorem dX2_node_17 : decode cX2_node 17 = .ok (.if_icmp .le 8, 3) := by decide +kernel
theorem dX2_node_20 : decode cX2_node 20 = .ok (.aload_n 0, 1) := by decide +kernel
theorem dX2_node_21 : decode cX2_node 21 = .ok (.invokevirtual 81, 3) := by decide +kernel
theorem dX2_node_24 : decode cX2_node 24 = .ok (.lreturn, 1) := by decide +kernel
theorem dX2_node_25 : decode cX2_node 25 = .ok (.iload_n 2, 1) := by decide +kernel
theorem dX2_node_26 : decode cX2_node 26 = .ok (.tableswitch 108 0 4 #[34, 46, 69, 82, 95], 34) := by decide +kernel
theorem dX2_node_60 : decode cX2_node 60 = .ok (.aload_n 0, 1) := by decide +kernel
theorem dX2_node_61 : decode cX2_node 61 = .ok (.getfield 10, 3) := by decide +kernel
theorem dX2_node_64 : decode cX2_node 64 = .ok (.iload_n 1, 1) := by decide +kernel
theorem dX2_node_65 : decode cX2_node 65 = .ok (.invokevirtual 85, 3) := by decide +kernel
theorem dX2_node_68 : decode cX2_node 68 = .ok (.invokestatic 89, 3) := by decide +kernel
theorem dX2_node_71 : decode cX2_node 71 = .ok (.lreturn, 1) := by decide +kernel
theorem dX2_node_72 : decode cX2_node 72 = .ok (.aload_n 0, 1) := by decide +kernel
theorem dX2_node_73 : decode cX2_node 73 = .ok (.getfield 10, 3) := by decide +kernel
theorem dX2_node_76 : decode cX2_node 76 = .ok (.getfield 93, 3) := by decide +kernel
theorem dX2_node_79 : decode cX2_node 79 = .ok (.iload_n 1, 1) := by decide +kernel
theorem dX2_node_80 : decode cX2_node 80 = .ok (.daload, 1) := by decide +kernel
theorem dX2_node_81 : decode cX2_node 81 = .ok (.aload_n 0, 1) := by decide +kernel
theorem dX2_node_82 : decode cX2_node 82 = .ok (.getfield 10, 3) := by decide +kernel
theorem dX2_node_85 : decode cX2_node 85 = .ok (.getfield 97, 3) := by decide +kernel
theorem dX2_node_88 : decode cX2_node 88 = .ok (.iload_n 1, 1) := by decide +kernel
theorem dX2_node_89 : decode cX2_node 89 = .ok (.daload, 1) := by decide +kernel
theorem dX2_node_90 : decode cX2_node 90 = .ok (.dsub, 1) := by decide +kernel
theorem dX2_node_91 : decode cX2_node 91 = .ok (.invokestatic 89, 3) := by decide +kernel
theorem dX2_node_94 : decode cX2_node 94 = .ok (.lreturn, 1) := by decide +kernel
theorem dX2_node_95 : decode cX2_node 95 = .ok (.aload_n 0, 1) := by decide +kernel
theorem dX2_node_96 : decode cX2_node 96 = .ok (.getfield 10, 3) := by decide +kernel
theorem dX2_node_99 : decode cX2_node 99 = .ok (.getfield 93, 3) := by decide +kernel
theorem dX2_node_102 : decode cX2_node 102 = .ok (.iload_n 1, 1) := by decide +kernel
theorem dX2_node_103 : decode cX2_node 103 = .ok (.daload, 1) := by decide +kernel
theorem dX2_node_104 : decode cX2_node 104 = .ok (.invokestatic 89, 3) := by decide +kernel
theorem dX2_node_107 : decode cX2_node 107 = .ok (.lreturn, 1) := by decide +kernel
theorem dX2_node_108 : decode cX2_node 108 = .ok (.aload_n 0, 1) := by decide +kernel
theorem dX2_node_109 : decode cX2_node 109 = .ok (.getfield 10, 3) := by decide +kernel
theorem dX2_node_112 : decode cX2_node 112 = .ok (.getfield 97, 3) := by decide +kernel
theorem dX2_node_115 : decode cX2_node 115 = .ok (.iload_n 1, 1) := by decide +kernel
theorem dX2_node_116 : decode cX2_node 116 = .ok (.daload, 1) := by decide +kernel
theorem dX2_node_117 : decode cX2_node 117 = .ok (.invokestatic 89, 3) := by decide +kernel
theorem dX2_node_120 : decode cX2_node 120 = .ok (.lreturn, 1) := by decide +kernel
theorem dX2_node_121 : decode cX2_node 121 = .ok (.aload_n 0, 1) := by decide +kernel
theorem dX2_node_122 : decode cX2_node 122 = .ok (.getfield 10, 3) := by decide +kernel
theorem dX2_node_125 : decode cX2_node 125 = .ok (.getfield 100, 3) := by decide +kernel
theorem dX2_node_128 : decode cX2_node 128 = .ok (.iload_n 1, 1) := by decide +kernel
theorem dX2_node_129 : decode cX2_node 129 = .ok (.daload, 1) := by decide +kernel
theorem dX2_node_130 : decode cX2_node 130 = .ok (.invokestatic 89, 3) := by decide +kernel
theorem dX2_node_133 : decode cX2_node 133 = .ok (.lreturn, 1) := by decide +kernel
theorem dX2_node_134 : decode cX2_node 134 = .ok (.aload_n 0, 1) := by decide +kernel
theorem dX2_node_135 : decode cX2_node 135 = .ok (.getfield 10, 3) := by decide +kernel
theorem dX2_node_138 : decode cX2_node 138 = .ok (.getfield 103, 3) := by decide +kernel
theorem dX2_node_141 : decode cX2_node 141 = .ok (.iload_n 1, 1) := by decide +kernel
theorem dX2_node_142 : decode cX2_node 142 = .ok (.daload, 1) := by decide +kernel
theorem dX2_node_143 : decode cX2_node 143 = .ok (.invokestatic 89, 3) := by decide +kernel
theorem dX2_node_146 : decode cX2_node 146 = .ok (.lreturn, 1) := by decide +kernel
theorem dX2_all_0 : decode cX2_all 0 = .ok (.iload_n 1, 1) := by decide +kernel
theorem dX2_all_1 : decode cX2_all 1 = .ok (.tableswitch 75 0 3 #[31, 42, 53, 64], 31) := by decide +kernel
theorem dX2_all_32 : decode cX2_all 32 = .ok (.aload_n 0, 1) := by decide +kernel
theorem dX2_all_33 : decode cX2_all 33 = .ok (.getfield 10, 3) := by decide +kernel
theorem dX2_all_36 : decode cX2_all 36 = .ok (.invokevirtual 106, 3) := by decide +kernel
theorem dX2_all_39 : decode cX2_all 39 = .ok (.invokestatic 89, 3) := by decide +kernel
theorem dX2_all_42 : decode cX2_all 42 = .ok (.lreturn, 1) := by decide +kernel
theorem dX2_all_43 : decode cX2_all 43 = .ok (.aload_n 0, 1) := by decide +kernel
theorem dX2_all_44 : decode cX2_all 44 = .ok (.getfield 10, 3) := by decide +kernel
theorem dX2_all_47 : decode cX2_all 47 = .ok (.getfield 110, 3) := by decide +kernel
theorem dX2_all_50 : decode cX2_all 50 = .ok (.invokestatic 89, 3) := by decide +kernel
theorem dX2_all_53 : decode cX2_all 53 = .ok (.lreturn, 1) := by decide +kernel
theorem dX2_all_54 : decode cX2_all 54 = .ok (.aload_n 0, 1) := by decide +kernel
theorem dX2_all_55 : decode cX2_all 55 = .ok (.getfield 10, 3) := by decide +kernel
theorem dX2_all_58 : decode cX2_all 58 = .ok (.getfield 114, 3) := by decide +kernel
theorem dX2_all_61 : decode cX2_all 61 = .ok (.invokestatic 89, 3) := by decide +kernel
theorem dX2_all_64 : decode cX2_all 64 = .ok (.lreturn, 1) := by decide +kernel
theorem dX2_all_65 : decode cX2_all 65 = .ok (.aload_n 0, 1) := by decide +kernel
theorem dX2_all_66 : decode cX2_all 66 = .ok (.getfield 10, 3) := by decide +kernel
theorem dX2_all_69 : decode cX2_all 69 = .ok (.getfield 117, 3) := by decide +kernel
theorem dX2_all_72 : decode cX2_all 72 = .ok (.invokestatic 89, 3) := by decide +kernel
theorem dX2_all_75 : decode cX2_all 75 = .ok (.lreturn, 1) := by decide +kernel
theorem dX2_all_76 : decode cX2_all 76 = .ok (.aload_n 0, 1) := by decide +kernel
theorem dX2_all_77 : decode cX2_all 77 = .ok (.invokevirtual 81, 3) := by decide +kernel
theorem dX2_all_80 : decode cX2_all 80 = .ok (.lreturn, 1) := by decide +kernel
theorem dX2_bits_0 : decode cX2_bits 0 = .ok (.aload_n 0, 1) := by decide +kernel
theorem dX2_bits_1 : decode cX2_bits 1 = .ok (.getfield 10, 3) := by decide +kernel
theorem dX2_bits_4 : decode cX2_bits 4 = .ok (.iload_n 1, 1) := by decide +kernel
theorem dX2_bits_5 : decode cX2_bits 5 = .ok (.invokevirtual 78, 3) := by decide +kernel
theorem dX2_bits_8 : decode cX2_bits 8 = .ok (.ifCond .ne 8, 3) := by decide +kernel
theorem dX2_bits_11 : decode cX2_bits 11 = .ok (.aload_n 0, 1) := by decide +kernel
theorem dX2_bits_12 : decode cX2_bits 12 = .ok (.invokevirtual 81, 3) := by decide +kernel
theorem dX2_bits_15 : decode cX2_bits 15 = .ok (.lreturn, 1) := by decide +kernel
theorem dX2_bits_16 : decode cX2_bits 16 = .ok (.aload_n 0, 1) := by decide +kernel
theorem dX2_bits_17 : decode cX2_bits 17 = .ok (.getfield 10, 3) := by decide +kernel
theorem dX2_bits_20 : decode cX2_bits 20 = .ok (.iload_n 1, 1) := by decide +kernel
theorem dX2_bits_21 : decode cX2_bits 21 = .ok (.invokevirtual 85, 3) := by decide +kernel
theorem dX2_bits_24 : decode cX2_bits 24 = .ok (.invokestatic 120, 3) := by decide +kernel
theorem dX2_bits_27 : decode cX2_bits 27 = .ok (.lreturn, 1) := by decide +kernel
theorem dX2_lets_0 : decode cX2_lets 0 = .ok (.iload_n 1, 1) := by decide +kernel
theorem dX2_lets_1 : decode cX2_lets 1 = .ok (.iload_n 2, 1) := by decide +kernel
theorem dX2_lets_2 : decode cX2_lets 2 = .ok (.invokestatic 49, 3) := by decide +kernel
theorem dX2_lets_5 : decode cX2_lets 5 = .ok (.ifCond .eq 14, 3) := by decide +kernel
theorem dX2_lets_8 : decode cX2_lets 8 = .ok (.iload_n 3, 1) := by decide +kernel
theorem dX2_lets_9 : decode cX2_lets 9 = .ok (.ifCond .lt 10, 3) := by decide +kernel
theorem dX2_lets_12 : decode cX2_lets 12 = .ok (.iload_n 3, 1) := by decide +kernel
theorem dX2_lets_13 : decode cX2_lets 13 = .ok (.sipush 9999, 3) := by decide +kernel
theorem dX2_lets_16 : decode cX2_lets 16 = .ok (.if_icmp .le 8, 3) := by decide +kernel
theorem dX2_lets_19 : decode cX2_lets 19 = .ok (.aload_n 0, 1) := by decide +kernel
theorem dX2_lets_20 : decode cX2_lets 20 = .ok (.invokevirtual 81, 3) := by decide +kernel
theorem dX2_lets_23 : decode cX2_lets 23 = .ok (.lreturn, 1) := by decide +kernel
theorem dX2_lets_24 : decode cX2_lets 24 = .ok (.iload_n 1, 1) := by decide +kernel
theorem dX2_lets_25 : decode cX2_lets 25 = .ok (.aload_n 0, 1) := by decide +kernel
theorem dX2_lets_26 : decode cX2_lets 26 = .ok (.getfield 10, 3) := by decide +kernel
theorem dX2_lets_29 : decode cX2_lets 29 = .ok (.getfield 57, 3) := by decide +kernel
theorem dX2_lets_32 : decode cX2_lets 32 = .ok (.iconst 2, 1) := by decide +kernel
theorem dX2_lets_33 : decode cX2_lets 33 = .ok (.iaload, 1) := by decide +kernel
theorem dX2_lets_34 : decode cX2_lets 34 = .ok (.iload_n 2, 1) := by decide +kernel
theorem dX2_lets_35 : decode cX2_lets 35 = .ok (.iload_n 3, 1) := by decide +kernel
theorem dX2_lets_36 : decode cX2_lets 36 = .ok (.invokestatic 123, 3) := by decide +kernel
theorem dX2_lets_39 : decode cX2_lets 39 = .ok (.invokestatic 89, 3) := by decide +kernel
theorem dX2_lets_42 : decode cX2_lets 42 = .ok (.lreturn, 1) := by decide +kernel
theorem dX2_trial_0 : decode cX2_trial 0 = .ok (.iload_n 1, 1) := by decide +kernel
theorem dX2_trial_1 : decode cX2_trial 1 = .ok (.iload_n 2, 1) := by decide +kernel
theorem dX2_trial_2 : decode cX2_trial 2 = .ok (.invokestatic 49, 3) := by decide +kernel
theorem dX2_trial_5 : decode cX2_trial 5 = .ok (.ifCond .eq 10, 3) := by decide +kernel
theorem dX2_trial_8 : decode cX2_trial 8 = .ok (.iload_n 3, 1) := by decide +kernel
theorem dX2_trial_9 : decode cX2_trial 9 = .ok (.invokestatic 127, 3) := by decide +kernel
theorem dX2_trial_12 : decode cX2_trial 12 = .ok (.ifCond .ne 8, 3) := by decide +kernel
theorem dX2_trial_15 : decode cX2_trial 15 = .ok (.aload_n 0, 1) := by decide +kernel
theorem dX2_trial_16 : decode cX2_trial 16 = .ok (.invokevirtual 81, 3) := by decide +kernel
theorem dX2_trial_19 : decode cX2_trial 19 = .ok (.lreturn, 1) := by decide +kernel
theorem dX2_trial_20 : decode cX2_trial 20 = .ok (.aload_n 0, 1) := by decide +kernel
theorem dX2_trial_21 : decode cX2_trial 21 = .ok (.getfield 16, 3) := by decide +kernel
theorem dX2_trial_24 : decode cX2_trial 24 = .ok (.aload_n 0, 1) := by decide +kernel
theorem dX2_trial_25 : decode cX2_trial 25 = .ok (.getfield 10, 3) := by decide +kernel
theorem dX2_trial_28 : decode cX2_trial 28 = .ok (.iload_n 1, 1) := by decide +kernel
theorem dX2_trial_29 : decode cX2_trial 29 = .ok (.iload_n 2, 1) := by decide +kernel
theorem dX2_trial_30 : decode cX2_trial 30 = .ok (.invokevirtual 130, 3) := by decide +kernel
theorem dX2_trial_33 : decode cX2_trial 33 = .ok (.aload_n 0, 1) := by decide +kernel
theorem dX2_trial_34 : decode cX2_trial 34 = .ok (.getfield 16, 3) := by decide +kernel
theorem dX2_trial_37 : decode cX2_trial 37 = .ok (.iload_n 3, 1) := by decide +kernel
theorem dX2_trial_38 : decode cX2_trial 38 = .ok (.invokevirtual 74, 3) := by decide +kernel
theorem dX2_trial_41 : decode cX2_trial 41 = .ok (.aload_n 0, 1) := by decide +kernel
theorem dX2_trial_42 : decode cX2_trial 42 = .ok (.getfield 16, 3) := by decide +kernel
theorem dX2_trial_45 : decode cX2_trial 45 = .ok (.getfield 110, 3) := by decide +kernel
theorem dX2_trial_48 : decode cX2_trial 48 = .ok (.invokestatic 89, 3) := by decide +kernel
theorem dX2_trial_51 : decode cX2_trial 51 = .ok (.lreturn, 1) := by decide +kernel
theorem dX2_soonest_0 : decode cX2_soonest 0 = .ok (.bipush 6, 2) := by decide +kernel
theorem dX2_soonest_2 : decode cX2_soonest 2 = .ok (.iload_n 1, 1) := by decide +kernel
theorem dX2_soonest_3 : decode cX2_soonest 3 = .ok (.invokestatic 134, 3) := by decide +kernel
theorem dX2_soonest_6 : decode cX2_soonest 6 = .ok (.ifCond .eq 17, 3) := by decide +kernel
theorem dX2_soonest_9 : decode cX2_soonest 9 = .ok (.iload_n 2, 1) := by decide +kernel
theorem dX2_soonest_10 : decode cX2_soonest 10 = .ok (.invokestatic 137, 3) := by decide +kernel
theorem dX2_soonest_13 : decode cX2_soonest 13 = .ok (.ifCond .eq 10, 3) := by decide +kernel
theorem dX2_soonest_16 : decode cX2_soonest 16 = .ok (.iload_n 3, 1) := by decide +kernel
theorem dX2_soonest_17 : decode cX2_soonest 17 = .ok (.invokestatic 127, 3) := by decide +kernel
theorem dX2_soonest_20 : decode cX2_soonest 20 = .ok (.ifCond .ne 10, 3) := by decide +kernel
theorem dX2_soonest_23 : decode cX2_soonest 23 = .ok (.aload_n 0, 1) := by decide +kernel
theorem dX2_soonest_24 : decode cX2_soonest 24 = .ok (.bipush (-2), 2) := by decide +kernel
theorem dX2_soonest_26 : decode cX2_soonest 26 = .ok (.invokevirtual 45, 3) := by decide +kernel
theorem dX2_soonest_29 : decode cX2_soonest 29 = .ok (.ireturn, 1) := by decide +kernel
theorem dX2_soonest_30 : decode cX2_soonest 30 = .ok (.iconst 1, 1) := by decide +kernel
theorem dX2_soonest_31 : decode cX2_soonest 31 = .ok (.istore 4, 2) := by decide +kernel
theorem dX2_soonest_33 : decode cX2_soonest 33 = .ok (.iload 4, 2) := by decide +kernel
theorem dX2_soonest_35 : decode cX2_soonest 35 = .ok (.bipush 60, 2) := by decide +kernel
theorem dX2_soonest_37 : decode cX2_soonest 37 = .ok (.if_icmp .gt 24, 3) := by decide +kernel
theorem dX2_soonest_40 : decode cX2_soonest 40 = .ok (.aload_n 0, 1) := by decide +kernel
theorem dX2_soonest_41 : decode cX2_soonest 41 = .ok (.iload_n 1, 1) := by decide +kernel
theorem dX2_soonest_42 : decode cX2_soonest 42 = .ok (.iload 4, 2) := by decide +kernel
theorem dX2_soonest_44 : decode cX2_soonest 44 = .ok (.iload_n 2, 1) := by decide +kernel
theorem dX2_soonest_45 : decode cX2_soonest 45 = .ok (.iload_n 3, 1) := by decide +kernel
theorem dX2_soonest_46 : decode cX2_soonest 46 = .ok (.invokevirtual 140, 3) := by decide +kernel
theorem dX2_soonest_49 : decode cX2_soonest 49 = .ok (.ifCond .eq 6, 3) := by decide +kernel
theorem dX2_soonest_52 : decode cX2_soonest 52 = .ok (.iload 4, 2) := by decide +kernel
theorem dX2_soonest_54 : decode cX2_soonest 54 = .ok (.ireturn, 1) := by decide +kernel
theorem dX2_soonest_55 : decode cX2_soonest 55 = .ok (.iinc 4 1, 3) := by decide +kernel
theorem dX2_soonest_58 : decode cX2_soonest 58 = .ok (.goto (-25), 3) := by decide +kernel
theorem dX2_soonest_61 : decode cX2_soonest 61 = .ok (.iconst (-1), 1) := by decide +kernel
theorem dX2_soonest_62 : decode cX2_soonest 62 = .ok (.ireturn, 1) := by decide +kernel
theorem dX2_best_0 : decode cX2_best 0 = .ok (.iload_n 1, 1) := by decide +kernel
theorem dX2_best_1 : decode cX2_best 1 = .ok (.invokestatic 137, 3) := by decide +kernel
theorem dX2_best_4 : decode cX2_best 4 = .ok (.ifCond .eq 19, 3) := by decide +kernel
theorem dX2_best_7 : decode cX2_best 7 = .ok (.iload_n 2, 1) := by decide +kernel
theorem dX2_best_8 : decode cX2_best 8 = .ok (.invokestatic 127, 3) := by decide +kernel
theorem dX2_best_11 : decode cX2_best 11 = .ok (.ifCond .eq 12, 3) := by decide +kernel
theorem dX2_best_14 : decode cX2_best 14 = .ok (.iload_n 3, 1) := by decide +kernel
theorem dX2_best_15 : decode cX2_best 15 = .ok (.ifCond .lt 8, 3) := by decide +kernel
theorem dX2_best_18 : decode cX2_best 18 = .ok (.iload_n 3, 1) := by decide +kernel
theorem dX2_best_19 : decode cX2_best 19 = .ok (.iconst 1, 1) := by decide +kernel
theorem dX2_best_20 : decode cX2_best 20 = .ok (.if_icmp .le 10, 3) := by decide +kernel
theorem dX2_best_23 : decode cX2_best 23 = .ok (.aload_n 0, 1) := by decide +kernel
theorem dX2_best_24 : decode cX2_best 24 = .ok (.bipush (-2), 2) := by decide +kernel
theorem dX2_best_26 : decode cX2_best 26 = .ok (.invokevirtual 45, 3) := by decide +kernel
theorem dX2_best_29 : decode cX2_best 29 = .ok (.ireturn, 1) := by decide +kernel
theorem dX2_best_30 : decode cX2_best 30 = .ok (.iconst 1, 1) := by decide +kernel
theorem dX2_best_31 : decode cX2_best 31 = .ok (.istore 4, 2) := by decide +kernel
theorem dX2_best_33 : decode cX2_best 33 = .ok (.iload 4, 2) := by decide +kernel
theorem dX2_best_35 : decode cX2_best 35 = .ok (.bipush 60, 2) := by decide +kernel
theorem dX2_best_37 : decode cX2_best 37 = .ok (.if_icmp .gt 49, 3) := by decide +kernel
theorem dX2_best_40 : decode cX2_best 40 = .ok (.iconst 1, 1) := by decide +kernel
theorem dX2_best_41 : decode cX2_best 41 = .ok (.istore 5, 2) := by decide +kernel
theorem dX2_best_43 : decode cX2_best 43 = .ok (.iload 5, 2) := by decide +kernel
theorem dX2_best_45 : decode cX2_best 45 = .ok (.iconst 4, 1) := by decide +kernel
theorem dX2_best_46 : decode cX2_best 46 = .ok (.if_icmp .gt 34, 3) := by decide +kernel
theorem dX2_best_49 : decode cX2_best 49 = .ok (.aload_n 0, 1) := by decide +kernel
theorem dX2_best_50 : decode cX2_best 50 = .ok (.iload 5, 2) := by decide +kernel
theorem dX2_best_52 : decode cX2_best 52 = .ok (.iload 4, 2) := by decide +kernel
theorem dX2_best_54 : decode cX2_best 54 = .ok (.iload_n 1, 1) := by decide +kernel
theorem dX2_best_55 : decode cX2_best 55 = .ok (.iload_n 2, 1) := by decide +kernel
theorem dX2_best_56 : decode cX2_best 56 = .ok (.invokevirtual 140, 3) := by decide +kernel
theorem dX2_best_59 : decode cX2_best 59 = .ok (.ifCond .eq 15, 3) := by decide +kernel
theorem dX2_best_62 : decode cX2_best 62 = .ok (.iload_n 3, 1) := by decide +kernel
theorem dX2_best_63 : decode cX2_best 63 = .ok (.ifCond .ne 8, 3) := by decide +kernel
theorem dX2_best_66 : decode cX2_best 66 = .ok (.iload 5, 2) := by decide +kernel
theorem dX2_best_68 : decode cX2_best 68 = .ok (.goto 5, 3) := by decide +kernel
theorem dX2_best_71 : decode cX2_best 71 = .ok (.iload 4, 2) := by decide +kernel
theorem dX2_best_73 : decode cX2_best 73 = .ok (.ireturn, 1) := by decide +kernel
theorem dX2_best_74 : decode cX2_best 74 = .ok (.iinc 5 1, 3) := by decide +kernel
theorem dX2_best_77 : decode cX2_best 77 = .ok (.goto (-34), 3) := by decide +kernel
theorem dX2_best_80 : decode cX2_best 80 = .ok (.iinc 4 1, 3) := by decide +kernel
theorem dX2_best_83 : decode cX2_best 83 = .ok (.goto (-50), 3) := by decide +kernel
theorem dX2_best_86 : decode cX2_best 86 = .ok (.iconst (-1), 1) := by decide +kernel
theorem dX2_best_87 : decode cX2_best 87 = .ok (.ireturn, 1) := by decide +kernel
theorem dX2_type_0 : decode cX2_type 0 = .ok (.iload_n 1, 1) := by decide +kernel
theorem dX2_type_1 : decode cX2_type 1 = .ok (.ifCond .lt 9, 3) := by decide +kernel
theorem dX2_type_4 : decode cX2_type 4 = .ok (.iload_n 1, 1) := by decide +kernel
theorem dX2_type_5 : decode cX2_type 5 = .ok (.bipush 127, 2) := by decide +kernel
theorem dX2_type_7 : decode cX2_type 7 = .ok (.if_icmp .le 10, 3) := by decide +kernel
theorem dX2_type_10 : decode cX2_type 10 = .ok (.aload_n 0, 1) := by decide +kernel
theorem dX2_type_11 : decode cX2_type 11 = .ok (.bipush (-2), 2) := by decide +kernel
theorem dX2_type_13 : decode cX2_type 13 = .ok (.invokevirtual 45, 3) := by decide +kernel
theorem dX2_type_16 : decode cX2_type 16 = .ok (.ireturn, 1) := by decide +kernel
theorem dX2_type_17 : decode cX2_type 17 = .ok (.aload_n 0, 1) := by decide +kernel
theorem dX2_type_18 : decode cX2_type 18 = .ok (.getfield 37, 3) := by decide +kernel
theorem dX2_type_21 : decode cX2_type 21 = .ok (.iload_n 1, 1) := by decide +kernel
theorem dX2_type_22 : decode cX2_type 22 = .ok (.invokevirtual 144, 3) := by decide +kernel
theorem dX2_type_25 : decode cX2_type 25 = .ok (.ifCond .ne 10, 3) := by decide +kernel
theorem dX2_type_28 : decode cX2_type 28 = .ok (.aload_n 0, 1) := by decide +kernel
theorem dX2_type_29 : decode cX2_type 29 = .ok (.bipush (-4), 2) := by decide +kernel
theorem dX2_type_31 : decode cX2_type 31 = .ok (.invokevirtual 45, 3) := by decide +kernel
theorem dX2_type_34 : decode cX2_type 34 = .ok (.ireturn, 1) := by decide +kernel
theorem dX2_type_35 : decode cX2_type 35 = .ok (.aload_n 0, 1) := by decide +kernel
theorem dX2_type_36 : decode cX2_type 36 = .ok (.getfield 37, 3) := by decide +kernel
theorem dX2_type_39 : decode cX2_type 39 = .ok (.getfield 147, 3) := by decide +kernel
theorem dX2_type_42 : decode cX2_type 42 = .ok (.ireturn, 1) := by decide +kernel
theorem dX2_clear_0 : decode cX2_clear 0 = .ok (.aload_n 0, 1) := by decide +kernel
theorem dX2_clear_1 : decode cX2_clear 1 = .ok (.getfield 37, 3) := by decide +kernel
theorem dX2_clear_4 : decode cX2_clear 4 = .ok (.getfield 147, 3) := by decide +kernel
theorem dX2_clear_7 : decode cX2_clear 7 = .ok (.istore_n 1, 1) := by decide +kernel
theorem dX2_clear_8 : decode cX2_clear 8 = .ok (.aload_n 0, 1) := by decide +kernel
theorem dX2_clear_9 : decode cX2_clear 9 = .ok (.getfield 37, 3) := by decide +kernel
theorem dX2_clear_12 : decode cX2_clear 12 = .ok (.iconst 0, 1) := by decide +kernel
theorem dX2_clear_13 : decode cX2_clear 13 = .ok (.putfield 147, 3) := by decide +kernel
theorem dX2_clear_16 : decode cX2_clear 16 = .ok (.iload_n 1, 1) := by decide +kernel
theorem dX2_clear_17 : decode cX2_clear 17 = .ok (.ireturn, 1) := by decide +kernel
theorem dX2_reads_0 : decode cX2_reads 0 = .ok (.aload_n 0, 1) := by decide +kernel
theorem dX2_reads_1 : decode cX2_reads 1 = .ok (.getfield 37, 3) := by decide +kernel
theorem dX2_reads_4 : decode cX2_reads 4 = .ok (.invokevirtual 150, 3) := by decide +kernel
theorem dX2_reads_7 : decode cX2_reads 7 = .ok (.istore_n 1, 1) := by decide +kernel
theorem dX2_reads_8 : decode cX2_reads 8 = .ok (.iload_n 1, 1) := by decide +kernel
theorem dX2_reads_9 : decode cX2_reads 9 = .ok (.iconst (-1), 1) := by decide +kernel
theorem dX2_reads_10 : decode cX2_reads 10 = .ok (.if_icmp .eq 8, 3) := by decide +kernel
theorem dX2_reads_13 : decode cX2_reads 13 = .ok (.bipush (-10), 2) := by decide +kernel
theorem dX2_reads_15 : decode cX2_reads 15 = .ok (.iload_n 1, 1) := by decide +kernel
theorem dX2_reads_16 : decode cX2_reads 16 = .ok (.isub, 1) := by decide +kernel
theorem dX2_reads_17 : decode cX2_reads 17 = .ok (.ireturn, 1) := by decide +kernel
theorem dX2_reads_18 : decode cX2_reads 18 = .ok (.aload_n 0, 1) := by decide +kernel
theorem dX2_reads_19 : decode cX2_reads 19 = .ok (.getfield 16, 3) := by decide +kernel
theorem dX2_reads_22 : decode cX2_reads 22 = .ok (.aload_n 0, 1) := by decide +kernel
theorem dX2_reads_23 : decode cX2_reads 23 = .ok (.getfield 10, 3) := by decide +kernel
theorem dX2_reads_26 : decode cX2_reads 26 = .ok (.invokevirtual 154, 3) := by decide +kernel
theorem dX2_reads_29 : decode cX2_reads 29 = .ok (.aload_n 0, 1) := by decide +kernel
theorem dX2_reads_30 : decode cX2_reads 30 = .ok (.getfield 37, 3) := by decide +kernel
theorem dX2_reads_33 : decode cX2_reads 33 = .ok (.invokevirtual 157, 3) := by decide +kernel
theorem dX2_reads_36 : decode cX2_reads 36 = .ok (.iconst 0, 1) := by decide +kernel
theorem dX2_reads_37 : decode cX2_reads 37 = .ok (.istore_n 2, 1) := by decide +kernel
theorem dX2_reads_38 : decode cX2_reads 38 = .ok (.iload_n 2, 1) := by decide +kernel
theorem dX2_reads_39 : decode cX2_reads 39 = .ok (.aload_n 0, 1) := by decide +kernel
theorem dX2_reads_40 : decode cX2_reads 40 = .ok (.getfield 37, 3) := by decide +kernel
theorem dX2_reads_43 : decode cX2_reads 43 = .ok (.getfield 160, 3) := by decide +kernel
theorem dX2_reads_46 : decode cX2_reads 46 = .ok (.if_icmp .ge 64, 3) := by decide +kernel
theorem dX2_reads_49 : decode cX2_reads 49 = .ok (.aload_n 0, 1) := by decide +kernel
theorem dX2_reads_50 : decode cX2_reads 50 = .ok (.getfield 37, 3) := by decide +kernel
theorem dX2_reads_53 : decode cX2_reads 53 = .ok (.invokevirtual 163, 3) := by decide +kernel
theorem dX2_reads_56 : decode cX2_reads 56 = .ok (.ifCond .eq 31, 3) := by decide +kernel
theorem dX2_reads_59 : decode cX2_reads 59 = .ok (.aload_n 0, 1) := by decide +kernel
theorem dX2_reads_60 : decode cX2_reads 60 = .ok (.aload_n 0, 1) := by decide +kernel
theorem dX2_reads_61 : decode cX2_reads 61 = .ok (.getfield 37, 3) := by decide +kernel
theorem dX2_reads_64 : decode cX2_reads 64 = .ok (.getfield 167, 3) := by decide +kernel
theorem dX2_reads_67 : decode cX2_reads 67 = .ok (.aload_n 0, 1) := by decide +kernel
theorem dX2_reads_68 : decode cX2_reads 68 = .ok (.getfield 37, 3) := by decide +kernel
theorem dX2_reads_71 : decode cX2_reads 71 = .ok (.getfield 170, 3) := by decide +kernel
theorem dX2_reads_74 : decode cX2_reads 74 = .ok (.aload_n 0, 1) := by decide +kernel
theorem dX2_reads_75 : decode cX2_reads 75 = .ok (.getfield 37, 3) := by decide +kernel
theorem dX2_reads_78 : decode cX2_reads 78 = .ok (.getfield 173, 3) := by decide +kernel
theorem dX2_reads_81 : decode cX2_reads 81 = .ok (.invokevirtual 176, 3) := by decide +kernel
theorem dX2_reads_84 : decode cX2_reads 84 = .ok (.ifCond .ne 20, 3) := by decide +kernel
theorem dX2_reads_87 : decode cX2_reads 87 = .ok (.aload_n 0, 1) := by decide +kernel
theorem dX2_reads_88 : decode cX2_reads 88 = .ok (.getfield 10, 3) := by decide +kernel
theorem dX2_reads_91 : decode cX2_reads 91 = .ok (.aload_n 0, 1) := by decide +kernel
theorem dX2_reads_92 : decode cX2_reads 92 = .ok (.getfield 16, 3) := by decide +kernel
theorem dX2_reads_95 : decode cX2_reads 95 = .ok (.invokevirtual 154, 3) := by decide +kernel
theorem dX2_reads_98 : decode cX2_reads 98 = .ok (.sipush (-1000), 3) := by decide +kernel
theorem dX2_reads_101 : decode cX2_reads 101 = .ok (.iload_n 2, 1) := by decide +kernel
theorem dX2_reads_102 : decode cX2_reads 102 = .ok (.isub, 1) := by decide +kernel
theorem dX2_reads_103 : decode cX2_reads 103 = .ok (.ireturn, 1) := by decide +kernel
theorem dX2_reads_104 : decode cX2_reads 104 = .ok (.iinc 2 1, 3) := by decide +kernel
theorem dX2_reads_107 : decode cX2_reads 107 = .ok (.goto (-69), 3) := by decide +kernel
theorem dX2_reads_110 : decode cX2_reads 110 = .ok (.aload_n 0, 1) := by decide +kernel
theorem dX2_reads_111 : decode cX2_reads 111 = .ok (.aload_n 0, 1) := by decide +kernel
theorem dX2_reads_112 : decode cX2_reads 112 = .ok (.getfield 16, 3) := by decide +kernel
theorem dX2_reads_115 : decode cX2_reads 115 = .ok (.invokevirtual 53, 3) := by decide +kernel
theorem dX2_reads_118 : decode cX2_reads 118 = .ok (.aload_n 0, 1) := by decide +kernel
theorem dX2_reads_119 : decode cX2_reads 119 = .ok (.getfield 37, 3) := by decide +kernel
theorem dX2_reads_122 : decode cX2_reads 122 = .ok (.getfield 160, 3) := by decide +kernel
theorem dX2_reads_125 : decode cX2_reads 125 = .ok (.ireturn, 1) := by decide +kernel
theorem dX2_back_0 : decode cX2_back 0 = .ok (.aload_n 0, 1) := by decide +kernel
theorem dX2_back_1 : decode cX2_back 1 = .ok (.getfield 27, 3) := by decide +kernel
theorem dX2_back_4 : decode cX2_back 4 = .ok (.ifCond .ne 10, 3) := by decide +kernel
theorem dX2_back_7 : decode cX2_back 7 = .ok (.aload_n 0, 1) := by decide +kernel
theorem dX2_back_8 : decode cX2_back 8 = .ok (.bipush (-3), 2) := by decide +kernel
theorem dX2_back_10 : decode cX2_back 10 = .ok (.invokevirtual 45, 3) := by decide +kernel
theorem dX2_back_13 : decode cX2_back 13 = .ok (.ireturn, 1) := by decide +kernel
theorem dX2_back_14 : decode cX2_back 14 = .ok (.aload_n 0, 1) := by decide +kernel
theorem dX2_back_15 : decode cX2_back 15 = .ok (.getfield 10, 3) := by decide +kernel
theorem dX2_back_18 : decode cX2_back 18 = .ok (.aload_n 0, 1) := by decide +kernel
theorem dX2_back_19 : decode cX2_back 19 = .ok (.getfield 19, 3) := by decide +kernel
theorem dX2_back_22 : decode cX2_back 22 = .ok (.aload_n 0, 1) := by decide +kernel
theorem dX2_back_23 : decode cX2_back 23 = .ok (.getfield 23, 3) := by decide +kernel
theorem dX2_back_26 : decode cX2_back 26 = .ok (.aaload, 1) := by decide +kernel
theorem dX2_back_27 : decode cX2_back 27 = .ok (.invokevirtual 154, 3) := by decide +kernel
theorem dX2_back_30 : decode cX2_back 30 = .ok (.aload_n 0, 1) := by decide +kernel
theorem dX2_back_31 : decode cX2_back 31 = .ok (.aload_n 0, 1) := by decide +kernel
theorem dX2_back_32 : decode cX2_back 32 = .ok (.getfield 23, 3) := by decide +kernel
theorem dX2_back_35 : decode cX2_back 35 = .ok (.iconst 4, 1) := by decide +kernel
theorem dX2_back_36 : decode cX2_back 36 = .ok (.iadd, 1) := by decide +kernel
theorem dX2_back_37 : decode cX2_back 37 = .ok (.iconst 1, 1) := by decide +kernel
theorem dX2_back_38 : decode cX2_back 38 = .ok (.isub, 1) := by decide +kernel
theorem dX2_back_39 : decode cX2_back 39 = .ok (.iconst 4, 1) := by decide +kernel
theorem dX2_back_40 : decode cX2_back 40 = .ok (.irem, 1) := by decide +kernel
theorem dX2_back_41 : decode cX2_back 41 = .ok (.putfield 23, 3) := by decide +kernel
theorem dX2_back_44 : decode cX2_back 44 = .ok (.aload_n 0, 1) := by decide +kernel
theorem dX2_back_45 : decode cX2_back 45 = .ok (.dup, 1) := by decide +kernel
theorem dX2_back_46 : decode cX2_back 46 = .ok (.getfield 27, 3) := by decide +kernel
theorem dX2_back_49 : decode cX2_back 49 = .ok (.iconst 1, 1) := by decide +kernel
theorem dX2_back_50 : decode cX2_back 50 = .ok (.isub, 1) := by decide +kernel
theorem dX2_back_51 : decode cX2_back 51 = .ok (.putfield 27, 3) := by decide +kernel
theorem dX2_back_54 : decode cX2_back 54 = .ok (.aload_n 0, 1) := by decide +kernel
theorem dX2_back_55 : decode cX2_back 55 = .ok (.getfield 27, 3) := by decide +kernel
theorem dX2_back_58 : decode cX2_back 58 = .ok (.ireturn, 1) := by decide +kernel
theorem dX2_told_0 : decode cX2_told 0 = .ok (.iload_n 1, 1) := by decide +kernel
theorem dX2_told_1 : decode cX2_told 1 = .ok (.ifCond .lt 9, 3) := by decide +kernel
theorem dX2_told_4 : decode cX2_told 4 = .ok (.iload_n 1, 1) := by decide +kernel
theorem dX2_told_5 : decode cX2_told 5 = .ok (.bipush 13, 2) := by decide +kernel
theorem dX2_told_7 : decode cX2_told 7 = .ok (.if_icmp .le 10, 3) := by decide +kernel
theorem dX2_told_10 : decode cX2_told 10 = .ok (.aload_n 0, 1) := by decide +kernel
theorem dX2_told_11 : decode cX2_told 11 = .ok (.bipush (-2), 2) := by decide +kernel
theorem dX2_told_13 : decode cX2_told 13 = .ok (.invokevirtual 45, 3) := by decide +kernel
theorem dX2_told_16 : decode cX2_told 16 = .ok (.ireturn, 1) := by decide +kernel
theorem dX2_told_17 : decode cX2_told 17 = .ok (.iload_n 1, 1) := by decide +kernel
theorem dX2_told_18 : decode cX2_told 18 = .ok (.iconst 3, 1) := by decide +kernel
theorem dX2_told_19 : decode cX2_told 19 = .ok (.if_icmp .ge 10, 3) := by decide +kernel
theorem dX2_told_22 : decode cX2_told 22 = .ok (.aload_n 0, 1) := by decide +kernel
theorem dX2_told_23 : decode cX2_told 23 = .ok (.getfield 30, 3) := by decide +kernel
theorem dX2_told_26 : decode cX2_told 26 = .ok (.iload_n 1, 1) := by decide +kernel
theorem dX2_told_27 : decode cX2_told 27 = .ok (.iaload, 1) := by decide +kernel
theorem dX2_told_28 : decode cX2_told 28 = .ok (.ireturn, 1) := by decide +kernel
theorem dX2_told_29 : decode cX2_told 29 = .ok (.iload_n 1, 1) := by decide +kernel
theorem dX2_told_30 : decode cX2_told 30 = .ok (.iconst 3, 1) := by decide +kernel
theorem dX2_told_31 : decode cX2_told 31 = .ok (.if_icmp .ne 11, 3) := by decide +kernel
theorem dX2_told_34 : decode cX2_told 34 = .ok (.aload_n 0, 1) := by decide +kernel
theorem dX2_told_35 : decode cX2_told 35 = .ok (.getfield 37, 3) := by decide +kernel
theorem dX2_told_38 : decode cX2_told 38 = .ok (.getfield 147, 3) := by decide +kernel
theorem dX2_told_41 : decode cX2_told 41 = .ok (.ireturn, 1) := by decide +kernel
theorem dX2_told_42 : decode cX2_told 42 = .ok (.iload_n 1, 1) := by decide +kernel
theorem dX2_told_43 : decode cX2_told 43 = .ok (.bipush 13, 2) := by decide +kernel
theorem dX2_told_45 : decode cX2_told 45 = .ok (.if_icmp .ne 10, 3) := by decide +kernel
theorem dX2_told_48 : decode cX2_told 48 = .ok (.aload_n 0, 1) := by decide +kernel
theorem dX2_told_49 : decode cX2_told 49 = .ok (.getfield 27, 3) := by decide +kernel
theorem dX2_told_52 : decode cX2_told 52 = .ok (.goto 14, 3) := by decide +kernel
theorem dX2_told_55 : decode cX2_told 55 = .ok (.aload_n 0, 1) := by decide +kernel
theorem dX2_told_56 : decode cX2_told 56 = .ok (.getfield 10, 3) := by decide +kernel
theorem dX2_told_59 : decode cX2_told 59 = .ok (.getfield 57, 3) := by decide +kernel
theorem dX2_told_62 : decode cX2_told 62 = .ok (.iload_n 1, 1) := by decide +kernel
theorem dX2_told_63 : decode cX2_told 63 = .ok (.iconst 4, 1) := by decide +kernel
theorem dX2_told_64 : decode cX2_told 64 = .ok (.isub, 1) := by decide +kernel
theorem dX2_told_65 : decode cX2_told 65 = .ok (.iaload, 1) := by decide +kernel
theorem dX2_told_66 : decode cX2_told 66 = .ok (.ireturn, 1) := by decide +kernel
theorem dX2_digest_0 : decode cX2_digest 0 = .ok (.ldc2_w 180, 3) := by decide +kernel
theorem dX2_digest_3 : decode cX2_digest 3 = .ok (.lstore_n 1, 1) := by decide +kernel
theorem dX2_digest_4 : decode cX2_digest 4 = .ok (.iconst 0, 1) := by decide +kernel
theorem dX2_digest_5 : decode cX2_digest 5 = .ok (.istore_n 3, 1) := by decide +kernel
theorem dX2_digest_6 : decode cX2_digest 6 = .ok (.iload_n 3, 1) := by decide +kernel
theorem dX2_digest_7 : decode cX2_digest 7 = .ok (.bipush 13, 2) := by decide +kernel
theorem dX2_digest_9 : decode cX2_digest 9 = .ok (.if_icmp .gt 22, 3) := by decide +kernel
theorem dX2_digest_12 : decode cX2_digest 12 = .ok (.ldc2_w 182, 3) := by decide +kernel
theorem dX2_digest_15 : decode cX2_digest 15 = .ok (.lload_n 1, 1) := by decide +kernel
theorem dX2_digest_16 : decode cX2_digest 16 = .ok (.lmul, 1) := by decide +kernel
theorem dX2_digest_17 : decode cX2_digest 17 = .ok (.aload_n 0, 1) := by decide +kernel
theorem dX2_digest_18 : decode cX2_digest 18 = .ok (.iload_n 3, 1) := by decide +kernel
theorem dX2_digest_19 : decode cX2_digest 19 = .ok (.invokevirtual 184, 3) := by decide +kernel
theorem dX2_digest_22 : decode cX2_digest 22 = .ok (.i2l, 1) := by decide +kernel
theorem dX2_digest_23 : decode cX2_digest 23 = .ok (.ladd, 1) := by decide +kernel
theorem dX2_digest_24 : decode cX2_digest 24 = .ok (.lstore_n 1, 1) := by decide +kernel
theorem dX2_digest_25 : decode cX2_digest 25 = .ok (.iinc 3 1, 3) := by decide +kernel
theorem dX2_digest_28 : decode cX2_digest 28 = .ok (.goto (-22), 3) := by decide +kernel
theorem dX2_digest_31 : decode cX2_digest 31 = .ok (.iconst 0, 1) := by decide +kernel
theorem dX2_digest_32 : decode cX2_digest 32 = .ok (.istore_n 3, 1) := by decide +kernel
theorem dX2_digest_33 : decode cX2_digest 33 = .ok (.iload_n 3, 1) := by decide +kernel
theorem dX2_digest_34 : decode cX2_digest 34 = .ok (.aload_n 0, 1) := by decide +kernel
theorem dX2_digest_35 : decode cX2_digest 35 = .ok (.getfield 10, 3) := by decide +kernel
theorem dX2_digest_38 : decode cX2_digest 38 = .ok (.getfield 57, 3) := by decide +kernel
theorem dX2_digest_41 : decode cX2_digest 41 = .ok (.iconst 0, 1) := by decide +kernel
theorem dX2_digest_42 : decode cX2_digest 42 = .ok (.iaload, 1) := by decide +kernel
theorem dX2_digest_43 : decode cX2_digest 43 = .ok (.if_icmp .gt 50, 3) := by decide +kernel
theorem dX2_digest_46 : decode cX2_digest 46 = .ok (.iconst 0, 1) := by decide +kernel
theorem dX2_digest_47 : decode cX2_digest 47 = .ok (.istore 4, 2) := by decide +kernel
theorem dX2_digest_49 : decode cX2_digest 49 = .ok (.iload 4, 2) := by decide +kernel
theorem dX2_digest_51 : decode cX2_digest 51 = .ok (.iconst 5, 1) := by decide +kernel
theorem dX2_digest_52 : decode cX2_digest 52 = .ok (.if_icmp .gt 23, 3) := by decide +kernel
theorem dX2_digest_55 : decode cX2_digest 55 = .ok (.ldc2_w 182, 3) := by decide +kernel
theorem dX2_digest_58 : decode cX2_digest 58 = .ok (.lload_n 1, 1) := by decide +kernel
theorem dX2_digest_59 : decode cX2_digest 59 = .ok (.lmul, 1) := by decide +kernel
theorem dX2_digest_60 : decode cX2_digest 60 = .ok (.aload_n 0, 1) := by decide +kernel
theorem dX2_digest_61 : decode cX2_digest 61 = .ok (.iload_n 3, 1) := by decide +kernel
theorem dX2_digest_62 : decode cX2_digest 62 = .ok (.iload 4, 2) := by decide +kernel
theorem dX2_digest_64 : decode cX2_digest 64 = .ok (.invokevirtual 187, 3) := by decide +kernel
theorem dX2_digest_67 : decode cX2_digest 67 = .ok (.ladd, 1) := by decide +kernel
theorem dX2_digest_68 : decode cX2_digest 68 = .ok (.lstore_n 1, 1) := by decide +kernel
theorem dX2_digest_69 : decode cX2_digest 69 = .ok (.iinc 4 1, 3) := by decide +kernel
theorem dX2_digest_72 : decode cX2_digest 72 = .ok (.goto (-23), 3) := by decide +kernel
theorem dX2_digest_75 : decode cX2_digest 75 = .ok (.ldc2_w 182, 3) := by decide +kernel
theorem dX2_digest_78 : decode cX2_digest 78 = .ok (.lload_n 1, 1) := by decide +kernel
theorem dX2_digest_79 : decode cX2_digest 79 = .ok (.lmul, 1) := by decide +kernel
theorem dX2_digest_80 : decode cX2_digest 80 = .ok (.aload_n 0, 1) := by decide +kernel
theorem dX2_digest_81 : decode cX2_digest 81 = .ok (.iload_n 3, 1) := by decide +kernel
theorem dX2_digest_82 : decode cX2_digest 82 = .ok (.invokevirtual 191, 3) := by decide +kernel
theorem dX2_digest_85 : decode cX2_digest 85 = .ok (.ladd, 1) := by decide +kernel
theorem dX2_digest_86 : decode cX2_digest 86 = .ok (.lstore_n 1, 1) := by decide +kernel
theorem dX2_digest_87 : decode cX2_digest 87 = .ok (.iinc 3 1, 3) := by decide +kernel
theorem dX2_digest_90 : decode cX2_digest 90 = .ok (.goto (-57), 3) := by decide +kernel
theorem dX2_digest_93 : decode cX2_digest 93 = .ok (.iconst 0, 1) := by decide +kernel
theorem dX2_digest_94 : decode cX2_digest 94 = .ok (.istore_n 3, 1) := by decide +kernel
theorem dX2_digest_95 : decode cX2_digest 95 = .ok (.iload_n 3, 1) := by decide +kernel
theorem dX2_digest_96 : decode cX2_digest 96 = .ok (.iconst 3, 1) := by decide +kernel
theorem dX2_digest_97 : decode cX2_digest 97 = .ok (.if_icmp .gt 21, 3) := by decide +kernel
theorem dX2_digest_100 : decode cX2_digest 100 = .ok (.ldc2_w 182, 3) := by decide +kernel
theorem dX2_digest_103 : decode cX2_digest 103 = .ok (.lload_n 1, 1) := by decide +kernel
theorem dX2_digest_104 : decode cX2_digest 104 = .ok (.lmul, 1) := by decide +kernel
theorem dX2_digest_105 : decode cX2_digest 105 = .ok (.aload_n 0, 1) := by decide +kernel
theorem dX2_digest_106 : decode cX2_digest 106 = .ok (.iload_n 3, 1) := by decide +kernel
theorem dX2_digest_107 : decode cX2_digest 107 = .ok (.invokevirtual 195, 3) := by decide +kernel
theorem dX2_digest_110 : decode cX2_digest 110 = .ok (.ladd, 1) := by decide +kernel
theorem dX2_digest_111 : decode cX2_digest 111 = .ok (.lstore_n 1, 1) := by decide +kernel
theorem dX2_digest_112 : decode cX2_digest 112 = .ok (.iinc 3 1, 3) := by decide +kernel
theorem dX2_digest_115 : decode cX2_digest 115 = .ok (.goto (-20), 3) := by decide +kernel
theorem dX2_digest_118 : decode cX2_digest 118 = .ok (.ldc2_w 182, 3) := by decide +kernel
theorem dX2_digest_121 : decode cX2_digest 121 = .ok (.lload_n 1, 1) := by decide +kernel
theorem dX2_digest_122 : decode cX2_digest 122 = .ok (.lmul, 1) := by decide +kernel
theorem dX2_digest_123 : decode cX2_digest 123 = .ok (.aload_n 0, 1) := by decide +kernel
theorem dX2_digest_124 : decode cX2_digest 124 = .ok (.iconst 2, 1) := by decide +kernel
theorem dX2_digest_125 : decode cX2_digest 125 = .ok (.aload_n 0, 1) := by decide +kernel
theorem dX2_digest_126 : decode cX2_digest 126 = .ok (.getfield 10, 3) := by decide +kernel
theorem dX2_digest_129 : decode cX2_digest 129 = .ok (.getfield 57, 3) := by decide +kernel
theorem dX2_digest_132 : decode cX2_digest 132 = .ok (.bipush 7, 2) := by decide +kernel
theorem dX2_digest_134 : decode cX2_digest 134 = .ok (.iaload, 1) := by decide +kernel
theorem dX2_digest_135 : decode cX2_digest 135 = .ok (.bipush 20, 2) := by decide +kernel
theorem dX2_digest_137 : decode cX2_digest 137 = .ok (.invokevirtual 198, 3) := by decide +kernel
theorem dX2_digest_140 : decode cX2_digest 140 = .ok (.ladd, 1) := by decide +kernel
theorem dX2_digest_141 : decode cX2_digest 141 = .ok (.lreturn, 1) := by decide +kernel
theorem dX2_refuse_0 : decode cX2_refuse 0 = .ok (.aload_n 0, 1) := by decide +kernel
theorem dX2_refuse_1 : decode cX2_refuse 1 = .ok (.getfield 30, 3) := by decide +kernel
theorem dX2_refuse_4 : decode cX2_refuse 4 = .ok (.iload_n 1, 1) := by decide +kernel
theorem dX2_refuse_5 : decode cX2_refuse 5 = .ok (.bipush (-2), 2) := by decide +kernel
theorem dX2_refuse_7 : decode cX2_refuse 7 = .ok (.if_icmp .ne 7, 3) := by decide +kernel
theorem dX2_refuse_10 : decode cX2_refuse 10 = .ok (.iconst 0, 1) := by decide +kernel
theorem dX2_refuse_11 : decode cX2_refuse 11 = .ok (.goto 14, 3) := by decide +kernel
theorem dX2_refuse_14 : decode cX2_refuse 14 = .ok (.iload_n 1, 1) := by decide +kernel
theorem dX2_refuse_15 : decode cX2_refuse 15 = .ok (.bipush (-3), 2) := by decide +kernel
theorem dX2_refuse_17 : decode cX2_refuse 17 = .ok (.if_icmp .ne 7, 3) := by decide +kernel
theorem dX2_refuse_20 : decode cX2_refuse 20 = .ok (.iconst 1, 1) := by decide +kernel
theorem dX2_refuse_21 : decode cX2_refuse 21 = .ok (.goto 4, 3) := by decide +kernel
theorem dX2_refuse_24 : decode cX2_refuse 24 = .ok (.iconst 2, 1) := by decide +kernel
theorem dX2_refuse_25 : decode cX2_refuse 25 = .ok (.dup2, 1) := by decide +kernel
theorem dX2_refuse_26 : decode cX2_refuse 26 = .ok (.iaload, 1) := by decide +kernel
theorem dX2_refuse_27 : decode cX2_refuse 27 = .ok (.iconst 1, 1) := by decide +kernel
theorem dX2_refuse_28 : decode cX2_refuse 28 = .ok (.iadd, 1) := by decide +kernel
theorem dX2_refuse_29 : decode cX2_refuse 29 = .ok (.iastore, 1) := by decide +kernel
theorem dX2_refuse_30 : decode cX2_refuse 30 = .ok (.iload_n 1, 1) := by decide +kernel
theorem dX2_refuse_31 : decode cX2_refuse 31 = .ok (.ireturn, 1) := by decide +kernel
theorem dX2_refuseLong_0 : decode cX2_refuseLong 0 = .ok (.aload_n 0, 1) := by decide +kernel
theorem dX2_refuseLong_1 : decode cX2_refuseLong 1 = .ok (.bipush (-2), 2) := by decide +kernel
theorem dX2_refuseLong_3 : decode cX2_refuseLong 3 = .ok (.invokevirtual 45, 3) := by decide +kernel
theorem dX2_refuseLong_6 : decode cX2_refuseLong 6 = .ok (.pop, 1) := by decide +kernel
theorem dX2_refuseLong_7 : decode cX2_refuseLong 7 = .ok (.ldc2_w 202, 3) := by decide +kernel
theorem dX2_refuseLong_10 : decode cX2_refuseLong 10 = .ok (.lreturn, 1) := by decide +kernel
theorem dX2_keep_0 : decode cX2_keep 0 = .ok (.aload_n 0, 1) := by decide +kernel
theorem dX2_keep_1 : decode cX2_keep 1 = .ok (.aload_n 0, 1) := by decide +kernel
theorem dX2_keep_2 : decode cX2_keep 2 = .ok (.getfield 23, 3) := by decide +kernel
theorem dX2_keep_5 : decode cX2_keep 5 = .ok (.iconst 1, 1) := by decide +kernel
theorem dX2_keep_6 : decode cX2_keep 6 = .ok (.iadd, 1) := by decide +kernel
theorem dX2_keep_7 : decode cX2_keep 7 = .ok (.iconst 4, 1) := by decide +kernel
theorem dX2_keep_8 : decode cX2_keep 8 = .ok (.irem, 1) := by decide +kernel
theorem dX2_keep_9 : decode cX2_keep 9 = .ok (.putfield 23, 3) := by decide +kernel
theorem dX2_keep_12 : decode cX2_keep 12 = .ok (.aload_n 0, 1) := by decide +kernel
theorem dX2_keep_13 : decode cX2_keep 13 = .ok (.getfield 19, 3) := by decide +kernel
theorem dX2_keep_16 : decode cX2_keep 16 = .ok (.aload_n 0, 1) := by decide +kernel
theorem dX2_keep_17 : decode cX2_keep 17 = .ok (.getfield 23, 3) := by decide +kernel
theorem dX2_keep_20 : decode cX2_keep 20 = .ok (.aaload, 1) := by decide +kernel
theorem dX2_keep_21 : decode cX2_keep 21 = .ok (.aload_n 1, 1) := by decide +kernel
theorem dX2_keep_22 : decode cX2_keep 22 = .ok (.invokevirtual 154, 3) := by decide +kernel
theorem dX2_keep_25 : decode cX2_keep 25 = .ok (.aload_n 0, 1) := by decide +kernel
theorem dX2_keep_26 : decode cX2_keep 26 = .ok (.getfield 27, 3) := by decide +kernel
theorem dX2_keep_29 : decode cX2_keep 29 = .ok (.iconst 4, 1) := by decide +kernel
theorem dX2_keep_30 : decode cX2_keep 30 = .ok (.if_icmp .ge 13, 3) := by decide +kernel
theorem dX2_keep_33 : decode cX2_keep 33 = .ok (.aload_n 0, 1) := by decide +kernel
theorem dX2_keep_34 : decode cX2_keep 34 = .ok (.dup, 1) := by decide +kernel
theorem dX2_keep_35 : decode cX2_keep 35 = .ok (.getfield 27, 3) := by decide +kernel
theorem dX2_keep_38 : decode cX2_keep 38 = .ok (.iconst 1, 1) := by decide +kernel
theorem dX2_keep_39 : decode cX2_keep 39 = .ok (.iadd, 1) := by decide +kernel
theorem dX2_keep_40 : decode cX2_keep 40 = .ok (.putfield 27, 3) := by decide +kernel
theorem dX2_keep_43 : decode cX2_keep 43 = .ok (.return_, 1) := by decide +kernel
theorem dX2_change_0 : decode cX2_change 0 = .ok (.iload_n 1, 1) := by decide +kernel
theorem dX2_change_1 : decode cX2_change 1 = .ok (.iload_n 2, 1) := by decide +kernel
theorem dX2_change_2 : decode cX2_change 2 = .ok (.invokestatic 134, 3) := by decide +kernel
theorem dX2_change_5 : decode cX2_change 5 = .ok (.ifCond .ne 10, 3) := by decide +kernel
theorem dX2_change_8 : decode cX2_change 8 = .ok (.aload_n 0, 1) := by decide +kernel
theorem dX2_change_9 : decode cX2_change 9 = .ok (.bipush (-2), 2) := by decide +kernel
theorem dX2_change_11 : decode cX2_change 11 = .ok (.invokevirtual 45, 3) := by decide +kernel
theorem dX2_change_14 : decode cX2_change 14 = .ok (.ireturn, 1) := by decide +kernel
theorem dX2_change_15 : decode cX2_change 15 = .ok (.aload_n 0, 1) := by decide +kernel
theorem dX2_change_16 : decode cX2_change 16 = .ok (.aload_n 0, 1) := by decide +kernel
theorem dX2_change_17 : decode cX2_change 17 = .ok (.getfield 10, 3) := by decide +kernel
theorem dX2_change_20 : decode cX2_change 20 = .ok (.invokevirtual 53, 3) := by decide +kernel
theorem dX2_change_23 : decode cX2_change 23 = .ok (.aload_n 0, 1) := by decide +kernel
theorem dX2_change_24 : decode cX2_change 24 = .ok (.getfield 10, 3) := by decide +kernel
theorem dX2_change_27 : decode cX2_change 27 = .ok (.getfield 57, 3) := by decide +kernel
theorem dX2_change_30 : decode cX2_change 30 = .ok (.iload_n 1, 1) := by decide +kernel
theorem dX2_change_31 : decode cX2_change 31 = .ok (.iaload, 1) := by decide +kernel
theorem dX2_change_32 : decode cX2_change 32 = .ok (.istore_n 3, 1) := by decide +kernel
theorem dX2_change_33 : decode cX2_change 33 = .ok (.aload_n 0, 1) := by decide +kernel
theorem dX2_change_34 : decode cX2_change 34 = .ok (.getfield 10, 3) := by decide +kernel
theorem dX2_change_37 : decode cX2_change 37 = .ok (.iload_n 1, 1) := by decide +kernel
theorem dX2_change_38 : decode cX2_change 38 = .ok (.iload_n 2, 1) := by decide +kernel
theorem dX2_change_39 : decode cX2_change 39 = .ok (.invokevirtual 204, 3) := by decide +kernel
theorem dX2_change_42 : decode cX2_change 42 = .ok (.iload_n 3, 1) := by decide +kernel
theorem dX2_change_43 : decode cX2_change 43 = .ok (.ireturn, 1) := by decide +kernel
theorem dX2_isStepCount_0 : decode cX2_isStepCount 0 = .ok (.iload_n 0, 1) := by decide +kernel
theorem dX2_isStepCount_1 : decode cX2_isStepCount 1 = .ok (.iconst 1, 1) := by decide +kernel
theorem dX2_isStepCount_2 : decode cX2_isStepCount 2 = .ok (.if_icmp .lt 13, 3) := by decide +kernel
theorem dX2_isStepCount_5 : decode cX2_isStepCount 5 = .ok (.iload_n 0, 1) := by decide +kernel
theorem dX2_isStepCount_6 : decode cX2_isStepCount 6 = .ok (.bipush 100, 2) := by decide +kernel
theorem dX2_isStepCount_8 : decode cX2_isStepCount 8 = .ok (.if_icmp .gt 7, 3) := by decide +kernel
theorem dX2_isStepCount_11 : decode cX2_isStepCount 11 = .ok (.iconst 1, 1) := by decide +kernel
theorem dX2_isStepCount_12 : decode cX2_isStepCount 12 = .ok (.goto 4, 3) := by decide +kernel
theorem dX2_isStepCount_15 : decode cX2_isStepCount 15 = .ok (.iconst 0, 1) := by decide +kernel
theorem dX2_isStepCount_16 : decode cX2_isStepCount 16 = .ok (.ireturn, 1) := by decide +kernel
theorem dX2_isTrialLength_0 : decode cX2_isTrialLength 0 = .ok (.iload_n 0, 1) := by decide +kernel
theorem dX2_isTrialLength_1 : decode cX2_isTrialLength 1 = .ok (.ifCond .lt 13, 3) := by decide +kernel
theorem dX2_isTrialLength_4 : decode cX2_isTrialLength 4 = .ok (.iload_n 0, 1) := by decide +kernel
theorem dX2_isTrialLength_5 : decode cX2_isTrialLength 5 = .ok (.bipush 100, 2) := by decide +kernel
theorem dX2_isTrialLength_7 : decode cX2_isTrialLength 7 = .ok (.if_icmp .gt 7, 3) := by decide +kernel
theorem dX2_isTrialLength_10 : decode cX2_isTrialLength 10 = .ok (.iconst 1, 1) := by decide +kernel
theorem dX2_isTrialLength_11 : decode cX2_isTrialLength 11 = .ok (.goto 4, 3) := by decide +kernel
theorem dX2_isTrialLength_14 : decode cX2_isTrialLength 14 = .ok (.iconst 0, 1) := by decide +kernel
theorem dX2_isTrialLength_15 : decode cX2_isTrialLength 15 = .ok (.ireturn, 1) := by decide +kernel
theorem dX2_isBound_0 : decode cX2_isBound 0 = .ok (.iload_n 0, 1) := by decide +kernel
theorem dX2_isBound_1 : decode cX2_isBound 1 = .ok (.sipush (-9999), 3) := by decide +kernel
theorem dX2_isBound_4 : decode cX2_isBound 4 = .ok (.if_icmp .lt 14, 3) := by decide +kernel
theorem dX2_isBound_7 : decode cX2_isBound 7 = .ok (.iload_n 0, 1) := by decide +kernel
theorem dX2_isBound_8 : decode cX2_isBound 8 = .ok (.sipush 9999, 3) := by decide +kernel
theorem dX2_isBound_11 : decode cX2_isBound 11 = .ok (.if_icmp .gt 7, 3) := by decide +kernel
theorem dX2_isBound_14 : decode cX2_isBound 14 = .ok (.iconst 1, 1) := by decide +kernel
theorem dX2_isBound_15 : decode cX2_isBound 15 = .ok (.goto 4, 3) := by decide +kernel
theorem dX2_isBound_18 : decode cX2_isBound 18 = .ok (.iconst 0, 1) := by decide +kernel
theorem dX2_isBound_19 : decode cX2_isBound 19 = .ok (.ireturn, 1) := by decide +kernel
theorem dX2_hasTimeFor_0 : decode cX2_hasTimeFor 0 = .ok (.aload_n 0, 1) := by decide +kernel
theorem dX2_hasTimeFor_1 : decode cX2_hasTimeFor 1 = .ok (.getfield 10, 3) := by decide +kernel
theorem dX2_hasTimeFor_4 : decode cX2_hasTimeFor 4 = .ok (.getfield 57, 3) := by decide +kernel
theorem dX2_hasTimeFor_7 : decode cX2_hasTimeFor 7 = .ok (.bipush 8, 2) := by decide +kernel
theorem dX2_hasTimeFor_9 : decode cX2_hasTimeFor 9 = .ok (.iaload, 1) := by decide +kernel
theorem dX2_hasTimeFor_10 : decode cX2_hasTimeFor 10 = .ok (.iload_n 1, 1) := by decide +kernel
theorem dX2_hasTimeFor_11 : decode cX2_hasTimeFor 11 = .ok (.iadd, 1) := by decide +kernel
theorem dX2_hasTimeFor_12 : decode cX2_hasTimeFor 12 = .ok (.sipush 999, 3) := by decide +kernel
theorem dX2_hasTimeFor_15 : decode cX2_hasTimeFor 15 = .ok (.if_icmp .gt 7, 3) := by decide +kernel
theorem dX2_hasTimeFor_18 : decode cX2_hasTimeFor 18 = .ok (.iconst 1, 1) := by decide +kernel
theorem dX2_hasTimeFor_19 : decode cX2_hasTimeFor 19 = .ok (.goto 4, 3) := by decide +kernel
theorem dX2_hasTimeFor_22 : decode cX2_hasTimeFor 22 = .ok (.iconst 0, 1) := by decide +kernel
theorem dX2_hasTimeFor_23 : decode cX2_hasTimeFor 23 = .ok (.ireturn, 1) := by decide +kernel
theorem dX2_staysWithin_0 : decode cX2_staysWithin 0 = .ok (.iload_n 3, 1) := by decide +kernel
theorem dX2_staysWithin_1 : decode cX2_staysWithin 1 = .ok (.i2d, 1) := by decide +kernel
theorem dX2_staysWithin_2 : decode cX2_staysWithin 2 = .ok (.dstore 5, 2) := by decide +kernel
theorem dX2_staysWithin_4 : decode cX2_staysWithin 4 = .ok (.aload_n 0, 1) := by decide +kernel
theorem dX2_staysWithin_5 : decode cX2_staysWithin 5 = .ok (.getfield 16, 3) := by decide +kernel
theorem dX2_staysWithin_8 : decode cX2_staysWithin 8 = .ok (.aload_n 0, 1) := by decide +kernel
theorem dX2_staysWithin_9 : decode cX2_staysWithin 9 = .ok (.getfield 10, 3) := by decide +kernel
theorem dX2_staysWithin_12 : decode cX2_staysWithin 12 = .ok (.iload_n 1, 1) := by decide +kernel
theorem dX2_staysWithin_13 : decode cX2_staysWithin 13 = .ok (.iload_n 2, 1) := by decide +kernel
theorem dX2_staysWithin_14 : decode cX2_staysWithin 14 = .ok (.invokevirtual 130, 3) := by decide +kernel
theorem dX2_staysWithin_17 : decode cX2_staysWithin 17 = .ok (.iconst 0, 1) := by decide +kernel
theorem dX2_staysWithin_18 : decode cX2_staysWithin 18 = .ok (.istore 7, 2) := by decide +kernel
theorem dX2_staysWithin_20 : decode cX2_staysWithin 20 = .ok (.iload 7, 2) := by decide +kernel
theorem dX2_staysWithin_22 : decode cX2_staysWithin 22 = .ok (.iload 4, 2) := by decide +kernel
theorem dX2_staysWithin_24 : decode cX2_staysWithin 24 = .ok (.if_icmp .ge 30, 3) := by decide +kernel
theorem dX2_staysWithin_27 : decode cX2_staysWithin 27 = .ok (.aload_n 0, 1) := by decide +kernel
theorem dX2_staysWithin_28 : decode cX2_staysWithin 28 = .ok (.getfield 16, 3) := by decide +kernel
theorem dX2_staysWithin_31 : decode cX2_staysWithin 31 = .ok (.getfield 110, 3) := by decide +kernel
theorem dX2_staysWithin_34 : decode cX2_staysWithin 34 = .ok (.dload 5, 2) := by decide +kernel
theorem dX2_staysWithin_36 : decode cX2_staysWithin 36 = .ok (.dcmp .g, 1) := by decide +kernel
theorem dX2_staysWithin_37 : decode cX2_staysWithin 37 = .ok (.ifCond .gt 17, 3) := by decide +kernel
theorem dX2_staysWithin_40 : decode cX2_staysWithin 40 = .ok (.aload_n 0, 1) := by decide +kernel
theorem dX2_staysWithin_41 : decode cX2_staysWithin 41 = .ok (.getfield 16, 3) := by decide +kernel
theorem dX2_staysWithin_44 : decode cX2_staysWithin 44 = .ok (.iconst 1, 1) := by decide +kernel
theorem dX2_staysWithin_45 : decode cX2_staysWithin 45 = .ok (.invokevirtual 74, 3) := by decide +kernel
theorem dX2_staysWithin_48 : decode cX2_staysWithin 48 = .ok (.iinc 7 1, 3) := by decide +kernel
theorem dX2_staysWithin_51 : decode cX2_staysWithin 51 = .ok (.goto (-31), 3) := by decide +kernel
theorem dX2_staysWithin_54 : decode cX2_staysWithin 54 = .ok (.aload_n 0, 1) := by decide +kernel
theorem dX2_staysWithin_55 : decode cX2_staysWithin 55 = .ok (.getfield 16, 3) := by decide +kernel
theorem dX2_staysWithin_58 : decode cX2_staysWithin 58 = .ok (.getfield 110, 3) := by decide +kernel
theorem dX2_staysWithin_61 : decode cX2_staysWithin 61 = .ok (.dload 5, 2) := by decide +kernel
theorem dX2_staysWithin_63 : decode cX2_staysWithin 63 = .ok (.dcmp .g, 1) := by decide +kernel
theorem dX2_staysWithin_64 : decode cX2_staysWithin 64 = .ok (.ifCond .gt 7, 3) := by decide +kernel
theorem dX2_staysWithin_67 : decode cX2_staysWithin 67 = .ok (.iconst 1, 1) := by decide +kernel
theorem dX2_staysWithin_68 : decode cX2_staysWithin 68 = .ok (.goto 4, 3) := by decide +kernel
theorem dX2_staysWithin_71 : decode cX2_staysWithin 71 = .ok (.iconst 0, 1) := by decide +kernel
theorem dX2_staysWithin_72 : decode cX2_staysWithin 72 = .ok (.ireturn, 1) := by decide +kernel
end
section
theorem dX2_obey_0 : decode cX2_obey 0 = .ok (.iload_n 1, 1) := by decide +kernel
theorem dX2_obey_1 : decode cX2_obey 1 = .ok (.bipush 115, 2) := by decide +kernel
theorem dX2_obey_3 : decode cX2_obey 3 = .ok (.if_icmp .ne 30, 3) := by decide +kernel
theorem dX2_obey_6 : decode cX2_obey 6 = .ok (.iload_n 2, 1) := by decide +kernel
theorem dX2_obey_7 : decode cX2_obey 7 = .ok (.invokestatic 67, 3) := by decide +kernel
theorem dX2_obey_10 : decode cX2_obey 10 = .ok (.ifCond .eq 11, 3) := by decide +kernel
theorem dX2_obey_13 : decode cX2_obey 13 = .ok (.aload_n 0, 1) := by decide +kernel
theorem dX2_obey_14 : decode cX2_obey 14 = .ok (.iload_n 2, 1) := by decide +kernel
theorem dX2_obey_15 : decode cX2_obey 15 = .ok (.invokevirtual 71, 3) := by decide +kernel
theorem dX2_obey_18 : decode cX2_obey 18 = .ok (.ifCond .ne 5, 3) := by decide +kernel
theorem dX2_obey_21 : decode cX2_obey 21 = .ok (.iconst 0, 1) := by decide +kernel
theorem dX2_obey_22 : decode cX2_obey 22 = .ok (.ireturn, 1) := by decide +kernel
theorem dX2_obey_23 : decode cX2_obey 23 = .ok (.aload_n 0, 1) := by decide +kernel
theorem dX2_obey_24 : decode cX2_obey 24 = .ok (.getfield 10, 3) := by decide +kernel
theorem dX2_obey_27 : decode cX2_obey 27 = .ok (.iload_n 2, 1) := by decide +kernel
theorem dX2_obey_28 : decode cX2_obey 28 = .ok (.invokevirtual 74, 3) := by decide +kernel
theorem dX2_obey_31 : decode cX2_obey 31 = .ok (.iconst 1, 1) := by decide +kernel
theorem dX2_obey_32 : decode cX2_obey 32 = .ok (.ireturn, 1) := by decide +kernel
theorem dX2_obey_33 : decode cX2_obey 33 = .ok (.iload_n 1, 1) := by decide +kernel
theorem dX2_obey_34 : decode cX2_obey 34 = .ok (.bipush 119, 2) := by decide +kernel
theorem dX2_obey_36 : decode cX2_obey 36 = .ok (.if_icmp .ne 24, 3) := by decide +kernel
theorem dX2_obey_39 : decode cX2_obey 39 = .ok (.iload_n 2, 1) := by decide +kernel
theorem dX2_obey_40 : decode cX2_obey 40 = .ok (.iload_n 3, 1) := by decide +kernel
theorem dX2_obey_41 : decode cX2_obey 41 = .ok (.invokestatic 49, 3) := by decide +kernel
theorem dX2_obey_44 : decode cX2_obey 44 = .ok (.ifCond .ne 5, 3) := by decide +kernel
theorem dX2_obey_47 : decode cX2_obey 47 = .ok (.iconst 0, 1) := by decide +kernel
theorem dX2_obey_48 : decode cX2_obey 48 = .ok (.ireturn, 1) := by decide +kernel
theorem dX2_obey_49 : decode cX2_obey 49 = .ok (.aload_n 0, 1) := by decide +kernel
theorem dX2_obey_50 : decode cX2_obey 50 = .ok (.getfield 10, 3) := by decide +kernel
theorem dX2_obey_53 : decode cX2_obey 53 = .ok (.iload_n 2, 1) := by decide +kernel
theorem dX2_obey_54 : decode cX2_obey 54 = .ok (.iload_n 3, 1) := by decide +kernel
theorem dX2_obey_55 : decode cX2_obey 55 = .ok (.invokevirtual 60, 3) := by decide +kernel
theorem dX2_obey_58 : decode cX2_obey 58 = .ok (.iconst 1, 1) := by decide +kernel
theorem dX2_obey_59 : decode cX2_obey 59 = .ok (.ireturn, 1) := by decide +kernel
theorem dX2_obey_60 : decode cX2_obey 60 = .ok (.iload_n 1, 1) := by decide +kernel
theorem dX2_obey_61 : decode cX2_obey 61 = .ok (.invokestatic 207, 3) := by decide +kernel
theorem dX2_obey_64 : decode cX2_obey 64 = .ok (.istore 4, 2) := by decide +kernel
theorem dX2_obey_66 : decode cX2_obey 66 = .ok (.iload 4, 2) := by decide +kernel
theorem dX2_obey_68 : decode cX2_obey 68 = .ok (.iload_n 2, 1) := by decide +kernel
theorem dX2_obey_69 : decode cX2_obey 69 = .ok (.invokestatic 134, 3) := by decide +kernel
theorem dX2_obey_72 : decode cX2_obey 72 = .ok (.ifCond .ne 5, 3) := by decide +kernel
theorem dX2_obey_75 : decode cX2_obey 75 = .ok (.iconst 0, 1) := by decide +kernel
theorem dX2_obey_76 : decode cX2_obey 76 = .ok (.ireturn, 1) := by decide +kernel
theorem dX2_obey_77 : decode cX2_obey 77 = .ok (.aload_n 0, 1) := by decide +kernel
theorem dX2_obey_78 : decode cX2_obey 78 = .ok (.getfield 10, 3) := by decide +kernel
theorem dX2_obey_81 : decode cX2_obey 81 = .ok (.iload 4, 2) := by decide +kernel
theorem dX2_obey_83 : decode cX2_obey 83 = .ok (.iload_n 2, 1) := by decide +kernel
theorem dX2_obey_84 : decode cX2_obey 84 = .ok (.invokevirtual 204, 3) := by decide +kernel
theorem dX2_obey_87 : decode cX2_obey 87 = .ok (.iconst 1, 1) := by decide +kernel
theorem dX2_obey_88 : decode cX2_obey 88 = .ok (.ireturn, 1) := by decide +kernel
theorem dX2_thousandfold_0 : decode cX2_thousandfold 0 = .ok (.ldc2_w 210, 3) := by decide +kernel
theorem dX2_thousandfold_3 : decode cX2_thousandfold 3 = .ok (.dload_n 0, 1) := by decide +kernel
theorem dX2_thousandfold_4 : decode cX2_thousandfold 4 = .ok (.dmul, 1) := by decide +kernel
theorem dX2_thousandfold_5 : decode cX2_thousandfold 5 = .ok (.d2l, 1) := by decide +kernel
theorem dX2_thousandfold_6 : decode cX2_thousandfold 6 = .ok (.lreturn, 1) := by decide +kernel
theorem dX2_bitsOf_0 : decode cX2_bitsOf 0 = .ok (.dload_n 0, 1) := by decide +kernel
theorem dX2_bitsOf_1 : decode cX2_bitsOf 1 = .ok (.dconst 0, 1) := by decide +kernel
theorem dX2_bitsOf_2 : decode cX2_bitsOf 2 = .ok (.dcmp .l, 1) := by decide +kernel
theorem dX2_bitsOf_3 : decode cX2_bitsOf 3 = .ok (.ifCond .ne 5, 3) := by decide +kernel
theorem dX2_bitsOf_6 : decode cX2_bitsOf 6 = .ok (.lconst 0, 1) := by decide +kernel
theorem dX2_bitsOf_7 : decode cX2_bitsOf 7 = .ok (.lreturn, 1) := by decide +kernel
theorem dX2_bitsOf_8 : decode cX2_bitsOf 8 = .ok (.ldc2_w 212, 3) := by decide +kernel
theorem dX2_bitsOf_11 : decode cX2_bitsOf 11 = .ok (.lstore_n 2, 1) := by decide +kernel
theorem dX2_bitsOf_12 : decode cX2_bitsOf 12 = .ok (.dload_n 0, 1) := by decide +kernel
theorem dX2_bitsOf_13 : decode cX2_bitsOf 13 = .ok (.dconst 0, 1) := by decide +kernel
theorem dX2_bitsOf_14 : decode cX2_bitsOf 14 = .ok (.dcmp .g, 1) := by decide +kernel
theorem dX2_bitsOf_15 : decode cX2_bitsOf 15 = .ok (.ifCond .ge 8, 3) := by decide +kernel
theorem dX2_bitsOf_18 : decode cX2_bitsOf 18 = .ok (.dload_n 0, 1) := by decide +kernel
theorem dX2_bitsOf_19 : decode cX2_bitsOf 19 = .ok (.dneg, 1) := by decide +kernel
theorem dX2_bitsOf_20 : decode cX2_bitsOf 20 = .ok (.goto 4, 3) := by decide +kernel
theorem dX2_bitsOf_23 : decode cX2_bitsOf 23 = .ok (.dload_n 0, 1) := by decide +kernel
theorem dX2_bitsOf_24 : decode cX2_bitsOf 24 = .ok (.dstore 4, 2) := by decide +kernel
theorem dX2_bitsOf_26 : decode cX2_bitsOf 26 = .ok (.sipush 1075, 3) := by decide +kernel
theorem dX2_bitsOf_29 : decode cX2_bitsOf 29 = .ok (.istore 6, 2) := by decide +kernel
theorem dX2_bitsOf_31 : decode cX2_bitsOf 31 = .ok (.dload 4, 2) := by decide +kernel
theorem dX2_bitsOf_33 : decode cX2_bitsOf 33 = .ok (.lload_n 2, 1) := by decide +kernel
theorem dX2_bitsOf_34 : decode cX2_bitsOf 34 = .ok (.l2d, 1) := by decide +kernel
theorem dX2_bitsOf_35 : decode cX2_bitsOf 35 = .ok (.dcmp .g, 1) := by decide +kernel
theorem dX2_bitsOf_36 : decode cX2_bitsOf 36 = .ok (.ifCond .ge 23, 3) := by decide +kernel
theorem dX2_bitsOf_39 : decode cX2_bitsOf 39 = .ok (.iload 6, 2) := by decide +kernel
theorem dX2_bitsOf_41 : decode cX2_bitsOf 41 = .ok (.iconst 1, 1) := by decide +kernel
theorem dX2_bitsOf_42 : decode cX2_bitsOf 42 = .ok (.if_icmp .le 17, 3) := by decide +kernel
theorem dX2_bitsOf_45 : decode cX2_bitsOf 45 = .ok (.dload 4, 2) := by decide +kernel
theorem dX2_bitsOf_47 : decode cX2_bitsOf 47 = .ok (.ldc2_w 214, 3) := by decide +kernel
theorem dX2_bitsOf_50 : decode cX2_bitsOf 50 = .ok (.dmul, 1) := by decide +kernel
theorem dX2_bitsOf_51 : decode cX2_bitsOf 51 = .ok (.dstore 4, 2) := by decide +kernel
theorem dX2_bitsOf_53 : decode cX2_bitsOf 53 = .ok (.iinc 6 (-1), 3) := by decide +kernel
theorem dX2_bitsOf_56 : decode cX2_bitsOf 56 = .ok (.goto (-25), 3) := by decide +kernel
theorem dX2_bitsOf_59 : decode cX2_bitsOf 59 = .ok (.dload 4, 2) := by decide +kernel
theorem dX2_bitsOf_61 : decode cX2_bitsOf 61 = .ok (.d2l, 1) := by decide +kernel
theorem dX2_bitsOf_62 : decode cX2_bitsOf 62 = .ok (.lstore 7, 2) := by decide +kernel
theorem dX2_bitsOf_64 : decode cX2_bitsOf 64 = .ok (.lload 7, 2) := by decide +kernel
theorem dX2_bitsOf_66 : decode cX2_bitsOf 66 = .ok (.lload_n 2, 1) := by decide +kernel
theorem dX2_bitsOf_67 : decode cX2_bitsOf 67 = .ok (.lcmp, 1) := by decide +kernel
theorem dX2_bitsOf_68 : decode cX2_bitsOf 68 = .ok (.ifCond .ge 8, 3) := by decide +kernel
theorem dX2_bitsOf_71 : decode cX2_bitsOf 71 = .ok (.lload 7, 2) := by decide +kernel
theorem dX2_bitsOf_73 : decode cX2_bitsOf 73 = .ok (.goto 14, 3) := by decide +kernel
theorem dX2_bitsOf_76 : decode cX2_bitsOf 76 = .ok (.iload 6, 2) := by decide +kernel
theorem dX2_bitsOf_78 : decode cX2_bitsOf 78 = .ok (.i2l, 1) := by decide +kernel
theorem dX2_bitsOf_79 : decode cX2_bitsOf 79 = .ok (.bipush 52, 2) := by decide +kernel
theorem dX2_bitsOf_81 : decode cX2_bitsOf 81 = .ok (.lshl, 1) := by decide +kernel
theorem dX2_bitsOf_82 : decode cX2_bitsOf 82 = .ok (.lload 7, 2) := by decide +kernel
theorem dX2_bitsOf_84 : decode cX2_bitsOf 84 = .ok (.lload_n 2, 1) := by decide +kernel
theorem dX2_bitsOf_85 : decode cX2_bitsOf 85 = .ok (.lsub, 1) := by decide +kernel
theorem dX2_bitsOf_86 : decode cX2_bitsOf 86 = .ok (.ladd, 1) := by decide +kernel
theorem dX2_bitsOf_87 : decode cX2_bitsOf 87 = .ok (.lstore 9, 2) := by decide +kernel
theorem dX2_bitsOf_89 : decode cX2_bitsOf 89 = .ok (.dload_n 0, 1) := by decide +kernel
theorem dX2_bitsOf_90 : decode cX2_bitsOf 90 = .ok (.dconst 0, 1) := by decide +kernel
theorem dX2_bitsOf_91 : decode cX2_bitsOf 91 = .ok (.dcmp .g, 1) := by decide +kernel
theorem dX2_bitsOf_92 : decode cX2_bitsOf 92 = .ok (.ifCond .ge 12, 3) := by decide +kernel
theorem dX2_bitsOf_95 : decode cX2_bitsOf 95 = .ok (.lload 9, 2) := by decide +kernel
theorem dX2_bitsOf_97 : decode cX2_bitsOf 97 = .ok (.ldc2_w 216, 3) := by decide +kernel
theorem dX2_bitsOf_100 : decode cX2_bitsOf 100 = .ok (.lor, 1) := by decide +kernel
theorem dX2_bitsOf_101 : decode cX2_bitsOf 101 = .ok (.goto 5, 3) := by decide +kernel
theorem dX2_bitsOf_104 : decode cX2_bitsOf 104 = .ok (.lload 9, 2) := by decide +kernel
theorem dX2_bitsOf_106 : decode cX2_bitsOf 106 = .ok (.lreturn, 1) := by decide +kernel
theorem dJxe99ae_isNaN_b9ae7_0 : decode cJxe99ae_isNaN_b9ae7 0 = .ok (.dload_n 0, 1) := by decide +kernel
theorem dJxe99ae_isNaN_b9ae7_1 : decode cJxe99ae_isNaN_b9ae7 1 = .ok (.dload_n 0, 1) := by decide +kernel
theorem dJxe99ae_isNaN_b9ae7_2 : decode cJxe99ae_isNaN_b9ae7 2 = .ok (.dcmp .l, 1) := by decide +kernel
theorem dJxe99ae_isNaN_b9ae7_3 : decode cJxe99ae_isNaN_b9ae7 3 = .ok (.ifCond .eq 7, 3) := by decide +kernel
theorem dJxe99ae_isNaN_b9ae7_6 : decode cJxe99ae_isNaN_b9ae7 6 = .ok (.iconst 1, 1) := by decide +kernel
theorem dJxe99ae_isNaN_b9ae7_7 : decode cJxe99ae_isNaN_b9ae7 7 = .ok (.goto 4, 3) := by decide +kernel
theorem dJxe99ae_isNaN_b9ae7_10 : decode cJxe99ae_isNaN_b9ae7 10 = .ok (.iconst 0, 1) := by decide +kernel
theorem dJxe99ae_isNaN_b9ae7_11 : decode cJxe99ae_isNaN_b9ae7 11 = .ok (.ireturn, 1) := by decide +kernel
theorem dJxe99ae_doubleToLongBits_ccdee_0 : decode cJxe99ae_doubleToLongBits_ccdee 0 = .ok (.dload_n 0, 1) := by decide +kernel
theorem dJxe99ae_doubleToLongBits_ccdee_1 : decode cJxe99ae_doubleToLongBits_ccdee 1 = .ok (.invokestatic 122, 3) := by decide +kernel
theorem dJxe99ae_doubleToLongBits_ccdee_4 : decode cJxe99ae_doubleToLongBits_ccdee 4 = .ok (.ifCond .ne 8, 3) := by decide +kernel
theorem dJxe99ae_doubleToLongBits_ccdee_7 : decode cJxe99ae_doubleToLongBits_ccdee 7 = .ok (.dload_n 0, 1) := by decide +kernel
theorem dJxe99ae_doubleToLongBits_ccdee_8 : decode cJxe99ae_doubleToLongBits_ccdee 8 = .ok (.invokestatic 134, 3) := by decide +kernel
theorem dJxe99ae_doubleToLongBits_ccdee_11 : decode cJxe99ae_doubleToLongBits_ccdee 11 = .ok (.lreturn, 1) := by decide +kernel
theorem dJxe99ae_doubleToLongBits_ccdee_12 : decode cJxe99ae_doubleToLongBits_ccdee 12 = .ok (.ldc2_w 137, 3) := by decide +kernel
theorem dJxe99ae_doubleToLongBits_ccdee_15 : decode cJxe99ae_doubleToLongBits_ccdee 15 = .ok (.lreturn, 1) := by decide +kernel
theorem dX3_init_0 : decode cX3_init 0 = .ok (.aload_n 0, 1) := by decide +kernel
theorem dX3_init_1 : decode cX3_init 1 = .ok (.invokespecial 1, 3) := by decide +kernel
theorem dX3_init_4 : decode cX3_init 4 = .ok (.aload_n 0, 1) := by decide +kernel
theorem dX3_init_5 : decode cX3_init 5 = .ok (.bipush 9, 2) := by decide +kernel
theorem dX3_init_7 : decode cX3_init 7 = .ok (.newarray .int, 2) := by decide +kernel
theorem dX3_init_9 : decode cX3_init 9 = .ok (.putfield 7, 3) := by decide +kernel
theorem dX3_init_12 : decode cX3_init 12 = .ok (.aload_n 0, 1) := by decide +kernel
theorem dX3_init_13 : decode cX3_init 13 = .ok (.bipush 45, 2) := by decide +kernel
theorem dX3_init_15 : decode cX3_init 15 = .ok (.newarray .double, 2) := by decide +kernel
theorem dX3_init_17 : decode cX3_init 17 = .ok (.putfield 13, 3) := by decide +kernel
theorem dX3_init_20 : decode cX3_init 20 = .ok (.aload_n 0, 1) := by decide +kernel
theorem dX3_init_21 : decode cX3_init 21 = .ok (.bipush 22, 2) := by decide +kernel
theorem dX3_init_23 : decode cX3_init 23 = .ok (.newarray .double, 2) := by decide +kernel
theorem dX3_init_25 : decode cX3_init 25 = .ok (.putfield 17, 3) := by decide +kernel
theorem dX3_init_28 : decode cX3_init 28 = .ok (.aload_n 0, 1) := by decide +kernel
theorem dX3_init_29 : decode cX3_init 29 = .ok (.bipush 36, 2) := by decide +kernel
theorem dX3_init_31 : decode cX3_init 31 = .ok (.newarray .int, 2) := by decide +kernel
theorem dX3_init_33 : decode cX3_init 33 = .ok (.putfield 20, 3) := by decide +kernel
theorem dX3_init_36 : decode cX3_init 36 = .ok (.aload_n 0, 1) := by decide +kernel
theorem dX3_init_37 : decode cX3_init 37 = .ok (.sipush 180, 3) := by decide +kernel
theorem dX3_init_40 : decode cX3_init 40 = .ok (.newarray .double, 2) := by decide +kernel
theorem dX3_init_42 : decode cX3_init 42 = .ok (.putfield 23, 3) := by decide +kernel
theorem dX3_init_45 : decode cX3_init 45 = .ok (.aload_n 0, 1) := by decide +kernel
theorem dX3_init_46 : decode cX3_init 46 = .ok (.bipush 9, 2) := by decide +kernel
theorem dX3_init_48 : decode cX3_init 48 = .ok (.newarray .int, 2) := by decide +kernel
theorem dX3_init_50 : decode cX3_init 50 = .ok (.putfield 26, 3) := by decide +kernel
theorem dX3_init_53 : decode cX3_init 53 = .ok (.aload_n 0, 1) := by decide +kernel
theorem dX3_init_54 : decode cX3_init 54 = .ok (.bipush 45, 2) := by decide +kernel
theorem dX3_init_56 : decode cX3_init 56 = .ok (.newarray .double, 2) := by decide +kernel
theorem dX3_init_58 : decode cX3_init 58 = .ok (.putfield 29, 3) := by decide +kernel
theorem dX3_init_61 : decode cX3_init 61 = .ok (.aload_n 0, 1) := by decide +kernel
theorem dX3_init_62 : decode cX3_init 62 = .ok (.iconst 3, 1) := by decide +kernel
theorem dX3_init_63 : decode cX3_init 63 = .ok (.newarray .int, 2) := by decide +kernel
theorem dX3_init_65 : decode cX3_init 65 = .ok (.putfield 32, 3) := by decide +kernel
theorem dX3_init_68 : decode cX3_init 68 = .ok (.aload_n 0, 1) := by decide +kernel
theorem dX3_init_69 : decode cX3_init 69 = .ok (.bipush 100, 2) := by decide +kernel
theorem dX3_init_71 : decode cX3_init 71 = .ok (.newarray .int, 2) := by decide +kernel
theorem dX3_init_73 : decode cX3_init 73 = .ok (.putfield 35, 3) := by decide +kernel
theorem dX3_init_76 : decode cX3_init 76 = .ok (.aload_n 0, 1) := by decide +kernel
theorem dX3_init_77 : decode cX3_init 77 = .ok (.bipush 50, 2) := by decide +kernel
theorem dX3_init_79 : decode cX3_init 79 = .ok (.newarray .int, 2) := by decide +kernel
theorem dX3_init_81 : decode cX3_init 81 = .ok (.putfield 38, 3) := by decide +kernel
theorem dX3_init_84 : decode cX3_init 84 = .ok (.aload_n 0, 1) := by decide +kernel
theorem dX3_init_85 : decode cX3_init 85 = .ok (.bipush 100, 2) := by decide +kernel
theorem dX3_init_87 : decode cX3_init 87 = .ok (.newarray .int, 2) := by decide +kernel
theorem dX3_init_89 : decode cX3_init 89 = .ok (.putfield 41, 3) := by decide +kernel
theorem dX3_init_92 : decode cX3_init 92 = .ok (.aload_n 0, 1) := by decide +kernel
theorem dX3_init_93 : decode cX3_init 93 = .ok (.getfield 7, 3) := by decide +kernel
theorem dX3_init_96 : decode cX3_init 96 = .ok (.iconst 0, 1) := by decide +kernel
theorem dX3_init_97 : decode cX3_init 97 = .ok (.iconst 4, 1) := by decide +kernel
theorem dX3_init_98 : decode cX3_init 98 = .ok (.iastore, 1) := by decide +kernel
theorem dX3_init_99 : decode cX3_init 99 = .ok (.aload_n 0, 1) := by decide +kernel
theorem dX3_init_100 : decode cX3_init 100 = .ok (.getfield 7, 3) := by decide +kernel
theorem dX3_init_103 : decode cX3_init 103 = .ok (.iconst 1, 1) := by decide +kernel
theorem dX3_init_104 : decode cX3_init 104 = .ok (.bipush 100, 2) := by decide +kernel
theorem dX3_init_106 : decode cX3_init 106 = .ok (.iastore, 1) := by decide +kernel
theorem dX3_init_107 : decode cX3_init 107 = .ok (.aload_n 0, 1) := by decide +kernel
theorem dX3_init_108 : decode cX3_init 108 = .ok (.getfield 7, 3) := by decide +kernel
theorem dX3_init_111 : decode cX3_init 111 = .ok (.iconst 2, 1) := by decide +kernel
theorem dX3_init_112 : decode cX3_init 112 = .ok (.bipush 20, 2) := by decide +kernel
theorem dX3_init_114 : decode cX3_init 114 = .ok (.iastore, 1) := by decide +kernel
theorem dX3_init_115 : decode cX3_init 115 = .ok (.aload_n 0, 1) := by decide +kernel
theorem dX3_init_116 : decode cX3_init 116 = .ok (.getfield 7, 3) := by decide +kernel
theorem dX3_init_119 : decode cX3_init 119 = .ok (.iconst 3, 1) := by decide +kernel
theorem dX3_init_120 : decode cX3_init 120 = .ok (.iconst 5, 1) := by decide +kernel
theorem dX3_init_121 : decode cX3_init 121 = .ok (.iastore, 1) := by decide +kernel
theorem dX3_init_122 : decode cX3_init 122 = .ok (.aload_n 0, 1) := by decide +kernel
theorem dX3_init_123 : decode cX3_init 123 = .ok (.getfield 7, 3) := by decide +kernel
theorem dX3_init_126 : decode cX3_init 126 = .ok (.bipush 7, 2) := by decide +kernel
theorem dX3_init_128 : decode cX3_init 128 = .ok (.bipush 10, 2) := by decide +kernel
theorem dX3_init_130 : decode cX3_init 130 = .ok (.iastore, 1) := by decide +kernel
theorem dX3_init_131 : decode cX3_init 131 = .ok (.aload_n 0, 1) := by decide +kernel
theorem dX3_init_132 : decode cX3_init 132 = .ok (.invokevirtual 44, 3) := by decide +kernel
theorem dX3_init_135 : decode cX3_init 135 = .ok (.return_, 1) := by decide +kernel
theorem dX3_within_0 : decode cX3_within 0 = .ok (.iload_n 0, 1) := by decide +kernel
theorem dX3_within_1 : decode cX3_within 1 = .ok (.iload_n 1, 1) := by decide +kernel
theorem dX3_within_2 : decode cX3_within 2 = .ok (.if_icmp .lt 12, 3) := by decide +kernel
theorem dX3_within_5 : decode cX3_within 5 = .ok (.iload_n 0, 1) := by decide +kernel
theorem dX3_within_6 : decode cX3_within 6 = .ok (.iload_n 2, 1) := by decide +kernel
theorem dX3_within_7 : decode cX3_within 7 = .ok (.if_icmp .gt 7, 3) := by decide +kernel
theorem dX3_within_10 : decode cX3_within 10 = .ok (.iconst 1, 1) := by decide +kernel
theorem dX3_within_11 : decode cX3_within 11 = .ok (.goto 4, 3) := by decide +kernel
theorem dX3_within_14 : decode cX3_within 14 = .ok (.iconst 0, 1) := by decide +kernel
theorem dX3_within_15 : decode cX3_within 15 = .ok (.ireturn, 1) := by decide +kernel
theorem dX3_counts_0 : decode cX3_counts 0 = .ok (.aload_n 0, 1) := by decide +kernel
theorem dX3_counts_1 : decode cX3_counts 1 = .ok (.getfield 32, 3) := by decide +kernel
theorem dX3_counts_4 : decode cX3_counts 4 = .ok (.bipush (-2), 2) := by decide +kernel
theorem dX3_counts_6 : decode cX3_counts 6 = .ok (.iload_n 1, 1) := by decide +kernel
theorem dX3_counts_7 : decode cX3_counts 7 = .ok (.isub, 1) := by decide +kernel
theorem dX3_counts_8 : decode cX3_counts 8 = .ok (.dup2, 1) := by decide +kernel
theorem dX3_counts_9 : decode cX3_counts 9 = .ok (.iaload, 1) := by decide +kernel
theorem dX3_counts_10 : decode cX3_counts 10 = .ok (.iconst 1, 1) := by decide +kernel
theorem dX3_counts_11 : decode cX3_counts 11 = .ok (.iadd, 1) := by decide +kernel
theorem dX3_counts_12 : decode cX3_counts 12 = .ok (.iastore, 1) := by decide +kernel
theorem dX3_counts_13 : decode cX3_counts 13 = .ok (.iload_n 1, 1) := by decide +kernel
theorem dX3_counts_14 : decode cX3_counts 14 = .ok (.ireturn, 1) := by decide +kernel
theorem dX3_countsLong_0 : decode cX3_countsLong 0 = .ok (.aload_n 0, 1) := by decide +kernel
theorem dX3_countsLong_1 : decode cX3_countsLong 1 = .ok (.getfield 32, 3) := by decide +kernel
theorem dX3_countsLong_4 : decode cX3_countsLong 4 = .ok (.iconst 0, 1) := by decide +kernel
theorem dX3_countsLong_5 : decode cX3_countsLong 5 = .ok (.dup2, 1) := by decide +kernel
theorem dX3_countsLong_6 : decode cX3_countsLong 6 = .ok (.iaload, 1) := by decide +kernel
theorem dX3_countsLong_7 : decode cX3_countsLong 7 = .ok (.iconst 1, 1) := by decide +kernel
theorem dX3_countsLong_8 : decode cX3_countsLong 8 = .ok (.iadd, 1) := by decide +kernel
theorem dX3_countsLong_9 : decode cX3_countsLong 9 = .ok (.iastore, 1) := by decide +kernel
theorem dX3_countsLong_10 : decode cX3_countsLong 10 = .ok (.ldc2_w 47, 3) := by decide +kernel
theorem dX3_countsLong_13 : decode cX3_countsLong 13 = .ok (.lreturn, 1) := by decide +kernel
theorem dX3_leaves_0 : decode cX3_leaves 0 = .ok (.aload_n 0, 1) := by decide +kernel
theorem dX3_leaves_1 : decode cX3_leaves 1 = .ok (.getfield 49, 3) := by decide +kernel
theorem dX3_leaves_4 : decode cX3_leaves 4 = .ok (.iconst 4, 1) := by decide +kernel
theorem dX3_leaves_5 : decode cX3_leaves 5 = .ok (.if_icmp .ne 72, 3) := by decide +kernel
theorem dX3_leaves_8 : decode cX3_leaves 8 = .ok (.iconst 0, 1) := by decide +kernel
theorem dX3_leaves_9 : decode cX3_leaves 9 = .ok (.istore_n 1, 1) := by decide +kernel
theorem dX3_leaves_10 : decode cX3_leaves 10 = .ok (.iload_n 1, 1) := by decide +kernel
theorem dX3_leaves_11 : decode cX3_leaves 11 = .ok (.bipush 27, 2) := by decide +kernel
theorem dX3_leaves_13 : decode cX3_leaves 13 = .ok (.if_icmp .ge 24, 3) := by decide +kernel
theorem dX3_leaves_16 : decode cX3_leaves 16 = .ok (.aload_n 0, 1) := by decide +kernel
theorem dX3_leaves_17 : decode cX3_leaves 17 = .ok (.getfield 20, 3) := by decide +kernel
theorem dX3_leaves_20 : decode cX3_leaves 20 = .ok (.iload_n 1, 1) := by decide +kernel
theorem dX3_leaves_21 : decode cX3_leaves 21 = .ok (.aload_n 0, 1) := by decide +kernel
theorem dX3_leaves_22 : decode cX3_leaves 22 = .ok (.getfield 20, 3) := by decide +kernel
theorem dX3_leaves_25 : decode cX3_leaves 25 = .ok (.iload_n 1, 1) := by decide +kernel
theorem dX3_leaves_26 : decode cX3_leaves 26 = .ok (.bipush 9, 2) := by decide +kernel
theorem dX3_leaves_28 : decode cX3_leaves 28 = .ok (.iadd, 1) := by decide +kernel
theorem dX3_leaves_29 : decode cX3_leaves 29 = .ok (.iaload, 1) := by decide +kernel
theorem dX3_leaves_30 : decode cX3_leaves 30 = .ok (.iastore, 1) := by decide +kernel
theorem dX3_leaves_31 : decode cX3_leaves 31 = .ok (.iinc 1 1, 3) := by decide +kernel
theorem dX3_leaves_34 : decode cX3_leaves 34 = .ok (.goto (-24), 3) := by decide +kernel
theorem dX3_leaves_37 : decode cX3_leaves 37 = .ok (.iconst 0, 1) := by decide +kernel
theorem dX3_leaves_38 : decode cX3_leaves 38 = .ok (.istore_n 1, 1) := by decide +kernel
theorem dX3_leaves_39 : decode cX3_leaves 39 = .ok (.iload_n 1, 1) := by decide +kernel
theorem dX3_leaves_40 : decode cX3_leaves 40 = .ok (.sipush 135, 3) := by decide +kernel
theorem dX3_leaves_43 : decode cX3_leaves 43 = .ok (.if_icmp .ge 24, 3) := by decide +kernel
theorem dX3_leaves_46 : decode cX3_leaves 46 = .ok (.aload_n 0, 1) := by decide +kernel
theorem dX3_leaves_47 : decode cX3_leaves 47 = .ok (.getfield 23, 3) := by decide +kernel
theorem dX3_leaves_50 : decode cX3_leaves 50 = .ok (.iload_n 1, 1) := by decide +kernel
theorem dX3_leaves_51 : decode cX3_leaves 51 = .ok (.aload_n 0, 1) := by decide +kernel
theorem dX3_leaves_52 : decode cX3_leaves 52 = .ok (.getfield 23, 3) := by decide +kernel
theorem dX3_leaves_55 : decode cX3_leaves 55 = .ok (.iload_n 1, 1) := by decide +kernel
theorem dX3_leaves_56 : decode cX3_leaves 56 = .ok (.bipush 45, 2) := by decide +kernel
theorem dX3_leaves_58 : decode cX3_leaves 58 = .ok (.iadd, 1) := by decide +kernel
theorem dX3_leaves_59 : decode cX3_leaves 59 = .ok (.daload, 1) := by decide +kernel
theorem dX3_leaves_60 : decode cX3_leaves 60 = .ok (.dastore, 1) := by decide +kernel
theorem dX3_leaves_61 : decode cX3_leaves 61 = .ok (.iinc 1 1, 3) := by decide +kernel
theorem dX3_leaves_64 : decode cX3_leaves 64 = .ok (.goto (-25), 3) := by decide +kernel
theorem dX3_leaves_67 : decode cX3_leaves 67 = .ok (.aload_n 0, 1) := by decide +kernel
theorem dX3_leaves_68 : decode cX3_leaves 68 = .ok (.dup, 1) := by decide +kernel
theorem dX3_leaves_69 : decode cX3_leaves 69 = .ok (.getfield 49, 3) := by decide +kernel
theorem dX3_leaves_72 : decode cX3_leaves 72 = .ok (.iconst 1, 1) := by decide +kernel
theorem dX3_leaves_73 : decode cX3_leaves 73 = .ok (.isub, 1) := by decide +kernel
theorem dX3_leaves_74 : decode cX3_leaves 74 = .ok (.putfield 49, 3) := by decide +kernel
theorem dX3_leaves_77 : decode cX3_leaves 77 = .ok (.iconst 0, 1) := by decide +kernel
theorem dX3_leaves_78 : decode cX3_leaves 78 = .ok (.istore_n 1, 1) := by decide +kernel
theorem dX3_leaves_79 : decode cX3_leaves 79 = .ok (.iload_n 1, 1) := by decide +kernel
theorem dX3_leaves_80 : decode cX3_leaves 80 = .ok (.bipush 9, 2) := by decide +kernel
theorem dX3_leaves_82 : decode cX3_leaves 82 = .ok (.if_icmp .ge 29, 3) := by decide +kernel
theorem dX3_leaves_85 : decode cX3_leaves 85 = .ok (.aload_n 0, 1) := by decide +kernel
theorem dX3_leaves_86 : decode cX3_leaves 86 = .ok (.getfield 20, 3) := by decide +kernel
theorem dX3_leaves_89 : decode cX3_leaves 89 = .ok (.bipush 9, 2) := by decide +kernel
theorem dX3_leaves_91 : decode cX3_leaves 91 = .ok (.aload_n 0, 1) := by decide +kernel
theorem dX3_leaves_92 : decode cX3_leaves 92 = .ok (.getfield 49, 3) := by decide +kernel
theorem dX3_leaves_95 : decode cX3_leaves 95 = .ok (.imul, 1) := by decide +kernel
theorem dX3_leaves_96 : decode cX3_leaves 96 = .ok (.iload_n 1, 1) := by decide +kernel
theorem dX3_leaves_97 : decode cX3_leaves 97 = .ok (.iadd, 1) := by decide +kernel
theorem dX3_leaves_98 : decode cX3_leaves 98 = .ok (.aload_n 0, 1) := by decide +kernel
theorem dX3_leaves_99 : decode cX3_leaves 99 = .ok (.getfield 7, 3) := by decide +kernel
theorem dX3_leaves_102 : decode cX3_leaves 102 = .ok (.iload_n 1, 1) := by decide +kernel
theorem dX3_leaves_103 : decode cX3_leaves 103 = .ok (.iaload, 1) := by decide +kernel
theorem dX3_leaves_104 : decode cX3_leaves 104 = .ok (.iastore, 1) := by decide +kernel
theorem dX3_leaves_105 : decode cX3_leaves 105 = .ok (.iinc 1 1, 3) := by decide +kernel
theorem dX3_leaves_108 : decode cX3_leaves 108 = .ok (.goto (-29), 3) := by decide +kernel
theorem dX3_leaves_111 : decode cX3_leaves 111 = .ok (.iconst 0, 1) := by decide +kernel
theorem dX3_leaves_112 : decode cX3_leaves 112 = .ok (.istore_n 1, 1) := by decide +kernel
theorem dX3_leaves_113 : decode cX3_leaves 113 = .ok (.iload_n 1, 1) := by decide +kernel
theorem dX3_leaves_114 : decode cX3_leaves 114 = .ok (.bipush 45, 2) := by decide +kernel
theorem dX3_leaves_116 : decode cX3_leaves 116 = .ok (.if_icmp .ge 29, 3) := by decide +kernel
theorem dX3_leaves_119 : decode cX3_leaves 119 = .ok (.aload_n 0, 1) := by decide +kernel
theorem dX3_leaves_120 : decode cX3_leaves 120 = .ok (.getfield 23, 3) := by decide +kernel
theorem dX3_leaves_123 : decode cX3_leaves 123 = .ok (.bipush 45, 2) := by decide +kernel
theorem dX3_leaves_125 : decode cX3_leaves 125 = .ok (.aload_n 0, 1) := by decide +kernel
theorem dX3_leaves_126 : decode cX3_leaves 126 = .ok (.getfield 49, 3) := by decide +kernel
theorem dX3_leaves_129 : decode cX3_leaves 129 = .ok (.imul, 1) := by decide +kernel
theorem dX3_leaves_130 : decode cX3_leaves 130 = .ok (.iload_n 1, 1) := by decide +kernel
theorem dX3_leaves_131 : decode cX3_leaves 131 = .ok (.iadd, 1) := by decide +kernel
theorem dX3_leaves_132 : decode cX3_leaves 132 = .ok (.aload_n 0, 1) := by decide +kernel
theorem dX3_leaves_133 : decode cX3_leaves 133 = .ok (.getfield 13, 3) := by decide +kernel
theorem dX3_leaves_136 : decode cX3_leaves 136 = .ok (.iload_n 1, 1) := by decide +kernel
theorem dX3_leaves_137 : decode cX3_leaves 137 = .ok (.daload, 1) := by decide +kernel
theorem dX3_leaves_138 : decode cX3_leaves 138 = .ok (.dastore, 1) := by decide +kernel
theorem dX3_leaves_139 : decode cX3_leaves 139 = .ok (.iinc 1 1, 3) := by decide +kernel
theorem dX3_leaves_142 : decode cX3_leaves 142 = .ok (.goto (-29), 3) := by decide +kernel
theorem dX3_leaves_145 : decode cX3_leaves 145 = .ok (.aload_n 0, 1) := by decide +kernel
theorem dX3_leaves_146 : decode cX3_leaves 146 = .ok (.dup, 1) := by decide +kernel
theorem dX3_leaves_147 : decode cX3_leaves 147 = .ok (.getfield 49, 3) := by decide +kernel
theorem dX3_leaves_150 : decode cX3_leaves 150 = .ok (.iconst 1, 1) := by decide +kernel
theorem dX3_leaves_151 : decode cX3_leaves 151 = .ok (.iadd, 1) := by decide +kernel
theorem dX3_leaves_152 : decode cX3_leaves 152 = .ok (.putfield 49, 3) := by decide +kernel
theorem dX3_leaves_155 : decode cX3_leaves 155 = .ok (.return_, 1) := by decide +kernel
theorem dX3_becomesPast_0 : decode cX3_becomesPast 0 = .ok (.iconst 0, 1) := by decide +kernel
theorem dX3_becomesPast_1 : decode cX3_becomesPast 1 = .ok (.istore_n 2, 1) := by decide +kernel
theorem dX3_becomesPast_2 : decode cX3_becomesPast 2 = .ok (.iload_n 2, 1) := by decide +kernel
theorem dX3_becomesPast_3 : decode cX3_becomesPast 3 = .ok (.bipush 9, 2) := by decide +kernel
theorem dX3_becomesPast_5 : decode cX3_becomesPast 5 = .ok (.if_icmp .ge 26, 3) := by decide +kernel
theorem dX3_becomesPast_8 : decode cX3_becomesPast 8 = .ok (.aload_n 0, 1) := by decide +kernel
theorem dX3_becomesPast_9 : decode cX3_becomesPast 9 = .ok (.getfield 7, 3) := by decide +kernel
theorem dX3_becomesPast_12 : decode cX3_becomesPast 12 = .ok (.iload_n 2, 1) := by decide +kernel
theorem dX3_becomesPast_13 : decode cX3_becomesPast 13 = .ok (.aload_n 0, 1) := by decide +kernel
theorem dX3_becomesPast_14 : decode cX3_becomesPast 14 = .ok (.getfield 20, 3) := by decide +kernel
theorem dX3_becomesPast_17 : decode cX3_becomesPast 17 = .ok (.bipush 9, 2) := by decide +kernel
theorem dX3_becomesPast_19 : decode cX3_becomesPast 19 = .ok (.iload_n 1, 1) := by decide +kernel
theorem dX3_becomesPast_20 : decode cX3_becomesPast 20 = .ok (.imul, 1) := by decide +kernel
theorem dX3_becomesPast_21 : decode cX3_becomesPast 21 = .ok (.iload_n 2, 1) := by decide +kernel
theorem dX3_becomesPast_22 : decode cX3_becomesPast 22 = .ok (.iadd, 1) := by decide +kernel
theorem dX3_becomesPast_23 : decode cX3_becomesPast 23 = .ok (.iaload, 1) := by decide +kernel
theorem dX3_becomesPast_24 : decode cX3_becomesPast 24 = .ok (.iastore, 1) := by decide +kernel
theorem dX3_becomesPast_25 : decode cX3_becomesPast 25 = .ok (.iinc 2 1, 3) := by decide +kernel
theorem dX3_becomesPast_28 : decode cX3_becomesPast 28 = .ok (.goto (-26), 3) := by decide +kernel
theorem dX3_becomesPast_31 : decode cX3_becomesPast 31 = .ok (.iconst 0, 1) := by decide +kernel
theorem dX3_becomesPast_32 : decode cX3_becomesPast 32 = .ok (.istore_n 2, 1) := by decide +kernel
theorem dX3_becomesPast_33 : decode cX3_becomesPast 33 = .ok (.iload_n 2, 1) := by decide +kernel
theorem dX3_becomesPast_34 : decode cX3_becomesPast 34 = .ok (.bipush 45, 2) := by decide +kernel
theorem dX3_becomesPast_36 : decode cX3_becomesPast 36 = .ok (.if_icmp .ge 26, 3) := by decide +kernel
theorem dX3_becomesPast_39 : decode cX3_becomesPast 39 = .ok (.aload_n 0, 1) := by decide +kernel
theorem dX3_becomesPast_40 : decode cX3_becomesPast 40 = .ok (.getfield 13, 3) := by decide +kernel
theorem dX3_becomesPast_43 : decode cX3_becomesPast 43 = .ok (.iload_n 2, 1) := by decide +kernel
theorem dX3_becomesPast_44 : decode cX3_becomesPast 44 = .ok (.aload_n 0, 1) := by decide +kernel
theorem dX3_becomesPast_45 : decode cX3_becomesPast 45 = .ok (.getfield 23, 3) := by decide +kernel
theorem dX3_becomesPast_48 : decode cX3_becomesPast 48 = .ok (.bipush 45, 2) := by decide +kernel
theorem dX3_becomesPast_50 : decode cX3_becomesPast 50 = .ok (.iload_n 1, 1) := by decide +kernel
theorem dX3_becomesPast_51 : decode cX3_becomesPast 51 = .ok (.imul, 1) := by decide +kernel
theorem dX3_becomesPast_52 : decode cX3_becomesPast 52 = .ok (.iload_n 2, 1) := by decide +kernel
theorem dX3_becomesPast_53 : decode cX3_becomesPast 53 = .ok (.iadd, 1) := by decide +kernel
theorem dX3_becomesPast_54 : decode cX3_becomesPast 54 = .ok (.daload, 1) := by decide +kernel
theorem dX3_becomesPast_55 : decode cX3_becomesPast 55 = .ok (.dastore, 1) := by decide +kernel
theorem dX3_becomesPast_56 : decode cX3_becomesPast 56 = .ok (.iinc 2 1, 3) := by decide +kernel
theorem dX3_becomesPast_59 : decode cX3_becomesPast 59 = .ok (.goto (-26), 3) := by decide +kernel
theorem dX3_becomesPast_62 : decode cX3_becomesPast 62 = .ok (.return_, 1) := by decide +kernel
theorem dX3_back_0 : decode cX3_back 0 = .ok (.aload_n 0, 1) := by decide +kernel
theorem dX3_back_1 : decode cX3_back 1 = .ok (.getfield 49, 3) := by decide +kernel
theorem dX3_back_4 : decode cX3_back 4 = .ok (.ifCond .ne 10, 3) := by decide +kernel
theorem dX3_back_7 : decode cX3_back 7 = .ok (.aload_n 0, 1) := by decide +kernel
theorem dX3_back_8 : decode cX3_back 8 = .ok (.bipush (-3), 2) := by decide +kernel
theorem dX3_back_10 : decode cX3_back 10 = .ok (.invokevirtual 53, 3) := by decide +kernel
theorem dX3_back_13 : decode cX3_back 13 = .ok (.ireturn, 1) := by decide +kernel
theorem dX3_back_14 : decode cX3_back 14 = .ok (.aload_n 0, 1) := by decide +kernel
theorem dX3_back_15 : decode cX3_back 15 = .ok (.dup, 1) := by decide +kernel
theorem dX3_back_16 : decode cX3_back 16 = .ok (.getfield 49, 3) := by decide +kernel
theorem dX3_back_19 : decode cX3_back 19 = .ok (.iconst 1, 1) := by decide +kernel
theorem dX3_back_20 : decode cX3_back 20 = .ok (.isub, 1) := by decide +kernel
theorem dX3_back_21 : decode cX3_back 21 = .ok (.putfield 49, 3) := by decide +kernel
theorem dX3_back_24 : decode cX3_back 24 = .ok (.aload_n 0, 1) := by decide +kernel
theorem dX3_back_25 : decode cX3_back 25 = .ok (.aload_n 0, 1) := by decide +kernel
theorem dX3_back_26 : decode cX3_back 26 = .ok (.getfield 49, 3) := by decide +kernel
theorem dX3_back_29 : decode cX3_back 29 = .ok (.invokevirtual 57, 3) := by decide +kernel
theorem dX3_back_32 : decode cX3_back 32 = .ok (.aload_n 0, 1) := by decide +kernel
theorem dX3_back_33 : decode cX3_back 33 = .ok (.getfield 49, 3) := by decide +kernel
theorem dX3_back_36 : decode cX3_back 36 = .ok (.ireturn, 1) := by decide +kernel
theorem dX3_laysAside_0 : decode cX3_laysAside 0 = .ok (.iconst 0, 1) := by decide +kernel
theorem dX3_laysAside_1 : decode cX3_laysAside 1 = .ok (.istore_n 1, 1) := by decide +kernel
theorem dX3_laysAside_2 : decode cX3_laysAside 2 = .ok (.iload_n 1, 1) := by decide +kernel
theorem dX3_laysAside_3 : decode cX3_laysAside 3 = .ok (.bipush 9, 2) := by decide +kernel
theorem dX3_laysAside_5 : decode cX3_laysAside 5 = .ok (.if_icmp .ge 21, 3) := by decide +kernel
theorem dX3_laysAside_8 : decode cX3_laysAside 8 = .ok (.aload_n 0, 1) := by decide +kernel
theorem dX3_laysAside_9 : decode cX3_laysAside 9 = .ok (.getfield 26, 3) := by decide +kernel
theorem dX3_laysAside_12 : decode cX3_laysAside 12 = .ok (.iload_n 1, 1) := by decide +kernel
theorem dX3_laysAside_13 : decode cX3_laysAside 13 = .ok (.aload_n 0, 1) := by decide +kernel
theorem dX3_laysAside_14 : decode cX3_laysAside 14 = .ok (.getfield 7, 3) := by decide +kernel
theorem dX3_laysAside_17 : decode cX3_laysAside 17 = .ok (.iload_n 1, 1) := by decide +kernel
theorem dX3_laysAside_18 : decode cX3_laysAside 18 = .ok (.iaload, 1) := by decide +kernel
theorem dX3_laysAside_19 : decode cX3_laysAside 19 = .ok (.iastore, 1) := by decide +kernel
theorem dX3_laysAside_20 : decode cX3_laysAside 20 = .ok (.iinc 1 1, 3) := by decide +kernel
theorem dX3_laysAside_23 : decode cX3_laysAside 23 = .ok (.goto (-21), 3) := by decide +kernel
theorem dX3_laysAside_26 : decode cX3_laysAside 26 = .ok (.iconst 0, 1) := by decide +kernel
theorem dX3_laysAside_27 : decode cX3_laysAside 27 = .ok (.istore_n 1, 1) := by decide +kernel
theorem dX3_laysAside_28 : decode cX3_laysAside 28 = .ok (.iload_n 1, 1) := by decide +kernel
theorem dX3_laysAside_29 : decode cX3_laysAside 29 = .ok (.bipush 45, 2) := by decide +kernel
theorem dX3_laysAside_31 : decode cX3_laysAside 31 = .ok (.if_icmp .ge 21, 3) := by decide +kernel
theorem dX3_laysAside_34 : decode cX3_laysAside 34 = .ok (.aload_n 0, 1) := by decide +kernel
theorem dX3_laysAside_35 : decode cX3_laysAside 35 = .ok (.getfield 29, 3) := by decide +kernel
theorem dX3_laysAside_38 : decode cX3_laysAside 38 = .ok (.iload_n 1, 1) := by decide +kernel
theorem dX3_laysAside_39 : decode cX3_laysAside 39 = .ok (.aload_n 0, 1) := by decide +kernel
theorem dX3_laysAside_40 : decode cX3_laysAside 40 = .ok (.getfield 13, 3) := by decide +kernel
theorem dX3_laysAside_43 : decode cX3_laysAside 43 = .ok (.iload_n 1, 1) := by decide +kernel
theorem dX3_laysAside_44 : decode cX3_laysAside 44 = .ok (.daload, 1) := by decide +kernel
theorem dX3_laysAside_45 : decode cX3_laysAside 45 = .ok (.dastore, 1) := by decide +kernel
theorem dX3_laysAside_46 : decode cX3_laysAside 46 = .ok (.iinc 1 1, 3) := by decide +kernel
theorem dX3_laysAside_49 : decode cX3_laysAside 49 = .ok (.goto (-21), 3) := by decide +kernel
theorem dX3_laysAside_52 : decode cX3_laysAside 52 = .ok (.return_, 1) := by decide +kernel
theorem dX3_becomesAside_0 : decode cX3_becomesAside 0 = .ok (.iconst 0, 1) := by decide +kernel
theorem dX3_becomesAside_1 : decode cX3_becomesAside 1 = .ok (.istore_n 1, 1) := by decide +kernel
theorem dX3_becomesAside_2 : decode cX3_becomesAside 2 = .ok (.iload_n 1, 1) := by decide +kernel
theorem dX3_becomesAside_3 : decode cX3_becomesAside 3 = .ok (.bipush 9, 2) := by decide +kernel
theorem dX3_becomesAside_5 : decode cX3_becomesAside 5 = .ok (.if_icmp .ge 21, 3) := by decide +kernel
theorem dX3_becomesAside_8 : decode cX3_becomesAside 8 = .ok (.aload_n 0, 1) := by decide +kernel
theorem dX3_becomesAside_9 : decode cX3_becomesAside 9 = .ok (.getfield 7, 3) := by decide +kernel
theorem dX3_becomesAside_12 : decode cX3_becomesAside 12 = .ok (.iload_n 1, 1) := by decide +kernel
theorem dX3_becomesAside_13 : decode cX3_becomesAside 13 = .ok (.aload_n 0, 1) := by decide +kernel
theorem dX3_becomesAside_14 : decode cX3_becomesAside 14 = .ok (.getfield 26, 3) := by decide +kernel
theorem dX3_becomesAside_17 : decode cX3_becomesAside 17 = .ok (.iload_n 1, 1) := by decide +kernel
theorem dX3_becomesAside_18 : decode cX3_becomesAside 18 = .ok (.iaload, 1) := by decide +kernel
theorem dX3_becomesAside_19 : decode cX3_becomesAside 19 = .ok (.iastore, 1) := by decide +kernel
theorem dX3_becomesAside_20 : decode cX3_becomesAside 20 = .ok (.iinc 1 1, 3) := by decide +kernel
theorem dX3_becomesAside_23 : decode cX3_becomesAside 23 = .ok (.goto (-21), 3) := by decide +kernel
theorem dX3_becomesAside_26 : decode cX3_becomesAside 26 = .ok (.iconst 0, 1) := by decide +kernel
theorem dX3_becomesAside_27 : decode cX3_becomesAside 27 = .ok (.istore_n 1, 1) := by decide +kernel
theorem dX3_becomesAside_28 : decode cX3_becomesAside 28 = .ok (.iload_n 1, 1) := by decide +kernel
theorem dX3_becomesAside_29 : decode cX3_becomesAside 29 = .ok (.bipush 45, 2) := by decide +kernel
theorem dX3_becomesAside_31 : decode cX3_becomesAside 31 = .ok (.if_icmp .ge 21, 3) := by decide +kernel
theorem dX3_becomesAside_34 : decode cX3_becomesAside 34 = .ok (.aload_n 0, 1) := by decide +kernel
theorem dX3_becomesAside_35 : decode cX3_becomesAside 35 = .ok (.getfield 13, 3) := by decide +kernel
theorem dX3_becomesAside_38 : decode cX3_becomesAside 38 = .ok (.iload_n 1, 1) := by decide +kernel
theorem dX3_becomesAside_39 : decode cX3_becomesAside 39 = .ok (.aload_n 0, 1) := by decide +kernel
theorem dX3_becomesAside_40 : decode cX3_becomesAside 40 = .ok (.getfield 29, 3) := by decide +kernel
theorem dX3_becomesAside_43 : decode cX3_becomesAside 43 = .ok (.iload_n 1, 1) := by decide +kernel
theorem dX3_becomesAside_44 : decode cX3_becomesAside 44 = .ok (.daload, 1) := by decide +kernel
theorem dX3_becomesAside_45 : decode cX3_becomesAside 45 = .ok (.dastore, 1) := by decide +kernel
theorem dX3_becomesAside_46 : decode cX3_becomesAside 46 = .ok (.iinc 1 1, 3) := by decide +kernel
theorem dX3_becomesAside_49 : decode cX3_becomesAside 49 = .ok (.goto (-21), 3) := by decide +kernel
theorem dX3_becomesAside_52 : decode cX3_becomesAside 52 = .ok (.return_, 1) := by decide +kernel
theorem dX3_laysSteady_0 : decode cX3_laysSteady 0 = .ok (.aload_n 0, 1) := by decide +kernel
theorem dX3_laysSteady_1 : decode cX3_laysSteady 1 = .ok (.getfield 7, 3) := by decide +kernel
theorem dX3_laysSteady_4 : decode cX3_laysSteady 4 = .ok (.iconst 1, 1) := by decide +kernel
theorem dX3_laysSteady_5 : decode cX3_laysSteady 5 = .ok (.iaload, 1) := by decide +kernel
theorem dX3_laysSteady_6 : decode cX3_laysSteady 6 = .ok (.i2d, 1) := by decide +kernel
theorem dX3_laysSteady_7 : decode cX3_laysSteady 7 = .ok (.dstore_n 1, 1) := by decide +kernel
theorem dX3_laysSteady_8 : decode cX3_laysSteady 8 = .ok (.aload_n 0, 1) := by decide +kernel
theorem dX3_laysSteady_9 : decode cX3_laysSteady 9 = .ok (.getfield 7, 3) := by decide +kernel
theorem dX3_laysSteady_12 : decode cX3_laysSteady 12 = .ok (.iconst 2, 1) := by decide +kernel
theorem dX3_laysSteady_13 : decode cX3_laysSteady 13 = .ok (.iaload, 1) := by decide +kernel
theorem dX3_laysSteady_14 : decode cX3_laysSteady 14 = .ok (.i2d, 1) := by decide +kernel
theorem dX3_laysSteady_15 : decode cX3_laysSteady 15 = .ok (.dstore_n 3, 1) := by decide +kernel
theorem dX3_laysSteady_16 : decode cX3_laysSteady 16 = .ok (.iconst 0, 1) := by decide +kernel
theorem dX3_laysSteady_17 : decode cX3_laysSteady 17 = .ok (.istore 5, 2) := by decide +kernel
theorem dX3_laysSteady_19 : decode cX3_laysSteady 19 = .ok (.iload 5, 2) := by decide +kernel
theorem dX3_laysSteady_21 : decode cX3_laysSteady 21 = .ok (.aload_n 0, 1) := by decide +kernel
theorem dX3_laysSteady_22 : decode cX3_laysSteady 22 = .ok (.getfield 7, 3) := by decide +kernel
theorem dX3_laysSteady_25 : decode cX3_laysSteady 25 = .ok (.iconst 0, 1) := by decide +kernel
theorem dX3_laysSteady_26 : decode cX3_laysSteady 26 = .ok (.iaload, 1) := by decide +kernel
theorem dX3_laysSteady_27 : decode cX3_laysSteady 27 = .ok (.if_icmp .gt 96, 3) := by decide +kernel
theorem dX3_laysSteady_30 : decode cX3_laysSteady 30 = .ok (.aload_n 0, 1) := by decide +kernel
theorem dX3_laysSteady_31 : decode cX3_laysSteady 31 = .ok (.getfield 13, 3) := by decide +kernel
theorem dX3_laysSteady_34 : decode cX3_laysSteady 34 = .ok (.iload 5, 2) := by decide +kernel
theorem dX3_laysSteady_36 : decode cX3_laysSteady 36 = .ok (.dload_n 1, 1) := by decide +kernel
theorem dX3_laysSteady_37 : decode cX3_laysSteady 37 = .ok (.dload_n 3, 1) := by decide +kernel
theorem dX3_laysSteady_38 : decode cX3_laysSteady 38 = .ok (.dadd, 1) := by decide +kernel
theorem dX3_laysSteady_39 : decode cX3_laysSteady 39 = .ok (.ldc2_w 61, 3) := by decide +kernel
theorem dX3_laysSteady_42 : decode cX3_laysSteady 42 = .ok (.ddiv, 1) := by decide +kernel
theorem dX3_laysSteady_43 : decode cX3_laysSteady 43 = .ok (.dastore, 1) := by decide +kernel
theorem dX3_laysSteady_44 : decode cX3_laysSteady 44 = .ok (.aload_n 0, 1) := by decide +kernel
theorem dX3_laysSteady_45 : decode cX3_laysSteady 45 = .ok (.getfield 13, 3) := by decide +kernel
theorem dX3_laysSteady_48 : decode cX3_laysSteady 48 = .ok (.bipush 11, 2) := by decide +kernel
theorem dX3_laysSteady_50 : decode cX3_laysSteady 50 = .ok (.iload 5, 2) := by decide +kernel
theorem dX3_laysSteady_52 : decode cX3_laysSteady 52 = .ok (.iadd, 1) := by decide +kernel
theorem dX3_laysSteady_53 : decode cX3_laysSteady 53 = .ok (.dload_n 1, 1) := by decide +kernel
theorem dX3_laysSteady_54 : decode cX3_laysSteady 54 = .ok (.dload_n 3, 1) := by decide +kernel
theorem dX3_laysSteady_55 : decode cX3_laysSteady 55 = .ok (.dsub, 1) := by decide +kernel
theorem dX3_laysSteady_56 : decode cX3_laysSteady 56 = .ok (.ldc2_w 61, 3) := by decide +kernel
theorem dX3_laysSteady_59 : decode cX3_laysSteady 59 = .ok (.ddiv, 1) := by decide +kernel
theorem dX3_laysSteady_60 : decode cX3_laysSteady 60 = .ok (.dastore, 1) := by decide +kernel
theorem dX3_laysSteady_61 : decode cX3_laysSteady 61 = .ok (.aload_n 0, 1) := by decide +kernel
theorem dX3_laysSteady_62 : decode cX3_laysSteady 62 = .ok (.getfield 13, 3) := by decide +kernel
theorem dX3_laysSteady_65 : decode cX3_laysSteady 65 = .ok (.bipush 22, 2) := by decide +kernel
theorem dX3_laysSteady_67 : decode cX3_laysSteady 67 = .ok (.iload 5, 2) := by decide +kernel
theorem dX3_laysSteady_69 : decode cX3_laysSteady 69 = .ok (.iadd, 1) := by decide +kernel
theorem dX3_laysSteady_70 : decode cX3_laysSteady 70 = .ok (.aload_n 0, 1) := by decide +kernel
theorem dX3_laysSteady_71 : decode cX3_laysSteady 71 = .ok (.getfield 13, 3) := by decide +kernel
theorem dX3_laysSteady_74 : decode cX3_laysSteady 74 = .ok (.iload 5, 2) := by decide +kernel
theorem dX3_laysSteady_76 : decode cX3_laysSteady 76 = .ok (.daload, 1) := by decide +kernel
theorem dX3_laysSteady_77 : decode cX3_laysSteady 77 = .ok (.aload_n 0, 1) := by decide +kernel
theorem dX3_laysSteady_78 : decode cX3_laysSteady 78 = .ok (.getfield 13, 3) := by decide +kernel
theorem dX3_laysSteady_81 : decode cX3_laysSteady 81 = .ok (.bipush 11, 2) := by decide +kernel
theorem dX3_laysSteady_83 : decode cX3_laysSteady 83 = .ok (.iload 5, 2) := by decide +kernel
theorem dX3_laysSteady_85 : decode cX3_laysSteady 85 = .ok (.iadd, 1) := by decide +kernel
theorem dX3_laysSteady_86 : decode cX3_laysSteady 86 = .ok (.daload, 1) := by decide +kernel
theorem dX3_laysSteady_87 : decode cX3_laysSteady 87 = .ok (.dadd, 1) := by decide +kernel
theorem dX3_laysSteady_88 : decode cX3_laysSteady 88 = .ok (.dastore, 1) := by decide +kernel
theorem dX3_laysSteady_89 : decode cX3_laysSteady 89 = .ok (.aload_n 0, 1) := by decide +kernel
theorem dX3_laysSteady_90 : decode cX3_laysSteady 90 = .ok (.getfield 13, 3) := by decide +kernel
theorem dX3_laysSteady_93 : decode cX3_laysSteady 93 = .ok (.bipush 33, 2) := by decide +kernel
theorem dX3_laysSteady_95 : decode cX3_laysSteady 95 = .ok (.iload 5, 2) := by decide +kernel
theorem dX3_laysSteady_97 : decode cX3_laysSteady 97 = .ok (.iadd, 1) := by decide +kernel
theorem dX3_laysSteady_98 : decode cX3_laysSteady 98 = .ok (.aload_n 0, 1) := by decide +kernel
theorem dX3_laysSteady_99 : decode cX3_laysSteady 99 = .ok (.getfield 13, 3) := by decide +kernel
theorem dX3_laysSteady_102 : decode cX3_laysSteady 102 = .ok (.iload 5, 2) := by decide +kernel
theorem dX3_laysSteady_104 : decode cX3_laysSteady 104 = .ok (.daload, 1) := by decide +kernel
theorem dX3_laysSteady_105 : decode cX3_laysSteady 105 = .ok (.aload_n 0, 1) := by decide +kernel
theorem dX3_laysSteady_106 : decode cX3_laysSteady 106 = .ok (.getfield 13, 3) := by decide +kernel
theorem dX3_laysSteady_109 : decode cX3_laysSteady 109 = .ok (.bipush 11, 2) := by decide +kernel
theorem dX3_laysSteady_111 : decode cX3_laysSteady 111 = .ok (.iload 5, 2) := by decide +kernel
theorem dX3_laysSteady_113 : decode cX3_laysSteady 113 = .ok (.iadd, 1) := by decide +kernel
theorem dX3_laysSteady_114 : decode cX3_laysSteady 114 = .ok (.daload, 1) := by decide +kernel
theorem dX3_laysSteady_115 : decode cX3_laysSteady 115 = .ok (.dadd, 1) := by decide +kernel
theorem dX3_laysSteady_116 : decode cX3_laysSteady 116 = .ok (.dastore, 1) := by decide +kernel
theorem dX3_laysSteady_117 : decode cX3_laysSteady 117 = .ok (.iinc 5 1, 3) := by decide +kernel
theorem dX3_laysSteady_120 : decode cX3_laysSteady 120 = .ok (.goto (-101), 3) := by decide +kernel
theorem dX3_laysSteady_123 : decode cX3_laysSteady 123 = .ok (.aload_n 0, 1) := by decide +kernel
theorem dX3_laysSteady_124 : decode cX3_laysSteady 124 = .ok (.getfield 13, 3) := by decide +kernel
theorem dX3_laysSteady_127 : decode cX3_laysSteady 127 = .ok (.bipush 44, 2) := by decide +kernel
theorem dX3_laysSteady_129 : decode cX3_laysSteady 129 = .ok (.dload_n 1, 1) := by decide +kernel
theorem dX3_laysSteady_130 : decode cX3_laysSteady 130 = .ok (.dastore, 1) := by decide +kernel
theorem dX3_laysSteady_131 : decode cX3_laysSteady 131 = .ok (.aload_n 0, 1) := by decide +kernel
theorem dX3_laysSteady_132 : decode cX3_laysSteady 132 = .ok (.getfield 7, 3) := by decide +kernel
theorem dX3_laysSteady_135 : decode cX3_laysSteady 135 = .ok (.bipush 8, 2) := by decide +kernel
theorem dX3_laysSteady_137 : decode cX3_laysSteady 137 = .ok (.iconst 0, 1) := by decide +kernel
theorem dX3_laysSteady_138 : decode cX3_laysSteady 138 = .ok (.iastore, 1) := by decide +kernel
theorem dX3_laysSteady_139 : decode cX3_laysSteady 139 = .ok (.return_, 1) := by decide +kernel
theorem dX3_let_0 : decode cX3_let 0 = .ok (.aload_n 0, 1) := by decide +kernel
theorem dX3_let_1 : decode cX3_let 1 = .ok (.getfield 7, 3) := by decide +kernel
theorem dX3_let_4 : decode cX3_let 4 = .ok (.iconst 2, 1) := by decide +kernel
theorem dX3_let_5 : decode cX3_let 5 = .ok (.iaload, 1) := by decide +kernel
theorem dX3_let_6 : decode cX3_let 6 = .ok (.i2d, 1) := by decide +kernel
theorem dX3_let_7 : decode cX3_let 7 = .ok (.dstore 4, 2) := by decide +kernel
theorem dX3_let_9 : decode cX3_let 9 = .ok (.iload_n 3, 1) := by decide +kernel
theorem dX3_let_10 : decode cX3_let 10 = .ok (.i2d, 1) := by decide +kernel
theorem dX3_let_11 : decode cX3_let 11 = .ok (.dstore 6, 2) := by decide +kernel
theorem dX3_let_13 : decode cX3_let 13 = .ok (.iload_n 2, 1) := by decide +kernel
theorem dX3_let_14 : decode cX3_let 14 = .ok (.i2d, 1) := by decide +kernel
theorem dX3_let_15 : decode cX3_let 15 = .ok (.dstore 8, 2) := by decide +kernel
theorem dX3_let_17 : decode cX3_let 17 = .ok (.iload_n 1, 1) := by decide +kernel
theorem dX3_let_18 : decode cX3_let 18 = .ok (.tableswitch 116 0 4 #[34, 37, 49, 70, 100], 34) := by decide +kernel
theorem dX3_let_52 : decode cX3_let 52 = .ok (.dload 4, 2) := by decide +kernel
theorem dX3_let_54 : decode cX3_let 54 = .ok (.dreturn, 1) := by decide +kernel
theorem dX3_let_55 : decode cX3_let 55 = .ok (.iload_n 3, 1) := by decide +kernel
theorem dX3_let_56 : decode cX3_let 56 = .ok (.iload_n 2, 1) := by decide +kernel
theorem dX3_let_57 : decode cX3_let 57 = .ok (.if_icmp .ge 8, 3) := by decide +kernel
theorem dX3_let_60 : decode cX3_let 60 = .ok (.dload 4, 2) := by decide +kernel
theorem dX3_let_62 : decode cX3_let 62 = .ok (.goto 4, 3) := by decide +kernel
theorem dX3_let_65 : decode cX3_let 65 = .ok (.dconst 0, 1) := by decide +kernel
theorem dX3_let_66 : decode cX3_let 66 = .ok (.dreturn, 1) := by decide +kernel
theorem dX3_let_67 : decode cX3_let 67 = .ok (.iload_n 3, 1) := by decide +kernel
theorem dX3_let_68 : decode cX3_let 68 = .ok (.iload_n 2, 1) := by decide +kernel
theorem dX3_let_69 : decode cX3_let 69 = .ok (.if_icmp .ge 17, 3) := by decide +kernel
theorem dX3_let_72 : decode cX3_let 72 = .ok (.dload 4, 2) := by decide +kernel
theorem dX3_let_74 : decode cX3_let 74 = .ok (.dload 8, 2) := by decide +kernel
theorem dX3_let_76 : decode cX3_let 76 = .ok (.dload 6, 2) := by decide +kernel
theorem dX3_let_78 : decode cX3_let 78 = .ok (.dsub, 1) := by decide +kernel
theorem dX3_let_79 : decode cX3_let 79 = .ok (.dmul, 1) := by decide +kernel
theorem dX3_let_80 : decode cX3_let 80 = .ok (.dload 8, 2) := by decide +kernel
theorem dX3_let_82 : decode cX3_let 82 = .ok (.ddiv, 1) := by decide +kernel
theorem dX3_let_83 : decode cX3_let 83 = .ok (.goto 4, 3) := by decide +kernel
theorem dX3_let_86 : decode cX3_let 86 = .ok (.dconst 0, 1) := by decide +kernel
theorem dX3_let_87 : decode cX3_let 87 = .ok (.dreturn, 1) := by decide +kernel
theorem dX3_let_88 : decode cX3_let 88 = .ok (.iload_n 3, 1) := by decide +kernel
theorem dX3_let_89 : decode cX3_let 89 = .ok (.iload_n 2, 1) := by decide +kernel
theorem dX3_let_90 : decode cX3_let 90 = .ok (.if_icmp .ge 26, 3) := by decide +kernel
theorem dX3_let_93 : decode cX3_let 93 = .ok (.dload 4, 2) := by decide +kernel
theorem dX3_let_95 : decode cX3_let 95 = .ok (.dload 8, 2) := by decide +kernel
theorem dX3_let_97 : decode cX3_let 97 = .ok (.dload 8, 2) := by decide +kernel
theorem dX3_let_99 : decode cX3_let 99 = .ok (.dmul, 1) := by decide +kernel
theorem dX3_let_100 : decode cX3_let 100 = .ok (.dload 6, 2) := by decide +kernel
theorem dX3_let_102 : decode cX3_let 102 = .ok (.dload 6, 2) := by decide +kernel
theorem dX3_let_104 : decode cX3_let 104 = .ok (.dmul, 1) := by decide +kernel
theorem dX3_let_105 : decode cX3_let 105 = .ok (.dsub, 1) := by decide +kernel
theorem dX3_let_106 : decode cX3_let 106 = .ok (.dmul, 1) := by decide +kernel
theorem dX3_let_107 : decode cX3_let 107 = .ok (.dload 8, 2) := by decide +kernel
theorem dX3_let_109 : decode cX3_let 109 = .ok (.dload 8, 2) := by decide +kernel
theorem dX3_let_111 : decode cX3_let 111 = .ok (.dmul, 1) := by decide +kernel
theorem dX3_let_112 : decode cX3_let 112 = .ok (.ddiv, 1) := by decide +kernel
theorem dX3_let_113 : decode cX3_let 113 = .ok (.goto 4, 3) := by decide +kernel
theorem dX3_let_116 : decode cX3_let 116 = .ok (.dconst 0, 1) := by decide +kernel
theorem dX3_let_117 : decode cX3_let 117 = .ok (.dreturn, 1) := by decide +kernel
theorem dX3_let_118 : decode cX3_let 118 = .ok (.iload_n 3, 1) := by decide +kernel
theorem dX3_let_119 : decode cX3_let 119 = .ok (.iload_n 2, 1) := by decide +kernel
theorem dX3_let_120 : decode cX3_let 120 = .ok (.if_icmp .ge 12, 3) := by decide +kernel
theorem dX3_let_123 : decode cX3_let 123 = .ok (.dload 4, 2) := by decide +kernel
theorem dX3_let_125 : decode cX3_let 125 = .ok (.ldc2_w 61, 3) := by decide +kernel
theorem dX3_let_128 : decode cX3_let 128 = .ok (.ddiv, 1) := by decide +kernel
theorem dX3_let_129 : decode cX3_let 129 = .ok (.goto 4, 3) := by decide +kernel
theorem dX3_let_132 : decode cX3_let 132 = .ok (.dconst 0, 1) := by decide +kernel
theorem dX3_let_133 : decode cX3_let 133 = .ok (.dreturn, 1) := by decide +kernel
theorem dX3_let_134 : decode cX3_let 134 = .ok (.iload_n 3, 1) := by decide +kernel
theorem dX3_let_135 : decode cX3_let 135 = .ok (.iload_n 2, 1) := by decide +kernel
theorem dX3_let_136 : decode cX3_let 136 = .ok (.idiv, 1) := by decide +kernel
theorem dX3_let_137 : decode cX3_let 137 = .ok (.iconst 2, 1) := by decide +kernel
theorem dX3_let_138 : decode cX3_let 138 = .ok (.irem, 1) := by decide +kernel
theorem dX3_let_139 : decode cX3_let 139 = .ok (.ifCond .ne 8, 3) := by decide +kernel
theorem dX3_let_142 : decode cX3_let 142 = .ok (.dload 4, 2) := by decide +kernel
theorem dX3_let_144 : decode cX3_let 144 = .ok (.goto 9, 3) := by decide +kernel
theorem dX3_let_147 : decode cX3_let 147 = .ok (.dload 4, 2) := by decide +kernel
theorem dX3_let_149 : decode cX3_let 149 = .ok (.ldc2_w 61, 3) := by decide +kernel
theorem dX3_let_152 : decode cX3_let 152 = .ok (.ddiv, 1) := by decide +kernel
theorem dX3_let_153 : decode cX3_let 153 = .ok (.dreturn, 1) := by decide +kernel
theorem dX3_laysEnds_0 : decode cX3_laysEnds 0 = .ok (.aload_n 0, 1) := by decide +kernel
theorem dX3_laysEnds_1 : decode cX3_laysEnds 1 = .ok (.getfield 7, 3) := by decide +kernel
theorem dX3_laysEnds_4 : decode cX3_laysEnds 4 = .ok (.iconst 0, 1) := by decide +kernel
theorem dX3_laysEnds_5 : decode cX3_laysEnds 5 = .ok (.iaload, 1) := by decide +kernel
theorem dX3_laysEnds_6 : decode cX3_laysEnds 6 = .ok (.istore_n 1, 1) := by decide +kernel
theorem dX3_laysEnds_7 : decode cX3_laysEnds 7 = .ok (.aload_n 0, 1) := by decide +kernel
theorem dX3_laysEnds_8 : decode cX3_laysEnds 8 = .ok (.getfield 7, 3) := by decide +kernel
theorem dX3_laysEnds_11 : decode cX3_laysEnds 11 = .ok (.iconst 1, 1) := by decide +kernel
theorem dX3_laysEnds_12 : decode cX3_laysEnds 12 = .ok (.iaload, 1) := by decide +kernel
theorem dX3_laysEnds_13 : decode cX3_laysEnds 13 = .ok (.i2d, 1) := by decide +kernel
theorem dX3_laysEnds_14 : decode cX3_laysEnds 14 = .ok (.dstore_n 2, 1) := by decide +kernel
theorem dX3_laysEnds_15 : decode cX3_laysEnds 15 = .ok (.aload_n 0, 1) := by decide +kernel
theorem dX3_laysEnds_16 : decode cX3_laysEnds 16 = .ok (.getfield 13, 3) := by decide +kernel
theorem dX3_laysEnds_19 : decode cX3_laysEnds 19 = .ok (.iconst 0, 1) := by decide +kernel
theorem dX3_laysEnds_20 : decode cX3_laysEnds 20 = .ok (.aload_n 0, 1) := by decide +kernel
theorem dX3_laysEnds_21 : decode cX3_laysEnds 21 = .ok (.getfield 7, 3) := by decide +kernel
theorem dX3_laysEnds_24 : decode cX3_laysEnds 24 = .ok (.iconst 4, 1) := by decide +kernel
theorem dX3_laysEnds_25 : decode cX3_laysEnds 25 = .ok (.iaload, 1) := by decide +kernel
theorem dX3_laysEnds_26 : decode cX3_laysEnds 26 = .ok (.ifCond .ne 15, 3) := by decide +kernel
theorem dX3_laysEnds_29 : decode cX3_laysEnds 29 = .ok (.dload_n 2, 1) := by decide +kernel
theorem dX3_laysEnds_30 : decode cX3_laysEnds 30 = .ok (.aload_n 0, 1) := by decide +kernel
theorem dX3_laysEnds_31 : decode cX3_laysEnds 31 = .ok (.getfield 13, 3) := by decide +kernel
theorem dX3_laysEnds_34 : decode cX3_laysEnds 34 = .ok (.bipush 11, 2) := by decide +kernel
theorem dX3_laysEnds_36 : decode cX3_laysEnds 36 = .ok (.daload, 1) := by decide +kernel
theorem dX3_laysEnds_37 : decode cX3_laysEnds 37 = .ok (.dsub, 1) := by decide +kernel
theorem dX3_laysEnds_38 : decode cX3_laysEnds 38 = .ok (.goto 10, 3) := by decide +kernel
theorem dX3_laysEnds_41 : decode cX3_laysEnds 41 = .ok (.aload_n 0, 1) := by decide +kernel
theorem dX3_laysEnds_42 : decode cX3_laysEnds 42 = .ok (.getfield 13, 3) := by decide +kernel
theorem dX3_laysEnds_45 : decode cX3_laysEnds 45 = .ok (.bipush 11, 2) := by decide +kernel
theorem dX3_laysEnds_47 : decode cX3_laysEnds 47 = .ok (.daload, 1) := by decide +kernel
theorem dX3_laysEnds_48 : decode cX3_laysEnds 48 = .ok (.dastore, 1) := by decide +kernel
theorem dX3_laysEnds_49 : decode cX3_laysEnds 49 = .ok (.aload_n 0, 1) := by decide +kernel
theorem dX3_laysEnds_50 : decode cX3_laysEnds 50 = .ok (.getfield 7, 3) := by decide +kernel
theorem dX3_laysEnds_53 : decode cX3_laysEnds 53 = .ok (.iconst 5, 1) := by decide +kernel
theorem dX3_laysEnds_54 : decode cX3_laysEnds 54 = .ok (.iaload, 1) := by decide +kernel
theorem dX3_laysEnds_55 : decode cX3_laysEnds 55 = .ok (.tableswitch 107 0 2 #[25, 69, 89], 25) := by decide +kernel
theorem dX3_laysEnds_80 : decode cX3_laysEnds 80 = .ok (.aload_n 0, 1) := by decide +kernel
theorem dX3_laysEnds_81 : decode cX3_laysEnds 81 = .ok (.getfield 13, 3) := by decide +kernel
theorem dX3_laysEnds_84 : decode cX3_laysEnds 84 = .ok (.bipush 11, 2) := by decide +kernel
theorem dX3_laysEnds_86 : decode cX3_laysEnds 86 = .ok (.iload_n 1, 1) := by decide +kernel
theorem dX3_laysEnds_87 : decode cX3_laysEnds 87 = .ok (.iadd, 1) := by decide +kernel
theorem dX3_laysEnds_88 : decode cX3_laysEnds 88 = .ok (.aload_n 0, 1) := by decide +kernel
theorem dX3_laysEnds_89 : decode cX3_laysEnds 89 = .ok (.getfield 13, 3) := by decide +kernel
theorem dX3_laysEnds_92 : decode cX3_laysEnds 92 = .ok (.iload_n 1, 1) := by decide +kernel
theorem dX3_laysEnds_93 : decode cX3_laysEnds 93 = .ok (.daload, 1) := by decide +kernel
theorem dX3_laysEnds_94 : decode cX3_laysEnds 94 = .ok (.aload_n 0, 1) := by decide +kernel
theorem dX3_laysEnds_95 : decode cX3_laysEnds 95 = .ok (.aload_n 0, 1) := by decide +kernel
theorem dX3_laysEnds_96 : decode cX3_laysEnds 96 = .ok (.getfield 7, 3) := by decide +kernel
theorem dX3_laysEnds_99 : decode cX3_laysEnds 99 = .ok (.bipush 6, 2) := by decide +kernel
theorem dX3_laysEnds_101 : decode cX3_laysEnds 101 = .ok (.iaload, 1) := by decide +kernel
theorem dX3_laysEnds_102 : decode cX3_laysEnds 102 = .ok (.aload_n 0, 1) := by decide +kernel
theorem dX3_laysEnds_103 : decode cX3_laysEnds 103 = .ok (.getfield 7, 3) := by decide +kernel
theorem dX3_laysEnds_106 : decode cX3_laysEnds 106 = .ok (.bipush 7, 2) := by decide +kernel
theorem dX3_laysEnds_108 : decode cX3_laysEnds 108 = .ok (.iaload, 1) := by decide +kernel
theorem dX3_laysEnds_109 : decode cX3_laysEnds 109 = .ok (.aload_n 0, 1) := by decide +kernel
theorem dX3_laysEnds_110 : decode cX3_laysEnds 110 = .ok (.getfield 7, 3) := by decide +kernel
theorem dX3_laysEnds_113 : decode cX3_laysEnds 113 = .ok (.bipush 8, 2) := by decide +kernel
theorem dX3_laysEnds_115 : decode cX3_laysEnds 115 = .ok (.iaload, 1) := by decide +kernel
theorem dX3_laysEnds_116 : decode cX3_laysEnds 116 = .ok (.invokevirtual 63, 3) := by decide +kernel
theorem dX3_laysEnds_119 : decode cX3_laysEnds 119 = .ok (.dsub, 1) := by decide +kernel
theorem dX3_laysEnds_120 : decode cX3_laysEnds 120 = .ok (.dastore, 1) := by decide +kernel
theorem dX3_laysEnds_121 : decode cX3_laysEnds 121 = .ok (.goto 137, 3) := by decide +kernel
theorem dX3_laysEnds_124 : decode cX3_laysEnds 124 = .ok (.aload_n 0, 1) := by decide +kernel
theorem dX3_laysEnds_125 : decode cX3_laysEnds 125 = .ok (.getfield 13, 3) := by decide +kernel
theorem dX3_laysEnds_128 : decode cX3_laysEnds 128 = .ok (.bipush 11, 2) := by decide +kernel
theorem dX3_laysEnds_130 : decode cX3_laysEnds 130 = .ok (.iload_n 1, 1) := by decide +kernel
theorem dX3_laysEnds_131 : decode cX3_laysEnds 131 = .ok (.iadd, 1) := by decide +kernel
theorem dX3_laysEnds_132 : decode cX3_laysEnds 132 = .ok (.dload_n 2, 1) := by decide +kernel
theorem dX3_laysEnds_133 : decode cX3_laysEnds 133 = .ok (.aload_n 0, 1) := by decide +kernel
theorem dX3_laysEnds_134 : decode cX3_laysEnds 134 = .ok (.getfield 13, 3) := by decide +kernel
theorem dX3_laysEnds_137 : decode cX3_laysEnds 137 = .ok (.iload_n 1, 1) := by decide +kernel
theorem dX3_laysEnds_138 : decode cX3_laysEnds 138 = .ok (.daload, 1) := by decide +kernel
theorem dX3_laysEnds_139 : decode cX3_laysEnds 139 = .ok (.dsub, 1) := by decide +kernel
theorem dX3_laysEnds_140 : decode cX3_laysEnds 140 = .ok (.dastore, 1) := by decide +kernel
theorem dX3_laysEnds_141 : decode cX3_laysEnds 141 = .ok (.goto 117, 3) := by decide +kernel
theorem dX3_laysEnds_144 : decode cX3_laysEnds 144 = .ok (.aload_n 0, 1) := by decide +kernel
theorem dX3_laysEnds_145 : decode cX3_laysEnds 145 = .ok (.getfield 13, 3) := by decide +kernel
theorem dX3_laysEnds_148 : decode cX3_laysEnds 148 = .ok (.bipush 11, 2) := by decide +kernel
theorem dX3_laysEnds_150 : decode cX3_laysEnds 150 = .ok (.iload_n 1, 1) := by decide +kernel
theorem dX3_laysEnds_151 : decode cX3_laysEnds 151 = .ok (.iadd, 1) := by decide +kernel
theorem dX3_laysEnds_152 : decode cX3_laysEnds 152 = .ok (.aload_n 0, 1) := by decide +kernel
theorem dX3_laysEnds_153 : decode cX3_laysEnds 153 = .ok (.getfield 13, 3) := by decide +kernel
theorem dX3_laysEnds_156 : decode cX3_laysEnds 156 = .ok (.iload_n 1, 1) := by decide +kernel
theorem dX3_laysEnds_157 : decode cX3_laysEnds 157 = .ok (.daload, 1) := by decide +kernel
theorem dX3_laysEnds_158 : decode cX3_laysEnds 158 = .ok (.dastore, 1) := by decide +kernel
theorem dX3_laysEnds_159 : decode cX3_laysEnds 159 = .ok (.goto 99, 3) := by decide +kernel
theorem dX3_laysEnds_162 : decode cX3_laysEnds 162 = .ok (.aload_n 0, 1) := by decide +kernel
theorem dX3_laysEnds_163 : decode cX3_laysEnds 163 = .ok (.getfield 13, 3) := by decide +kernel
theorem dX3_laysEnds_166 : decode cX3_laysEnds 166 = .ok (.bipush 11, 2) := by decide +kernel
theorem dX3_laysEnds_168 : decode cX3_laysEnds 168 = .ok (.iload_n 1, 1) := by decide +kernel
theorem dX3_laysEnds_169 : decode cX3_laysEnds 169 = .ok (.iadd, 1) := by decide +kernel
theorem dX3_laysEnds_170 : decode cX3_laysEnds 170 = .ok (.aload_n 0, 1) := by decide +kernel
theorem dX3_laysEnds_171 : decode cX3_laysEnds 171 = .ok (.getfield 13, 3) := by decide +kernel
theorem dX3_laysEnds_174 : decode cX3_laysEnds 174 = .ok (.bipush 44, 2) := by decide +kernel
theorem dX3_laysEnds_176 : decode cX3_laysEnds 176 = .ok (.daload, 1) := by decide +kernel
theorem dX3_laysEnds_177 : decode cX3_laysEnds 177 = .ok (.aload_n 0, 1) := by decide +kernel
theorem dX3_laysEnds_178 : decode cX3_laysEnds 178 = .ok (.getfield 13, 3) := by decide +kernel
theorem dX3_laysEnds_181 : decode cX3_laysEnds 181 = .ok (.iload_n 1, 1) := by decide +kernel
theorem dX3_laysEnds_182 : decode cX3_laysEnds 182 = .ok (.daload, 1) := by decide +kernel
theorem dX3_laysEnds_183 : decode cX3_laysEnds 183 = .ok (.dsub, 1) := by decide +kernel
theorem dX3_laysEnds_184 : decode cX3_laysEnds 184 = .ok (.dastore, 1) := by decide +kernel
theorem dX3_laysEnds_185 : decode cX3_laysEnds 185 = .ok (.aload_n 0, 1) := by decide +kernel
theorem dX3_laysEnds_186 : decode cX3_laysEnds 186 = .ok (.getfield 13, 3) := by decide +kernel
theorem dX3_laysEnds_189 : decode cX3_laysEnds 189 = .ok (.bipush 44, 2) := by decide +kernel
theorem dX3_laysEnds_191 : decode cX3_laysEnds 191 = .ok (.daload, 1) := by decide +kernel
theorem dX3_laysEnds_192 : decode cX3_laysEnds 192 = .ok (.aload_n 0, 1) := by decide +kernel
theorem dX3_laysEnds_193 : decode cX3_laysEnds 193 = .ok (.getfield 13, 3) := by decide +kernel
theorem dX3_laysEnds_196 : decode cX3_laysEnds 196 = .ok (.iload_n 1, 1) := by decide +kernel
theorem dX3_laysEnds_197 : decode cX3_laysEnds 197 = .ok (.daload, 1) := by decide +kernel
theorem dX3_laysEnds_198 : decode cX3_laysEnds 198 = .ok (.aload_n 0, 1) := by decide +kernel
theorem dX3_laysEnds_199 : decode cX3_laysEnds 199 = .ok (.getfield 13, 3) := by decide +kernel
theorem dX3_laysEnds_202 : decode cX3_laysEnds 202 = .ok (.bipush 11, 2) := by decide +kernel
theorem dX3_laysEnds_204 : decode cX3_laysEnds 204 = .ok (.iload_n 1, 1) := by decide +kernel
theorem dX3_laysEnds_205 : decode cX3_laysEnds 205 = .ok (.iadd, 1) := by decide +kernel
theorem dX3_laysEnds_206 : decode cX3_laysEnds 206 = .ok (.daload, 1) := by decide +kernel
theorem dX3_laysEnds_207 : decode cX3_laysEnds 207 = .ok (.dsub, 1) := by decide +kernel
theorem dX3_laysEnds_208 : decode cX3_laysEnds 208 = .ok (.aload_n 0, 1) := by decide +kernel
theorem dX3_laysEnds_209 : decode cX3_laysEnds 209 = .ok (.getfield 7, 3) := by decide +kernel
theorem dX3_laysEnds_212 : decode cX3_laysEnds 212 = .ok (.iconst 3, 1) := by decide +kernel
theorem dX3_laysEnds_213 : decode cX3_laysEnds 213 = .ok (.iaload, 1) := by decide +kernel
theorem dX3_laysEnds_214 : decode cX3_laysEnds 214 = .ok (.i2d, 1) := by decide +kernel
theorem dX3_laysEnds_215 : decode cX3_laysEnds 215 = .ok (.ddiv, 1) := by decide +kernel
theorem dX3_laysEnds_216 : decode cX3_laysEnds 216 = .ok (.dadd, 1) := by decide +kernel
theorem dX3_laysEnds_217 : decode cX3_laysEnds 217 = .ok (.dstore 4, 2) := by decide +kernel
theorem dX3_laysEnds_219 : decode cX3_laysEnds 219 = .ok (.aload_n 0, 1) := by decide +kernel
theorem dX3_laysEnds_220 : decode cX3_laysEnds 220 = .ok (.getfield 13, 3) := by decide +kernel
theorem dX3_laysEnds_223 : decode cX3_laysEnds 223 = .ok (.bipush 44, 2) := by decide +kernel
theorem dX3_laysEnds_225 : decode cX3_laysEnds 225 = .ok (.dload 4, 2) := by decide +kernel
theorem dX3_laysEnds_227 : decode cX3_laysEnds 227 = .ok (.ldc2_w 67, 3) := by decide +kernel
theorem dX3_laysEnds_230 : decode cX3_laysEnds 230 = .ok (.dcmp .l, 1) := by decide +kernel
theorem dX3_laysEnds_231 : decode cX3_laysEnds 231 = .ok (.ifCond .le 9, 3) := by decide +kernel
theorem dX3_laysEnds_234 : decode cX3_laysEnds 234 = .ok (.ldc2_w 67, 3) := by decide +kernel
theorem dX3_laysEnds_237 : decode cX3_laysEnds 237 = .ok (.goto 20, 3) := by decide +kernel
theorem dX3_laysEnds_240 : decode cX3_laysEnds 240 = .ok (.dload 4, 2) := by decide +kernel
theorem dX3_laysEnds_242 : decode cX3_laysEnds 242 = .ok (.ldc2_w 69, 3) := by decide +kernel
theorem dX3_laysEnds_245 : decode cX3_laysEnds 245 = .ok (.dcmp .g, 1) := by decide +kernel
theorem dX3_laysEnds_246 : decode cX3_laysEnds 246 = .ok (.ifCond .ge 9, 3) := by decide +kernel
theorem dX3_laysEnds_249 : decode cX3_laysEnds 249 = .ok (.ldc2_w 69, 3) := by decide +kernel
theorem dX3_laysEnds_252 : decode cX3_laysEnds 252 = .ok (.goto 5, 3) := by decide +kernel
theorem dX3_laysEnds_255 : decode cX3_laysEnds 255 = .ok (.dload 4, 2) := by decide +kernel
theorem dX3_laysEnds_257 : decode cX3_laysEnds 257 = .ok (.dastore, 1) := by decide +kernel
theorem dX3_laysEnds_258 : decode cX3_laysEnds 258 = .ok (.return_, 1) := by decide +kernel
theorem dX3_goesOn_0 : decode cX3_goesOn 0 = .ok (.aload_n 0, 1) := by decide +kernel
theorem dX3_goesOn_1 : decode cX3_goesOn 1 = .ok (.getfield 7, 3) := by decide +kernel
theorem dX3_goesOn_4 : decode cX3_goesOn 4 = .ok (.iconst 0, 1) := by decide +kernel
theorem dX3_goesOn_5 : decode cX3_goesOn 5 = .ok (.iaload, 1) := by decide +kernel
theorem dX3_goesOn_6 : decode cX3_goesOn 6 = .ok (.istore_n 1, 1) := by decide +kernel
theorem dX3_goesOn_7 : decode cX3_goesOn 7 = .ok (.aload_n 0, 1) := by decide +kernel
theorem dX3_goesOn_8 : decode cX3_goesOn 8 = .ok (.getfield 7, 3) := by decide +kernel
theorem dX3_goesOn_11 : decode cX3_goesOn 11 = .ok (.bipush 8, 2) := by decide +kernel
theorem dX3_goesOn_13 : decode cX3_goesOn 13 = .ok (.dup2, 1) := by decide +kernel
theorem dX3_goesOn_14 : decode cX3_goesOn 14 = .ok (.iaload, 1) := by decide +kernel
theorem dX3_goesOn_15 : decode cX3_goesOn 15 = .ok (.iconst 1, 1) := by decide +kernel
theorem dX3_goesOn_16 : decode cX3_goesOn 16 = .ok (.iadd, 1) := by decide +kernel
theorem dX3_goesOn_17 : decode cX3_goesOn 17 = .ok (.iastore, 1) := by decide +kernel
theorem dX3_goesOn_18 : decode cX3_goesOn 18 = .ok (.iconst 0, 1) := by decide +kernel
theorem dX3_goesOn_19 : decode cX3_goesOn 19 = .ok (.istore_n 2, 1) := by decide +kernel
theorem dX3_goesOn_20 : decode cX3_goesOn 20 = .ok (.iload_n 2, 1) := by decide +kernel
theorem dX3_goesOn_21 : decode cX3_goesOn 21 = .ok (.bipush 22, 2) := by decide +kernel
theorem dX3_goesOn_23 : decode cX3_goesOn 23 = .ok (.if_icmp .ge 21, 3) := by decide +kernel
theorem dX3_goesOn_26 : decode cX3_goesOn 26 = .ok (.aload_n 0, 1) := by decide +kernel
theorem dX3_goesOn_27 : decode cX3_goesOn 27 = .ok (.getfield 17, 3) := by decide +kernel
theorem dX3_goesOn_30 : decode cX3_goesOn 30 = .ok (.iload_n 2, 1) := by decide +kernel
theorem dX3_goesOn_31 : decode cX3_goesOn 31 = .ok (.aload_n 0, 1) := by decide +kernel
theorem dX3_goesOn_32 : decode cX3_goesOn 32 = .ok (.getfield 13, 3) := by decide +kernel
theorem dX3_goesOn_35 : decode cX3_goesOn 35 = .ok (.iload_n 2, 1) := by decide +kernel
theorem dX3_goesOn_36 : decode cX3_goesOn 36 = .ok (.daload, 1) := by decide +kernel
theorem dX3_goesOn_37 : decode cX3_goesOn 37 = .ok (.dastore, 1) := by decide +kernel
theorem dX3_goesOn_38 : decode cX3_goesOn 38 = .ok (.iinc 2 1, 3) := by decide +kernel
theorem dX3_goesOn_41 : decode cX3_goesOn 41 = .ok (.goto (-21), 3) := by decide +kernel
theorem dX3_goesOn_44 : decode cX3_goesOn 44 = .ok (.iconst 0, 1) := by decide +kernel
theorem dX3_goesOn_45 : decode cX3_goesOn 45 = .ok (.istore_n 2, 1) := by decide +kernel
theorem dX3_goesOn_46 : decode cX3_goesOn 46 = .ok (.iload_n 2, 1) := by decide +kernel
theorem dX3_goesOn_47 : decode cX3_goesOn 47 = .ok (.iload_n 1, 1) := by decide +kernel
theorem dX3_goesOn_48 : decode cX3_goesOn 48 = .ok (.if_icmp .ge 43, 3) := by decide +kernel
theorem dX3_goesOn_51 : decode cX3_goesOn 51 = .ok (.aload_n 0, 1) := by decide +kernel
theorem dX3_goesOn_52 : decode cX3_goesOn 52 = .ok (.getfield 13, 3) := by decide +kernel
theorem dX3_goesOn_55 : decode cX3_goesOn 55 = .ok (.iload_n 2, 1) := by decide +kernel
theorem dX3_goesOn_56 : decode cX3_goesOn 56 = .ok (.iconst 1, 1) := by decide +kernel
theorem dX3_goesOn_57 : decode cX3_goesOn 57 = .ok (.iadd, 1) := by decide +kernel
theorem dX3_goesOn_58 : decode cX3_goesOn 58 = .ok (.aload_n 0, 1) := by decide +kernel
theorem dX3_goesOn_59 : decode cX3_goesOn 59 = .ok (.getfield 17, 3) := by decide +kernel
theorem dX3_goesOn_62 : decode cX3_goesOn 62 = .ok (.iload_n 2, 1) := by decide +kernel
theorem dX3_goesOn_63 : decode cX3_goesOn 63 = .ok (.daload, 1) := by decide +kernel
theorem dX3_goesOn_64 : decode cX3_goesOn 64 = .ok (.dastore, 1) := by decide +kernel
theorem dX3_goesOn_65 : decode cX3_goesOn 65 = .ok (.aload_n 0, 1) := by decide +kernel
theorem dX3_goesOn_66 : decode cX3_goesOn 66 = .ok (.getfield 13, 3) := by decide +kernel
theorem dX3_goesOn_69 : decode cX3_goesOn 69 = .ok (.bipush 11, 2) := by decide +kernel
theorem dX3_goesOn_71 : decode cX3_goesOn 71 = .ok (.iload_n 2, 1) := by decide +kernel
theorem dX3_goesOn_72 : decode cX3_goesOn 72 = .ok (.iadd, 1) := by decide +kernel
theorem dX3_goesOn_73 : decode cX3_goesOn 73 = .ok (.aload_n 0, 1) := by decide +kernel
theorem dX3_goesOn_74 : decode cX3_goesOn 74 = .ok (.getfield 17, 3) := by decide +kernel
theorem dX3_goesOn_77 : decode cX3_goesOn 77 = .ok (.bipush 11, 2) := by decide +kernel
theorem dX3_goesOn_79 : decode cX3_goesOn 79 = .ok (.iload_n 2, 1) := by decide +kernel
theorem dX3_goesOn_80 : decode cX3_goesOn 80 = .ok (.iadd, 1) := by decide +kernel
theorem dX3_goesOn_81 : decode cX3_goesOn 81 = .ok (.iconst 1, 1) := by decide +kernel
theorem dX3_goesOn_82 : decode cX3_goesOn 82 = .ok (.iadd, 1) := by decide +kernel
theorem dX3_goesOn_83 : decode cX3_goesOn 83 = .ok (.daload, 1) := by decide +kernel
theorem dX3_goesOn_84 : decode cX3_goesOn 84 = .ok (.dastore, 1) := by decide +kernel
theorem dX3_goesOn_85 : decode cX3_goesOn 85 = .ok (.iinc 2 1, 3) := by decide +kernel
theorem dX3_goesOn_88 : decode cX3_goesOn 88 = .ok (.goto (-42), 3) := by decide +kernel
theorem dX3_goesOn_91 : decode cX3_goesOn 91 = .ok (.aload_n 0, 1) := by decide +kernel
theorem dX3_goesOn_92 : decode cX3_goesOn 92 = .ok (.invokevirtual 71, 3) := by decide +kernel
theorem dX3_goesOn_95 : decode cX3_goesOn 95 = .ok (.iconst 0, 1) := by decide +kernel
theorem dX3_goesOn_96 : decode cX3_goesOn 96 = .ok (.istore_n 2, 1) := by decide +kernel
theorem dX3_goesOn_97 : decode cX3_goesOn 97 = .ok (.iload_n 2, 1) := by decide +kernel
theorem dX3_goesOn_98 : decode cX3_goesOn 98 = .ok (.iload_n 1, 1) := by decide +kernel
theorem dX3_goesOn_99 : decode cX3_goesOn 99 = .ok (.if_icmp .gt 98, 3) := by decide +kernel
theorem dX3_goesOn_102 : decode cX3_goesOn 102 = .ok (.aload_n 0, 1) := by decide +kernel
theorem dX3_goesOn_103 : decode cX3_goesOn 103 = .ok (.getfield 13, 3) := by decide +kernel
theorem dX3_goesOn_106 : decode cX3_goesOn 106 = .ok (.iload_n 2, 1) := by decide +kernel
theorem dX3_goesOn_107 : decode cX3_goesOn 107 = .ok (.daload, 1) := by decide +kernel
theorem dX3_goesOn_108 : decode cX3_goesOn 108 = .ok (.aload_n 0, 1) := by decide +kernel
theorem dX3_goesOn_109 : decode cX3_goesOn 109 = .ok (.getfield 13, 3) := by decide +kernel
theorem dX3_goesOn_112 : decode cX3_goesOn 112 = .ok (.bipush 11, 2) := by decide +kernel
theorem dX3_goesOn_114 : decode cX3_goesOn 114 = .ok (.iload_n 2, 1) := by decide +kernel
theorem dX3_goesOn_115 : decode cX3_goesOn 115 = .ok (.iadd, 1) := by decide +kernel
theorem dX3_goesOn_116 : decode cX3_goesOn 116 = .ok (.daload, 1) := by decide +kernel
theorem dX3_goesOn_117 : decode cX3_goesOn 117 = .ok (.dadd, 1) := by decide +kernel
theorem dX3_goesOn_118 : decode cX3_goesOn 118 = .ok (.dstore_n 3, 1) := by decide +kernel
theorem dX3_goesOn_119 : decode cX3_goesOn 119 = .ok (.aload_n 0, 1) := by decide +kernel
theorem dX3_goesOn_120 : decode cX3_goesOn 120 = .ok (.getfield 13, 3) := by decide +kernel
theorem dX3_goesOn_123 : decode cX3_goesOn 123 = .ok (.bipush 22, 2) := by decide +kernel
theorem dX3_goesOn_125 : decode cX3_goesOn 125 = .ok (.iload_n 2, 1) := by decide +kernel
theorem dX3_goesOn_126 : decode cX3_goesOn 126 = .ok (.iadd, 1) := by decide +kernel
theorem dX3_goesOn_127 : decode cX3_goesOn 127 = .ok (.dload_n 3, 1) := by decide +kernel
theorem dX3_goesOn_128 : decode cX3_goesOn 128 = .ok (.aload_n 0, 1) := by decide +kernel
theorem dX3_goesOn_129 : decode cX3_goesOn 129 = .ok (.getfield 13, 3) := by decide +kernel
theorem dX3_goesOn_132 : decode cX3_goesOn 132 = .ok (.bipush 22, 2) := by decide +kernel
theorem dX3_goesOn_134 : decode cX3_goesOn 134 = .ok (.iload_n 2, 1) := by decide +kernel
theorem dX3_goesOn_135 : decode cX3_goesOn 135 = .ok (.iadd, 1) := by decide +kernel
theorem dX3_goesOn_136 : decode cX3_goesOn 136 = .ok (.daload, 1) := by decide +kernel
theorem dX3_goesOn_137 : decode cX3_goesOn 137 = .ok (.dcmp .l, 1) := by decide +kernel
theorem dX3_goesOn_138 : decode cX3_goesOn 138 = .ok (.ifCond .le 7, 3) := by decide +kernel
theorem dX3_goesOn_141 : decode cX3_goesOn 141 = .ok (.dload_n 3, 1) := by decide +kernel
theorem dX3_goesOn_142 : decode cX3_goesOn 142 = .ok (.goto 12, 3) := by decide +kernel
theorem dX3_goesOn_145 : decode cX3_goesOn 145 = .ok (.aload_n 0, 1) := by decide +kernel
theorem dX3_goesOn_146 : decode cX3_goesOn 146 = .ok (.getfield 13, 3) := by decide +kernel
theorem dX3_goesOn_149 : decode cX3_goesOn 149 = .ok (.bipush 22, 2) := by decide +kernel
theorem dX3_goesOn_151 : decode cX3_goesOn 151 = .ok (.iload_n 2, 1) := by decide +kernel
theorem dX3_goesOn_152 : decode cX3_goesOn 152 = .ok (.iadd, 1) := by decide +kernel
theorem dX3_goesOn_153 : decode cX3_goesOn 153 = .ok (.daload, 1) := by decide +kernel
theorem dX3_goesOn_154 : decode cX3_goesOn 154 = .ok (.dastore, 1) := by decide +kernel
theorem dX3_goesOn_155 : decode cX3_goesOn 155 = .ok (.aload_n 0, 1) := by decide +kernel
theorem dX3_goesOn_156 : decode cX3_goesOn 156 = .ok (.getfield 13, 3) := by decide +kernel
theorem dX3_goesOn_159 : decode cX3_goesOn 159 = .ok (.bipush 33, 2) := by decide +kernel
theorem dX3_goesOn_161 : decode cX3_goesOn 161 = .ok (.iload_n 2, 1) := by decide +kernel
theorem dX3_goesOn_162 : decode cX3_goesOn 162 = .ok (.iadd, 1) := by decide +kernel
theorem dX3_goesOn_163 : decode cX3_goesOn 163 = .ok (.dload_n 3, 1) := by decide +kernel
theorem dX3_goesOn_164 : decode cX3_goesOn 164 = .ok (.aload_n 0, 1) := by decide +kernel
theorem dX3_goesOn_165 : decode cX3_goesOn 165 = .ok (.getfield 13, 3) := by decide +kernel
theorem dX3_goesOn_168 : decode cX3_goesOn 168 = .ok (.bipush 33, 2) := by decide +kernel
theorem dX3_goesOn_170 : decode cX3_goesOn 170 = .ok (.iload_n 2, 1) := by decide +kernel
theorem dX3_goesOn_171 : decode cX3_goesOn 171 = .ok (.iadd, 1) := by decide +kernel
theorem dX3_goesOn_172 : decode cX3_goesOn 172 = .ok (.daload, 1) := by decide +kernel
theorem dX3_goesOn_173 : decode cX3_goesOn 173 = .ok (.dcmp .g, 1) := by decide +kernel
theorem dX3_goesOn_174 : decode cX3_goesOn 174 = .ok (.ifCond .ge 7, 3) := by decide +kernel
theorem dX3_goesOn_177 : decode cX3_goesOn 177 = .ok (.dload_n 3, 1) := by decide +kernel
theorem dX3_goesOn_178 : decode cX3_goesOn 178 = .ok (.goto 12, 3) := by decide +kernel
theorem dX3_goesOn_181 : decode cX3_goesOn 181 = .ok (.aload_n 0, 1) := by decide +kernel
theorem dX3_goesOn_182 : decode cX3_goesOn 182 = .ok (.getfield 13, 3) := by decide +kernel
theorem dX3_goesOn_185 : decode cX3_goesOn 185 = .ok (.bipush 33, 2) := by decide +kernel
theorem dX3_goesOn_187 : decode cX3_goesOn 187 = .ok (.iload_n 2, 1) := by decide +kernel
theorem dX3_goesOn_188 : decode cX3_goesOn 188 = .ok (.iadd, 1) := by decide +kernel
theorem dX3_goesOn_189 : decode cX3_goesOn 189 = .ok (.daload, 1) := by decide +kernel
theorem dX3_goesOn_190 : decode cX3_goesOn 190 = .ok (.dastore, 1) := by decide +kernel
theorem dX3_goesOn_191 : decode cX3_goesOn 191 = .ok (.iinc 2 1, 3) := by decide +kernel
theorem dX3_goesOn_194 : decode cX3_goesOn 194 = .ok (.goto (-97), 3) := by decide +kernel
theorem dX3_goesOn_197 : decode cX3_goesOn 197 = .ok (.return_, 1) := by decide +kernel
theorem dX3_mayPipe_0 : decode cX3_mayPipe 0 = .ok (.iload_n 1, 1) := by decide +kernel
theorem dX3_mayPipe_1 : decode cX3_mayPipe 1 = .ok (.iconst 1, 1) := by decide +kernel
theorem dX3_mayPipe_2 : decode cX3_mayPipe 2 = .ok (.bipush 10, 2) := by decide +kernel
theorem dX3_mayPipe_4 : decode cX3_mayPipe 4 = .ok (.invokestatic 74, 3) := by decide +kernel
theorem dX3_mayPipe_7 : decode cX3_mayPipe 7 = .ok (.ireturn, 1) := by decide +kernel
end
section
theorem dX3_maySet_0 : decode cX3_maySet 0 = .ok (.iload_n 1, 1) := by decide +kernel
theorem dX3_maySet_1 : decode cX3_maySet 1 = .ok (.ifCond .ne 14, 3) := by decide +kernel
theorem dX3_maySet_4 : decode cX3_maySet 4 = .ok (.iload_n 2, 1) := by decide +kernel
theorem dX3_maySet_5 : decode cX3_maySet 5 = .ok (.iconst 0, 1) := by decide +kernel
theorem dX3_maySet_6 : decode cX3_maySet 6 = .ok (.sipush 1000, 3) := by decide +kernel
theorem dX3_maySet_9 : decode cX3_maySet 9 = .ok (.invokestatic 74, 3) := by decide +kernel
theorem dX3_maySet_12 : decode cX3_maySet 12 = .ok (.goto 39, 3) := by decide +kernel
theorem dX3_maySet_15 : decode cX3_maySet 15 = .ok (.iload_n 1, 1) := by decide +kernel
theorem dX3_maySet_16 : decode cX3_maySet 16 = .ok (.iconst 1, 1) := by decide +kernel
theorem dX3_maySet_17 : decode cX3_maySet 17 = .ok (.if_icmp .ne 14, 3) := by decide +kernel
theorem dX3_maySet_20 : decode cX3_maySet 20 = .ok (.iload_n 2, 1) := by decide +kernel
theorem dX3_maySet_21 : decode cX3_maySet 21 = .ok (.bipush (-100), 2) := by decide +kernel
theorem dX3_maySet_23 : decode cX3_maySet 23 = .ok (.bipush 100, 2) := by decide +kernel
theorem dX3_maySet_25 : decode cX3_maySet 25 = .ok (.invokestatic 74, 3) := by decide +kernel
theorem dX3_maySet_28 : decode cX3_maySet 28 = .ok (.goto 23, 3) := by decide +kernel
theorem dX3_maySet_31 : decode cX3_maySet 31 = .ok (.iload_n 1, 1) := by decide +kernel
theorem dX3_maySet_32 : decode cX3_maySet 32 = .ok (.iconst 2, 1) := by decide +kernel
theorem dX3_maySet_33 : decode cX3_maySet 33 = .ok (.if_icmp .ne 17, 3) := by decide +kernel
theorem dX3_maySet_36 : decode cX3_maySet 36 = .ok (.iload_n 2, 1) := by decide +kernel
theorem dX3_maySet_37 : decode cX3_maySet 37 = .ok (.iconst 1, 1) := by decide +kernel
theorem dX3_maySet_38 : decode cX3_maySet 38 = .ok (.bipush 99, 2) := by decide +kernel
theorem dX3_maySet_40 : decode cX3_maySet 40 = .ok (.invokestatic 74, 3) := by decide +kernel
theorem dX3_maySet_43 : decode cX3_maySet 43 = .ok (.ifCond .eq 7, 3) := by decide +kernel
theorem dX3_maySet_46 : decode cX3_maySet 46 = .ok (.iconst 1, 1) := by decide +kernel
theorem dX3_maySet_47 : decode cX3_maySet 47 = .ok (.goto 4, 3) := by decide +kernel
theorem dX3_maySet_50 : decode cX3_maySet 50 = .ok (.iconst 0, 1) := by decide +kernel
theorem dX3_maySet_51 : decode cX3_maySet 51 = .ok (.ireturn, 1) := by decide +kernel
theorem dX3_mayEnd_0 : decode cX3_mayEnd 0 = .ok (.iload_n 1, 1) := by decide +kernel
theorem dX3_mayEnd_1 : decode cX3_mayEnd 1 = .ok (.ifCond .ne 12, 3) := by decide +kernel
theorem dX3_mayEnd_4 : decode cX3_mayEnd 4 = .ok (.iload_n 2, 1) := by decide +kernel
theorem dX3_mayEnd_5 : decode cX3_mayEnd 5 = .ok (.iconst 0, 1) := by decide +kernel
theorem dX3_mayEnd_6 : decode cX3_mayEnd 6 = .ok (.iconst 1, 1) := by decide +kernel
theorem dX3_mayEnd_7 : decode cX3_mayEnd 7 = .ok (.invokestatic 74, 3) := by decide +kernel
theorem dX3_mayEnd_10 : decode cX3_mayEnd 10 = .ok (.goto 22, 3) := by decide +kernel
theorem dX3_mayEnd_13 : decode cX3_mayEnd 13 = .ok (.iload_n 1, 1) := by decide +kernel
theorem dX3_mayEnd_14 : decode cX3_mayEnd 14 = .ok (.iconst 1, 1) := by decide +kernel
theorem dX3_mayEnd_15 : decode cX3_mayEnd 15 = .ok (.if_icmp .ne 16, 3) := by decide +kernel
theorem dX3_mayEnd_18 : decode cX3_mayEnd 18 = .ok (.iload_n 2, 1) := by decide +kernel
theorem dX3_mayEnd_19 : decode cX3_mayEnd 19 = .ok (.iconst 0, 1) := by decide +kernel
theorem dX3_mayEnd_20 : decode cX3_mayEnd 20 = .ok (.iconst 3, 1) := by decide +kernel
theorem dX3_mayEnd_21 : decode cX3_mayEnd 21 = .ok (.invokestatic 74, 3) := by decide +kernel
theorem dX3_mayEnd_24 : decode cX3_mayEnd 24 = .ok (.ifCond .eq 7, 3) := by decide +kernel
theorem dX3_mayEnd_27 : decode cX3_mayEnd 27 = .ok (.iconst 1, 1) := by decide +kernel
theorem dX3_mayEnd_28 : decode cX3_mayEnd 28 = .ok (.goto 4, 3) := by decide +kernel
theorem dX3_mayEnd_31 : decode cX3_mayEnd 31 = .ok (.iconst 0, 1) := by decide +kernel
theorem dX3_mayEnd_32 : decode cX3_mayEnd 32 = .ok (.ireturn, 1) := by decide +kernel
theorem dX3_isLaw_0 : decode cX3_isLaw 0 = .ok (.iload_n 1, 1) := by decide +kernel
theorem dX3_isLaw_1 : decode cX3_isLaw 1 = .ok (.iconst 0, 1) := by decide +kernel
theorem dX3_isLaw_2 : decode cX3_isLaw 2 = .ok (.iconst 5, 1) := by decide +kernel
theorem dX3_isLaw_3 : decode cX3_isLaw 3 = .ok (.invokestatic 74, 3) := by decide +kernel
theorem dX3_isLaw_6 : decode cX3_isLaw 6 = .ok (.ifCond .eq 17, 3) := by decide +kernel
theorem dX3_isLaw_9 : decode cX3_isLaw 9 = .ok (.iload_n 2, 1) := by decide +kernel
theorem dX3_isLaw_10 : decode cX3_isLaw 10 = .ok (.iconst 1, 1) := by decide +kernel
theorem dX3_isLaw_11 : decode cX3_isLaw 11 = .ok (.bipush 60, 2) := by decide +kernel
theorem dX3_isLaw_13 : decode cX3_isLaw 13 = .ok (.invokestatic 74, 3) := by decide +kernel
theorem dX3_isLaw_16 : decode cX3_isLaw 16 = .ok (.ifCond .eq 7, 3) := by decide +kernel
theorem dX3_isLaw_19 : decode cX3_isLaw 19 = .ok (.iconst 1, 1) := by decide +kernel
theorem dX3_isLaw_20 : decode cX3_isLaw 20 = .ok (.goto 4, 3) := by decide +kernel
theorem dX3_isLaw_23 : decode cX3_isLaw 23 = .ok (.iconst 0, 1) := by decide +kernel
theorem dX3_isLaw_24 : decode cX3_isLaw 24 = .ok (.ireturn, 1) := by decide +kernel
theorem dX3_becomes_0 : decode cX3_becomes 0 = .ok (.aload_n 0, 1) := by decide +kernel
theorem dX3_becomes_1 : decode cX3_becomes 1 = .ok (.getfield 7, 3) := by decide +kernel
theorem dX3_becomes_4 : decode cX3_becomes 4 = .ok (.iload_n 1, 1) := by decide +kernel
theorem dX3_becomes_5 : decode cX3_becomes 5 = .ok (.iaload, 1) := by decide +kernel
theorem dX3_becomes_6 : decode cX3_becomes 6 = .ok (.istore_n 3, 1) := by decide +kernel
theorem dX3_becomes_7 : decode cX3_becomes 7 = .ok (.aload_n 0, 1) := by decide +kernel
theorem dX3_becomes_8 : decode cX3_becomes 8 = .ok (.getfield 7, 3) := by decide +kernel
theorem dX3_becomes_11 : decode cX3_becomes 11 = .ok (.iload_n 1, 1) := by decide +kernel
theorem dX3_becomes_12 : decode cX3_becomes 12 = .ok (.iload_n 2, 1) := by decide +kernel
theorem dX3_becomes_13 : decode cX3_becomes 13 = .ok (.iastore, 1) := by decide +kernel
theorem dX3_becomes_14 : decode cX3_becomes 14 = .ok (.aload_n 0, 1) := by decide +kernel
theorem dX3_becomes_15 : decode cX3_becomes 15 = .ok (.invokevirtual 44, 3) := by decide +kernel
theorem dX3_becomes_18 : decode cX3_becomes 18 = .ok (.iload_n 3, 1) := by decide +kernel
theorem dX3_becomes_19 : decode cX3_becomes 19 = .ok (.ireturn, 1) := by decide +kernel
theorem dX3_becomesLaw_0 : decode cX3_becomesLaw 0 = .ok (.aload_n 0, 1) := by decide +kernel
theorem dX3_becomesLaw_1 : decode cX3_becomesLaw 1 = .ok (.getfield 7, 3) := by decide +kernel
theorem dX3_becomesLaw_4 : decode cX3_becomesLaw 4 = .ok (.bipush 6, 2) := by decide +kernel
theorem dX3_becomesLaw_6 : decode cX3_becomesLaw 6 = .ok (.iaload, 1) := by decide +kernel
theorem dX3_becomesLaw_7 : decode cX3_becomesLaw 7 = .ok (.istore_n 3, 1) := by decide +kernel
theorem dX3_becomesLaw_8 : decode cX3_becomesLaw 8 = .ok (.aload_n 0, 1) := by decide +kernel
theorem dX3_becomesLaw_9 : decode cX3_becomesLaw 9 = .ok (.getfield 7, 3) := by decide +kernel
theorem dX3_becomesLaw_12 : decode cX3_becomesLaw 12 = .ok (.bipush 6, 2) := by decide +kernel
theorem dX3_becomesLaw_14 : decode cX3_becomesLaw 14 = .ok (.iload_n 1, 1) := by decide +kernel
theorem dX3_becomesLaw_15 : decode cX3_becomesLaw 15 = .ok (.iastore, 1) := by decide +kernel
theorem dX3_becomesLaw_16 : decode cX3_becomesLaw 16 = .ok (.aload_n 0, 1) := by decide +kernel
theorem dX3_becomesLaw_17 : decode cX3_becomesLaw 17 = .ok (.getfield 7, 3) := by decide +kernel
theorem dX3_becomesLaw_20 : decode cX3_becomesLaw 20 = .ok (.bipush 7, 2) := by decide +kernel
theorem dX3_becomesLaw_22 : decode cX3_becomesLaw 22 = .ok (.iload_n 2, 1) := by decide +kernel
theorem dX3_becomesLaw_23 : decode cX3_becomesLaw 23 = .ok (.iastore, 1) := by decide +kernel
theorem dX3_becomesLaw_24 : decode cX3_becomesLaw 24 = .ok (.iload_n 3, 1) := by decide +kernel
theorem dX3_becomesLaw_25 : decode cX3_becomesLaw 25 = .ok (.ireturn, 1) := by decide +kernel
theorem dX3_goesOnFor_0 : decode cX3_goesOnFor 0 = .ok (.iconst 0, 1) := by decide +kernel
theorem dX3_goesOnFor_1 : decode cX3_goesOnFor 1 = .ok (.istore_n 2, 1) := by decide +kernel
theorem dX3_goesOnFor_2 : decode cX3_goesOnFor 2 = .ok (.iload_n 2, 1) := by decide +kernel
theorem dX3_goesOnFor_3 : decode cX3_goesOnFor 3 = .ok (.iload_n 1, 1) := by decide +kernel
theorem dX3_goesOnFor_4 : decode cX3_goesOnFor 4 = .ok (.if_icmp .ge 13, 3) := by decide +kernel
theorem dX3_goesOnFor_7 : decode cX3_goesOnFor 7 = .ok (.aload_n 0, 1) := by decide +kernel
theorem dX3_goesOnFor_8 : decode cX3_goesOnFor 8 = .ok (.invokevirtual 78, 3) := by decide +kernel
theorem dX3_goesOnFor_11 : decode cX3_goesOnFor 11 = .ok (.iinc 2 1, 3) := by decide +kernel
theorem dX3_goesOnFor_14 : decode cX3_goesOnFor 14 = .ok (.goto (-12), 3) := by decide +kernel
theorem dX3_goesOnFor_17 : decode cX3_goesOnFor 17 = .ok (.aload_n 0, 1) := by decide +kernel
theorem dX3_goesOnFor_18 : decode cX3_goesOnFor 18 = .ok (.getfield 7, 3) := by decide +kernel
theorem dX3_goesOnFor_21 : decode cX3_goesOnFor 21 = .ok (.bipush 8, 2) := by decide +kernel
theorem dX3_goesOnFor_23 : decode cX3_goesOnFor 23 = .ok (.iaload, 1) := by decide +kernel
theorem dX3_goesOnFor_24 : decode cX3_goesOnFor 24 = .ok (.ireturn, 1) := by decide +kernel
theorem dX3_pipe_0 : decode cX3_pipe 0 = .ok (.aload_n 0, 1) := by decide +kernel
theorem dX3_pipe_1 : decode cX3_pipe 1 = .ok (.iload_n 1, 1) := by decide +kernel
theorem dX3_pipe_2 : decode cX3_pipe 2 = .ok (.invokevirtual 81, 3) := by decide +kernel
theorem dX3_pipe_5 : decode cX3_pipe 5 = .ok (.ifCond .ne 10, 3) := by decide +kernel
theorem dX3_pipe_8 : decode cX3_pipe 8 = .ok (.aload_n 0, 1) := by decide +kernel
theorem dX3_pipe_9 : decode cX3_pipe 9 = .ok (.bipush (-2), 2) := by decide +kernel
theorem dX3_pipe_11 : decode cX3_pipe 11 = .ok (.invokevirtual 53, 3) := by decide +kernel
theorem dX3_pipe_14 : decode cX3_pipe 14 = .ok (.ireturn, 1) := by decide +kernel
theorem dX3_pipe_15 : decode cX3_pipe 15 = .ok (.aload_n 0, 1) := by decide +kernel
theorem dX3_pipe_16 : decode cX3_pipe 16 = .ok (.invokevirtual 85, 3) := by decide +kernel
theorem dX3_pipe_19 : decode cX3_pipe 19 = .ok (.aload_n 0, 1) := by decide +kernel
theorem dX3_pipe_20 : decode cX3_pipe 20 = .ok (.iconst 0, 1) := by decide +kernel
theorem dX3_pipe_21 : decode cX3_pipe 21 = .ok (.iload_n 1, 1) := by decide +kernel
theorem dX3_pipe_22 : decode cX3_pipe 22 = .ok (.invokevirtual 88, 3) := by decide +kernel
theorem dX3_pipe_25 : decode cX3_pipe 25 = .ok (.ireturn, 1) := by decide +kernel
theorem dX3_sets_0 : decode cX3_sets 0 = .ok (.aload_n 0, 1) := by decide +kernel
theorem dX3_sets_1 : decode cX3_sets 1 = .ok (.iload_n 1, 1) := by decide +kernel
theorem dX3_sets_2 : decode cX3_sets 2 = .ok (.iload_n 2, 1) := by decide +kernel
theorem dX3_sets_3 : decode cX3_sets 3 = .ok (.invokevirtual 92, 3) := by decide +kernel
theorem dX3_sets_6 : decode cX3_sets 6 = .ok (.ifCond .ne 10, 3) := by decide +kernel
theorem dX3_sets_9 : decode cX3_sets 9 = .ok (.aload_n 0, 1) := by decide +kernel
theorem dX3_sets_10 : decode cX3_sets 10 = .ok (.bipush (-2), 2) := by decide +kernel
theorem dX3_sets_12 : decode cX3_sets 12 = .ok (.invokevirtual 53, 3) := by decide +kernel
theorem dX3_sets_15 : decode cX3_sets 15 = .ok (.ireturn, 1) := by decide +kernel
theorem dX3_sets_16 : decode cX3_sets 16 = .ok (.aload_n 0, 1) := by decide +kernel
theorem dX3_sets_17 : decode cX3_sets 17 = .ok (.invokevirtual 85, 3) := by decide +kernel
theorem dX3_sets_20 : decode cX3_sets 20 = .ok (.aload_n 0, 1) := by decide +kernel
theorem dX3_sets_21 : decode cX3_sets 21 = .ok (.iconst 1, 1) := by decide +kernel
theorem dX3_sets_22 : decode cX3_sets 22 = .ok (.iload_n 1, 1) := by decide +kernel
theorem dX3_sets_23 : decode cX3_sets 23 = .ok (.iadd, 1) := by decide +kernel
theorem dX3_sets_24 : decode cX3_sets 24 = .ok (.iload_n 2, 1) := by decide +kernel
theorem dX3_sets_25 : decode cX3_sets 25 = .ok (.invokevirtual 88, 3) := by decide +kernel
theorem dX3_sets_28 : decode cX3_sets 28 = .ok (.ireturn, 1) := by decide +kernel
theorem dX3_ends_0 : decode cX3_ends 0 = .ok (.aload_n 0, 1) := by decide +kernel
theorem dX3_ends_1 : decode cX3_ends 1 = .ok (.iload_n 1, 1) := by decide +kernel
theorem dX3_ends_2 : decode cX3_ends 2 = .ok (.iload_n 2, 1) := by decide +kernel
theorem dX3_ends_3 : decode cX3_ends 3 = .ok (.invokevirtual 96, 3) := by decide +kernel
theorem dX3_ends_6 : decode cX3_ends 6 = .ok (.ifCond .ne 10, 3) := by decide +kernel
theorem dX3_ends_9 : decode cX3_ends 9 = .ok (.aload_n 0, 1) := by decide +kernel
theorem dX3_ends_10 : decode cX3_ends 10 = .ok (.bipush (-2), 2) := by decide +kernel
theorem dX3_ends_12 : decode cX3_ends 12 = .ok (.invokevirtual 53, 3) := by decide +kernel
theorem dX3_ends_15 : decode cX3_ends 15 = .ok (.ireturn, 1) := by decide +kernel
theorem dX3_ends_16 : decode cX3_ends 16 = .ok (.aload_n 0, 1) := by decide +kernel
theorem dX3_ends_17 : decode cX3_ends 17 = .ok (.invokevirtual 85, 3) := by decide +kernel
theorem dX3_ends_20 : decode cX3_ends 20 = .ok (.aload_n 0, 1) := by decide +kernel
theorem dX3_ends_21 : decode cX3_ends 21 = .ok (.iconst 4, 1) := by decide +kernel
theorem dX3_ends_22 : decode cX3_ends 22 = .ok (.iload_n 1, 1) := by decide +kernel
theorem dX3_ends_23 : decode cX3_ends 23 = .ok (.iadd, 1) := by decide +kernel
theorem dX3_ends_24 : decode cX3_ends 24 = .ok (.iload_n 2, 1) := by decide +kernel
theorem dX3_ends_25 : decode cX3_ends 25 = .ok (.invokevirtual 88, 3) := by decide +kernel
theorem dX3_ends_28 : decode cX3_ends 28 = .ok (.ireturn, 1) := by decide +kernel
theorem dX3_law_0 : decode cX3_law 0 = .ok (.aload_n 0, 1) := by decide +kernel
theorem dX3_law_1 : decode cX3_law 1 = .ok (.iload_n 1, 1) := by decide +kernel
theorem dX3_law_2 : decode cX3_law 2 = .ok (.iload_n 2, 1) := by decide +kernel
theorem dX3_law_3 : decode cX3_law 3 = .ok (.invokevirtual 99, 3) := by decide +kernel
theorem dX3_law_6 : decode cX3_law 6 = .ok (.ifCond .ne 10, 3) := by decide +kernel
theorem dX3_law_9 : decode cX3_law 9 = .ok (.aload_n 0, 1) := by decide +kernel
theorem dX3_law_10 : decode cX3_law 10 = .ok (.bipush (-2), 2) := by decide +kernel
theorem dX3_law_12 : decode cX3_law 12 = .ok (.invokevirtual 53, 3) := by decide +kernel
theorem dX3_law_15 : decode cX3_law 15 = .ok (.ireturn, 1) := by decide +kernel
theorem dX3_law_16 : decode cX3_law 16 = .ok (.aload_n 0, 1) := by decide +kernel
theorem dX3_law_17 : decode cX3_law 17 = .ok (.invokevirtual 85, 3) := by decide +kernel
theorem dX3_law_20 : decode cX3_law 20 = .ok (.aload_n 0, 1) := by decide +kernel
theorem dX3_law_21 : decode cX3_law 21 = .ok (.iload_n 1, 1) := by decide +kernel
theorem dX3_law_22 : decode cX3_law 22 = .ok (.iload_n 2, 1) := by decide +kernel
theorem dX3_law_23 : decode cX3_law 23 = .ok (.invokevirtual 102, 3) := by decide +kernel
theorem dX3_law_26 : decode cX3_law 26 = .ok (.ireturn, 1) := by decide +kernel
theorem dX3_steady_0 : decode cX3_steady 0 = .ok (.aload_n 0, 1) := by decide +kernel
theorem dX3_steady_1 : decode cX3_steady 1 = .ok (.invokevirtual 85, 3) := by decide +kernel
theorem dX3_steady_4 : decode cX3_steady 4 = .ok (.aload_n 0, 1) := by decide +kernel
theorem dX3_steady_5 : decode cX3_steady 5 = .ok (.getfield 7, 3) := by decide +kernel
theorem dX3_steady_8 : decode cX3_steady 8 = .ok (.bipush 8, 2) := by decide +kernel
theorem dX3_steady_10 : decode cX3_steady 10 = .ok (.iaload, 1) := by decide +kernel
theorem dX3_steady_11 : decode cX3_steady 11 = .ok (.istore_n 1, 1) := by decide +kernel
theorem dX3_steady_12 : decode cX3_steady 12 = .ok (.aload_n 0, 1) := by decide +kernel
theorem dX3_steady_13 : decode cX3_steady 13 = .ok (.invokevirtual 44, 3) := by decide +kernel
theorem dX3_steady_16 : decode cX3_steady 16 = .ok (.iload_n 1, 1) := by decide +kernel
theorem dX3_steady_17 : decode cX3_steady 17 = .ok (.ireturn, 1) := by decide +kernel
theorem dX3_steps_0 : decode cX3_steps 0 = .ok (.iload_n 1, 1) := by decide +kernel
theorem dX3_steps_1 : decode cX3_steps 1 = .ok (.iconst 1, 1) := by decide +kernel
theorem dX3_steps_2 : decode cX3_steps 2 = .ok (.bipush 100, 2) := by decide +kernel
theorem dX3_steps_4 : decode cX3_steps 4 = .ok (.invokestatic 74, 3) := by decide +kernel
theorem dX3_steps_7 : decode cX3_steps 7 = .ok (.ifCond .ne 10, 3) := by decide +kernel
theorem dX3_steps_10 : decode cX3_steps 10 = .ok (.aload_n 0, 1) := by decide +kernel
theorem dX3_steps_11 : decode cX3_steps 11 = .ok (.bipush (-2), 2) := by decide +kernel
theorem dX3_steps_13 : decode cX3_steps 13 = .ok (.invokevirtual 53, 3) := by decide +kernel
theorem dX3_steps_16 : decode cX3_steps 16 = .ok (.ireturn, 1) := by decide +kernel
theorem dX3_steps_17 : decode cX3_steps 17 = .ok (.aload_n 0, 1) := by decide +kernel
theorem dX3_steps_18 : decode cX3_steps 18 = .ok (.getfield 7, 3) := by decide +kernel
theorem dX3_steps_21 : decode cX3_steps 21 = .ok (.bipush 8, 2) := by decide +kernel
theorem dX3_steps_23 : decode cX3_steps 23 = .ok (.iaload, 1) := by decide +kernel
theorem dX3_steps_24 : decode cX3_steps 24 = .ok (.iload_n 1, 1) := by decide +kernel
theorem dX3_steps_25 : decode cX3_steps 25 = .ok (.iadd, 1) := by decide +kernel
theorem dX3_steps_26 : decode cX3_steps 26 = .ok (.sipush 999, 3) := by decide +kernel
theorem dX3_steps_29 : decode cX3_steps 29 = .ok (.if_icmp .le 10, 3) := by decide +kernel
theorem dX3_steps_32 : decode cX3_steps 32 = .ok (.aload_n 0, 1) := by decide +kernel
theorem dX3_steps_33 : decode cX3_steps 33 = .ok (.bipush (-4), 2) := by decide +kernel
theorem dX3_steps_35 : decode cX3_steps 35 = .ok (.invokevirtual 53, 3) := by decide +kernel
theorem dX3_steps_38 : decode cX3_steps 38 = .ok (.ireturn, 1) := by decide +kernel
theorem dX3_steps_39 : decode cX3_steps 39 = .ok (.aload_n 0, 1) := by decide +kernel
theorem dX3_steps_40 : decode cX3_steps 40 = .ok (.invokevirtual 85, 3) := by decide +kernel
theorem dX3_steps_43 : decode cX3_steps 43 = .ok (.aload_n 0, 1) := by decide +kernel
theorem dX3_steps_44 : decode cX3_steps 44 = .ok (.iload_n 1, 1) := by decide +kernel
theorem dX3_steps_45 : decode cX3_steps 45 = .ok (.invokevirtual 105, 3) := by decide +kernel
theorem dX3_steps_48 : decode cX3_steps 48 = .ok (.ireturn, 1) := by decide +kernel
theorem dX3_whole_0 : decode cX3_whole 0 = .ok (.ldc2_w 108, 3) := by decide +kernel
theorem dX3_whole_3 : decode cX3_whole 3 = .ok (.dload_n 0, 1) := by decide +kernel
theorem dX3_whole_4 : decode cX3_whole 4 = .ok (.dmul, 1) := by decide +kernel
theorem dX3_whole_5 : decode cX3_whole 5 = .ok (.d2l, 1) := by decide +kernel
theorem dX3_whole_6 : decode cX3_whole 6 = .ok (.lreturn, 1) := by decide +kernel
theorem dX3_nodeIs_0 : decode cX3_nodeIs 0 = .ok (.iload_n 2, 1) := by decide +kernel
theorem dX3_nodeIs_1 : decode cX3_nodeIs 1 = .ok (.tableswitch 96 0 4 #[35, 52, 69, 76, 86], 35) := by decide +kernel
theorem dX3_nodeIs_36 : decode cX3_nodeIs 36 = .ok (.aload_n 0, 1) := by decide +kernel
theorem dX3_nodeIs_37 : decode cX3_nodeIs 37 = .ok (.getfield 13, 3) := by decide +kernel
theorem dX3_nodeIs_40 : decode cX3_nodeIs 40 = .ok (.iload_n 1, 1) := by decide +kernel
theorem dX3_nodeIs_41 : decode cX3_nodeIs 41 = .ok (.daload, 1) := by decide +kernel
theorem dX3_nodeIs_42 : decode cX3_nodeIs 42 = .ok (.aload_n 0, 1) := by decide +kernel
theorem dX3_nodeIs_43 : decode cX3_nodeIs 43 = .ok (.getfield 13, 3) := by decide +kernel
theorem dX3_nodeIs_46 : decode cX3_nodeIs 46 = .ok (.bipush 11, 2) := by decide +kernel
theorem dX3_nodeIs_48 : decode cX3_nodeIs 48 = .ok (.iload_n 1, 1) := by decide +kernel
theorem dX3_nodeIs_49 : decode cX3_nodeIs 49 = .ok (.iadd, 1) := by decide +kernel
theorem dX3_nodeIs_50 : decode cX3_nodeIs 50 = .ok (.daload, 1) := by decide +kernel
theorem dX3_nodeIs_51 : decode cX3_nodeIs 51 = .ok (.dadd, 1) := by decide +kernel
theorem dX3_nodeIs_52 : decode cX3_nodeIs 52 = .ok (.dreturn, 1) := by decide +kernel
theorem dX3_nodeIs_53 : decode cX3_nodeIs 53 = .ok (.aload_n 0, 1) := by decide +kernel
theorem dX3_nodeIs_54 : decode cX3_nodeIs 54 = .ok (.getfield 13, 3) := by decide +kernel
theorem dX3_nodeIs_57 : decode cX3_nodeIs 57 = .ok (.iload_n 1, 1) := by decide +kernel
theorem dX3_nodeIs_58 : decode cX3_nodeIs 58 = .ok (.daload, 1) := by decide +kernel
theorem dX3_nodeIs_59 : decode cX3_nodeIs 59 = .ok (.aload_n 0, 1) := by decide +kernel
theorem dX3_nodeIs_60 : decode cX3_nodeIs 60 = .ok (.getfield 13, 3) := by decide +kernel
theorem dX3_nodeIs_63 : decode cX3_nodeIs 63 = .ok (.bipush 11, 2) := by decide +kernel
theorem dX3_nodeIs_65 : decode cX3_nodeIs 65 = .ok (.iload_n 1, 1) := by decide +kernel
theorem dX3_nodeIs_66 : decode cX3_nodeIs 66 = .ok (.iadd, 1) := by decide +kernel
theorem dX3_nodeIs_67 : decode cX3_nodeIs 67 = .ok (.daload, 1) := by decide +kernel
theorem dX3_nodeIs_68 : decode cX3_nodeIs 68 = .ok (.dsub, 1) := by decide +kernel
theorem dX3_nodeIs_69 : decode cX3_nodeIs 69 = .ok (.dreturn, 1) := by decide +kernel
theorem dX3_nodeIs_70 : decode cX3_nodeIs 70 = .ok (.aload_n 0, 1) := by decide +kernel
theorem dX3_nodeIs_71 : decode cX3_nodeIs 71 = .ok (.getfield 13, 3) := by decide +kernel
theorem dX3_nodeIs_74 : decode cX3_nodeIs 74 = .ok (.iload_n 1, 1) := by decide +kernel
theorem dX3_nodeIs_75 : decode cX3_nodeIs 75 = .ok (.daload, 1) := by decide +kernel
theorem dX3_nodeIs_76 : decode cX3_nodeIs 76 = .ok (.dreturn, 1) := by decide +kernel
theorem dX3_nodeIs_77 : decode cX3_nodeIs 77 = .ok (.aload_n 0, 1) := by decide +kernel
theorem dX3_nodeIs_78 : decode cX3_nodeIs 78 = .ok (.getfield 13, 3) := by decide +kernel
theorem dX3_nodeIs_81 : decode cX3_nodeIs 81 = .ok (.bipush 11, 2) := by decide +kernel
theorem dX3_nodeIs_83 : decode cX3_nodeIs 83 = .ok (.iload_n 1, 1) := by decide +kernel
theorem dX3_nodeIs_84 : decode cX3_nodeIs 84 = .ok (.iadd, 1) := by decide +kernel
theorem dX3_nodeIs_85 : decode cX3_nodeIs 85 = .ok (.daload, 1) := by decide +kernel
theorem dX3_nodeIs_86 : decode cX3_nodeIs 86 = .ok (.dreturn, 1) := by decide +kernel
theorem dX3_nodeIs_87 : decode cX3_nodeIs 87 = .ok (.aload_n 0, 1) := by decide +kernel
theorem dX3_nodeIs_88 : decode cX3_nodeIs 88 = .ok (.getfield 13, 3) := by decide +kernel
theorem dX3_nodeIs_91 : decode cX3_nodeIs 91 = .ok (.bipush 22, 2) := by decide +kernel
theorem dX3_nodeIs_93 : decode cX3_nodeIs 93 = .ok (.iload_n 1, 1) := by decide +kernel
theorem dX3_nodeIs_94 : decode cX3_nodeIs 94 = .ok (.iadd, 1) := by decide +kernel
theorem dX3_nodeIs_95 : decode cX3_nodeIs 95 = .ok (.daload, 1) := by decide +kernel
theorem dX3_nodeIs_96 : decode cX3_nodeIs 96 = .ok (.dreturn, 1) := by decide +kernel
theorem dX3_nodeIs_97 : decode cX3_nodeIs 97 = .ok (.aload_n 0, 1) := by decide +kernel
theorem dX3_nodeIs_98 : decode cX3_nodeIs 98 = .ok (.getfield 13, 3) := by decide +kernel
theorem dX3_nodeIs_101 : decode cX3_nodeIs 101 = .ok (.bipush 33, 2) := by decide +kernel
theorem dX3_nodeIs_103 : decode cX3_nodeIs 103 = .ok (.iload_n 1, 1) := by decide +kernel
theorem dX3_nodeIs_104 : decode cX3_nodeIs 104 = .ok (.iadd, 1) := by decide +kernel
theorem dX3_nodeIs_105 : decode cX3_nodeIs 105 = .ok (.daload, 1) := by decide +kernel
theorem dX3_nodeIs_106 : decode cX3_nodeIs 106 = .ok (.dreturn, 1) := by decide +kernel
theorem dX3_node_0 : decode cX3_node 0 = .ok (.iload_n 1, 1) := by decide +kernel
theorem dX3_node_1 : decode cX3_node 1 = .ok (.iconst 0, 1) := by decide +kernel
theorem dX3_node_2 : decode cX3_node 2 = .ok (.aload_n 0, 1) := by decide +kernel
theorem dX3_node_3 : decode cX3_node 3 = .ok (.getfield 7, 3) := by decide +kernel
theorem dX3_node_6 : decode cX3_node 6 = .ok (.iconst 0, 1) := by decide +kernel
theorem dX3_node_7 : decode cX3_node 7 = .ok (.iaload, 1) := by decide +kernel
theorem dX3_node_8 : decode cX3_node 8 = .ok (.invokestatic 74, 3) := by decide +kernel
theorem dX3_node_11 : decode cX3_node 11 = .ok (.ifCond .eq 24, 3) := by decide +kernel
theorem dX3_node_14 : decode cX3_node 14 = .ok (.iload_n 2, 1) := by decide +kernel
theorem dX3_node_15 : decode cX3_node 15 = .ok (.iconst 0, 1) := by decide +kernel
theorem dX3_node_16 : decode cX3_node 16 = .ok (.iconst 5, 1) := by decide +kernel
theorem dX3_node_17 : decode cX3_node 17 = .ok (.invokestatic 74, 3) := by decide +kernel
theorem dX3_node_20 : decode cX3_node 20 = .ok (.ifCond .eq 15, 3) := by decide +kernel
theorem dX3_node_23 : decode cX3_node 23 = .ok (.aload_n 0, 1) := by decide +kernel
theorem dX3_node_24 : decode cX3_node 24 = .ok (.iload_n 1, 1) := by decide +kernel
theorem dX3_node_25 : decode cX3_node 25 = .ok (.iload_n 2, 1) := by decide +kernel
theorem dX3_node_26 : decode cX3_node 26 = .ok (.invokevirtual 110, 3) := by decide +kernel
theorem dX3_node_29 : decode cX3_node 29 = .ok (.invokestatic 114, 3) := by decide +kernel
theorem dX3_node_32 : decode cX3_node 32 = .ok (.goto 7, 3) := by decide +kernel
theorem dX3_node_35 : decode cX3_node 35 = .ok (.aload_n 0, 1) := by decide +kernel
theorem dX3_node_36 : decode cX3_node 36 = .ok (.invokevirtual 118, 3) := by decide +kernel
theorem dX3_node_39 : decode cX3_node 39 = .ok (.lreturn, 1) := by decide +kernel
theorem dX3_kept_0 : decode cX3_kept 0 = .ok (.dconst 0, 1) := by decide +kernel
theorem dX3_kept_1 : decode cX3_kept 1 = .ok (.dstore_n 1, 1) := by decide +kernel
theorem dX3_kept_2 : decode cX3_kept 2 = .ok (.iconst 0, 1) := by decide +kernel
theorem dX3_kept_3 : decode cX3_kept 3 = .ok (.istore_n 3, 1) := by decide +kernel
theorem dX3_kept_4 : decode cX3_kept 4 = .ok (.iload_n 3, 1) := by decide +kernel
theorem dX3_kept_5 : decode cX3_kept 5 = .ok (.aload_n 0, 1) := by decide +kernel
theorem dX3_kept_6 : decode cX3_kept 6 = .ok (.getfield 7, 3) := by decide +kernel
theorem dX3_kept_9 : decode cX3_kept 9 = .ok (.iconst 0, 1) := by decide +kernel
theorem dX3_kept_10 : decode cX3_kept 10 = .ok (.iaload, 1) := by decide +kernel
theorem dX3_kept_11 : decode cX3_kept 11 = .ok (.if_icmp .gt 45, 3) := by decide +kernel
theorem dX3_kept_14 : decode cX3_kept 14 = .ok (.dload_n 1, 1) := by decide +kernel
theorem dX3_kept_15 : decode cX3_kept 15 = .ok (.aload_n 0, 1) := by decide +kernel
theorem dX3_kept_16 : decode cX3_kept 16 = .ok (.getfield 13, 3) := by decide +kernel
theorem dX3_kept_19 : decode cX3_kept 19 = .ok (.iload_n 3, 1) := by decide +kernel
theorem dX3_kept_20 : decode cX3_kept 20 = .ok (.daload, 1) := by decide +kernel
theorem dX3_kept_21 : decode cX3_kept 21 = .ok (.aload_n 0, 1) := by decide +kernel
theorem dX3_kept_22 : decode cX3_kept 22 = .ok (.getfield 13, 3) := by decide +kernel
theorem dX3_kept_25 : decode cX3_kept 25 = .ok (.iload_n 3, 1) := by decide +kernel
theorem dX3_kept_26 : decode cX3_kept 26 = .ok (.daload, 1) := by decide +kernel
theorem dX3_kept_27 : decode cX3_kept 27 = .ok (.dmul, 1) := by decide +kernel
theorem dX3_kept_28 : decode cX3_kept 28 = .ok (.aload_n 0, 1) := by decide +kernel
theorem dX3_kept_29 : decode cX3_kept 29 = .ok (.getfield 13, 3) := by decide +kernel
theorem dX3_kept_32 : decode cX3_kept 32 = .ok (.bipush 11, 2) := by decide +kernel
theorem dX3_kept_34 : decode cX3_kept 34 = .ok (.iload_n 3, 1) := by decide +kernel
theorem dX3_kept_35 : decode cX3_kept 35 = .ok (.iadd, 1) := by decide +kernel
theorem dX3_kept_36 : decode cX3_kept 36 = .ok (.daload, 1) := by decide +kernel
theorem dX3_kept_37 : decode cX3_kept 37 = .ok (.aload_n 0, 1) := by decide +kernel
theorem dX3_kept_38 : decode cX3_kept 38 = .ok (.getfield 13, 3) := by decide +kernel
theorem dX3_kept_41 : decode cX3_kept 41 = .ok (.bipush 11, 2) := by decide +kernel
theorem dX3_kept_43 : decode cX3_kept 43 = .ok (.iload_n 3, 1) := by decide +kernel
theorem dX3_kept_44 : decode cX3_kept 44 = .ok (.iadd, 1) := by decide +kernel
theorem dX3_kept_45 : decode cX3_kept 45 = .ok (.daload, 1) := by decide +kernel
theorem dX3_kept_46 : decode cX3_kept 46 = .ok (.dmul, 1) := by decide +kernel
theorem dX3_kept_47 : decode cX3_kept 47 = .ok (.dadd, 1) := by decide +kernel
theorem dX3_kept_48 : decode cX3_kept 48 = .ok (.dadd, 1) := by decide +kernel
theorem dX3_kept_49 : decode cX3_kept 49 = .ok (.dstore_n 1, 1) := by decide +kernel
theorem dX3_kept_50 : decode cX3_kept 50 = .ok (.iinc 3 1, 3) := by decide +kernel
theorem dX3_kept_53 : decode cX3_kept 53 = .ok (.goto (-49), 3) := by decide +kernel
theorem dX3_kept_56 : decode cX3_kept 56 = .ok (.dload_n 1, 1) := by decide +kernel
theorem dX3_kept_57 : decode cX3_kept 57 = .ok (.dreturn, 1) := by decide +kernel
theorem dX3_farthest_0 : decode cX3_farthest 0 = .ok (.aload_n 0, 1) := by decide +kernel
theorem dX3_farthest_1 : decode cX3_farthest 1 = .ok (.getfield 13, 3) := by decide +kernel
theorem dX3_farthest_4 : decode cX3_farthest 4 = .ok (.iload_n 1, 1) := by decide +kernel
theorem dX3_farthest_5 : decode cX3_farthest 5 = .ok (.daload, 1) := by decide +kernel
theorem dX3_farthest_6 : decode cX3_farthest 6 = .ok (.dstore_n 3, 1) := by decide +kernel
theorem dX3_farthest_7 : decode cX3_farthest 7 = .ok (.iconst 1, 1) := by decide +kernel
theorem dX3_farthest_8 : decode cX3_farthest 8 = .ok (.istore 5, 2) := by decide +kernel
theorem dX3_farthest_10 : decode cX3_farthest 10 = .ok (.iload 5, 2) := by decide +kernel
theorem dX3_farthest_12 : decode cX3_farthest 12 = .ok (.aload_n 0, 1) := by decide +kernel
theorem dX3_farthest_13 : decode cX3_farthest 13 = .ok (.getfield 7, 3) := by decide +kernel
theorem dX3_farthest_16 : decode cX3_farthest 16 = .ok (.iconst 0, 1) := by decide +kernel
theorem dX3_farthest_17 : decode cX3_farthest 17 = .ok (.iaload, 1) := by decide +kernel
theorem dX3_farthest_18 : decode cX3_farthest 18 = .ok (.if_icmp .gt 54, 3) := by decide +kernel
theorem dX3_farthest_21 : decode cX3_farthest 21 = .ok (.aload_n 0, 1) := by decide +kernel
theorem dX3_farthest_22 : decode cX3_farthest 22 = .ok (.getfield 13, 3) := by decide +kernel
theorem dX3_farthest_25 : decode cX3_farthest 25 = .ok (.iload_n 1, 1) := by decide +kernel
theorem dX3_farthest_26 : decode cX3_farthest 26 = .ok (.iload 5, 2) := by decide +kernel
theorem dX3_farthest_28 : decode cX3_farthest 28 = .ok (.iadd, 1) := by decide +kernel
theorem dX3_farthest_29 : decode cX3_farthest 29 = .ok (.daload, 1) := by decide +kernel
theorem dX3_farthest_30 : decode cX3_farthest 30 = .ok (.dstore 6, 2) := by decide +kernel
theorem dX3_farthest_32 : decode cX3_farthest 32 = .ok (.iload_n 2, 1) := by decide +kernel
theorem dX3_farthest_33 : decode cX3_farthest 33 = .ok (.ifCond .eq 19, 3) := by decide +kernel
theorem dX3_farthest_36 : decode cX3_farthest 36 = .ok (.dload 6, 2) := by decide +kernel
theorem dX3_farthest_38 : decode cX3_farthest 38 = .ok (.dload_n 3, 1) := by decide +kernel
theorem dX3_farthest_39 : decode cX3_farthest 39 = .ok (.dcmp .l, 1) := by decide +kernel
theorem dX3_farthest_40 : decode cX3_farthest 40 = .ok (.ifCond .le 8, 3) := by decide +kernel
theorem dX3_farthest_43 : decode cX3_farthest 43 = .ok (.dload 6, 2) := by decide +kernel
theorem dX3_farthest_45 : decode cX3_farthest 45 = .ok (.goto 20, 3) := by decide +kernel
theorem dX3_farthest_48 : decode cX3_farthest 48 = .ok (.dload_n 3, 1) := by decide +kernel
theorem dX3_farthest_49 : decode cX3_farthest 49 = .ok (.goto 16, 3) := by decide +kernel
theorem dX3_farthest_52 : decode cX3_farthest 52 = .ok (.dload 6, 2) := by decide +kernel
theorem dX3_farthest_54 : decode cX3_farthest 54 = .ok (.dload_n 3, 1) := by decide +kernel
theorem dX3_farthest_55 : decode cX3_farthest 55 = .ok (.dcmp .g, 1) := by decide +kernel
theorem dX3_farthest_56 : decode cX3_farthest 56 = .ok (.ifCond .ge 8, 3) := by decide +kernel
theorem dX3_farthest_59 : decode cX3_farthest 59 = .ok (.dload 6, 2) := by decide +kernel
theorem dX3_farthest_61 : decode cX3_farthest 61 = .ok (.goto 4, 3) := by decide +kernel
theorem dX3_farthest_64 : decode cX3_farthest 64 = .ok (.dload_n 3, 1) := by decide +kernel
theorem dX3_farthest_65 : decode cX3_farthest 65 = .ok (.dstore_n 3, 1) := by decide +kernel
theorem dX3_farthest_66 : decode cX3_farthest 66 = .ok (.iinc 5 1, 3) := by decide +kernel
theorem dX3_farthest_69 : decode cX3_farthest 69 = .ok (.goto (-59), 3) := by decide +kernel
theorem dX3_farthest_72 : decode cX3_farthest 72 = .ok (.dload_n 3, 1) := by decide +kernel
theorem dX3_farthest_73 : decode cX3_farthest 73 = .ok (.dreturn, 1) := by decide +kernel
theorem dX3_allIs_0 : decode cX3_allIs 0 = .ok (.iload_n 1, 1) := by decide +kernel
theorem dX3_allIs_1 : decode cX3_allIs 1 = .ok (.tableswitch 48 0 2 #[27, 32, 40], 27) := by decide +kernel
theorem dX3_allIs_28 : decode cX3_allIs 28 = .ok (.aload_n 0, 1) := by decide +kernel
theorem dX3_allIs_29 : decode cX3_allIs 29 = .ok (.invokevirtual 122, 3) := by decide +kernel
theorem dX3_allIs_32 : decode cX3_allIs 32 = .ok (.dreturn, 1) := by decide +kernel
theorem dX3_allIs_33 : decode cX3_allIs 33 = .ok (.aload_n 0, 1) := by decide +kernel
theorem dX3_allIs_34 : decode cX3_allIs 34 = .ok (.bipush 22, 2) := by decide +kernel
theorem dX3_allIs_36 : decode cX3_allIs 36 = .ok (.iconst 1, 1) := by decide +kernel
theorem dX3_allIs_37 : decode cX3_allIs 37 = .ok (.invokevirtual 126, 3) := by decide +kernel
theorem dX3_allIs_40 : decode cX3_allIs 40 = .ok (.dreturn, 1) := by decide +kernel
theorem dX3_allIs_41 : decode cX3_allIs 41 = .ok (.aload_n 0, 1) := by decide +kernel
theorem dX3_allIs_42 : decode cX3_allIs 42 = .ok (.bipush 33, 2) := by decide +kernel
theorem dX3_allIs_44 : decode cX3_allIs 44 = .ok (.iconst 0, 1) := by decide +kernel
theorem dX3_allIs_45 : decode cX3_allIs 45 = .ok (.invokevirtual 126, 3) := by decide +kernel
theorem dX3_allIs_48 : decode cX3_allIs 48 = .ok (.dreturn, 1) := by decide +kernel
theorem dX3_allIs_49 : decode cX3_allIs 49 = .ok (.aload_n 0, 1) := by decide +kernel
theorem dX3_allIs_50 : decode cX3_allIs 50 = .ok (.getfield 7, 3) := by decide +kernel
theorem dX3_allIs_53 : decode cX3_allIs 53 = .ok (.iconst 5, 1) := by decide +kernel
theorem dX3_allIs_54 : decode cX3_allIs 54 = .ok (.iaload, 1) := by decide +kernel
theorem dX3_allIs_55 : decode cX3_allIs 55 = .ok (.iconst 3, 1) := by decide +kernel
theorem dX3_allIs_56 : decode cX3_allIs 56 = .ok (.if_icmp .ne 13, 3) := by decide +kernel
theorem dX3_allIs_59 : decode cX3_allIs 59 = .ok (.aload_n 0, 1) := by decide +kernel
theorem dX3_allIs_60 : decode cX3_allIs 60 = .ok (.getfield 13, 3) := by decide +kernel
theorem dX3_allIs_63 : decode cX3_allIs 63 = .ok (.bipush 44, 2) := by decide +kernel
theorem dX3_allIs_65 : decode cX3_allIs 65 = .ok (.daload, 1) := by decide +kernel
theorem dX3_allIs_66 : decode cX3_allIs 66 = .ok (.goto 10, 3) := by decide +kernel
theorem dX3_allIs_69 : decode cX3_allIs 69 = .ok (.aload_n 0, 1) := by decide +kernel
theorem dX3_allIs_70 : decode cX3_allIs 70 = .ok (.getfield 7, 3) := by decide +kernel
theorem dX3_allIs_73 : decode cX3_allIs 73 = .ok (.iconst 1, 1) := by decide +kernel
theorem dX3_allIs_74 : decode cX3_allIs 74 = .ok (.iaload, 1) := by decide +kernel
theorem dX3_allIs_75 : decode cX3_allIs 75 = .ok (.i2d, 1) := by decide +kernel
theorem dX3_allIs_76 : decode cX3_allIs 76 = .ok (.dreturn, 1) := by decide +kernel
theorem dX3_all_0 : decode cX3_all 0 = .ok (.iload_n 1, 1) := by decide +kernel
theorem dX3_all_1 : decode cX3_all 1 = .ok (.iconst 0, 1) := by decide +kernel
theorem dX3_all_2 : decode cX3_all 2 = .ok (.iconst 3, 1) := by decide +kernel
theorem dX3_all_3 : decode cX3_all 3 = .ok (.invokestatic 74, 3) := by decide +kernel
theorem dX3_all_6 : decode cX3_all 6 = .ok (.ifCond .eq 14, 3) := by decide +kernel
theorem dX3_all_9 : decode cX3_all 9 = .ok (.aload_n 0, 1) := by decide +kernel
theorem dX3_all_10 : decode cX3_all 10 = .ok (.iload_n 1, 1) := by decide +kernel
theorem dX3_all_11 : decode cX3_all 11 = .ok (.invokevirtual 130, 3) := by decide +kernel
theorem dX3_all_14 : decode cX3_all 14 = .ok (.invokestatic 114, 3) := by decide +kernel
theorem dX3_all_17 : decode cX3_all 17 = .ok (.goto 7, 3) := by decide +kernel
theorem dX3_all_20 : decode cX3_all 20 = .ok (.aload_n 0, 1) := by decide +kernel
theorem dX3_all_21 : decode cX3_all 21 = .ok (.invokevirtual 118, 3) := by decide +kernel
theorem dX3_all_24 : decode cX3_all 24 = .ok (.lreturn, 1) := by decide +kernel
theorem dX3_bits_0 : decode cX3_bits 0 = .ok (.iload_n 1, 1) := by decide +kernel
theorem dX3_bits_1 : decode cX3_bits 1 = .ok (.iconst 0, 1) := by decide +kernel
theorem dX3_bits_2 : decode cX3_bits 2 = .ok (.aload_n 0, 1) := by decide +kernel
theorem dX3_bits_3 : decode cX3_bits 3 = .ok (.getfield 7, 3) := by decide +kernel
theorem dX3_bits_6 : decode cX3_bits 6 = .ok (.iconst 0, 1) := by decide +kernel
theorem dX3_bits_7 : decode cX3_bits 7 = .ok (.iaload, 1) := by decide +kernel
theorem dX3_bits_8 : decode cX3_bits 8 = .ok (.invokestatic 74, 3) := by decide +kernel
theorem dX3_bits_11 : decode cX3_bits 11 = .ok (.ifCond .eq 25, 3) := by decide +kernel
theorem dX3_bits_14 : decode cX3_bits 14 = .ok (.aload_n 0, 1) := by decide +kernel
theorem dX3_bits_15 : decode cX3_bits 15 = .ok (.getfield 13, 3) := by decide +kernel
theorem dX3_bits_18 : decode cX3_bits 18 = .ok (.iload_n 1, 1) := by decide +kernel
theorem dX3_bits_19 : decode cX3_bits 19 = .ok (.daload, 1) := by decide +kernel
theorem dX3_bits_20 : decode cX3_bits 20 = .ok (.aload_n 0, 1) := by decide +kernel
theorem dX3_bits_21 : decode cX3_bits 21 = .ok (.getfield 13, 3) := by decide +kernel
theorem dX3_bits_24 : decode cX3_bits 24 = .ok (.bipush 11, 2) := by decide +kernel
theorem dX3_bits_26 : decode cX3_bits 26 = .ok (.iload_n 1, 1) := by decide +kernel
theorem dX3_bits_27 : decode cX3_bits 27 = .ok (.iadd, 1) := by decide +kernel
theorem dX3_bits_28 : decode cX3_bits 28 = .ok (.daload, 1) := by decide +kernel
theorem dX3_bits_29 : decode cX3_bits 29 = .ok (.dadd, 1) := by decide +kernel
theorem dX3_bits_30 : decode cX3_bits 30 = .ok (.invokestatic 134, 3) := by decide +kernel
theorem dX3_bits_33 : decode cX3_bits 33 = .ok (.goto 7, 3) := by decide +kernel
theorem dX3_bits_36 : decode cX3_bits 36 = .ok (.aload_n 0, 1) := by decide +kernel
theorem dX3_bits_37 : decode cX3_bits 37 = .ok (.invokevirtual 118, 3) := by decide +kernel
theorem dX3_bits_40 : decode cX3_bits 40 = .ok (.lreturn, 1) := by decide +kernel
theorem dX3_lets_0 : decode cX3_lets 0 = .ok (.aload_n 0, 1) := by decide +kernel
theorem dX3_lets_1 : decode cX3_lets 1 = .ok (.iload_n 1, 1) := by decide +kernel
theorem dX3_lets_2 : decode cX3_lets 2 = .ok (.iload_n 2, 1) := by decide +kernel
theorem dX3_lets_3 : decode cX3_lets 3 = .ok (.invokevirtual 99, 3) := by decide +kernel
theorem dX3_lets_6 : decode cX3_lets 6 = .ok (.ifCond .eq 27, 3) := by decide +kernel
theorem dX3_lets_9 : decode cX3_lets 9 = .ok (.iload_n 3, 1) := by decide +kernel
theorem dX3_lets_10 : decode cX3_lets 10 = .ok (.iconst 0, 1) := by decide +kernel
theorem dX3_lets_11 : decode cX3_lets 11 = .ok (.sipush 9999, 3) := by decide +kernel
theorem dX3_lets_14 : decode cX3_lets 14 = .ok (.invokestatic 74, 3) := by decide +kernel
theorem dX3_lets_17 : decode cX3_lets 17 = .ok (.ifCond .eq 16, 3) := by decide +kernel
theorem dX3_lets_20 : decode cX3_lets 20 = .ok (.aload_n 0, 1) := by decide +kernel
theorem dX3_lets_21 : decode cX3_lets 21 = .ok (.iload_n 1, 1) := by decide +kernel
theorem dX3_lets_22 : decode cX3_lets 22 = .ok (.iload_n 2, 1) := by decide +kernel
theorem dX3_lets_23 : decode cX3_lets 23 = .ok (.iload_n 3, 1) := by decide +kernel
theorem dX3_lets_24 : decode cX3_lets 24 = .ok (.invokevirtual 63, 3) := by decide +kernel
theorem dX3_lets_27 : decode cX3_lets 27 = .ok (.invokestatic 114, 3) := by decide +kernel
theorem dX3_lets_30 : decode cX3_lets 30 = .ok (.goto 7, 3) := by decide +kernel
theorem dX3_lets_33 : decode cX3_lets 33 = .ok (.aload_n 0, 1) := by decide +kernel
theorem dX3_lets_34 : decode cX3_lets 34 = .ok (.invokevirtual 118, 3) := by decide +kernel
theorem dX3_lets_37 : decode cX3_lets 37 = .ok (.lreturn, 1) := by decide +kernel
theorem dX3_tried_0 : decode cX3_tried 0 = .ok (.aload_n 0, 1) := by decide +kernel
theorem dX3_tried_1 : decode cX3_tried 1 = .ok (.invokevirtual 139, 3) := by decide +kernel
theorem dX3_tried_4 : decode cX3_tried 4 = .ok (.aload_n 0, 1) := by decide +kernel
theorem dX3_tried_5 : decode cX3_tried 5 = .ok (.getfield 7, 3) := by decide +kernel
theorem dX3_tried_8 : decode cX3_tried 8 = .ok (.iconst 5, 1) := by decide +kernel
theorem dX3_tried_9 : decode cX3_tried 9 = .ok (.iconst 0, 1) := by decide +kernel
theorem dX3_tried_10 : decode cX3_tried 10 = .ok (.iastore, 1) := by decide +kernel
theorem dX3_tried_11 : decode cX3_tried 11 = .ok (.aload_n 0, 1) := by decide +kernel
theorem dX3_tried_12 : decode cX3_tried 12 = .ok (.iload_n 1, 1) := by decide +kernel
theorem dX3_tried_13 : decode cX3_tried 13 = .ok (.iload_n 2, 1) := by decide +kernel
theorem dX3_tried_14 : decode cX3_tried 14 = .ok (.invokevirtual 102, 3) := by decide +kernel
theorem dX3_tried_17 : decode cX3_tried 17 = .ok (.pop, 1) := by decide +kernel
theorem dX3_tried_18 : decode cX3_tried 18 = .ok (.aload_n 0, 1) := by decide +kernel
theorem dX3_tried_19 : decode cX3_tried 19 = .ok (.invokevirtual 44, 3) := by decide +kernel
theorem dX3_tried_22 : decode cX3_tried 22 = .ok (.aload_n 0, 1) := by decide +kernel
theorem dX3_tried_23 : decode cX3_tried 23 = .ok (.iload_n 3, 1) := by decide +kernel
theorem dX3_tried_24 : decode cX3_tried 24 = .ok (.invokevirtual 105, 3) := by decide +kernel
theorem dX3_tried_27 : decode cX3_tried 27 = .ok (.pop, 1) := by decide +kernel
theorem dX3_tried_28 : decode cX3_tried 28 = .ok (.aload_n 0, 1) := by decide +kernel
theorem dX3_tried_29 : decode cX3_tried 29 = .ok (.bipush 22, 2) := by decide +kernel
theorem dX3_tried_31 : decode cX3_tried 31 = .ok (.iconst 1, 1) := by decide +kernel
theorem dX3_tried_32 : decode cX3_tried 32 = .ok (.invokevirtual 126, 3) := by decide +kernel
theorem dX3_tried_35 : decode cX3_tried 35 = .ok (.dstore 4, 2) := by decide +kernel
theorem dX3_tried_37 : decode cX3_tried 37 = .ok (.aload_n 0, 1) := by decide +kernel
theorem dX3_tried_38 : decode cX3_tried 38 = .ok (.invokevirtual 142, 3) := by decide +kernel
theorem dX3_tried_41 : decode cX3_tried 41 = .ok (.dload 4, 2) := by decide +kernel
theorem dX3_tried_43 : decode cX3_tried 43 = .ok (.dreturn, 1) := by decide +kernel
theorem dX3_trial_0 : decode cX3_trial 0 = .ok (.aload_n 0, 1) := by decide +kernel
theorem dX3_trial_1 : decode cX3_trial 1 = .ok (.iload_n 1, 1) := by decide +kernel
theorem dX3_trial_2 : decode cX3_trial 2 = .ok (.iload_n 2, 1) := by decide +kernel
theorem dX3_trial_3 : decode cX3_trial 3 = .ok (.invokevirtual 99, 3) := by decide +kernel
theorem dX3_trial_6 : decode cX3_trial 6 = .ok (.ifCond .eq 26, 3) := by decide +kernel
theorem dX3_trial_9 : decode cX3_trial 9 = .ok (.iload_n 3, 1) := by decide +kernel
theorem dX3_trial_10 : decode cX3_trial 10 = .ok (.iconst 0, 1) := by decide +kernel
theorem dX3_trial_11 : decode cX3_trial 11 = .ok (.bipush 100, 2) := by decide +kernel
theorem dX3_trial_13 : decode cX3_trial 13 = .ok (.invokestatic 74, 3) := by decide +kernel
theorem dX3_trial_16 : decode cX3_trial 16 = .ok (.ifCond .eq 16, 3) := by decide +kernel
theorem dX3_trial_19 : decode cX3_trial 19 = .ok (.aload_n 0, 1) := by decide +kernel
theorem dX3_trial_20 : decode cX3_trial 20 = .ok (.iload_n 1, 1) := by decide +kernel
theorem dX3_trial_21 : decode cX3_trial 21 = .ok (.iload_n 2, 1) := by decide +kernel
theorem dX3_trial_22 : decode cX3_trial 22 = .ok (.iload_n 3, 1) := by decide +kernel
theorem dX3_trial_23 : decode cX3_trial 23 = .ok (.invokevirtual 145, 3) := by decide +kernel
theorem dX3_trial_26 : decode cX3_trial 26 = .ok (.invokestatic 114, 3) := by decide +kernel
theorem dX3_trial_29 : decode cX3_trial 29 = .ok (.goto 7, 3) := by decide +kernel
theorem dX3_trial_32 : decode cX3_trial 32 = .ok (.aload_n 0, 1) := by decide +kernel
theorem dX3_trial_33 : decode cX3_trial 33 = .ok (.invokevirtual 118, 3) := by decide +kernel
theorem dX3_trial_36 : decode cX3_trial 36 = .ok (.lreturn, 1) := by decide +kernel
theorem dX3_soonestOf_0 : decode cX3_soonestOf 0 = .ok (.iconst 1, 1) := by decide +kernel
theorem dX3_soonestOf_1 : decode cX3_soonestOf 1 = .ok (.istore 4, 2) := by decide +kernel
theorem dX3_soonestOf_3 : decode cX3_soonestOf 3 = .ok (.iload 4, 2) := by decide +kernel
theorem dX3_soonestOf_5 : decode cX3_soonestOf 5 = .ok (.bipush 60, 2) := by decide +kernel
theorem dX3_soonestOf_7 : decode cX3_soonestOf 7 = .ok (.if_icmp .gt 26, 3) := by decide +kernel
theorem dX3_soonestOf_10 : decode cX3_soonestOf 10 = .ok (.aload_n 0, 1) := by decide +kernel
theorem dX3_soonestOf_11 : decode cX3_soonestOf 11 = .ok (.iload_n 1, 1) := by decide +kernel
theorem dX3_soonestOf_12 : decode cX3_soonestOf 12 = .ok (.iload 4, 2) := by decide +kernel
theorem dX3_soonestOf_14 : decode cX3_soonestOf 14 = .ok (.iload_n 3, 1) := by decide +kernel
theorem dX3_soonestOf_15 : decode cX3_soonestOf 15 = .ok (.invokevirtual 145, 3) := by decide +kernel
theorem dX3_soonestOf_18 : decode cX3_soonestOf 18 = .ok (.iload_n 2, 1) := by decide +kernel
theorem dX3_soonestOf_19 : decode cX3_soonestOf 19 = .ok (.i2d, 1) := by decide +kernel
theorem dX3_soonestOf_20 : decode cX3_soonestOf 20 = .ok (.dcmp .g, 1) := by decide +kernel
theorem dX3_soonestOf_21 : decode cX3_soonestOf 21 = .ok (.ifCond .gt 6, 3) := by decide +kernel
theorem dX3_soonestOf_24 : decode cX3_soonestOf 24 = .ok (.iload 4, 2) := by decide +kernel
theorem dX3_soonestOf_26 : decode cX3_soonestOf 26 = .ok (.ireturn, 1) := by decide +kernel
theorem dX3_soonestOf_27 : decode cX3_soonestOf 27 = .ok (.iinc 4 1, 3) := by decide +kernel
theorem dX3_soonestOf_30 : decode cX3_soonestOf 30 = .ok (.goto (-27), 3) := by decide +kernel
theorem dX3_soonestOf_33 : decode cX3_soonestOf 33 = .ok (.iconst (-1), 1) := by decide +kernel
theorem dX3_soonestOf_34 : decode cX3_soonestOf 34 = .ok (.ireturn, 1) := by decide +kernel
theorem dX3_soonest_0 : decode cX3_soonest 0 = .ok (.iload_n 1, 1) := by decide +kernel
theorem dX3_soonest_1 : decode cX3_soonest 1 = .ok (.iconst 0, 1) := by decide +kernel
theorem dX3_soonest_2 : decode cX3_soonest 2 = .ok (.iconst 5, 1) := by decide +kernel
theorem dX3_soonest_3 : decode cX3_soonest 3 = .ok (.invokestatic 74, 3) := by decide +kernel
theorem dX3_soonest_6 : decode cX3_soonest 6 = .ok (.ifCond .eq 36, 3) := by decide +kernel
theorem dX3_soonest_9 : decode cX3_soonest 9 = .ok (.iload_n 2, 1) := by decide +kernel
theorem dX3_soonest_10 : decode cX3_soonest 10 = .ok (.sipush (-9999), 3) := by decide +kernel
theorem dX3_soonest_13 : decode cX3_soonest 13 = .ok (.sipush 9999, 3) := by decide +kernel
theorem dX3_soonest_16 : decode cX3_soonest 16 = .ok (.invokestatic 74, 3) := by decide +kernel
theorem dX3_soonest_19 : decode cX3_soonest 19 = .ok (.ifCond .eq 23, 3) := by decide +kernel
theorem dX3_soonest_22 : decode cX3_soonest 22 = .ok (.iload_n 3, 1) := by decide +kernel
theorem dX3_soonest_23 : decode cX3_soonest 23 = .ok (.iconst 0, 1) := by decide +kernel
theorem dX3_soonest_24 : decode cX3_soonest 24 = .ok (.bipush 100, 2) := by decide +kernel
theorem dX3_soonest_26 : decode cX3_soonest 26 = .ok (.invokestatic 74, 3) := by decide +kernel
theorem dX3_soonest_29 : decode cX3_soonest 29 = .ok (.ifCond .eq 13, 3) := by decide +kernel
theorem dX3_soonest_32 : decode cX3_soonest 32 = .ok (.aload_n 0, 1) := by decide +kernel
theorem dX3_soonest_33 : decode cX3_soonest 33 = .ok (.iload_n 1, 1) := by decide +kernel
theorem dX3_soonest_34 : decode cX3_soonest 34 = .ok (.iload_n 2, 1) := by decide +kernel
theorem dX3_soonest_35 : decode cX3_soonest 35 = .ok (.iload_n 3, 1) := by decide +kernel
theorem dX3_soonest_36 : decode cX3_soonest 36 = .ok (.invokevirtual 148, 3) := by decide +kernel
theorem dX3_soonest_39 : decode cX3_soonest 39 = .ok (.goto 9, 3) := by decide +kernel
theorem dX3_soonest_42 : decode cX3_soonest 42 = .ok (.aload_n 0, 1) := by decide +kernel
theorem dX3_soonest_43 : decode cX3_soonest 43 = .ok (.bipush (-2), 2) := by decide +kernel
theorem dX3_soonest_45 : decode cX3_soonest 45 = .ok (.invokevirtual 53, 3) := by decide +kernel
theorem dX3_soonest_48 : decode cX3_soonest 48 = .ok (.ireturn, 1) := by decide +kernel
theorem dX3_best_0 : decode cX3_best 0 = .ok (.iload_n 1, 1) := by decide +kernel
theorem dX3_best_1 : decode cX3_best 1 = .ok (.sipush (-9999), 3) := by decide +kernel
theorem dX3_best_4 : decode cX3_best 4 = .ok (.sipush 9999, 3) := by decide +kernel
theorem dX3_best_7 : decode cX3_best 7 = .ok (.invokestatic 74, 3) := by decide +kernel
theorem dX3_best_10 : decode cX3_best 10 = .ok (.ifCond .eq 22, 3) := by decide +kernel
theorem dX3_best_13 : decode cX3_best 13 = .ok (.iload_n 2, 1) := by decide +kernel
theorem dX3_best_14 : decode cX3_best 14 = .ok (.iconst 0, 1) := by decide +kernel
theorem dX3_best_15 : decode cX3_best 15 = .ok (.bipush 100, 2) := by decide +kernel
theorem dX3_best_17 : decode cX3_best 17 = .ok (.invokestatic 74, 3) := by decide +kernel
theorem dX3_best_20 : decode cX3_best 20 = .ok (.ifCond .eq 12, 3) := by decide +kernel
theorem dX3_best_23 : decode cX3_best 23 = .ok (.iload_n 3, 1) := by decide +kernel
theorem dX3_best_24 : decode cX3_best 24 = .ok (.iconst 0, 1) := by decide +kernel
theorem dX3_best_25 : decode cX3_best 25 = .ok (.iconst 1, 1) := by decide +kernel
theorem dX3_best_26 : decode cX3_best 26 = .ok (.invokestatic 74, 3) := by decide +kernel
theorem dX3_best_29 : decode cX3_best 29 = .ok (.ifCond .ne 10, 3) := by decide +kernel
theorem dX3_best_32 : decode cX3_best 32 = .ok (.aload_n 0, 1) := by decide +kernel
theorem dX3_best_33 : decode cX3_best 33 = .ok (.bipush (-2), 2) := by decide +kernel
theorem dX3_best_35 : decode cX3_best 35 = .ok (.invokevirtual 53, 3) := by decide +kernel
theorem dX3_best_38 : decode cX3_best 38 = .ok (.ireturn, 1) := by decide +kernel
theorem dX3_best_39 : decode cX3_best 39 = .ok (.iconst (-1), 1) := by decide +kernel
theorem dX3_best_40 : decode cX3_best 40 = .ok (.istore 4, 2) := by decide +kernel
theorem dX3_best_42 : decode cX3_best 42 = .ok (.iconst (-1), 1) := by decide +kernel
theorem dX3_best_43 : decode cX3_best 43 = .ok (.istore 5, 2) := by decide +kernel
theorem dX3_best_45 : decode cX3_best 45 = .ok (.iconst 1, 1) := by decide +kernel
theorem dX3_best_46 : decode cX3_best 46 = .ok (.istore 6, 2) := by decide +kernel
theorem dX3_best_48 : decode cX3_best 48 = .ok (.iload 6, 2) := by decide +kernel
theorem dX3_best_50 : decode cX3_best 50 = .ok (.iconst 5, 1) := by decide +kernel
theorem dX3_best_51 : decode cX3_best 51 = .ok (.if_icmp .ge 46, 3) := by decide +kernel
theorem dX3_best_54 : decode cX3_best 54 = .ok (.aload_n 0, 1) := by decide +kernel
theorem dX3_best_55 : decode cX3_best 55 = .ok (.iload 6, 2) := by decide +kernel
theorem dX3_best_57 : decode cX3_best 57 = .ok (.iload_n 1, 1) := by decide +kernel
theorem dX3_best_58 : decode cX3_best 58 = .ok (.iload_n 2, 1) := by decide +kernel
theorem dX3_best_59 : decode cX3_best 59 = .ok (.invokevirtual 148, 3) := by decide +kernel
theorem dX3_best_62 : decode cX3_best 62 = .ok (.istore 7, 2) := by decide +kernel
theorem dX3_best_64 : decode cX3_best 64 = .ok (.iload 7, 2) := by decide +kernel
theorem dX3_best_66 : decode cX3_best 66 = .ok (.iconst (-1), 1) := by decide +kernel
theorem dX3_best_67 : decode cX3_best 67 = .ok (.if_icmp .eq 24, 3) := by decide +kernel
theorem dX3_best_70 : decode cX3_best 70 = .ok (.iload 5, 2) := by decide +kernel
theorem dX3_best_72 : decode cX3_best 72 = .ok (.iconst (-1), 1) := by decide +kernel
theorem dX3_best_73 : decode cX3_best 73 = .ok (.if_icmp .eq 10, 3) := by decide +kernel
theorem dX3_best_76 : decode cX3_best 76 = .ok (.iload 7, 2) := by decide +kernel
theorem dX3_best_78 : decode cX3_best 78 = .ok (.iload 5, 2) := by decide +kernel
theorem dX3_best_80 : decode cX3_best 80 = .ok (.if_icmp .ge 11, 3) := by decide +kernel
theorem dX3_best_83 : decode cX3_best 83 = .ok (.iload 6, 2) := by decide +kernel
theorem dX3_best_85 : decode cX3_best 85 = .ok (.istore 4, 2) := by decide +kernel
theorem dX3_best_87 : decode cX3_best 87 = .ok (.iload 7, 2) := by decide +kernel
theorem dX3_best_89 : decode cX3_best 89 = .ok (.istore 5, 2) := by decide +kernel
theorem dX3_best_91 : decode cX3_best 91 = .ok (.iinc 6 1, 3) := by decide +kernel
theorem dX3_best_94 : decode cX3_best 94 = .ok (.goto (-46), 3) := by decide +kernel
theorem dX3_best_97 : decode cX3_best 97 = .ok (.iload_n 3, 1) := by decide +kernel
theorem dX3_best_98 : decode cX3_best 98 = .ok (.ifCond .ne 8, 3) := by decide +kernel
theorem dX3_best_101 : decode cX3_best 101 = .ok (.iload 4, 2) := by decide +kernel
theorem dX3_best_103 : decode cX3_best 103 = .ok (.goto 5, 3) := by decide +kernel
theorem dX3_best_106 : decode cX3_best 106 = .ok (.iload 5, 2) := by decide +kernel
theorem dX3_best_108 : decode cX3_best 108 = .ok (.ireturn, 1) := by decide +kernel
theorem dX3_type_0 : decode cX3_type 0 = .ok (.iload_n 1, 1) := by decide +kernel
theorem dX3_type_1 : decode cX3_type 1 = .ok (.iconst 0, 1) := by decide +kernel
theorem dX3_type_2 : decode cX3_type 2 = .ok (.bipush 127, 2) := by decide +kernel
theorem dX3_type_4 : decode cX3_type 4 = .ok (.invokestatic 74, 3) := by decide +kernel
theorem dX3_type_7 : decode cX3_type 7 = .ok (.ifCond .ne 10, 3) := by decide +kernel
theorem dX3_type_10 : decode cX3_type 10 = .ok (.aload_n 0, 1) := by decide +kernel
theorem dX3_type_11 : decode cX3_type 11 = .ok (.bipush (-2), 2) := by decide +kernel
theorem dX3_type_13 : decode cX3_type 13 = .ok (.invokevirtual 53, 3) := by decide +kernel
theorem dX3_type_16 : decode cX3_type 16 = .ok (.ireturn, 1) := by decide +kernel
theorem dX3_type_17 : decode cX3_type 17 = .ok (.aload_n 0, 1) := by decide +kernel
theorem dX3_type_18 : decode cX3_type 18 = .ok (.getfield 152, 3) := by decide +kernel
theorem dX3_type_21 : decode cX3_type 21 = .ok (.bipush 100, 2) := by decide +kernel
theorem dX3_type_23 : decode cX3_type 23 = .ok (.if_icmp .ne 10, 3) := by decide +kernel
theorem dX3_type_26 : decode cX3_type 26 = .ok (.aload_n 0, 1) := by decide +kernel
theorem dX3_type_27 : decode cX3_type 27 = .ok (.bipush (-4), 2) := by decide +kernel
theorem dX3_type_29 : decode cX3_type 29 = .ok (.invokevirtual 53, 3) := by decide +kernel
theorem dX3_type_32 : decode cX3_type 32 = .ok (.ireturn, 1) := by decide +kernel
theorem dX3_type_33 : decode cX3_type 33 = .ok (.aload_n 0, 1) := by decide +kernel
theorem dX3_type_34 : decode cX3_type 34 = .ok (.getfield 35, 3) := by decide +kernel
theorem dX3_type_37 : decode cX3_type 37 = .ok (.aload_n 0, 1) := by decide +kernel
theorem dX3_type_38 : decode cX3_type 38 = .ok (.getfield 152, 3) := by decide +kernel
theorem dX3_type_41 : decode cX3_type 41 = .ok (.iload_n 1, 1) := by decide +kernel
theorem dX3_type_42 : decode cX3_type 42 = .ok (.iastore, 1) := by decide +kernel
theorem dX3_type_43 : decode cX3_type 43 = .ok (.aload_n 0, 1) := by decide +kernel
theorem dX3_type_44 : decode cX3_type 44 = .ok (.dup, 1) := by decide +kernel
theorem dX3_type_45 : decode cX3_type 45 = .ok (.getfield 152, 3) := by decide +kernel
theorem dX3_type_48 : decode cX3_type 48 = .ok (.iconst 1, 1) := by decide +kernel
theorem dX3_type_49 : decode cX3_type 49 = .ok (.iadd, 1) := by decide +kernel
theorem dX3_type_50 : decode cX3_type 50 = .ok (.putfield 152, 3) := by decide +kernel
theorem dX3_type_53 : decode cX3_type 53 = .ok (.aload_n 0, 1) := by decide +kernel
theorem dX3_type_54 : decode cX3_type 54 = .ok (.getfield 152, 3) := by decide +kernel
theorem dX3_type_57 : decode cX3_type 57 = .ok (.ireturn, 1) := by decide +kernel
theorem dX3_clear_0 : decode cX3_clear 0 = .ok (.aload_n 0, 1) := by decide +kernel
theorem dX3_clear_1 : decode cX3_clear 1 = .ok (.getfield 152, 3) := by decide +kernel
theorem dX3_clear_4 : decode cX3_clear 4 = .ok (.istore_n 1, 1) := by decide +kernel
theorem dX3_clear_5 : decode cX3_clear 5 = .ok (.aload_n 0, 1) := by decide +kernel
theorem dX3_clear_6 : decode cX3_clear 6 = .ok (.iconst 0, 1) := by decide +kernel
theorem dX3_clear_7 : decode cX3_clear 7 = .ok (.putfield 152, 3) := by decide +kernel
theorem dX3_clear_10 : decode cX3_clear 10 = .ok (.iload_n 1, 1) := by decide +kernel
theorem dX3_clear_11 : decode cX3_clear 11 = .ok (.ireturn, 1) := by decide +kernel
theorem dX3_here_0 : decode cX3_here 0 = .ok (.aload_n 0, 1) := by decide +kernel
theorem dX3_here_1 : decode cX3_here 1 = .ok (.getfield 155, 3) := by decide +kernel
theorem dX3_here_4 : decode cX3_here 4 = .ok (.aload_n 0, 1) := by decide +kernel
theorem dX3_here_5 : decode cX3_here 5 = .ok (.getfield 152, 3) := by decide +kernel
theorem dX3_here_8 : decode cX3_here 8 = .ok (.if_icmp .ge 15, 3) := by decide +kernel
theorem dX3_here_11 : decode cX3_here 11 = .ok (.aload_n 0, 1) := by decide +kernel
theorem dX3_here_12 : decode cX3_here 12 = .ok (.getfield 35, 3) := by decide +kernel
theorem dX3_here_15 : decode cX3_here 15 = .ok (.aload_n 0, 1) := by decide +kernel
theorem dX3_here_16 : decode cX3_here 16 = .ok (.getfield 155, 3) := by decide +kernel
theorem dX3_here_19 : decode cX3_here 19 = .ok (.iaload, 1) := by decide +kernel
theorem dX3_here_20 : decode cX3_here 20 = .ok (.goto 4, 3) := by decide +kernel
theorem dX3_here_23 : decode cX3_here 23 = .ok (.iconst (-1), 1) := by decide +kernel
theorem dX3_here_24 : decode cX3_here 24 = .ok (.ireturn, 1) := by decide +kernel
theorem dX3_blanks_0 : decode cX3_blanks 0 = .ok (.aload_n 0, 1) := by decide +kernel
theorem dX3_blanks_1 : decode cX3_blanks 1 = .ok (.invokevirtual 158, 3) := by decide +kernel
theorem dX3_blanks_4 : decode cX3_blanks 4 = .ok (.bipush 32, 2) := by decide +kernel
theorem dX3_blanks_6 : decode cX3_blanks 6 = .ok (.if_icmp .ne 16, 3) := by decide +kernel
theorem dX3_blanks_9 : decode cX3_blanks 9 = .ok (.aload_n 0, 1) := by decide +kernel
theorem dX3_blanks_10 : decode cX3_blanks 10 = .ok (.dup, 1) := by decide +kernel
theorem dX3_blanks_11 : decode cX3_blanks 11 = .ok (.getfield 155, 3) := by decide +kernel
theorem dX3_blanks_14 : decode cX3_blanks 14 = .ok (.iconst 1, 1) := by decide +kernel
theorem dX3_blanks_15 : decode cX3_blanks 15 = .ok (.iadd, 1) := by decide +kernel
theorem dX3_blanks_16 : decode cX3_blanks 16 = .ok (.putfield 155, 3) := by decide +kernel
theorem dX3_blanks_19 : decode cX3_blanks 19 = .ok (.goto (-19), 3) := by decide +kernel
theorem dX3_blanks_22 : decode cX3_blanks 22 = .ok (.return_, 1) := by decide +kernel
theorem dX3_passesNumber_0 : decode cX3_passesNumber 0 = .ok (.aload_n 0, 1) := by decide +kernel
theorem dX3_passesNumber_1 : decode cX3_passesNumber 1 = .ok (.invokevirtual 162, 3) := by decide +kernel
theorem dX3_passesNumber_4 : decode cX3_passesNumber 4 = .ok (.iload_n 2, 1) := by decide +kernel
theorem dX3_passesNumber_5 : decode cX3_passesNumber 5 = .ok (.ifCond .eq 16, 3) := by decide +kernel
theorem dX3_passesNumber_8 : decode cX3_passesNumber 8 = .ok (.aload_n 0, 1) := by decide +kernel
theorem dX3_passesNumber_9 : decode cX3_passesNumber 9 = .ok (.invokevirtual 158, 3) := by decide +kernel
theorem dX3_passesNumber_12 : decode cX3_passesNumber 12 = .ok (.bipush 45, 2) := by decide +kernel
theorem dX3_passesNumber_14 : decode cX3_passesNumber 14 = .ok (.if_icmp .ne 7, 3) := by decide +kernel
theorem dX3_passesNumber_17 : decode cX3_passesNumber 17 = .ok (.iconst 1, 1) := by decide +kernel
theorem dX3_passesNumber_18 : decode cX3_passesNumber 18 = .ok (.goto 4, 3) := by decide +kernel
theorem dX3_passesNumber_21 : decode cX3_passesNumber 21 = .ok (.iconst 0, 1) := by decide +kernel
theorem dX3_passesNumber_22 : decode cX3_passesNumber 22 = .ok (.istore_n 3, 1) := by decide +kernel
theorem dX3_passesNumber_23 : decode cX3_passesNumber 23 = .ok (.aload_n 0, 1) := by decide +kernel
theorem dX3_passesNumber_24 : decode cX3_passesNumber 24 = .ok (.dup, 1) := by decide +kernel
theorem dX3_passesNumber_25 : decode cX3_passesNumber 25 = .ok (.getfield 155, 3) := by decide +kernel
theorem dX3_passesNumber_28 : decode cX3_passesNumber 28 = .ok (.iload_n 3, 1) := by decide +kernel
theorem dX3_passesNumber_29 : decode cX3_passesNumber 29 = .ok (.ifCond .eq 7, 3) := by decide +kernel
theorem dX3_passesNumber_32 : decode cX3_passesNumber 32 = .ok (.iconst 1, 1) := by decide +kernel
theorem dX3_passesNumber_33 : decode cX3_passesNumber 33 = .ok (.goto 4, 3) := by decide +kernel
theorem dX3_passesNumber_36 : decode cX3_passesNumber 36 = .ok (.iconst 0, 1) := by decide +kernel
theorem dX3_passesNumber_37 : decode cX3_passesNumber 37 = .ok (.iadd, 1) := by decide +kernel
theorem dX3_passesNumber_38 : decode cX3_passesNumber 38 = .ok (.putfield 155, 3) := by decide +kernel
theorem dX3_passesNumber_41 : decode cX3_passesNumber 41 = .ok (.iconst 0, 1) := by decide +kernel
theorem dX3_passesNumber_42 : decode cX3_passesNumber 42 = .ok (.istore 4, 2) := by decide +kernel
theorem dX3_passesNumber_44 : decode cX3_passesNumber 44 = .ok (.iconst 0, 1) := by decide +kernel
theorem dX3_passesNumber_45 : decode cX3_passesNumber 45 = .ok (.istore 5, 2) := by decide +kernel
theorem dX3_passesNumber_47 : decode cX3_passesNumber 47 = .ok (.aload_n 0, 1) := by decide +kernel
theorem dX3_passesNumber_48 : decode cX3_passesNumber 48 = .ok (.invokevirtual 158, 3) := by decide +kernel
theorem dX3_passesNumber_51 : decode cX3_passesNumber 51 = .ok (.bipush 48, 2) := by decide +kernel
theorem dX3_passesNumber_53 : decode cX3_passesNumber 53 = .ok (.bipush 57, 2) := by decide +kernel
theorem dX3_passesNumber_55 : decode cX3_passesNumber 55 = .ok (.invokestatic 74, 3) := by decide +kernel
theorem dX3_passesNumber_58 : decode cX3_passesNumber 58 = .ok (.ifCond .eq 40, 3) := by decide +kernel
theorem dX3_passesNumber_61 : decode cX3_passesNumber 61 = .ok (.iload 5, 2) := by decide +kernel
theorem dX3_passesNumber_63 : decode cX3_passesNumber 63 = .ok (.iconst 4, 1) := by decide +kernel
theorem dX3_passesNumber_64 : decode cX3_passesNumber 64 = .ok (.if_icmp .ge 34, 3) := by decide +kernel
theorem dX3_passesNumber_67 : decode cX3_passesNumber 67 = .ok (.bipush 10, 2) := by decide +kernel
theorem dX3_passesNumber_69 : decode cX3_passesNumber 69 = .ok (.iload 4, 2) := by decide +kernel
theorem dX3_passesNumber_71 : decode cX3_passesNumber 71 = .ok (.imul, 1) := by decide +kernel
theorem dX3_passesNumber_72 : decode cX3_passesNumber 72 = .ok (.aload_n 0, 1) := by decide +kernel
theorem dX3_passesNumber_73 : decode cX3_passesNumber 73 = .ok (.invokevirtual 158, 3) := by decide +kernel
theorem dX3_passesNumber_76 : decode cX3_passesNumber 76 = .ok (.iadd, 1) := by decide +kernel
theorem dX3_passesNumber_77 : decode cX3_passesNumber 77 = .ok (.bipush 48, 2) := by decide +kernel
theorem dX3_passesNumber_79 : decode cX3_passesNumber 79 = .ok (.isub, 1) := by decide +kernel
theorem dX3_passesNumber_80 : decode cX3_passesNumber 80 = .ok (.istore 4, 2) := by decide +kernel
theorem dX3_passesNumber_82 : decode cX3_passesNumber 82 = .ok (.aload_n 0, 1) := by decide +kernel
theorem dX3_passesNumber_83 : decode cX3_passesNumber 83 = .ok (.dup, 1) := by decide +kernel
theorem dX3_passesNumber_84 : decode cX3_passesNumber 84 = .ok (.getfield 155, 3) := by decide +kernel
theorem dX3_passesNumber_87 : decode cX3_passesNumber 87 = .ok (.iconst 1, 1) := by decide +kernel
theorem dX3_passesNumber_88 : decode cX3_passesNumber 88 = .ok (.iadd, 1) := by decide +kernel
theorem dX3_passesNumber_89 : decode cX3_passesNumber 89 = .ok (.putfield 155, 3) := by decide +kernel
theorem dX3_passesNumber_92 : decode cX3_passesNumber 92 = .ok (.iinc 5 1, 3) := by decide +kernel
theorem dX3_passesNumber_95 : decode cX3_passesNumber 95 = .ok (.goto (-48), 3) := by decide +kernel
theorem dX3_passesNumber_98 : decode cX3_passesNumber 98 = .ok (.aload_n 0, 1) := by decide +kernel
theorem dX3_passesNumber_99 : decode cX3_passesNumber 99 = .ok (.getfield 41, 3) := by decide +kernel
theorem dX3_passesNumber_102 : decode cX3_passesNumber 102 = .ok (.iload_n 1, 1) := by decide +kernel
theorem dX3_passesNumber_103 : decode cX3_passesNumber 103 = .ok (.iload_n 3, 1) := by decide +kernel
theorem dX3_passesNumber_104 : decode cX3_passesNumber 104 = .ok (.ifCond .eq 9, 3) := by decide +kernel
theorem dX3_passesNumber_107 : decode cX3_passesNumber 107 = .ok (.iload 4, 2) := by decide +kernel
theorem dX3_passesNumber_109 : decode cX3_passesNumber 109 = .ok (.ineg, 1) := by decide +kernel
theorem dX3_passesNumber_110 : decode cX3_passesNumber 110 = .ok (.goto 5, 3) := by decide +kernel
theorem dX3_passesNumber_113 : decode cX3_passesNumber 113 = .ok (.iload 4, 2) := by decide +kernel
theorem dX3_passesNumber_115 : decode cX3_passesNumber 115 = .ok (.iastore, 1) := by decide +kernel
theorem dX3_passesNumber_116 : decode cX3_passesNumber 116 = .ok (.iload 5, 2) := by decide +kernel
theorem dX3_passesNumber_118 : decode cX3_passesNumber 118 = .ok (.ifCond .le 21, 3) := by decide +kernel
theorem dX3_passesNumber_121 : decode cX3_passesNumber 121 = .ok (.aload_n 0, 1) := by decide +kernel
theorem dX3_passesNumber_122 : decode cX3_passesNumber 122 = .ok (.invokevirtual 158, 3) := by decide +kernel
theorem dX3_passesNumber_125 : decode cX3_passesNumber 125 = .ok (.bipush 48, 2) := by decide +kernel
theorem dX3_passesNumber_127 : decode cX3_passesNumber 127 = .ok (.bipush 57, 2) := by decide +kernel
theorem dX3_passesNumber_129 : decode cX3_passesNumber 129 = .ok (.invokestatic 74, 3) := by decide +kernel
theorem dX3_passesNumber_132 : decode cX3_passesNumber 132 = .ok (.ifCond .ne 7, 3) := by decide +kernel
theorem dX3_passesNumber_135 : decode cX3_passesNumber 135 = .ok (.iconst 1, 1) := by decide +kernel
theorem dX3_passesNumber_136 : decode cX3_passesNumber 136 = .ok (.goto 4, 3) := by decide +kernel
theorem dX3_passesNumber_139 : decode cX3_passesNumber 139 = .ok (.iconst 0, 1) := by decide +kernel
theorem dX3_passesNumber_140 : decode cX3_passesNumber 140 = .ok (.ireturn, 1) := by decide +kernel
theorem dX3_isOrder_0 : decode cX3_isOrder 0 = .ok (.iload_n 0, 1) := by decide +kernel
theorem dX3_isOrder_1 : decode cX3_isOrder 1 = .ok (.bipush 112, 2) := by decide +kernel
theorem dX3_isOrder_3 : decode cX3_isOrder 3 = .ok (.if_icmp .eq 45, 3) := by decide +kernel
theorem dX3_isOrder_6 : decode cX3_isOrder 6 = .ok (.iload_n 0, 1) := by decide +kernel
theorem dX3_isOrder_7 : decode cX3_isOrder 7 = .ok (.bipush 104, 2) := by decide +kernel
theorem dX3_isOrder_9 : decode cX3_isOrder 9 = .ok (.if_icmp .eq 39, 3) := by decide +kernel
theorem dX3_isOrder_12 : decode cX3_isOrder 12 = .ok (.iload_n 0, 1) := by decide +kernel
theorem dX3_isOrder_13 : decode cX3_isOrder 13 = .ok (.bipush 113, 2) := by decide +kernel
theorem dX3_isOrder_15 : decode cX3_isOrder 15 = .ok (.if_icmp .eq 33, 3) := by decide +kernel
theorem dX3_isOrder_18 : decode cX3_isOrder 18 = .ok (.iload_n 0, 1) := by decide +kernel
theorem dX3_isOrder_19 : decode cX3_isOrder 19 = .ok (.bipush 97, 2) := by decide +kernel
theorem dX3_isOrder_21 : decode cX3_isOrder 21 = .ok (.if_icmp .eq 27, 3) := by decide +kernel
theorem dX3_isOrder_24 : decode cX3_isOrder 24 = .ok (.iload_n 0, 1) := by decide +kernel
theorem dX3_isOrder_25 : decode cX3_isOrder 25 = .ok (.bipush 108, 2) := by decide +kernel
theorem dX3_isOrder_27 : decode cX3_isOrder 27 = .ok (.if_icmp .eq 21, 3) := by decide +kernel
theorem dX3_isOrder_30 : decode cX3_isOrder 30 = .ok (.iload_n 0, 1) := by decide +kernel
theorem dX3_isOrder_31 : decode cX3_isOrder 31 = .ok (.bipush 114, 2) := by decide +kernel
theorem dX3_isOrder_33 : decode cX3_isOrder 33 = .ok (.if_icmp .eq 15, 3) := by decide +kernel
theorem dX3_isOrder_36 : decode cX3_isOrder 36 = .ok (.iload_n 0, 1) := by decide +kernel
theorem dX3_isOrder_37 : decode cX3_isOrder 37 = .ok (.bipush 119, 2) := by decide +kernel
theorem dX3_isOrder_39 : decode cX3_isOrder 39 = .ok (.if_icmp .eq 9, 3) := by decide +kernel
theorem dX3_isOrder_42 : decode cX3_isOrder 42 = .ok (.iload_n 0, 1) := by decide +kernel
theorem dX3_isOrder_43 : decode cX3_isOrder 43 = .ok (.bipush 115, 2) := by decide +kernel
theorem dX3_isOrder_45 : decode cX3_isOrder 45 = .ok (.if_icmp .ne 7, 3) := by decide +kernel
theorem dX3_isOrder_48 : decode cX3_isOrder 48 = .ok (.iconst 1, 1) := by decide +kernel
theorem dX3_isOrder_49 : decode cX3_isOrder 49 = .ok (.goto 4, 3) := by decide +kernel
theorem dX3_isOrder_52 : decode cX3_isOrder 52 = .ok (.iconst 0, 1) := by decide +kernel
theorem dX3_isOrder_53 : decode cX3_isOrder 53 = .ok (.ireturn, 1) := by decide +kernel
theorem dX3_passesOrder_0 : decode cX3_passesOrder 0 = .ok (.aload_n 0, 1) := by decide +kernel
theorem dX3_passesOrder_1 : decode cX3_passesOrder 1 = .ok (.invokevirtual 158, 3) := by decide +kernel
theorem dX3_passesOrder_4 : decode cX3_passesOrder 4 = .ok (.istore_n 1, 1) := by decide +kernel
theorem dX3_passesOrder_5 : decode cX3_passesOrder 5 = .ok (.iload_n 1, 1) := by decide +kernel
theorem dX3_passesOrder_6 : decode cX3_passesOrder 6 = .ok (.invokestatic 165, 3) := by decide +kernel
theorem dX3_passesOrder_9 : decode cX3_passesOrder 9 = .ok (.ifCond .ne 5, 3) := by decide +kernel
theorem dX3_passesOrder_12 : decode cX3_passesOrder 12 = .ok (.iconst 0, 1) := by decide +kernel
theorem dX3_passesOrder_13 : decode cX3_passesOrder 13 = .ok (.ireturn, 1) := by decide +kernel
theorem dX3_passesOrder_14 : decode cX3_passesOrder 14 = .ok (.aload_n 0, 1) := by decide +kernel
theorem dX3_passesOrder_15 : decode cX3_passesOrder 15 = .ok (.getfield 38, 3) := by decide +kernel
theorem dX3_passesOrder_18 : decode cX3_passesOrder 18 = .ok (.aload_n 0, 1) := by decide +kernel
theorem dX3_passesOrder_19 : decode cX3_passesOrder 19 = .ok (.getfield 168, 3) := by decide +kernel
theorem dX3_passesOrder_22 : decode cX3_passesOrder 22 = .ok (.iload_n 1, 1) := by decide +kernel
theorem dX3_passesOrder_23 : decode cX3_passesOrder 23 = .ok (.iastore, 1) := by decide +kernel
theorem dX3_passesOrder_24 : decode cX3_passesOrder 24 = .ok (.aload_n 0, 1) := by decide +kernel
theorem dX3_passesOrder_25 : decode cX3_passesOrder 25 = .ok (.dup, 1) := by decide +kernel
theorem dX3_passesOrder_26 : decode cX3_passesOrder 26 = .ok (.getfield 155, 3) := by decide +kernel
theorem dX3_passesOrder_29 : decode cX3_passesOrder 29 = .ok (.iconst 1, 1) := by decide +kernel
theorem dX3_passesOrder_30 : decode cX3_passesOrder 30 = .ok (.iadd, 1) := by decide +kernel
theorem dX3_passesOrder_31 : decode cX3_passesOrder 31 = .ok (.putfield 155, 3) := by decide +kernel
theorem dX3_passesOrder_34 : decode cX3_passesOrder 34 = .ok (.aload_n 0, 1) := by decide +kernel
theorem dX3_passesOrder_35 : decode cX3_passesOrder 35 = .ok (.iconst 2, 1) := by decide +kernel
theorem dX3_passesOrder_36 : decode cX3_passesOrder 36 = .ok (.aload_n 0, 1) := by decide +kernel
theorem dX3_passesOrder_37 : decode cX3_passesOrder 37 = .ok (.getfield 168, 3) := by decide +kernel
theorem dX3_passesOrder_40 : decode cX3_passesOrder 40 = .ok (.imul, 1) := by decide +kernel
theorem dX3_passesOrder_41 : decode cX3_passesOrder 41 = .ok (.iload_n 1, 1) := by decide +kernel
theorem dX3_passesOrder_42 : decode cX3_passesOrder 42 = .ok (.bipush 104, 2) := by decide +kernel
theorem dX3_passesOrder_44 : decode cX3_passesOrder 44 = .ok (.if_icmp .eq 9, 3) := by decide +kernel
theorem dX3_passesOrder_47 : decode cX3_passesOrder 47 = .ok (.iload_n 1, 1) := by decide +kernel
theorem dX3_passesOrder_48 : decode cX3_passesOrder 48 = .ok (.bipush 113, 2) := by decide +kernel
theorem dX3_passesOrder_50 : decode cX3_passesOrder 50 = .ok (.if_icmp .ne 7, 3) := by decide +kernel
theorem dX3_passesOrder_53 : decode cX3_passesOrder 53 = .ok (.iconst 1, 1) := by decide +kernel
theorem dX3_passesOrder_54 : decode cX3_passesOrder 54 = .ok (.goto 4, 3) := by decide +kernel
theorem dX3_passesOrder_57 : decode cX3_passesOrder 57 = .ok (.iconst 0, 1) := by decide +kernel
theorem dX3_passesOrder_58 : decode cX3_passesOrder 58 = .ok (.invokevirtual 171, 3) := by decide +kernel
theorem dX3_passesOrder_61 : decode cX3_passesOrder 61 = .ok (.ifCond .eq 25, 3) := by decide +kernel
theorem dX3_passesOrder_64 : decode cX3_passesOrder 64 = .ok (.iload_n 1, 1) := by decide +kernel
theorem dX3_passesOrder_65 : decode cX3_passesOrder 65 = .ok (.bipush 119, 2) := by decide +kernel
theorem dX3_passesOrder_67 : decode cX3_passesOrder 67 = .ok (.if_icmp .ne 21, 3) := by decide +kernel
theorem dX3_passesOrder_70 : decode cX3_passesOrder 70 = .ok (.aload_n 0, 1) := by decide +kernel
theorem dX3_passesOrder_71 : decode cX3_passesOrder 71 = .ok (.iconst 2, 1) := by decide +kernel
theorem dX3_passesOrder_72 : decode cX3_passesOrder 72 = .ok (.aload_n 0, 1) := by decide +kernel
theorem dX3_passesOrder_73 : decode cX3_passesOrder 73 = .ok (.getfield 168, 3) := by decide +kernel
theorem dX3_passesOrder_76 : decode cX3_passesOrder 76 = .ok (.imul, 1) := by decide +kernel
theorem dX3_passesOrder_77 : decode cX3_passesOrder 77 = .ok (.iconst 1, 1) := by decide +kernel
theorem dX3_passesOrder_78 : decode cX3_passesOrder 78 = .ok (.iadd, 1) := by decide +kernel
theorem dX3_passesOrder_79 : decode cX3_passesOrder 79 = .ok (.iconst 0, 1) := by decide +kernel
theorem dX3_passesOrder_80 : decode cX3_passesOrder 80 = .ok (.invokevirtual 171, 3) := by decide +kernel
theorem dX3_passesOrder_83 : decode cX3_passesOrder 83 = .ok (.ifCond .ne 5, 3) := by decide +kernel
theorem dX3_passesOrder_86 : decode cX3_passesOrder 86 = .ok (.iconst 0, 1) := by decide +kernel
theorem dX3_passesOrder_87 : decode cX3_passesOrder 87 = .ok (.ireturn, 1) := by decide +kernel
theorem dX3_passesOrder_88 : decode cX3_passesOrder 88 = .ok (.aload_n 0, 1) := by decide +kernel
theorem dX3_passesOrder_89 : decode cX3_passesOrder 89 = .ok (.invokevirtual 162, 3) := by decide +kernel
theorem dX3_passesOrder_92 : decode cX3_passesOrder 92 = .ok (.aload_n 0, 1) := by decide +kernel
theorem dX3_passesOrder_93 : decode cX3_passesOrder 93 = .ok (.invokevirtual 158, 3) := by decide +kernel
theorem dX3_passesOrder_96 : decode cX3_passesOrder 96 = .ok (.bipush 59, 2) := by decide +kernel
theorem dX3_passesOrder_98 : decode cX3_passesOrder 98 = .ok (.if_icmp .eq 5, 3) := by decide +kernel
theorem dX3_passesOrder_101 : decode cX3_passesOrder 101 = .ok (.iconst 0, 1) := by decide +kernel
theorem dX3_passesOrder_102 : decode cX3_passesOrder 102 = .ok (.ireturn, 1) := by decide +kernel
theorem dX3_passesOrder_103 : decode cX3_passesOrder 103 = .ok (.aload_n 0, 1) := by decide +kernel
theorem dX3_passesOrder_104 : decode cX3_passesOrder 104 = .ok (.dup, 1) := by decide +kernel
theorem dX3_passesOrder_105 : decode cX3_passesOrder 105 = .ok (.getfield 155, 3) := by decide +kernel
theorem dX3_passesOrder_108 : decode cX3_passesOrder 108 = .ok (.iconst 1, 1) := by decide +kernel
theorem dX3_passesOrder_109 : decode cX3_passesOrder 109 = .ok (.iadd, 1) := by decide +kernel
theorem dX3_passesOrder_110 : decode cX3_passesOrder 110 = .ok (.putfield 155, 3) := by decide +kernel
theorem dX3_passesOrder_113 : decode cX3_passesOrder 113 = .ok (.aload_n 0, 1) := by decide +kernel
theorem dX3_passesOrder_114 : decode cX3_passesOrder 114 = .ok (.dup, 1) := by decide +kernel
theorem dX3_passesOrder_115 : decode cX3_passesOrder 115 = .ok (.getfield 168, 3) := by decide +kernel
theorem dX3_passesOrder_118 : decode cX3_passesOrder 118 = .ok (.iconst 1, 1) := by decide +kernel
theorem dX3_passesOrder_119 : decode cX3_passesOrder 119 = .ok (.iadd, 1) := by decide +kernel
theorem dX3_passesOrder_120 : decode cX3_passesOrder 120 = .ok (.putfield 168, 3) := by decide +kernel
theorem dX3_passesOrder_123 : decode cX3_passesOrder 123 = .ok (.iconst 1, 1) := by decide +kernel
theorem dX3_passesOrder_124 : decode cX3_passesOrder 124 = .ok (.ireturn, 1) := by decide +kernel
theorem dX3_isRead_0 : decode cX3_isRead 0 = .ok (.aload_n 0, 1) := by decide +kernel
theorem dX3_isRead_1 : decode cX3_isRead 1 = .ok (.iconst 0, 1) := by decide +kernel
theorem dX3_isRead_2 : decode cX3_isRead 2 = .ok (.putfield 155, 3) := by decide +kernel
theorem dX3_isRead_5 : decode cX3_isRead 5 = .ok (.aload_n 0, 1) := by decide +kernel
theorem dX3_isRead_6 : decode cX3_isRead 6 = .ok (.iconst 0, 1) := by decide +kernel
theorem dX3_isRead_7 : decode cX3_isRead 7 = .ok (.putfield 168, 3) := by decide +kernel
theorem dX3_isRead_10 : decode cX3_isRead 10 = .ok (.aload_n 0, 1) := by decide +kernel
theorem dX3_isRead_11 : decode cX3_isRead 11 = .ok (.invokevirtual 162, 3) := by decide +kernel
theorem dX3_isRead_14 : decode cX3_isRead 14 = .ok (.aload_n 0, 1) := by decide +kernel
theorem dX3_isRead_15 : decode cX3_isRead 15 = .ok (.invokevirtual 175, 3) := by decide +kernel
theorem dX3_isRead_18 : decode cX3_isRead 18 = .ok (.ifCond .ne 5, 3) := by decide +kernel
theorem dX3_isRead_21 : decode cX3_isRead 21 = .ok (.iconst 0, 1) := by decide +kernel
theorem dX3_isRead_22 : decode cX3_isRead 22 = .ok (.ireturn, 1) := by decide +kernel
theorem dX3_isRead_23 : decode cX3_isRead 23 = .ok (.aload_n 0, 1) := by decide +kernel
theorem dX3_isRead_24 : decode cX3_isRead 24 = .ok (.invokevirtual 162, 3) := by decide +kernel
theorem dX3_isRead_27 : decode cX3_isRead 27 = .ok (.aload_n 0, 1) := by decide +kernel
theorem dX3_isRead_28 : decode cX3_isRead 28 = .ok (.invokevirtual 158, 3) := by decide +kernel
theorem dX3_isRead_31 : decode cX3_isRead 31 = .ok (.iconst (-1), 1) := by decide +kernel
theorem dX3_isRead_32 : decode cX3_isRead 32 = .ok (.if_icmp .ne (-18), 3) := by decide +kernel
theorem dX3_isRead_35 : decode cX3_isRead 35 = .ok (.iconst 1, 1) := by decide +kernel
theorem dX3_isRead_36 : decode cX3_isRead 36 = .ok (.ireturn, 1) := by decide +kernel
end
section
theorem dX3_isDone_0 : decode cX3_isDone 0 = .ok (.aload_n 0, 1) := by decide +kernel
theorem dX3_isDone_1 : decode cX3_isDone 1 = .ok (.getfield 41, 3) := by decide +kernel
theorem dX3_isDone_4 : decode cX3_isDone 4 = .ok (.iconst 2, 1) := by decide +kernel
theorem dX3_isDone_5 : decode cX3_isDone 5 = .ok (.iload_n 1, 1) := by decide +kernel
theorem dX3_isDone_6 : decode cX3_isDone 6 = .ok (.imul, 1) := by decide +kernel
theorem dX3_isDone_7 : decode cX3_isDone 7 = .ok (.iaload, 1) := by decide +kernel
theorem dX3_isDone_8 : decode cX3_isDone 8 = .ok (.istore_n 2, 1) := by decide +kernel
theorem dX3_isDone_9 : decode cX3_isDone 9 = .ok (.aload_n 0, 1) := by decide +kernel
theorem dX3_isDone_10 : decode cX3_isDone 10 = .ok (.getfield 41, 3) := by decide +kernel
theorem dX3_isDone_13 : decode cX3_isDone 13 = .ok (.iconst 2, 1) := by decide +kernel
theorem dX3_isDone_14 : decode cX3_isDone 14 = .ok (.iload_n 1, 1) := by decide +kernel
theorem dX3_isDone_15 : decode cX3_isDone 15 = .ok (.imul, 1) := by decide +kernel
theorem dX3_isDone_16 : decode cX3_isDone 16 = .ok (.iconst 1, 1) := by decide +kernel
theorem dX3_isDone_17 : decode cX3_isDone 17 = .ok (.iadd, 1) := by decide +kernel
theorem dX3_isDone_18 : decode cX3_isDone 18 = .ok (.iaload, 1) := by decide +kernel
theorem dX3_isDone_19 : decode cX3_isDone 19 = .ok (.istore_n 3, 1) := by decide +kernel
theorem dX3_isDone_20 : decode cX3_isDone 20 = .ok (.aload_n 0, 1) := by decide +kernel
theorem dX3_isDone_21 : decode cX3_isDone 21 = .ok (.getfield 38, 3) := by decide +kernel
theorem dX3_isDone_24 : decode cX3_isDone 24 = .ok (.iload_n 1, 1) := by decide +kernel
theorem dX3_isDone_25 : decode cX3_isDone 25 = .ok (.iaload, 1) := by decide +kernel
theorem dX3_isDone_26 : decode cX3_isDone 26 = .ok (.istore 4, 2) := by decide +kernel
theorem dX3_isDone_28 : decode cX3_isDone 28 = .ok (.iload 4, 2) := by decide +kernel
theorem dX3_isDone_30 : decode cX3_isDone 30 = .ok (.bipush 104, 2) := by decide +kernel
theorem dX3_isDone_32 : decode cX3_isDone 32 = .ok (.if_icmp .ne 7, 3) := by decide +kernel
theorem dX3_isDone_35 : decode cX3_isDone 35 = .ok (.iconst 0, 1) := by decide +kernel
theorem dX3_isDone_36 : decode cX3_isDone 36 = .ok (.goto 15, 3) := by decide +kernel
theorem dX3_isDone_39 : decode cX3_isDone 39 = .ok (.iload 4, 2) := by decide +kernel
theorem dX3_isDone_41 : decode cX3_isDone 41 = .ok (.bipush 113, 2) := by decide +kernel
theorem dX3_isDone_43 : decode cX3_isDone 43 = .ok (.if_icmp .ne 7, 3) := by decide +kernel
theorem dX3_isDone_46 : decode cX3_isDone 46 = .ok (.iconst 1, 1) := by decide +kernel
theorem dX3_isDone_47 : decode cX3_isDone 47 = .ok (.goto 4, 3) := by decide +kernel
theorem dX3_isDone_50 : decode cX3_isDone 50 = .ok (.iconst 2, 1) := by decide +kernel
theorem dX3_isDone_51 : decode cX3_isDone 51 = .ok (.istore 5, 2) := by decide +kernel
theorem dX3_isDone_53 : decode cX3_isDone 53 = .ok (.iload 4, 2) := by decide +kernel
theorem dX3_isDone_55 : decode cX3_isDone 55 = .ok (.bipush 108, 2) := by decide +kernel
theorem dX3_isDone_57 : decode cX3_isDone 57 = .ok (.if_icmp .ne 7, 3) := by decide +kernel
theorem dX3_isDone_60 : decode cX3_isDone 60 = .ok (.iconst 0, 1) := by decide +kernel
theorem dX3_isDone_61 : decode cX3_isDone 61 = .ok (.goto 4, 3) := by decide +kernel
theorem dX3_isDone_64 : decode cX3_isDone 64 = .ok (.iconst 1, 1) := by decide +kernel
theorem dX3_isDone_65 : decode cX3_isDone 65 = .ok (.istore 6, 2) := by decide +kernel
theorem dX3_isDone_67 : decode cX3_isDone 67 = .ok (.iload 4, 2) := by decide +kernel
theorem dX3_isDone_69 : decode cX3_isDone 69 = .ok (.tableswitch 206 97 119 #[129, 206, 206, 206, 206, 206, 206, 129, 206, 206, 206, 156, 206, 206, 206, 107, 129, 156, 206, 206, 206, 206, 183], 107) := by decide +kernel
theorem dX3_isDone_176 : decode cX3_isDone 176 = .ok (.aload_n 0, 1) := by decide +kernel
theorem dX3_isDone_177 : decode cX3_isDone 177 = .ok (.iload_n 2, 1) := by decide +kernel
theorem dX3_isDone_178 : decode cX3_isDone 178 = .ok (.invokevirtual 81, 3) := by decide +kernel
theorem dX3_isDone_181 : decode cX3_isDone 181 = .ok (.istore 7, 2) := by decide +kernel
theorem dX3_isDone_183 : decode cX3_isDone 183 = .ok (.iload 7, 2) := by decide +kernel
theorem dX3_isDone_185 : decode cX3_isDone 185 = .ok (.ifCond .eq 10, 3) := by decide +kernel
theorem dX3_isDone_188 : decode cX3_isDone 188 = .ok (.aload_n 0, 1) := by decide +kernel
theorem dX3_isDone_189 : decode cX3_isDone 189 = .ok (.iconst 0, 1) := by decide +kernel
theorem dX3_isDone_190 : decode cX3_isDone 190 = .ok (.iload_n 2, 1) := by decide +kernel
theorem dX3_isDone_191 : decode cX3_isDone 191 = .ok (.invokevirtual 88, 3) := by decide +kernel
theorem dX3_isDone_194 : decode cX3_isDone 194 = .ok (.pop, 1) := by decide +kernel
theorem dX3_isDone_195 : decode cX3_isDone 195 = .ok (.iload 7, 2) := by decide +kernel
theorem dX3_isDone_197 : decode cX3_isDone 197 = .ok (.ireturn, 1) := by decide +kernel
theorem dX3_isDone_198 : decode cX3_isDone 198 = .ok (.aload_n 0, 1) := by decide +kernel
theorem dX3_isDone_199 : decode cX3_isDone 199 = .ok (.iload 5, 2) := by decide +kernel
theorem dX3_isDone_201 : decode cX3_isDone 201 = .ok (.iload_n 2, 1) := by decide +kernel
theorem dX3_isDone_202 : decode cX3_isDone 202 = .ok (.invokevirtual 92, 3) := by decide +kernel
theorem dX3_isDone_205 : decode cX3_isDone 205 = .ok (.istore 7, 2) := by decide +kernel
theorem dX3_isDone_207 : decode cX3_isDone 207 = .ok (.iload 7, 2) := by decide +kernel
theorem dX3_isDone_209 : decode cX3_isDone 209 = .ok (.ifCond .eq 13, 3) := by decide +kernel
theorem dX3_isDone_212 : decode cX3_isDone 212 = .ok (.aload_n 0, 1) := by decide +kernel
theorem dX3_isDone_213 : decode cX3_isDone 213 = .ok (.iconst 1, 1) := by decide +kernel
theorem dX3_isDone_214 : decode cX3_isDone 214 = .ok (.iload 5, 2) := by decide +kernel
theorem dX3_isDone_216 : decode cX3_isDone 216 = .ok (.iadd, 1) := by decide +kernel
theorem dX3_isDone_217 : decode cX3_isDone 217 = .ok (.iload_n 2, 1) := by decide +kernel
theorem dX3_isDone_218 : decode cX3_isDone 218 = .ok (.invokevirtual 88, 3) := by decide +kernel
theorem dX3_isDone_221 : decode cX3_isDone 221 = .ok (.pop, 1) := by decide +kernel
theorem dX3_isDone_222 : decode cX3_isDone 222 = .ok (.iload 7, 2) := by decide +kernel
theorem dX3_isDone_224 : decode cX3_isDone 224 = .ok (.ireturn, 1) := by decide +kernel
theorem dX3_isDone_225 : decode cX3_isDone 225 = .ok (.aload_n 0, 1) := by decide +kernel
theorem dX3_isDone_226 : decode cX3_isDone 226 = .ok (.iload 6, 2) := by decide +kernel
theorem dX3_isDone_228 : decode cX3_isDone 228 = .ok (.iload_n 2, 1) := by decide +kernel
theorem dX3_isDone_229 : decode cX3_isDone 229 = .ok (.invokevirtual 96, 3) := by decide +kernel
theorem dX3_isDone_232 : decode cX3_isDone 232 = .ok (.istore 7, 2) := by decide +kernel
theorem dX3_isDone_234 : decode cX3_isDone 234 = .ok (.iload 7, 2) := by decide +kernel
theorem dX3_isDone_236 : decode cX3_isDone 236 = .ok (.ifCond .eq 13, 3) := by decide +kernel
theorem dX3_isDone_239 : decode cX3_isDone 239 = .ok (.aload_n 0, 1) := by decide +kernel
theorem dX3_isDone_240 : decode cX3_isDone 240 = .ok (.iconst 4, 1) := by decide +kernel
theorem dX3_isDone_241 : decode cX3_isDone 241 = .ok (.iload 6, 2) := by decide +kernel
theorem dX3_isDone_243 : decode cX3_isDone 243 = .ok (.iadd, 1) := by decide +kernel
theorem dX3_isDone_244 : decode cX3_isDone 244 = .ok (.iload_n 2, 1) := by decide +kernel
theorem dX3_isDone_245 : decode cX3_isDone 245 = .ok (.invokevirtual 88, 3) := by decide +kernel
theorem dX3_isDone_248 : decode cX3_isDone 248 = .ok (.pop, 1) := by decide +kernel
theorem dX3_isDone_249 : decode cX3_isDone 249 = .ok (.iload 7, 2) := by decide +kernel
theorem dX3_isDone_251 : decode cX3_isDone 251 = .ok (.ireturn, 1) := by decide +kernel
theorem dX3_isDone_252 : decode cX3_isDone 252 = .ok (.aload_n 0, 1) := by decide +kernel
theorem dX3_isDone_253 : decode cX3_isDone 253 = .ok (.iload_n 2, 1) := by decide +kernel
theorem dX3_isDone_254 : decode cX3_isDone 254 = .ok (.iload_n 3, 1) := by decide +kernel
theorem dX3_isDone_255 : decode cX3_isDone 255 = .ok (.invokevirtual 99, 3) := by decide +kernel
theorem dX3_isDone_258 : decode cX3_isDone 258 = .ok (.istore 7, 2) := by decide +kernel
theorem dX3_isDone_260 : decode cX3_isDone 260 = .ok (.iload 7, 2) := by decide +kernel
theorem dX3_isDone_262 : decode cX3_isDone 262 = .ok (.ifCond .eq 10, 3) := by decide +kernel
theorem dX3_isDone_265 : decode cX3_isDone 265 = .ok (.aload_n 0, 1) := by decide +kernel
theorem dX3_isDone_266 : decode cX3_isDone 266 = .ok (.iload_n 2, 1) := by decide +kernel
theorem dX3_isDone_267 : decode cX3_isDone 267 = .ok (.iload_n 3, 1) := by decide +kernel
theorem dX3_isDone_268 : decode cX3_isDone 268 = .ok (.invokevirtual 102, 3) := by decide +kernel
theorem dX3_isDone_271 : decode cX3_isDone 271 = .ok (.pop, 1) := by decide +kernel
theorem dX3_isDone_272 : decode cX3_isDone 272 = .ok (.iload 7, 2) := by decide +kernel
theorem dX3_isDone_274 : decode cX3_isDone 274 = .ok (.ireturn, 1) := by decide +kernel
theorem dX3_isDone_275 : decode cX3_isDone 275 = .ok (.iload_n 2, 1) := by decide +kernel
theorem dX3_isDone_276 : decode cX3_isDone 276 = .ok (.iconst 1, 1) := by decide +kernel
theorem dX3_isDone_277 : decode cX3_isDone 277 = .ok (.bipush 100, 2) := by decide +kernel
theorem dX3_isDone_279 : decode cX3_isDone 279 = .ok (.invokestatic 74, 3) := by decide +kernel
theorem dX3_isDone_282 : decode cX3_isDone 282 = .ok (.ifCond .eq 22, 3) := by decide +kernel
theorem dX3_isDone_285 : decode cX3_isDone 285 = .ok (.aload_n 0, 1) := by decide +kernel
theorem dX3_isDone_286 : decode cX3_isDone 286 = .ok (.getfield 7, 3) := by decide +kernel
theorem dX3_isDone_289 : decode cX3_isDone 289 = .ok (.bipush 8, 2) := by decide +kernel
theorem dX3_isDone_291 : decode cX3_isDone 291 = .ok (.iaload, 1) := by decide +kernel
theorem dX3_isDone_292 : decode cX3_isDone 292 = .ok (.iload_n 2, 1) := by decide +kernel
theorem dX3_isDone_293 : decode cX3_isDone 293 = .ok (.iadd, 1) := by decide +kernel
theorem dX3_isDone_294 : decode cX3_isDone 294 = .ok (.sipush 999, 3) := by decide +kernel
theorem dX3_isDone_297 : decode cX3_isDone 297 = .ok (.if_icmp .gt 7, 3) := by decide +kernel
theorem dX3_isDone_300 : decode cX3_isDone 300 = .ok (.iconst 1, 1) := by decide +kernel
theorem dX3_isDone_301 : decode cX3_isDone 301 = .ok (.goto 4, 3) := by decide +kernel
theorem dX3_isDone_304 : decode cX3_isDone 304 = .ok (.iconst 0, 1) := by decide +kernel
theorem dX3_isDone_305 : decode cX3_isDone 305 = .ok (.istore 7, 2) := by decide +kernel
theorem dX3_isDone_307 : decode cX3_isDone 307 = .ok (.iload 7, 2) := by decide +kernel
theorem dX3_isDone_309 : decode cX3_isDone 309 = .ok (.ifCond .eq 9, 3) := by decide +kernel
theorem dX3_isDone_312 : decode cX3_isDone 312 = .ok (.aload_n 0, 1) := by decide +kernel
theorem dX3_isDone_313 : decode cX3_isDone 313 = .ok (.iload_n 2, 1) := by decide +kernel
theorem dX3_isDone_314 : decode cX3_isDone 314 = .ok (.invokevirtual 105, 3) := by decide +kernel
theorem dX3_isDone_317 : decode cX3_isDone 317 = .ok (.pop, 1) := by decide +kernel
theorem dX3_isDone_318 : decode cX3_isDone 318 = .ok (.iload 7, 2) := by decide +kernel
theorem dX3_isDone_320 : decode cX3_isDone 320 = .ok (.ireturn, 1) := by decide +kernel
theorem dX3_reads_0 : decode cX3_reads 0 = .ok (.aload_n 0, 1) := by decide +kernel
theorem dX3_reads_1 : decode cX3_reads 1 = .ok (.invokevirtual 179, 3) := by decide +kernel
theorem dX3_reads_4 : decode cX3_reads 4 = .ok (.ifCond .ne 11, 3) := by decide +kernel
theorem dX3_reads_7 : decode cX3_reads 7 = .ok (.bipush (-10), 2) := by decide +kernel
theorem dX3_reads_9 : decode cX3_reads 9 = .ok (.aload_n 0, 1) := by decide +kernel
theorem dX3_reads_10 : decode cX3_reads 10 = .ok (.getfield 155, 3) := by decide +kernel
theorem dX3_reads_13 : decode cX3_reads 13 = .ok (.isub, 1) := by decide +kernel
theorem dX3_reads_14 : decode cX3_reads 14 = .ok (.ireturn, 1) := by decide +kernel
theorem dX3_reads_15 : decode cX3_reads 15 = .ok (.aload_n 0, 1) := by decide +kernel
theorem dX3_reads_16 : decode cX3_reads 16 = .ok (.invokevirtual 139, 3) := by decide +kernel
theorem dX3_reads_19 : decode cX3_reads 19 = .ok (.iconst 0, 1) := by decide +kernel
theorem dX3_reads_20 : decode cX3_reads 20 = .ok (.istore_n 1, 1) := by decide +kernel
theorem dX3_reads_21 : decode cX3_reads 21 = .ok (.iload_n 1, 1) := by decide +kernel
theorem dX3_reads_22 : decode cX3_reads 22 = .ok (.aload_n 0, 1) := by decide +kernel
theorem dX3_reads_23 : decode cX3_reads 23 = .ok (.getfield 168, 3) := by decide +kernel
theorem dX3_reads_26 : decode cX3_reads 26 = .ok (.if_icmp .ge 17, 3) := by decide +kernel
theorem dX3_reads_29 : decode cX3_reads 29 = .ok (.aload_n 0, 1) := by decide +kernel
theorem dX3_reads_30 : decode cX3_reads 30 = .ok (.iload_n 1, 1) := by decide +kernel
theorem dX3_reads_31 : decode cX3_reads 31 = .ok (.invokevirtual 182, 3) := by decide +kernel
theorem dX3_reads_34 : decode cX3_reads 34 = .ok (.ifCond .eq 9, 3) := by decide +kernel
theorem dX3_reads_37 : decode cX3_reads 37 = .ok (.iinc 1 1, 3) := by decide +kernel
theorem dX3_reads_40 : decode cX3_reads 40 = .ok (.goto (-19), 3) := by decide +kernel
theorem dX3_reads_43 : decode cX3_reads 43 = .ok (.iload_n 1, 1) := by decide +kernel
theorem dX3_reads_44 : decode cX3_reads 44 = .ok (.aload_n 0, 1) := by decide +kernel
theorem dX3_reads_45 : decode cX3_reads 45 = .ok (.getfield 168, 3) := by decide +kernel
theorem dX3_reads_48 : decode cX3_reads 48 = .ok (.if_icmp .ge 13, 3) := by decide +kernel
theorem dX3_reads_51 : decode cX3_reads 51 = .ok (.aload_n 0, 1) := by decide +kernel
theorem dX3_reads_52 : decode cX3_reads 52 = .ok (.invokevirtual 142, 3) := by decide +kernel
theorem dX3_reads_55 : decode cX3_reads 55 = .ok (.sipush (-1000), 3) := by decide +kernel
theorem dX3_reads_58 : decode cX3_reads 58 = .ok (.iload_n 1, 1) := by decide +kernel
theorem dX3_reads_59 : decode cX3_reads 59 = .ok (.isub, 1) := by decide +kernel
theorem dX3_reads_60 : decode cX3_reads 60 = .ok (.ireturn, 1) := by decide +kernel
theorem dX3_reads_61 : decode cX3_reads 61 = .ok (.aload_n 0, 1) := by decide +kernel
theorem dX3_reads_62 : decode cX3_reads 62 = .ok (.invokevirtual 185, 3) := by decide +kernel
theorem dX3_reads_65 : decode cX3_reads 65 = .ok (.aload_n 0, 1) := by decide +kernel
theorem dX3_reads_66 : decode cX3_reads 66 = .ok (.invokevirtual 85, 3) := by decide +kernel
theorem dX3_reads_69 : decode cX3_reads 69 = .ok (.aload_n 0, 1) := by decide +kernel
theorem dX3_reads_70 : decode cX3_reads 70 = .ok (.invokevirtual 185, 3) := by decide +kernel
theorem dX3_reads_73 : decode cX3_reads 73 = .ok (.aload_n 0, 1) := by decide +kernel
theorem dX3_reads_74 : decode cX3_reads 74 = .ok (.getfield 168, 3) := by decide +kernel
theorem dX3_reads_77 : decode cX3_reads 77 = .ok (.ireturn, 1) := by decide +kernel
theorem dX3_swapsAside_0 : decode cX3_swapsAside 0 = .ok (.iconst 0, 1) := by decide +kernel
theorem dX3_swapsAside_1 : decode cX3_swapsAside 1 = .ok (.istore_n 1, 1) := by decide +kernel
theorem dX3_swapsAside_2 : decode cX3_swapsAside 2 = .ok (.iload_n 1, 1) := by decide +kernel
theorem dX3_swapsAside_3 : decode cX3_swapsAside 3 = .ok (.bipush 9, 2) := by decide +kernel
theorem dX3_swapsAside_5 : decode cX3_swapsAside 5 = .ok (.if_icmp .ge 35, 3) := by decide +kernel
theorem dX3_swapsAside_8 : decode cX3_swapsAside 8 = .ok (.aload_n 0, 1) := by decide +kernel
theorem dX3_swapsAside_9 : decode cX3_swapsAside 9 = .ok (.getfield 7, 3) := by decide +kernel
theorem dX3_swapsAside_12 : decode cX3_swapsAside 12 = .ok (.iload_n 1, 1) := by decide +kernel
theorem dX3_swapsAside_13 : decode cX3_swapsAside 13 = .ok (.iaload, 1) := by decide +kernel
theorem dX3_swapsAside_14 : decode cX3_swapsAside 14 = .ok (.istore_n 2, 1) := by decide +kernel
theorem dX3_swapsAside_15 : decode cX3_swapsAside 15 = .ok (.aload_n 0, 1) := by decide +kernel
theorem dX3_swapsAside_16 : decode cX3_swapsAside 16 = .ok (.getfield 7, 3) := by decide +kernel
theorem dX3_swapsAside_19 : decode cX3_swapsAside 19 = .ok (.iload_n 1, 1) := by decide +kernel
theorem dX3_swapsAside_20 : decode cX3_swapsAside 20 = .ok (.aload_n 0, 1) := by decide +kernel
theorem dX3_swapsAside_21 : decode cX3_swapsAside 21 = .ok (.getfield 26, 3) := by decide +kernel
theorem dX3_swapsAside_24 : decode cX3_swapsAside 24 = .ok (.iload_n 1, 1) := by decide +kernel
theorem dX3_swapsAside_25 : decode cX3_swapsAside 25 = .ok (.iaload, 1) := by decide +kernel
theorem dX3_swapsAside_26 : decode cX3_swapsAside 26 = .ok (.iastore, 1) := by decide +kernel
theorem dX3_swapsAside_27 : decode cX3_swapsAside 27 = .ok (.aload_n 0, 1) := by decide +kernel
theorem dX3_swapsAside_28 : decode cX3_swapsAside 28 = .ok (.getfield 26, 3) := by decide +kernel
theorem dX3_swapsAside_31 : decode cX3_swapsAside 31 = .ok (.iload_n 1, 1) := by decide +kernel
theorem dX3_swapsAside_32 : decode cX3_swapsAside 32 = .ok (.iload_n 2, 1) := by decide +kernel
theorem dX3_swapsAside_33 : decode cX3_swapsAside 33 = .ok (.iastore, 1) := by decide +kernel
theorem dX3_swapsAside_34 : decode cX3_swapsAside 34 = .ok (.iinc 1 1, 3) := by decide +kernel
theorem dX3_swapsAside_37 : decode cX3_swapsAside 37 = .ok (.goto (-35), 3) := by decide +kernel
theorem dX3_swapsAside_40 : decode cX3_swapsAside 40 = .ok (.iconst 0, 1) := by decide +kernel
theorem dX3_swapsAside_41 : decode cX3_swapsAside 41 = .ok (.istore_n 1, 1) := by decide +kernel
theorem dX3_swapsAside_42 : decode cX3_swapsAside 42 = .ok (.iload_n 1, 1) := by decide +kernel
theorem dX3_swapsAside_43 : decode cX3_swapsAside 43 = .ok (.bipush 45, 2) := by decide +kernel
theorem dX3_swapsAside_45 : decode cX3_swapsAside 45 = .ok (.if_icmp .ge 35, 3) := by decide +kernel
theorem dX3_swapsAside_48 : decode cX3_swapsAside 48 = .ok (.aload_n 0, 1) := by decide +kernel
theorem dX3_swapsAside_49 : decode cX3_swapsAside 49 = .ok (.getfield 13, 3) := by decide +kernel
theorem dX3_swapsAside_52 : decode cX3_swapsAside 52 = .ok (.iload_n 1, 1) := by decide +kernel
theorem dX3_swapsAside_53 : decode cX3_swapsAside 53 = .ok (.daload, 1) := by decide +kernel
theorem dX3_swapsAside_54 : decode cX3_swapsAside 54 = .ok (.dstore_n 2, 1) := by decide +kernel
theorem dX3_swapsAside_55 : decode cX3_swapsAside 55 = .ok (.aload_n 0, 1) := by decide +kernel
theorem dX3_swapsAside_56 : decode cX3_swapsAside 56 = .ok (.getfield 13, 3) := by decide +kernel
theorem dX3_swapsAside_59 : decode cX3_swapsAside 59 = .ok (.iload_n 1, 1) := by decide +kernel
theorem dX3_swapsAside_60 : decode cX3_swapsAside 60 = .ok (.aload_n 0, 1) := by decide +kernel
theorem dX3_swapsAside_61 : decode cX3_swapsAside 61 = .ok (.getfield 29, 3) := by decide +kernel
theorem dX3_swapsAside_64 : decode cX3_swapsAside 64 = .ok (.iload_n 1, 1) := by decide +kernel
theorem dX3_swapsAside_65 : decode cX3_swapsAside 65 = .ok (.daload, 1) := by decide +kernel
theorem dX3_swapsAside_66 : decode cX3_swapsAside 66 = .ok (.dastore, 1) := by decide +kernel
theorem dX3_swapsAside_67 : decode cX3_swapsAside 67 = .ok (.aload_n 0, 1) := by decide +kernel
theorem dX3_swapsAside_68 : decode cX3_swapsAside 68 = .ok (.getfield 29, 3) := by decide +kernel
theorem dX3_swapsAside_71 : decode cX3_swapsAside 71 = .ok (.iload_n 1, 1) := by decide +kernel
theorem dX3_swapsAside_72 : decode cX3_swapsAside 72 = .ok (.dload_n 2, 1) := by decide +kernel
theorem dX3_swapsAside_73 : decode cX3_swapsAside 73 = .ok (.dastore, 1) := by decide +kernel
theorem dX3_swapsAside_74 : decode cX3_swapsAside 74 = .ok (.iinc 1 1, 3) := by decide +kernel
theorem dX3_swapsAside_77 : decode cX3_swapsAside 77 = .ok (.goto (-35), 3) := by decide +kernel
theorem dX3_swapsAside_80 : decode cX3_swapsAside 80 = .ok (.return_, 1) := by decide +kernel
theorem dX3_toldIs_0 : decode cX3_toldIs 0 = .ok (.iload_n 1, 1) := by decide +kernel
theorem dX3_toldIs_1 : decode cX3_toldIs 1 = .ok (.iconst 3, 1) := by decide +kernel
theorem dX3_toldIs_2 : decode cX3_toldIs 2 = .ok (.if_icmp .ge 10, 3) := by decide +kernel
theorem dX3_toldIs_5 : decode cX3_toldIs 5 = .ok (.aload_n 0, 1) := by decide +kernel
theorem dX3_toldIs_6 : decode cX3_toldIs 6 = .ok (.getfield 32, 3) := by decide +kernel
theorem dX3_toldIs_9 : decode cX3_toldIs 9 = .ok (.iload_n 1, 1) := by decide +kernel
theorem dX3_toldIs_10 : decode cX3_toldIs 10 = .ok (.iaload, 1) := by decide +kernel
theorem dX3_toldIs_11 : decode cX3_toldIs 11 = .ok (.ireturn, 1) := by decide +kernel
theorem dX3_toldIs_12 : decode cX3_toldIs 12 = .ok (.iload_n 1, 1) := by decide +kernel
theorem dX3_toldIs_13 : decode cX3_toldIs 13 = .ok (.iconst 3, 1) := by decide +kernel
theorem dX3_toldIs_14 : decode cX3_toldIs 14 = .ok (.if_icmp .ne 10, 3) := by decide +kernel
theorem dX3_toldIs_17 : decode cX3_toldIs 17 = .ok (.aload_n 0, 1) := by decide +kernel
theorem dX3_toldIs_18 : decode cX3_toldIs 18 = .ok (.getfield 152, 3) := by decide +kernel
theorem dX3_toldIs_21 : decode cX3_toldIs 21 = .ok (.goto 24, 3) := by decide +kernel
theorem dX3_toldIs_24 : decode cX3_toldIs 24 = .ok (.iload_n 1, 1) := by decide +kernel
theorem dX3_toldIs_25 : decode cX3_toldIs 25 = .ok (.bipush 13, 2) := by decide +kernel
theorem dX3_toldIs_27 : decode cX3_toldIs 27 = .ok (.if_icmp .ge 14, 3) := by decide +kernel
theorem dX3_toldIs_30 : decode cX3_toldIs 30 = .ok (.aload_n 0, 1) := by decide +kernel
theorem dX3_toldIs_31 : decode cX3_toldIs 31 = .ok (.getfield 7, 3) := by decide +kernel
theorem dX3_toldIs_34 : decode cX3_toldIs 34 = .ok (.iload_n 1, 1) := by decide +kernel
theorem dX3_toldIs_35 : decode cX3_toldIs 35 = .ok (.iconst 4, 1) := by decide +kernel
theorem dX3_toldIs_36 : decode cX3_toldIs 36 = .ok (.isub, 1) := by decide +kernel
theorem dX3_toldIs_37 : decode cX3_toldIs 37 = .ok (.iaload, 1) := by decide +kernel
theorem dX3_toldIs_38 : decode cX3_toldIs 38 = .ok (.goto 7, 3) := by decide +kernel
theorem dX3_toldIs_41 : decode cX3_toldIs 41 = .ok (.aload_n 0, 1) := by decide +kernel
theorem dX3_toldIs_42 : decode cX3_toldIs 42 = .ok (.getfield 49, 3) := by decide +kernel
theorem dX3_toldIs_45 : decode cX3_toldIs 45 = .ok (.ireturn, 1) := by decide +kernel
theorem dX3_told_0 : decode cX3_told 0 = .ok (.iload_n 1, 1) := by decide +kernel
theorem dX3_told_1 : decode cX3_told 1 = .ok (.iconst 0, 1) := by decide +kernel
theorem dX3_told_2 : decode cX3_told 2 = .ok (.bipush 13, 2) := by decide +kernel
theorem dX3_told_4 : decode cX3_told 4 = .ok (.invokestatic 74, 3) := by decide +kernel
theorem dX3_told_7 : decode cX3_told 7 = .ok (.ifCond .eq 11, 3) := by decide +kernel
theorem dX3_told_10 : decode cX3_told 10 = .ok (.aload_n 0, 1) := by decide +kernel
theorem dX3_told_11 : decode cX3_told 11 = .ok (.iload_n 1, 1) := by decide +kernel
theorem dX3_told_12 : decode cX3_told 12 = .ok (.invokevirtual 188, 3) := by decide +kernel
theorem dX3_told_15 : decode cX3_told 15 = .ok (.goto 9, 3) := by decide +kernel
theorem dX3_told_18 : decode cX3_told 18 = .ok (.aload_n 0, 1) := by decide +kernel
theorem dX3_told_19 : decode cX3_told 19 = .ok (.bipush (-2), 2) := by decide +kernel
theorem dX3_told_21 : decode cX3_told 21 = .ok (.invokevirtual 53, 3) := by decide +kernel
theorem dX3_told_24 : decode cX3_told 24 = .ok (.ireturn, 1) := by decide +kernel
theorem dX3_mix_0 : decode cX3_mix 0 = .ok (.aload_n 0, 1) := by decide +kernel
theorem dX3_mix_1 : decode cX3_mix 1 = .ok (.ldc2_w 191, 3) := by decide +kernel
theorem dX3_mix_4 : decode cX3_mix 4 = .ok (.aload_n 0, 1) := by decide +kernel
theorem dX3_mix_5 : decode cX3_mix 5 = .ok (.getfield 193, 3) := by decide +kernel
theorem dX3_mix_8 : decode cX3_mix 8 = .ok (.lmul, 1) := by decide +kernel
theorem dX3_mix_9 : decode cX3_mix 9 = .ok (.lload_n 1, 1) := by decide +kernel
theorem dX3_mix_10 : decode cX3_mix 10 = .ok (.ladd, 1) := by decide +kernel
theorem dX3_mix_11 : decode cX3_mix 11 = .ok (.putfield 193, 3) := by decide +kernel
theorem dX3_mix_14 : decode cX3_mix 14 = .ok (.return_, 1) := by decide +kernel
theorem dX3_digest_0 : decode cX3_digest 0 = .ok (.aload_n 0, 1) := by decide +kernel
theorem dX3_digest_1 : decode cX3_digest 1 = .ok (.ldc2_w 197, 3) := by decide +kernel
theorem dX3_digest_4 : decode cX3_digest 4 = .ok (.putfield 193, 3) := by decide +kernel
theorem dX3_digest_7 : decode cX3_digest 7 = .ok (.iconst 0, 1) := by decide +kernel
theorem dX3_digest_8 : decode cX3_digest 8 = .ok (.istore_n 1, 1) := by decide +kernel
theorem dX3_digest_9 : decode cX3_digest 9 = .ok (.iload_n 1, 1) := by decide +kernel
theorem dX3_digest_10 : decode cX3_digest 10 = .ok (.bipush 14, 2) := by decide +kernel
theorem dX3_digest_12 : decode cX3_digest 12 = .ok (.if_icmp .ge 19, 3) := by decide +kernel
theorem dX3_digest_15 : decode cX3_digest 15 = .ok (.aload_n 0, 1) := by decide +kernel
theorem dX3_digest_16 : decode cX3_digest 16 = .ok (.aload_n 0, 1) := by decide +kernel
theorem dX3_digest_17 : decode cX3_digest 17 = .ok (.iload_n 1, 1) := by decide +kernel
theorem dX3_digest_18 : decode cX3_digest 18 = .ok (.invokevirtual 188, 3) := by decide +kernel
theorem dX3_digest_21 : decode cX3_digest 21 = .ok (.i2l, 1) := by decide +kernel
theorem dX3_digest_22 : decode cX3_digest 22 = .ok (.invokevirtual 199, 3) := by decide +kernel
theorem dX3_digest_25 : decode cX3_digest 25 = .ok (.iinc 1 1, 3) := by decide +kernel
theorem dX3_digest_28 : decode cX3_digest 28 = .ok (.goto (-19), 3) := by decide +kernel
theorem dX3_digest_31 : decode cX3_digest 31 = .ok (.iconst 0, 1) := by decide +kernel
theorem dX3_digest_32 : decode cX3_digest 32 = .ok (.istore_n 1, 1) := by decide +kernel
theorem dX3_digest_33 : decode cX3_digest 33 = .ok (.iload_n 1, 1) := by decide +kernel
theorem dX3_digest_34 : decode cX3_digest 34 = .ok (.aload_n 0, 1) := by decide +kernel
theorem dX3_digest_35 : decode cX3_digest 35 = .ok (.getfield 7, 3) := by decide +kernel
theorem dX3_digest_38 : decode cX3_digest 38 = .ok (.iconst 0, 1) := by decide +kernel
theorem dX3_digest_39 : decode cX3_digest 39 = .ok (.iaload, 1) := by decide +kernel
theorem dX3_digest_40 : decode cX3_digest 40 = .ok (.if_icmp .gt 59, 3) := by decide +kernel
theorem dX3_digest_43 : decode cX3_digest 43 = .ok (.iconst 0, 1) := by decide +kernel
theorem dX3_digest_44 : decode cX3_digest 44 = .ok (.istore_n 2, 1) := by decide +kernel
theorem dX3_digest_45 : decode cX3_digest 45 = .ok (.iload_n 2, 1) := by decide +kernel
theorem dX3_digest_46 : decode cX3_digest 46 = .ok (.bipush 6, 2) := by decide +kernel
theorem dX3_digest_48 : decode cX3_digest 48 = .ok (.if_icmp .ge 22, 3) := by decide +kernel
theorem dX3_digest_51 : decode cX3_digest 51 = .ok (.aload_n 0, 1) := by decide +kernel
theorem dX3_digest_52 : decode cX3_digest 52 = .ok (.aload_n 0, 1) := by decide +kernel
theorem dX3_digest_53 : decode cX3_digest 53 = .ok (.iload_n 1, 1) := by decide +kernel
theorem dX3_digest_54 : decode cX3_digest 54 = .ok (.iload_n 2, 1) := by decide +kernel
theorem dX3_digest_55 : decode cX3_digest 55 = .ok (.invokevirtual 110, 3) := by decide +kernel
theorem dX3_digest_58 : decode cX3_digest 58 = .ok (.invokestatic 114, 3) := by decide +kernel
theorem dX3_digest_61 : decode cX3_digest 61 = .ok (.invokevirtual 199, 3) := by decide +kernel
theorem dX3_digest_64 : decode cX3_digest 64 = .ok (.iinc 2 1, 3) := by decide +kernel
theorem dX3_digest_67 : decode cX3_digest 67 = .ok (.goto (-22), 3) := by decide +kernel
theorem dX3_digest_70 : decode cX3_digest 70 = .ok (.aload_n 0, 1) := by decide +kernel
theorem dX3_digest_71 : decode cX3_digest 71 = .ok (.aload_n 0, 1) := by decide +kernel
theorem dX3_digest_72 : decode cX3_digest 72 = .ok (.getfield 13, 3) := by decide +kernel
theorem dX3_digest_75 : decode cX3_digest 75 = .ok (.iload_n 1, 1) := by decide +kernel
theorem dX3_digest_76 : decode cX3_digest 76 = .ok (.daload, 1) := by decide +kernel
theorem dX3_digest_77 : decode cX3_digest 77 = .ok (.aload_n 0, 1) := by decide +kernel
theorem dX3_digest_78 : decode cX3_digest 78 = .ok (.getfield 13, 3) := by decide +kernel
theorem dX3_digest_81 : decode cX3_digest 81 = .ok (.bipush 11, 2) := by decide +kernel
theorem dX3_digest_83 : decode cX3_digest 83 = .ok (.iload_n 1, 1) := by decide +kernel
theorem dX3_digest_84 : decode cX3_digest 84 = .ok (.iadd, 1) := by decide +kernel
theorem dX3_digest_85 : decode cX3_digest 85 = .ok (.daload, 1) := by decide +kernel
theorem dX3_digest_86 : decode cX3_digest 86 = .ok (.dadd, 1) := by decide +kernel
theorem dX3_digest_87 : decode cX3_digest 87 = .ok (.invokestatic 134, 3) := by decide +kernel
theorem dX3_digest_90 : decode cX3_digest 90 = .ok (.invokevirtual 199, 3) := by decide +kernel
theorem dX3_digest_93 : decode cX3_digest 93 = .ok (.iinc 1 1, 3) := by decide +kernel
theorem dX3_digest_96 : decode cX3_digest 96 = .ok (.goto (-63), 3) := by decide +kernel
theorem dX3_digest_99 : decode cX3_digest 99 = .ok (.iconst 0, 1) := by decide +kernel
theorem dX3_digest_100 : decode cX3_digest 100 = .ok (.istore_n 1, 1) := by decide +kernel
theorem dX3_digest_101 : decode cX3_digest 101 = .ok (.iload_n 1, 1) := by decide +kernel
theorem dX3_digest_102 : decode cX3_digest 102 = .ok (.iconst 4, 1) := by decide +kernel
theorem dX3_digest_103 : decode cX3_digest 103 = .ok (.if_icmp .ge 21, 3) := by decide +kernel
theorem dX3_digest_106 : decode cX3_digest 106 = .ok (.aload_n 0, 1) := by decide +kernel
theorem dX3_digest_107 : decode cX3_digest 107 = .ok (.aload_n 0, 1) := by decide +kernel
theorem dX3_digest_108 : decode cX3_digest 108 = .ok (.iload_n 1, 1) := by decide +kernel
theorem dX3_digest_109 : decode cX3_digest 109 = .ok (.invokevirtual 130, 3) := by decide +kernel
theorem dX3_digest_112 : decode cX3_digest 112 = .ok (.invokestatic 114, 3) := by decide +kernel
theorem dX3_digest_115 : decode cX3_digest 115 = .ok (.invokevirtual 199, 3) := by decide +kernel
theorem dX3_digest_118 : decode cX3_digest 118 = .ok (.iinc 1 1, 3) := by decide +kernel
theorem dX3_digest_121 : decode cX3_digest 121 = .ok (.goto (-20), 3) := by decide +kernel
theorem dX3_digest_124 : decode cX3_digest 124 = .ok (.aload_n 0, 1) := by decide +kernel
theorem dX3_digest_125 : decode cX3_digest 125 = .ok (.aload_n 0, 1) := by decide +kernel
theorem dX3_digest_126 : decode cX3_digest 126 = .ok (.iconst 2, 1) := by decide +kernel
theorem dX3_digest_127 : decode cX3_digest 127 = .ok (.aload_n 0, 1) := by decide +kernel
theorem dX3_digest_128 : decode cX3_digest 128 = .ok (.getfield 7, 3) := by decide +kernel
theorem dX3_digest_131 : decode cX3_digest 131 = .ok (.bipush 7, 2) := by decide +kernel
theorem dX3_digest_133 : decode cX3_digest 133 = .ok (.iaload, 1) := by decide +kernel
theorem dX3_digest_134 : decode cX3_digest 134 = .ok (.bipush 20, 2) := by decide +kernel
theorem dX3_digest_136 : decode cX3_digest 136 = .ok (.invokevirtual 145, 3) := by decide +kernel
theorem dX3_digest_139 : decode cX3_digest 139 = .ok (.invokestatic 114, 3) := by decide +kernel
theorem dX3_digest_142 : decode cX3_digest 142 = .ok (.invokevirtual 199, 3) := by decide +kernel
theorem dX3_digest_145 : decode cX3_digest 145 = .ok (.aload_n 0, 1) := by decide +kernel
theorem dX3_digest_146 : decode cX3_digest 146 = .ok (.getfield 193, 3) := by decide +kernel
theorem dX3_digest_149 : decode cX3_digest 149 = .ok (.lreturn, 1) := by decide +kernel
theorem dL_law_0 : decode cL_law 0 = .ok (.new 7, 3) := by decide +kernel
theorem dL_law_3 : decode cL_law 3 = .ok (.dup, 1) := by decide +kernel
theorem dL_law_4 : decode cL_law 4 = .ok (.invokespecial 9, 3) := by decide +kernel
theorem dL_law_7 : decode cL_law 7 = .ok (.astore_n 1, 1) := by decide +kernel
theorem dL_law_8 : decode cL_law 8 = .ok (.new 10, 3) := by decide +kernel
theorem dL_law_11 : decode cL_law 11 = .ok (.dup, 1) := by decide +kernel
theorem dL_law_12 : decode cL_law 12 = .ok (.invokespecial 12, 3) := by decide +kernel
theorem dL_law_15 : decode cL_law 15 = .ok (.astore_n 2, 1) := by decide +kernel
theorem dL_law_16 : decode cL_law 16 = .ok (.iconst 0, 1) := by decide +kernel
theorem dL_law_17 : decode cL_law 17 = .ok (.istore_n 3, 1) := by decide +kernel
theorem dL_law_18 : decode cL_law 18 = .ok (.iload_n 3, 1) := by decide +kernel
theorem dL_law_19 : decode cL_law 19 = .ok (.aload_n 0, 1) := by decide +kernel
theorem dL_law_20 : decode cL_law 20 = .ok (.arraylength, 1) := by decide +kernel
theorem dL_law_21 : decode cL_law 21 = .ok (.iconst 4, 1) := by decide +kernel
theorem dL_law_22 : decode cL_law 22 = .ok (.isub, 1) := by decide +kernel
theorem dL_law_23 : decode cL_law 23 = .ok (.if_icmp .gt 620, 3) := by decide +kernel
theorem dL_law_26 : decode cL_law 26 = .ok (.aload_n 0, 1) := by decide +kernel
theorem dL_law_27 : decode cL_law 27 = .ok (.iload_n 3, 1) := by decide +kernel
theorem dL_law_28 : decode cL_law 28 = .ok (.iaload, 1) := by decide +kernel
theorem dL_law_29 : decode cL_law 29 = .ok (.bipush 31, 2) := by decide +kernel
theorem dL_law_31 : decode cL_law 31 = .ok (.iand, 1) := by decide +kernel
theorem dL_law_32 : decode cL_law 32 = .ok (.tableswitch 605 0 18 #[92, 115, 148, 181, 214, 227, 250, 284, 308, 332, 376, 420, 463, 506, 529, 542, 555, 568, 591], 92) := by decide +kernel
theorem dL_law_124 : decode cL_law 124 = .ok (.aload_n 1, 1) := by decide +kernel
theorem dL_law_125 : decode cL_law 125 = .ok (.aload_n 0, 1) := by decide +kernel
theorem dL_law_126 : decode cL_law 126 = .ok (.iload_n 3, 1) := by decide +kernel
theorem dL_law_127 : decode cL_law 127 = .ok (.iconst 1, 1) := by decide +kernel
theorem dL_law_128 : decode cL_law 128 = .ok (.iadd, 1) := by decide +kernel
theorem dL_law_129 : decode cL_law 129 = .ok (.iaload, 1) := by decide +kernel
theorem dL_law_130 : decode cL_law 130 = .ok (.invokevirtual 13, 3) := by decide +kernel
theorem dL_law_133 : decode cL_law 133 = .ok (.aload_n 2, 1) := by decide +kernel
theorem dL_law_134 : decode cL_law 134 = .ok (.aload_n 0, 1) := by decide +kernel
theorem dL_law_135 : decode cL_law 135 = .ok (.iload_n 3, 1) := by decide +kernel
theorem dL_law_136 : decode cL_law 136 = .ok (.iconst 1, 1) := by decide +kernel
theorem dL_law_137 : decode cL_law 137 = .ok (.iadd, 1) := by decide +kernel
theorem dL_law_138 : decode cL_law 138 = .ok (.iaload, 1) := by decide +kernel
theorem dL_law_139 : decode cL_law 139 = .ok (.invokevirtual 17, 3) := by decide +kernel
theorem dL_law_142 : decode cL_law 142 = .ok (.if_icmp .eq 495, 3) := by decide +kernel
theorem dL_law_145 : decode cL_law 145 = .ok (.iconst 0, 1) := by decide +kernel
theorem dL_law_146 : decode cL_law 146 = .ok (.ireturn, 1) := by decide +kernel
theorem dL_law_147 : decode cL_law 147 = .ok (.aload_n 1, 1) := by decide +kernel
theorem dL_law_148 : decode cL_law 148 = .ok (.aload_n 0, 1) := by decide +kernel
theorem dL_law_149 : decode cL_law 149 = .ok (.iload_n 3, 1) := by decide +kernel
theorem dL_law_150 : decode cL_law 150 = .ok (.iconst 1, 1) := by decide +kernel
theorem dL_law_151 : decode cL_law 151 = .ok (.iadd, 1) := by decide +kernel
theorem dL_law_152 : decode cL_law 152 = .ok (.iaload, 1) := by decide +kernel
theorem dL_law_153 : decode cL_law 153 = .ok (.aload_n 0, 1) := by decide +kernel
theorem dL_law_154 : decode cL_law 154 = .ok (.iload_n 3, 1) := by decide +kernel
theorem dL_law_155 : decode cL_law 155 = .ok (.iconst 2, 1) := by decide +kernel
theorem dL_law_156 : decode cL_law 156 = .ok (.iadd, 1) := by decide +kernel
theorem dL_law_157 : decode cL_law 157 = .ok (.iaload, 1) := by decide +kernel
theorem dL_law_158 : decode cL_law 158 = .ok (.invokevirtual 18, 3) := by decide +kernel
theorem dL_law_161 : decode cL_law 161 = .ok (.aload_n 2, 1) := by decide +kernel
theorem dL_law_162 : decode cL_law 162 = .ok (.aload_n 0, 1) := by decide +kernel
theorem dL_law_163 : decode cL_law 163 = .ok (.iload_n 3, 1) := by decide +kernel
theorem dL_law_164 : decode cL_law 164 = .ok (.iconst 1, 1) := by decide +kernel
theorem dL_law_165 : decode cL_law 165 = .ok (.iadd, 1) := by decide +kernel
theorem dL_law_166 : decode cL_law 166 = .ok (.iaload, 1) := by decide +kernel
theorem dL_law_167 : decode cL_law 167 = .ok (.aload_n 0, 1) := by decide +kernel
theorem dL_law_168 : decode cL_law 168 = .ok (.iload_n 3, 1) := by decide +kernel
theorem dL_law_169 : decode cL_law 169 = .ok (.iconst 2, 1) := by decide +kernel
theorem dL_law_170 : decode cL_law 170 = .ok (.iadd, 1) := by decide +kernel
theorem dL_law_171 : decode cL_law 171 = .ok (.iaload, 1) := by decide +kernel
theorem dL_law_172 : decode cL_law 172 = .ok (.invokevirtual 22, 3) := by decide +kernel
theorem dL_law_175 : decode cL_law 175 = .ok (.if_icmp .eq 462, 3) := by decide +kernel
theorem dL_law_178 : decode cL_law 178 = .ok (.iconst 0, 1) := by decide +kernel
theorem dL_law_179 : decode cL_law 179 = .ok (.ireturn, 1) := by decide +kernel
theorem dL_law_180 : decode cL_law 180 = .ok (.aload_n 1, 1) := by decide +kernel
theorem dL_law_181 : decode cL_law 181 = .ok (.aload_n 0, 1) := by decide +kernel
theorem dL_law_182 : decode cL_law 182 = .ok (.iload_n 3, 1) := by decide +kernel
theorem dL_law_183 : decode cL_law 183 = .ok (.iconst 1, 1) := by decide +kernel
theorem dL_law_184 : decode cL_law 184 = .ok (.iadd, 1) := by decide +kernel
theorem dL_law_185 : decode cL_law 185 = .ok (.iaload, 1) := by decide +kernel
theorem dL_law_186 : decode cL_law 186 = .ok (.aload_n 0, 1) := by decide +kernel
theorem dL_law_187 : decode cL_law 187 = .ok (.iload_n 3, 1) := by decide +kernel
theorem dL_law_188 : decode cL_law 188 = .ok (.iconst 2, 1) := by decide +kernel
theorem dL_law_189 : decode cL_law 189 = .ok (.iadd, 1) := by decide +kernel
theorem dL_law_190 : decode cL_law 190 = .ok (.iaload, 1) := by decide +kernel
theorem dL_law_191 : decode cL_law 191 = .ok (.invokevirtual 23, 3) := by decide +kernel
theorem dL_law_194 : decode cL_law 194 = .ok (.aload_n 2, 1) := by decide +kernel
theorem dL_law_195 : decode cL_law 195 = .ok (.aload_n 0, 1) := by decide +kernel
theorem dL_law_196 : decode cL_law 196 = .ok (.iload_n 3, 1) := by decide +kernel
theorem dL_law_197 : decode cL_law 197 = .ok (.iconst 1, 1) := by decide +kernel
theorem dL_law_198 : decode cL_law 198 = .ok (.iadd, 1) := by decide +kernel
theorem dL_law_199 : decode cL_law 199 = .ok (.iaload, 1) := by decide +kernel
theorem dL_law_200 : decode cL_law 200 = .ok (.aload_n 0, 1) := by decide +kernel
theorem dL_law_201 : decode cL_law 201 = .ok (.iload_n 3, 1) := by decide +kernel
theorem dL_law_202 : decode cL_law 202 = .ok (.iconst 2, 1) := by decide +kernel
theorem dL_law_203 : decode cL_law 203 = .ok (.iadd, 1) := by decide +kernel
theorem dL_law_204 : decode cL_law 204 = .ok (.iaload, 1) := by decide +kernel
theorem dL_law_205 : decode cL_law 205 = .ok (.invokevirtual 26, 3) := by decide +kernel
theorem dL_law_208 : decode cL_law 208 = .ok (.if_icmp .eq 429, 3) := by decide +kernel
theorem dL_law_211 : decode cL_law 211 = .ok (.iconst 0, 1) := by decide +kernel
theorem dL_law_212 : decode cL_law 212 = .ok (.ireturn, 1) := by decide +kernel
theorem dL_law_213 : decode cL_law 213 = .ok (.aload_n 1, 1) := by decide +kernel
theorem dL_law_214 : decode cL_law 214 = .ok (.aload_n 0, 1) := by decide +kernel
theorem dL_law_215 : decode cL_law 215 = .ok (.iload_n 3, 1) := by decide +kernel
theorem dL_law_216 : decode cL_law 216 = .ok (.iconst 1, 1) := by decide +kernel
theorem dL_law_217 : decode cL_law 217 = .ok (.iadd, 1) := by decide +kernel
theorem dL_law_218 : decode cL_law 218 = .ok (.iaload, 1) := by decide +kernel
theorem dL_law_219 : decode cL_law 219 = .ok (.aload_n 0, 1) := by decide +kernel
theorem dL_law_220 : decode cL_law 220 = .ok (.iload_n 3, 1) := by decide +kernel
theorem dL_law_221 : decode cL_law 221 = .ok (.iconst 2, 1) := by decide +kernel
theorem dL_law_222 : decode cL_law 222 = .ok (.iadd, 1) := by decide +kernel
theorem dL_law_223 : decode cL_law 223 = .ok (.iaload, 1) := by decide +kernel
theorem dL_law_224 : decode cL_law 224 = .ok (.invokevirtual 27, 3) := by decide +kernel
theorem dL_law_227 : decode cL_law 227 = .ok (.aload_n 2, 1) := by decide +kernel
theorem dL_law_228 : decode cL_law 228 = .ok (.aload_n 0, 1) := by decide +kernel
theorem dL_law_229 : decode cL_law 229 = .ok (.iload_n 3, 1) := by decide +kernel
theorem dL_law_230 : decode cL_law 230 = .ok (.iconst 1, 1) := by decide +kernel
theorem dL_law_231 : decode cL_law 231 = .ok (.iadd, 1) := by decide +kernel
theorem dL_law_232 : decode cL_law 232 = .ok (.iaload, 1) := by decide +kernel
theorem dL_law_233 : decode cL_law 233 = .ok (.aload_n 0, 1) := by decide +kernel
theorem dL_law_234 : decode cL_law 234 = .ok (.iload_n 3, 1) := by decide +kernel
theorem dL_law_235 : decode cL_law 235 = .ok (.iconst 2, 1) := by decide +kernel
theorem dL_law_236 : decode cL_law 236 = .ok (.iadd, 1) := by decide +kernel
theorem dL_law_237 : decode cL_law 237 = .ok (.iaload, 1) := by decide +kernel
theorem dL_law_238 : decode cL_law 238 = .ok (.invokevirtual 30, 3) := by decide +kernel
theorem dL_law_241 : decode cL_law 241 = .ok (.if_icmp .eq 396, 3) := by decide +kernel
theorem dL_law_244 : decode cL_law 244 = .ok (.iconst 0, 1) := by decide +kernel
theorem dL_law_245 : decode cL_law 245 = .ok (.ireturn, 1) := by decide +kernel
theorem dL_law_246 : decode cL_law 246 = .ok (.aload_n 1, 1) := by decide +kernel
theorem dL_law_247 : decode cL_law 247 = .ok (.invokevirtual 31, 3) := by decide +kernel
theorem dL_law_250 : decode cL_law 250 = .ok (.aload_n 2, 1) := by decide +kernel
theorem dL_law_251 : decode cL_law 251 = .ok (.invokevirtual 35, 3) := by decide +kernel
theorem dL_law_254 : decode cL_law 254 = .ok (.if_icmp .eq 383, 3) := by decide +kernel
theorem dL_law_257 : decode cL_law 257 = .ok (.iconst 0, 1) := by decide +kernel
theorem dL_law_258 : decode cL_law 258 = .ok (.ireturn, 1) := by decide +kernel
theorem dL_law_259 : decode cL_law 259 = .ok (.aload_n 1, 1) := by decide +kernel
theorem dL_law_260 : decode cL_law 260 = .ok (.aload_n 0, 1) := by decide +kernel
theorem dL_law_261 : decode cL_law 261 = .ok (.iload_n 3, 1) := by decide +kernel
theorem dL_law_262 : decode cL_law 262 = .ok (.iconst 1, 1) := by decide +kernel
theorem dL_law_263 : decode cL_law 263 = .ok (.iadd, 1) := by decide +kernel
theorem dL_law_264 : decode cL_law 264 = .ok (.iaload, 1) := by decide +kernel
theorem dL_law_265 : decode cL_law 265 = .ok (.invokevirtual 36, 3) := by decide +kernel
theorem dL_law_268 : decode cL_law 268 = .ok (.aload_n 2, 1) := by decide +kernel
theorem dL_law_269 : decode cL_law 269 = .ok (.aload_n 0, 1) := by decide +kernel
theorem dL_law_270 : decode cL_law 270 = .ok (.iload_n 3, 1) := by decide +kernel
theorem dL_law_271 : decode cL_law 271 = .ok (.iconst 1, 1) := by decide +kernel
theorem dL_law_272 : decode cL_law 272 = .ok (.iadd, 1) := by decide +kernel
theorem dL_law_273 : decode cL_law 273 = .ok (.iaload, 1) := by decide +kernel
theorem dL_law_274 : decode cL_law 274 = .ok (.invokevirtual 39, 3) := by decide +kernel
theorem dL_law_277 : decode cL_law 277 = .ok (.if_icmp .eq 360, 3) := by decide +kernel
theorem dL_law_280 : decode cL_law 280 = .ok (.iconst 0, 1) := by decide +kernel
theorem dL_law_281 : decode cL_law 281 = .ok (.ireturn, 1) := by decide +kernel
theorem dL_law_282 : decode cL_law 282 = .ok (.aload_n 1, 1) := by decide +kernel
theorem dL_law_283 : decode cL_law 283 = .ok (.aload_n 0, 1) := by decide +kernel
theorem dL_law_284 : decode cL_law 284 = .ok (.iload_n 3, 1) := by decide +kernel
theorem dL_law_285 : decode cL_law 285 = .ok (.iconst 1, 1) := by decide +kernel
theorem dL_law_286 : decode cL_law 286 = .ok (.iadd, 1) := by decide +kernel
theorem dL_law_287 : decode cL_law 287 = .ok (.iaload, 1) := by decide +kernel
theorem dL_law_288 : decode cL_law 288 = .ok (.aload_n 0, 1) := by decide +kernel
theorem dL_law_289 : decode cL_law 289 = .ok (.iload_n 3, 1) := by decide +kernel
theorem dL_law_290 : decode cL_law 290 = .ok (.iconst 2, 1) := by decide +kernel
theorem dL_law_291 : decode cL_law 291 = .ok (.iadd, 1) := by decide +kernel
theorem dL_law_292 : decode cL_law 292 = .ok (.iaload, 1) := by decide +kernel
theorem dL_law_293 : decode cL_law 293 = .ok (.invokevirtual 40, 3) := by decide +kernel
theorem dL_law_296 : decode cL_law 296 = .ok (.aload_n 2, 1) := by decide +kernel
theorem dL_law_297 : decode cL_law 297 = .ok (.aload_n 0, 1) := by decide +kernel
theorem dL_law_298 : decode cL_law 298 = .ok (.iload_n 3, 1) := by decide +kernel
theorem dL_law_299 : decode cL_law 299 = .ok (.iconst 1, 1) := by decide +kernel
theorem dL_law_300 : decode cL_law 300 = .ok (.iadd, 1) := by decide +kernel
theorem dL_law_301 : decode cL_law 301 = .ok (.iaload, 1) := by decide +kernel
theorem dL_law_302 : decode cL_law 302 = .ok (.aload_n 0, 1) := by decide +kernel
theorem dL_law_303 : decode cL_law 303 = .ok (.iload_n 3, 1) := by decide +kernel
theorem dL_law_304 : decode cL_law 304 = .ok (.iconst 2, 1) := by decide +kernel
theorem dL_law_305 : decode cL_law 305 = .ok (.iadd, 1) := by decide +kernel
theorem dL_law_306 : decode cL_law 306 = .ok (.iaload, 1) := by decide +kernel
theorem dL_law_307 : decode cL_law 307 = .ok (.invokevirtual 44, 3) := by decide +kernel
theorem dL_law_310 : decode cL_law 310 = .ok (.lcmp, 1) := by decide +kernel
theorem dL_law_311 : decode cL_law 311 = .ok (.ifCond .eq 326, 3) := by decide +kernel
theorem dL_law_314 : decode cL_law 314 = .ok (.iconst 0, 1) := by decide +kernel
theorem dL_law_315 : decode cL_law 315 = .ok (.ireturn, 1) := by decide +kernel
theorem dL_law_316 : decode cL_law 316 = .ok (.aload_n 1, 1) := by decide +kernel
theorem dL_law_317 : decode cL_law 317 = .ok (.aload_n 0, 1) := by decide +kernel
theorem dL_law_318 : decode cL_law 318 = .ok (.iload_n 3, 1) := by decide +kernel
theorem dL_law_319 : decode cL_law 319 = .ok (.iconst 1, 1) := by decide +kernel
theorem dL_law_320 : decode cL_law 320 = .ok (.iadd, 1) := by decide +kernel
theorem dL_law_321 : decode cL_law 321 = .ok (.iaload, 1) := by decide +kernel
theorem dL_law_322 : decode cL_law 322 = .ok (.invokevirtual 45, 3) := by decide +kernel
theorem dL_law_325 : decode cL_law 325 = .ok (.aload_n 2, 1) := by decide +kernel
theorem dL_law_326 : decode cL_law 326 = .ok (.aload_n 0, 1) := by decide +kernel
theorem dL_law_327 : decode cL_law 327 = .ok (.iload_n 3, 1) := by decide +kernel
theorem dL_law_328 : decode cL_law 328 = .ok (.iconst 1, 1) := by decide +kernel
theorem dL_law_329 : decode cL_law 329 = .ok (.iadd, 1) := by decide +kernel
theorem dL_law_330 : decode cL_law 330 = .ok (.iaload, 1) := by decide +kernel
theorem dL_law_331 : decode cL_law 331 = .ok (.invokevirtual 49, 3) := by decide +kernel
theorem dL_law_334 : decode cL_law 334 = .ok (.lcmp, 1) := by decide +kernel
theorem dL_law_335 : decode cL_law 335 = .ok (.ifCond .eq 302, 3) := by decide +kernel
theorem dL_law_338 : decode cL_law 338 = .ok (.iconst 0, 1) := by decide +kernel
theorem dL_law_339 : decode cL_law 339 = .ok (.ireturn, 1) := by decide +kernel
theorem dL_law_340 : decode cL_law 340 = .ok (.aload_n 1, 1) := by decide +kernel
theorem dL_law_341 : decode cL_law 341 = .ok (.aload_n 0, 1) := by decide +kernel
theorem dL_law_342 : decode cL_law 342 = .ok (.iload_n 3, 1) := by decide +kernel
theorem dL_law_343 : decode cL_law 343 = .ok (.iconst 1, 1) := by decide +kernel
theorem dL_law_344 : decode cL_law 344 = .ok (.iadd, 1) := by decide +kernel
theorem dL_law_345 : decode cL_law 345 = .ok (.iaload, 1) := by decide +kernel
theorem dL_law_346 : decode cL_law 346 = .ok (.invokevirtual 50, 3) := by decide +kernel
theorem dL_law_349 : decode cL_law 349 = .ok (.aload_n 2, 1) := by decide +kernel
theorem dL_law_350 : decode cL_law 350 = .ok (.aload_n 0, 1) := by decide +kernel
theorem dL_law_351 : decode cL_law 351 = .ok (.iload_n 3, 1) := by decide +kernel
theorem dL_law_352 : decode cL_law 352 = .ok (.iconst 1, 1) := by decide +kernel
theorem dL_law_353 : decode cL_law 353 = .ok (.iadd, 1) := by decide +kernel
theorem dL_law_354 : decode cL_law 354 = .ok (.iaload, 1) := by decide +kernel
theorem dL_law_355 : decode cL_law 355 = .ok (.invokevirtual 53, 3) := by decide +kernel
theorem dL_law_358 : decode cL_law 358 = .ok (.lcmp, 1) := by decide +kernel
theorem dL_law_359 : decode cL_law 359 = .ok (.ifCond .eq 278, 3) := by decide +kernel
theorem dL_law_362 : decode cL_law 362 = .ok (.iconst 0, 1) := by decide +kernel
theorem dL_law_363 : decode cL_law 363 = .ok (.ireturn, 1) := by decide +kernel
theorem dL_law_364 : decode cL_law 364 = .ok (.aload_n 1, 1) := by decide +kernel
theorem dL_law_365 : decode cL_law 365 = .ok (.aload_n 0, 1) := by decide +kernel
theorem dL_law_366 : decode cL_law 366 = .ok (.iload_n 3, 1) := by decide +kernel
theorem dL_law_367 : decode cL_law 367 = .ok (.iconst 1, 1) := by decide +kernel
theorem dL_law_368 : decode cL_law 368 = .ok (.iadd, 1) := by decide +kernel
theorem dL_law_369 : decode cL_law 369 = .ok (.iaload, 1) := by decide +kernel
theorem dL_law_370 : decode cL_law 370 = .ok (.aload_n 0, 1) := by decide +kernel
theorem dL_law_371 : decode cL_law 371 = .ok (.iload_n 3, 1) := by decide +kernel
theorem dL_law_372 : decode cL_law 372 = .ok (.iconst 2, 1) := by decide +kernel
theorem dL_law_373 : decode cL_law 373 = .ok (.iadd, 1) := by decide +kernel
theorem dL_law_374 : decode cL_law 374 = .ok (.iaload, 1) := by decide +kernel
theorem dL_law_375 : decode cL_law 375 = .ok (.aload_n 0, 1) := by decide +kernel
theorem dL_law_376 : decode cL_law 376 = .ok (.iload_n 3, 1) := by decide +kernel
theorem dL_law_377 : decode cL_law 377 = .ok (.iconst 3, 1) := by decide +kernel
theorem dL_law_378 : decode cL_law 378 = .ok (.iadd, 1) := by decide +kernel
theorem dL_law_379 : decode cL_law 379 = .ok (.iaload, 1) := by decide +kernel
theorem dL_law_380 : decode cL_law 380 = .ok (.invokevirtual 54, 3) := by decide +kernel
theorem dL_law_383 : decode cL_law 383 = .ok (.aload_n 2, 1) := by decide +kernel
theorem dL_law_384 : decode cL_law 384 = .ok (.aload_n 0, 1) := by decide +kernel
theorem dL_law_385 : decode cL_law 385 = .ok (.iload_n 3, 1) := by decide +kernel
theorem dL_law_386 : decode cL_law 386 = .ok (.iconst 1, 1) := by decide +kernel
theorem dL_law_387 : decode cL_law 387 = .ok (.iadd, 1) := by decide +kernel
theorem dL_law_388 : decode cL_law 388 = .ok (.iaload, 1) := by decide +kernel
theorem dL_law_389 : decode cL_law 389 = .ok (.aload_n 0, 1) := by decide +kernel
theorem dL_law_390 : decode cL_law 390 = .ok (.iload_n 3, 1) := by decide +kernel
theorem dL_law_391 : decode cL_law 391 = .ok (.iconst 2, 1) := by decide +kernel
theorem dL_law_392 : decode cL_law 392 = .ok (.iadd, 1) := by decide +kernel
theorem dL_law_393 : decode cL_law 393 = .ok (.iaload, 1) := by decide +kernel
theorem dL_law_394 : decode cL_law 394 = .ok (.aload_n 0, 1) := by decide +kernel
theorem dL_law_395 : decode cL_law 395 = .ok (.iload_n 3, 1) := by decide +kernel
theorem dL_law_396 : decode cL_law 396 = .ok (.iconst 3, 1) := by decide +kernel
theorem dL_law_397 : decode cL_law 397 = .ok (.iadd, 1) := by decide +kernel
theorem dL_law_398 : decode cL_law 398 = .ok (.iaload, 1) := by decide +kernel
theorem dL_law_399 : decode cL_law 399 = .ok (.invokevirtual 58, 3) := by decide +kernel
theorem dL_law_402 : decode cL_law 402 = .ok (.lcmp, 1) := by decide +kernel
theorem dL_law_403 : decode cL_law 403 = .ok (.ifCond .eq 234, 3) := by decide +kernel
theorem dL_law_406 : decode cL_law 406 = .ok (.iconst 0, 1) := by decide +kernel
theorem dL_law_407 : decode cL_law 407 = .ok (.ireturn, 1) := by decide +kernel
theorem dL_law_408 : decode cL_law 408 = .ok (.aload_n 1, 1) := by decide +kernel
theorem dL_law_409 : decode cL_law 409 = .ok (.aload_n 0, 1) := by decide +kernel
theorem dL_law_410 : decode cL_law 410 = .ok (.iload_n 3, 1) := by decide +kernel
theorem dL_law_411 : decode cL_law 411 = .ok (.iconst 1, 1) := by decide +kernel
theorem dL_law_412 : decode cL_law 412 = .ok (.iadd, 1) := by decide +kernel
theorem dL_law_413 : decode cL_law 413 = .ok (.iaload, 1) := by decide +kernel
theorem dL_law_414 : decode cL_law 414 = .ok (.aload_n 0, 1) := by decide +kernel
theorem dL_law_415 : decode cL_law 415 = .ok (.iload_n 3, 1) := by decide +kernel
theorem dL_law_416 : decode cL_law 416 = .ok (.iconst 2, 1) := by decide +kernel
theorem dL_law_417 : decode cL_law 417 = .ok (.iadd, 1) := by decide +kernel
theorem dL_law_418 : decode cL_law 418 = .ok (.iaload, 1) := by decide +kernel
theorem dL_law_419 : decode cL_law 419 = .ok (.aload_n 0, 1) := by decide +kernel
theorem dL_law_420 : decode cL_law 420 = .ok (.iload_n 3, 1) := by decide +kernel
theorem dL_law_421 : decode cL_law 421 = .ok (.iconst 3, 1) := by decide +kernel
theorem dL_law_422 : decode cL_law 422 = .ok (.iadd, 1) := by decide +kernel
theorem dL_law_423 : decode cL_law 423 = .ok (.iaload, 1) := by decide +kernel
theorem dL_law_424 : decode cL_law 424 = .ok (.invokevirtual 59, 3) := by decide +kernel
theorem dL_law_427 : decode cL_law 427 = .ok (.aload_n 2, 1) := by decide +kernel
theorem dL_law_428 : decode cL_law 428 = .ok (.aload_n 0, 1) := by decide +kernel
theorem dL_law_429 : decode cL_law 429 = .ok (.iload_n 3, 1) := by decide +kernel
theorem dL_law_430 : decode cL_law 430 = .ok (.iconst 1, 1) := by decide +kernel
theorem dL_law_431 : decode cL_law 431 = .ok (.iadd, 1) := by decide +kernel
theorem dL_law_432 : decode cL_law 432 = .ok (.iaload, 1) := by decide +kernel
theorem dL_law_433 : decode cL_law 433 = .ok (.aload_n 0, 1) := by decide +kernel
theorem dL_law_434 : decode cL_law 434 = .ok (.iload_n 3, 1) := by decide +kernel
theorem dL_law_435 : decode cL_law 435 = .ok (.iconst 2, 1) := by decide +kernel
theorem dL_law_436 : decode cL_law 436 = .ok (.iadd, 1) := by decide +kernel
theorem dL_law_437 : decode cL_law 437 = .ok (.iaload, 1) := by decide +kernel
theorem dL_law_438 : decode cL_law 438 = .ok (.aload_n 0, 1) := by decide +kernel
theorem dL_law_439 : decode cL_law 439 = .ok (.iload_n 3, 1) := by decide +kernel
theorem dL_law_440 : decode cL_law 440 = .ok (.iconst 3, 1) := by decide +kernel
theorem dL_law_441 : decode cL_law 441 = .ok (.iadd, 1) := by decide +kernel
theorem dL_law_442 : decode cL_law 442 = .ok (.iaload, 1) := by decide +kernel
theorem dL_law_443 : decode cL_law 443 = .ok (.invokevirtual 62, 3) := by decide +kernel
theorem dL_law_446 : decode cL_law 446 = .ok (.lcmp, 1) := by decide +kernel
theorem dL_law_447 : decode cL_law 447 = .ok (.ifCond .eq 190, 3) := by decide +kernel
theorem dL_law_450 : decode cL_law 450 = .ok (.iconst 0, 1) := by decide +kernel
theorem dL_law_451 : decode cL_law 451 = .ok (.ireturn, 1) := by decide +kernel
theorem dL_law_452 : decode cL_law 452 = .ok (.aload_n 1, 1) := by decide +kernel
theorem dL_law_453 : decode cL_law 453 = .ok (.aload_n 0, 1) := by decide +kernel
theorem dL_law_454 : decode cL_law 454 = .ok (.iload_n 3, 1) := by decide +kernel
theorem dL_law_455 : decode cL_law 455 = .ok (.iconst 1, 1) := by decide +kernel
theorem dL_law_456 : decode cL_law 456 = .ok (.iadd, 1) := by decide +kernel
theorem dL_law_457 : decode cL_law 457 = .ok (.iaload, 1) := by decide +kernel
theorem dL_law_458 : decode cL_law 458 = .ok (.aload_n 0, 1) := by decide +kernel
theorem dL_law_459 : decode cL_law 459 = .ok (.iload_n 3, 1) := by decide +kernel
theorem dL_law_460 : decode cL_law 460 = .ok (.iconst 2, 1) := by decide +kernel
theorem dL_law_461 : decode cL_law 461 = .ok (.iadd, 1) := by decide +kernel
theorem dL_law_462 : decode cL_law 462 = .ok (.iaload, 1) := by decide +kernel
theorem dL_law_463 : decode cL_law 463 = .ok (.aload_n 0, 1) := by decide +kernel
theorem dL_law_464 : decode cL_law 464 = .ok (.iload_n 3, 1) := by decide +kernel
theorem dL_law_465 : decode cL_law 465 = .ok (.iconst 3, 1) := by decide +kernel
theorem dL_law_466 : decode cL_law 466 = .ok (.iadd, 1) := by decide +kernel
theorem dL_law_467 : decode cL_law 467 = .ok (.iaload, 1) := by decide +kernel
theorem dL_law_468 : decode cL_law 468 = .ok (.invokevirtual 63, 3) := by decide +kernel
theorem dL_law_471 : decode cL_law 471 = .ok (.aload_n 2, 1) := by decide +kernel
theorem dL_law_472 : decode cL_law 472 = .ok (.aload_n 0, 1) := by decide +kernel
theorem dL_law_473 : decode cL_law 473 = .ok (.iload_n 3, 1) := by decide +kernel
theorem dL_law_474 : decode cL_law 474 = .ok (.iconst 1, 1) := by decide +kernel
theorem dL_law_475 : decode cL_law 475 = .ok (.iadd, 1) := by decide +kernel
theorem dL_law_476 : decode cL_law 476 = .ok (.iaload, 1) := by decide +kernel
theorem dL_law_477 : decode cL_law 477 = .ok (.aload_n 0, 1) := by decide +kernel
theorem dL_law_478 : decode cL_law 478 = .ok (.iload_n 3, 1) := by decide +kernel
theorem dL_law_479 : decode cL_law 479 = .ok (.iconst 2, 1) := by decide +kernel
theorem dL_law_480 : decode cL_law 480 = .ok (.iadd, 1) := by decide +kernel
theorem dL_law_481 : decode cL_law 481 = .ok (.iaload, 1) := by decide +kernel
theorem dL_law_482 : decode cL_law 482 = .ok (.aload_n 0, 1) := by decide +kernel
theorem dL_law_483 : decode cL_law 483 = .ok (.iload_n 3, 1) := by decide +kernel
theorem dL_law_484 : decode cL_law 484 = .ok (.iconst 3, 1) := by decide +kernel
theorem dL_law_485 : decode cL_law 485 = .ok (.iadd, 1) := by decide +kernel
theorem dL_law_486 : decode cL_law 486 = .ok (.iaload, 1) := by decide +kernel
theorem dL_law_487 : decode cL_law 487 = .ok (.invokevirtual 67, 3) := by decide +kernel
theorem dL_law_490 : decode cL_law 490 = .ok (.if_icmp .eq 147, 3) := by decide +kernel
theorem dL_law_493 : decode cL_law 493 = .ok (.iconst 0, 1) := by decide +kernel
theorem dL_law_494 : decode cL_law 494 = .ok (.ireturn, 1) := by decide +kernel
theorem dL_law_495 : decode cL_law 495 = .ok (.aload_n 1, 1) := by decide +kernel
theorem dL_law_496 : decode cL_law 496 = .ok (.aload_n 0, 1) := by decide +kernel
theorem dL_law_497 : decode cL_law 497 = .ok (.iload_n 3, 1) := by decide +kernel
theorem dL_law_498 : decode cL_law 498 = .ok (.iconst 1, 1) := by decide +kernel
theorem dL_law_499 : decode cL_law 499 = .ok (.iadd, 1) := by decide +kernel
theorem dL_law_500 : decode cL_law 500 = .ok (.iaload, 1) := by decide +kernel
theorem dL_law_501 : decode cL_law 501 = .ok (.aload_n 0, 1) := by decide +kernel
theorem dL_law_502 : decode cL_law 502 = .ok (.iload_n 3, 1) := by decide +kernel
theorem dL_law_503 : decode cL_law 503 = .ok (.iconst 2, 1) := by decide +kernel
theorem dL_law_504 : decode cL_law 504 = .ok (.iadd, 1) := by decide +kernel
theorem dL_law_505 : decode cL_law 505 = .ok (.iaload, 1) := by decide +kernel
theorem dL_law_506 : decode cL_law 506 = .ok (.aload_n 0, 1) := by decide +kernel
theorem dL_law_507 : decode cL_law 507 = .ok (.iload_n 3, 1) := by decide +kernel
theorem dL_law_508 : decode cL_law 508 = .ok (.iconst 3, 1) := by decide +kernel
theorem dL_law_509 : decode cL_law 509 = .ok (.iadd, 1) := by decide +kernel
theorem dL_law_510 : decode cL_law 510 = .ok (.iaload, 1) := by decide +kernel
theorem dL_law_511 : decode cL_law 511 = .ok (.invokevirtual 68, 3) := by decide +kernel
theorem dL_law_514 : decode cL_law 514 = .ok (.aload_n 2, 1) := by decide +kernel
theorem dL_law_515 : decode cL_law 515 = .ok (.aload_n 0, 1) := by decide +kernel
theorem dL_law_516 : decode cL_law 516 = .ok (.iload_n 3, 1) := by decide +kernel
theorem dL_law_517 : decode cL_law 517 = .ok (.iconst 1, 1) := by decide +kernel
theorem dL_law_518 : decode cL_law 518 = .ok (.iadd, 1) := by decide +kernel
theorem dL_law_519 : decode cL_law 519 = .ok (.iaload, 1) := by decide +kernel
theorem dL_law_520 : decode cL_law 520 = .ok (.aload_n 0, 1) := by decide +kernel
theorem dL_law_521 : decode cL_law 521 = .ok (.iload_n 3, 1) := by decide +kernel
theorem dL_law_522 : decode cL_law 522 = .ok (.iconst 2, 1) := by decide +kernel
theorem dL_law_523 : decode cL_law 523 = .ok (.iadd, 1) := by decide +kernel
theorem dL_law_524 : decode cL_law 524 = .ok (.iaload, 1) := by decide +kernel
theorem dL_law_525 : decode cL_law 525 = .ok (.aload_n 0, 1) := by decide +kernel
theorem dL_law_526 : decode cL_law 526 = .ok (.iload_n 3, 1) := by decide +kernel
theorem dL_law_527 : decode cL_law 527 = .ok (.iconst 3, 1) := by decide +kernel
theorem dL_law_528 : decode cL_law 528 = .ok (.iadd, 1) := by decide +kernel
theorem dL_law_529 : decode cL_law 529 = .ok (.iaload, 1) := by decide +kernel
theorem dL_law_530 : decode cL_law 530 = .ok (.invokevirtual 71, 3) := by decide +kernel
theorem dL_law_533 : decode cL_law 533 = .ok (.if_icmp .eq 104, 3) := by decide +kernel
theorem dL_law_536 : decode cL_law 536 = .ok (.iconst 0, 1) := by decide +kernel
theorem dL_law_537 : decode cL_law 537 = .ok (.ireturn, 1) := by decide +kernel
theorem dL_law_538 : decode cL_law 538 = .ok (.aload_n 1, 1) := by decide +kernel
theorem dL_law_539 : decode cL_law 539 = .ok (.aload_n 0, 1) := by decide +kernel
theorem dL_law_540 : decode cL_law 540 = .ok (.iload_n 3, 1) := by decide +kernel
theorem dL_law_541 : decode cL_law 541 = .ok (.iconst 1, 1) := by decide +kernel
theorem dL_law_542 : decode cL_law 542 = .ok (.iadd, 1) := by decide +kernel
theorem dL_law_543 : decode cL_law 543 = .ok (.iaload, 1) := by decide +kernel
theorem dL_law_544 : decode cL_law 544 = .ok (.invokevirtual 72, 3) := by decide +kernel
theorem dL_law_547 : decode cL_law 547 = .ok (.aload_n 2, 1) := by decide +kernel
theorem dL_law_548 : decode cL_law 548 = .ok (.aload_n 0, 1) := by decide +kernel
theorem dL_law_549 : decode cL_law 549 = .ok (.iload_n 3, 1) := by decide +kernel
theorem dL_law_550 : decode cL_law 550 = .ok (.iconst 1, 1) := by decide +kernel
theorem dL_law_551 : decode cL_law 551 = .ok (.iadd, 1) := by decide +kernel
theorem dL_law_552 : decode cL_law 552 = .ok (.iaload, 1) := by decide +kernel
theorem dL_law_553 : decode cL_law 553 = .ok (.invokevirtual 75, 3) := by decide +kernel
theorem dL_law_556 : decode cL_law 556 = .ok (.if_icmp .eq 81, 3) := by decide +kernel
theorem dL_law_559 : decode cL_law 559 = .ok (.iconst 0, 1) := by decide +kernel
theorem dL_law_560 : decode cL_law 560 = .ok (.ireturn, 1) := by decide +kernel
theorem dL_law_561 : decode cL_law 561 = .ok (.aload_n 1, 1) := by decide +kernel
theorem dL_law_562 : decode cL_law 562 = .ok (.invokevirtual 76, 3) := by decide +kernel
theorem dL_law_565 : decode cL_law 565 = .ok (.aload_n 2, 1) := by decide +kernel
theorem dL_law_566 : decode cL_law 566 = .ok (.invokevirtual 79, 3) := by decide +kernel
theorem dL_law_569 : decode cL_law 569 = .ok (.if_icmp .eq 68, 3) := by decide +kernel
theorem dL_law_572 : decode cL_law 572 = .ok (.iconst 0, 1) := by decide +kernel
theorem dL_law_573 : decode cL_law 573 = .ok (.ireturn, 1) := by decide +kernel
theorem dL_law_574 : decode cL_law 574 = .ok (.aload_n 1, 1) := by decide +kernel
theorem dL_law_575 : decode cL_law 575 = .ok (.invokevirtual 80, 3) := by decide +kernel
theorem dL_law_578 : decode cL_law 578 = .ok (.aload_n 2, 1) := by decide +kernel
theorem dL_law_579 : decode cL_law 579 = .ok (.invokevirtual 83, 3) := by decide +kernel
theorem dL_law_582 : decode cL_law 582 = .ok (.if_icmp .eq 55, 3) := by decide +kernel
theorem dL_law_585 : decode cL_law 585 = .ok (.iconst 0, 1) := by decide +kernel
theorem dL_law_586 : decode cL_law 586 = .ok (.ireturn, 1) := by decide +kernel
theorem dL_law_587 : decode cL_law 587 = .ok (.aload_n 1, 1) := by decide +kernel
theorem dL_law_588 : decode cL_law 588 = .ok (.invokevirtual 84, 3) := by decide +kernel
theorem dL_law_591 : decode cL_law 591 = .ok (.aload_n 2, 1) := by decide +kernel
theorem dL_law_592 : decode cL_law 592 = .ok (.invokevirtual 87, 3) := by decide +kernel
theorem dL_law_595 : decode cL_law 595 = .ok (.if_icmp .eq 42, 3) := by decide +kernel
theorem dL_law_598 : decode cL_law 598 = .ok (.iconst 0, 1) := by decide +kernel
theorem dL_law_599 : decode cL_law 599 = .ok (.ireturn, 1) := by decide +kernel
theorem dL_law_600 : decode cL_law 600 = .ok (.aload_n 1, 1) := by decide +kernel
theorem dL_law_601 : decode cL_law 601 = .ok (.aload_n 0, 1) := by decide +kernel
theorem dL_law_602 : decode cL_law 602 = .ok (.iload_n 3, 1) := by decide +kernel
theorem dL_law_603 : decode cL_law 603 = .ok (.iconst 1, 1) := by decide +kernel
theorem dL_law_604 : decode cL_law 604 = .ok (.iadd, 1) := by decide +kernel
theorem dL_law_605 : decode cL_law 605 = .ok (.iaload, 1) := by decide +kernel
theorem dL_law_606 : decode cL_law 606 = .ok (.invokevirtual 88, 3) := by decide +kernel
theorem dL_law_609 : decode cL_law 609 = .ok (.aload_n 2, 1) := by decide +kernel
theorem dL_law_610 : decode cL_law 610 = .ok (.aload_n 0, 1) := by decide +kernel
theorem dL_law_611 : decode cL_law 611 = .ok (.iload_n 3, 1) := by decide +kernel
theorem dL_law_612 : decode cL_law 612 = .ok (.iconst 1, 1) := by decide +kernel
theorem dL_law_613 : decode cL_law 613 = .ok (.iadd, 1) := by decide +kernel
theorem dL_law_614 : decode cL_law 614 = .ok (.iaload, 1) := by decide +kernel
theorem dL_law_615 : decode cL_law 615 = .ok (.invokevirtual 91, 3) := by decide +kernel
theorem dL_law_618 : decode cL_law 618 = .ok (.if_icmp .eq 19, 3) := by decide +kernel
theorem dL_law_621 : decode cL_law 621 = .ok (.iconst 0, 1) := by decide +kernel
theorem dL_law_622 : decode cL_law 622 = .ok (.ireturn, 1) := by decide +kernel
theorem dL_law_623 : decode cL_law 623 = .ok (.aload_n 1, 1) := by decide +kernel
theorem dL_law_624 : decode cL_law 624 = .ok (.invokevirtual 92, 3) := by decide +kernel
theorem dL_law_627 : decode cL_law 627 = .ok (.aload_n 2, 1) := by decide +kernel
theorem dL_law_628 : decode cL_law 628 = .ok (.invokevirtual 96, 3) := by decide +kernel
theorem dL_law_631 : decode cL_law 631 = .ok (.lcmp, 1) := by decide +kernel
theorem dL_law_632 : decode cL_law 632 = .ok (.ifCond .eq 5, 3) := by decide +kernel
theorem dL_law_635 : decode cL_law 635 = .ok (.iconst 0, 1) := by decide +kernel
theorem dL_law_636 : decode cL_law 636 = .ok (.ireturn, 1) := by decide +kernel
theorem dL_law_637 : decode cL_law 637 = .ok (.iinc 3 4, 3) := by decide +kernel
theorem dL_law_640 : decode cL_law 640 = .ok (.goto (-622), 3) := by decide +kernel
theorem dL_law_643 : decode cL_law 643 = .ok (.iconst 1, 1) := by decide +kernel
theorem dL_law_644 : decode cL_law 644 = .ok (.ireturn, 1) := by decide +kernel
end
section
/-! V: the walk, said of the world's cells, the locals and the stack alone. Glob: what stands still in a run (launch, numbers of classes and slots, array classes of int, double, byte, Line); Ctx: one method's run -/
abbrev Glob : Type := Launch × va_G × ClassId × ClassId × ClassId × ClassId
abbrev cI (g : Glob) : ClassId := g.2.2.1
abbrev cD (g : Glob) : ClassId := g.2.2.2.1
abbrev cB (g : Glob) : ClassId := g.2.2.2.2.1
abbrev cLn (g : Glob) : ClassId := g.2.2.2.2.2
abbrev gTys (g : Glob) : List (ClassId × FieldType) := [(cI g, .int), (cD g, .double), (cB g, .byte), (cLn g, .object RX0)]
abbrev Ctx : Type := Program × Env × Room × State × MethodId × Array Value × List Frame × Method × Code × (Nat → Prop) × (State → Prop)
abbrev kP (Γ : Ctx) : Program := Γ.1
abbrev kE (Γ : Ctx) : Env := Γ.2.1
abbrev kR (Γ : Ctx) : Room := Γ.2.2.1
abbrev kS (Γ : Ctx) : State := Γ.2.2.2.1
abbrev kM (Γ : Ctx) : MethodId := Γ.2.2.2.2.1
abbrev kA (Γ : Ctx) : Array Value := Γ.2.2.2.2.2.1
abbrev kB (Γ : Ctx) : List Frame := Γ.2.2.2.2.2.2.1
abbrev kMe (Γ : Ctx) : Method := Γ.2.2.2.2.2.2.2.1
abbrev kC (Γ : Ctx) : Code := Γ.2.2.2.2.2.2.2.2.1
abbrev kO (Γ : Ctx) : Nat → Prop := Γ.2.2.2.2.2.2.2.2.2.1
abbrev kQ (Γ : Ctx) : State → Prop := Γ.2.2.2.2.2.2.2.2.2.2
/-- the walk from pc: over every heap that holds the cells ws, with locals lv and stack st -/
def V (g : Glob) (Γ : Ctx) (nL k n pc : Nat) (ws : va_W) (lv : List (Nat × Value)) (st : List Value) : Prop :=
  ∀ (H : Heap) (locs : List Loc) (ls : Array Slot), va_P g.2.1 vwCl ws H → va_D (kO Γ) ws → va_S (kO Γ) (kS Γ).heap H locs → lv_has ls nL lv →
    W (kP Γ) g.1 (kE Γ) (kR Γ) (kS Γ) (kM Γ) (kA Γ) (kB Γ) (kMe Γ) (kC Γ) H locs k n (kQ Γ) (F0 (kM Γ) pc ls st)
/-- the two static rows of Line, outside what may change; the class of rows of Lines -/
def sLO : Nat → Int32 := fun j => ([1, 0, -100, 1, 0, 0, 0, 1] : List Int32).getD j 0
def sHI : Nat → Int32 := fun j => ([10, 1000, 100, 99, 1, 3, 5, 60] : List Int32).getD j 0
def SP (A : Nat → Prop) (U : State) (H : Heap) : Prop := va_AO RX0 U ∧ ∃ a1 a2 : Nat, va_Z RX0 "LEAST_OF" "[I" (.ref a1) A U H ∧ va_Z RX0 "MOST_OF" "[I" (.ref a2) A U H ∧ va_X a1 8 sLO U H ∧ va_X a2 8 sHI U H ∧ ¬ A a1 ∧ ¬ A a2 ∧ a1 < H.size ∧ a2 < H.size
theorem SP.moved {A : Nat → Prop} {u U : State} {H : Heap} (hvm : u.vm.Alike U.vm) (h : SP A u H) : SP A U H := by
  obtain ⟨h0, a1, a2, h1, h2, h3, h4, h5⟩ := h
  exact ⟨h0.moved hvm, a1, a2, h1.moved hvm, h2.moved hvm, h3.moved hvm, h4.moved hvm, h5⟩
theorem SP.narrow {A B : Nat → Prop} {U : State} {H : Heap} (h : SP A U H) (hAB : ∀ q, B q → A q) : SP B U H := by
  obtain ⟨h0, a1, a2, h1, h2, h3, h4, h5, h6, h7⟩ := h
  exact ⟨h0, a1, a2, h1.narrow hAB, h2.narrow hAB, h3, h4, fun q => h5 (hAB _ q), fun q => h6 (hAB _ q), h7⟩
theorem SP.kept {A : Nat → Prop} {U : State} {H H1 : Heap} (h : SP A U H) (hz : H.size ≤ H1.size) (hq : ∀ a : Nat, a < H.size → ¬ A a → H1[a]? = H[a]?) : SP A U H1 := by
  obtain ⟨h0, a1, a2, h1, h2, h3, h4, h5, h6, h7, h8⟩ := h
  exact ⟨h0, a1, a2, h1.kept hq, h2.kept hq, h3.kept (hq _ h7 h5), h4.kept (hq _ h8 h6), h5, h6, Nat.lt_of_lt_of_le h7 hz, Nat.lt_of_lt_of_le h8 hz⟩
/-- a method's start and end in these words -/
def Pp (g : Glob) (ws : va_W) (av : List Value) (sz : Nat) : Array Value → State → Prop :=
  va_Pc av (fun U => U.heap.size = sz ∧ va_P g.2.1 vwCl ws U.heap ∧ va_K g.2.1 vwCl (gTys g) U ∧ va_D (fun _ => True) ws ∧ SP (va_A ws sz) U U.heap)
def Qp (g : Glob) (post : Option Value → va_W → Prop) (A : Nat → Prop) : Array Value → State → Outcome → State → Prop := fun _ st oc t =>
  (∃ (v : Option Value) (w : va_W), oc = .returned v ∧ post v w ∧ va_P g.2.1 vwCl w t.heap ∧ va_D A w) ∧ va_F A st t
/-- THE CONTRACT: from the arguments av and the cells ws the method returns, with an answer and cells that post names -/
def Con (g : Glob) (y : MethodName) (cc : ByteArray) (maxL : Nat) (ret : Option FieldType) (rm : Room) (av : List Value) (ws : va_W) (post : Option Value → va_W → Prop) : Prop :=
  ∀ sz : Nat, Met g.1 y (Cond.code y cc maxL ret :: Tw) rm (Pp g ws av sz) (Qp g post (va_A ws sz)) rm.cells rm.slots (va_A ws sz)
abbrev Is (v : Option Value) (w : va_W) : Option Value → va_W → Prop := fun r z => r = v ∧ z = w
def OK (g : Glob) (Γ : Ctx) (y : MethodName) (cc : ByteArray) (nL : Nat) (ret : Option FieldType) (rm : Room) (post : Option Value → va_W → Prop) : Prop :=
  (kP Γ).tables.exec = Jvm.exec ∧ (kC Γ).code = cc ∧ (kC Γ).maxLocals = nL ∧ (kS Γ).vm.findClass y.cls = some (kM Γ).cls ∧ (∀ w ∈ Tw, w.before (kA Γ) (kS Γ) = true) ∧
  va_K g.2.1 vwCl (gTys g) (kS Γ) ∧ (∀ q, (kS Γ).heap.size ≤ q → kO Γ q) ∧ (kMe Γ).locks = false ∧ (kMe Γ).sig.returnType = ret ∧ (kMe Γ).name = y.name ∧ kR Γ = rm ∧
  SP (kO Γ) (kS Γ) (kS Γ).heap ∧ kQ Γ = MQ (kB Γ) (Qp g post (kO Γ)) (kA Γ) (kS Γ) rm.cells rm.slots (kO Γ)
section OKS
variable {g : Glob} {Γ : Ctx} {y : MethodName} {cc : ByteArray} {nL : Nat} {ret : Option FieldType} {rm : Room} {post : Option Value → va_W → Prop}
theorem OK.hx (h : OK g Γ y cc nL ret rm post) : (kP Γ).tables.exec = Jvm.exec := h.1
theorem OK.hb (h : OK g Γ y cc nL ret rm post) : (kC Γ).code = cc := h.2.1
theorem OK.hml (h : OK g Γ y cc nL ret rm post) : (kC Γ).maxLocals = nL := h.2.2.1
theorem OK.hown (h : OK g Γ y cc nL ret rm post) : (kS Γ).vm.findClass y.cls = some (kM Γ).cls := h.2.2.2.1
theorem OK.hts (h : OK g Γ y cc nL ret rm post) : ∀ w ∈ Tw, w.before (kA Γ) (kS Γ) = true := h.2.2.2.2.1
theorem OK.hK (h : OK g Γ y cc nL ret rm post) : va_K g.2.1 vwCl (gTys g) (kS Γ) := h.2.2.2.2.2.1
theorem OK.hA (h : OK g Γ y cc nL ret rm post) : ∀ q, (kS Γ).heap.size ≤ q → kO Γ q := h.2.2.2.2.2.2.1
theorem OK.hlocks (h : OK g Γ y cc nL ret rm post) : (kMe Γ).locks = false := h.2.2.2.2.2.2.2.1
theorem OK.hr (h : OK g Γ y cc nL ret rm post) : (kMe Γ).sig.returnType = ret := h.2.2.2.2.2.2.2.2.1
theorem OK.hnm (h : OK g Γ y cc nL ret rm post) : (kMe Γ).name = y.name := h.2.2.2.2.2.2.2.2.2.1
theorem OK.hR (h : OK g Γ y cc nL ret rm post) : kR Γ = rm := h.2.2.2.2.2.2.2.2.2.2.1
theorem OK.hSP (h : OK g Γ y cc nL ret rm post) : SP (kO Γ) (kS Γ) (kS Γ).heap := h.2.2.2.2.2.2.2.2.2.2.2.1
theorem OK.hQ (h : OK g Γ y cc nL ret rm post) : kQ Γ = MQ (kB Γ) (Qp g post (kO Γ)) (kA Γ) (kS Γ) rm.cells rm.slots (kO Γ) := h.2.2.2.2.2.2.2.2.2.2.2.2
end OKS
/-- a contract out of the walk of its body -/
theorem con_of_V {g : Glob} {y : MethodName} {cc : ByteArray} {maxL : Nat} {ret : Option FieldType} {rm : Room} {av : List Value} {ws : va_W} {post : Option Value → va_W → Prop}
    (hy : plainName y.cls = true) (hl : (lg_sl av).length ≤ maxL) (lv0 : List (Nat × Value)) (hlv : lv_args 0 av = lv0) (h : ∀ Γ : Ctx, OK g Γ y cc maxL ret rm post → V g Γ maxL 0 0 0 ws lv0 []) : Con g y cc maxL ret rm av ws post := by
  subst hlv
  intro sz
  refine Met.ofW (cc := cc) (maxL := maxL) (ret := ret) hy rfl ?_
  intro p e s m args below meth c s₁ B hml hv
  obtain ⟨rfl, hsz, hP, hK, hD0, hSP⟩ := hv
  subst hsz
  have hok : OK g (p, e, rm, s, m, av.toArray, below, meth, c, va_A ws s.heap.size, MQ below (Qp g post (va_A ws s.heap.size)) av.toArray s rm.cells rm.slots (va_A ws s.heap.size)) y cc maxL ret rm post :=
    ⟨B.exec, B.bytes, hml, findClass_of_methodNamed B.named, fun w hw => atoms_spec (ws := Cond.code y cc maxL ret :: Tw) B.pre w (List.mem_cons_of_mem _ hw), hK, fun q h => Or.inr h, B.notSynchronized, B.returns, (name_of_methodNamed B.named B.method).1, rfl, hSP, rfl⟩
  have hV := h _ hok
  have hle := lv_entry av (n := maxL) hl
  rw [lg_entry_eq]
  exact hV s.heap [] _ hP (hD0.self) va_S.rf hle

section VROWS
variable {g : Glob} {Γ : Ctx} {y : MethodName} {cc : ByteArray} {nL : Nat} {ret : Option FieldType} {rm : Room} {post : Option Value → va_W → Prop} {k n pc : Nat} {ws : va_W} {lv : List (Nat × Value)} {st : List Value}

theorem V_iconst (ok : OK g Γ y cc nL ret rm post) {c : Int} {v : Int32} (hd : decode cc pc = .ok (.iconst c, 1)) (hv : Int32.ofInt c = v) (kk : V g Γ nL k n (pc + 1) ws lv (.int v :: st)) : V g Γ nL k n pc ws lv st := fun H locs ls hP hD hS hl => lv_iconst ok.hx ok.hb hd hv (kk H locs ls hP hD hS hl)
theorem V_bipush (ok : OK g Γ y cc nL ret rm post) {c : Int} {v : Int32} (hd : decode cc pc = .ok (.bipush c, 2)) (hv : (Int8.ofInt c).toInt32 = v) (kk : V g Γ nL k n (pc + 2) ws lv (.int v :: st)) : V g Γ nL k n pc ws lv st := fun H locs ls hP hD hS hl => lv_bipush ok.hx ok.hb hd hv (kk H locs ls hP hD hS hl)
theorem V_sipush (ok : OK g Γ y cc nL ret rm post) {c : Int} {v : Int32} (hd : decode cc pc = .ok (.sipush c, 3)) (hv : (Int16.ofInt c).toInt32 = v) (kk : V g Γ nL k n (pc + 3) ws lv (.int v :: st)) : V g Γ nL k n pc ws lv st := fun H locs ls hP hD hS hl => lv_sipush ok.hx ok.hb hd hv (kk H locs ls hP hD hS hl)
theorem V_lconst (ok : OK g Γ y cc nL ret rm post) {c : Fin 2} {v : Int64} (hd : decode cc pc = .ok (.lconst c, 1)) (hv : Int64.ofNat (c : Nat) = v) (kk : V g Γ nL k n (pc + 1) ws lv (.long v :: st)) : V g Γ nL k n pc ws lv st := fun H locs ls hP hD hS hl => lv_lconst ok.hx ok.hb hd hv (kk H locs ls hP hD hS hl)
theorem V_dconst0 (ok : OK g Γ y cc nL ret rm post)  (hd : decode cc pc = .ok (.dconst 0, 1)) (kk : V g Γ nL k n (pc + 1) ws lv (.double 0 :: st)) : V g Γ nL k n pc ws lv st := fun H locs ls hP hD hS hl => lv_dconst0 ok.hx ok.hb hd (kk H locs ls hP hD hS hl)
theorem V_ldc2d (ok : OK g Γ y cc nL ret rm post) {ix : Nat} {v : UInt64} (hw : Cond.constantDouble y.cls ix v ∈ Tw) (hd : decode cc pc = .ok (.ldc2_w ix, 3)) (kk : V g Γ nL k n (pc + 3) ws lv (.double v :: st)) : V g Γ nL k n pc ws lv st := fun H locs ls hP hD hS hl => lv_ldc2d ok.hx ok.hb ok.hown (ok.hts _ hw) hd (kk H locs ls hP hD hS hl)
theorem V_ldc2l (ok : OK g Γ y cc nL ret rm post) {ix : Nat} {v : Int64} (hw : Cond.constantLong y.cls ix v ∈ Tw) (hd : decode cc pc = .ok (.ldc2_w ix, 3)) (kk : V g Γ nL k n (pc + 3) ws lv (.long v :: st)) : V g Γ nL k n pc ws lv st := fun H locs ls hP hD hS hl => lv_ldc2 ok.hx ok.hb ok.hown (ok.hts _ hw) hd (kk H locs ls hP hD hS hl)
theorem V_iload_n (ok : OK g Γ y cc nL ret rm post) {j : Fin 4} {i : Nat} {x : Int32} (hd : decode cc pc = .ok (.iload_n j, 1)) (hi : (j : Nat) = i) (q : Nat) (hq : lv[q]? = some (i, .int x)) (kk : V g Γ nL k n (pc + 1) ws lv (.int x :: st)) : V g Γ nL k n pc ws lv st := fun H locs ls hP hD hS hl => lv_iload_n ok.hx ok.hb hd hi (lv_at hl q hq) (kk H locs ls hP hD hS hl)
theorem V_iload (ok : OK g Γ y cc nL ret rm post) {i : Nat} {x : Int32} (hd : decode cc pc = .ok (.iload i, 2)) (q : Nat) (hq : lv[q]? = some (i, .int x)) (kk : V g Γ nL k n (pc + 2) ws lv (.int x :: st)) : V g Γ nL k n pc ws lv st := fun H locs ls hP hD hS hl => lv_iload ok.hx ok.hb hd (lv_at hl q hq) (kk H locs ls hP hD hS hl)
theorem V_lload_n (ok : OK g Γ y cc nL ret rm post) {j : Fin 4} {i : Nat} {x : Int64} (hd : decode cc pc = .ok (.lload_n j, 1)) (hi : (j : Nat) = i) (q : Nat) (hq : lv[q]? = some (i, .long x)) (kk : V g Γ nL k n (pc + 1) ws lv (.long x :: st)) : V g Γ nL k n pc ws lv st := fun H locs ls hP hD hS hl => lv_lload_n ok.hx ok.hb hd hi (lv_at hl q hq) (kk H locs ls hP hD hS hl)
theorem V_lload (ok : OK g Γ y cc nL ret rm post) {i : Nat} {x : Int64} (hd : decode cc pc = .ok (.lload i, 2)) (q : Nat) (hq : lv[q]? = some (i, .long x)) (kk : V g Γ nL k n (pc + 2) ws lv (.long x :: st)) : V g Γ nL k n pc ws lv st := fun H locs ls hP hD hS hl => lv_lload ok.hx ok.hb hd (lv_at hl q hq) (kk H locs ls hP hD hS hl)
theorem V_aload_n (ok : OK g Γ y cc nL ret rm post) {j : Fin 4} {i : Nat} {x : Nat} (hd : decode cc pc = .ok (.aload_n j, 1)) (hi : (j : Nat) = i) (q : Nat) (hq : lv[q]? = some (i, .ref x)) (kk : V g Γ nL k n (pc + 1) ws lv (.ref x :: st)) : V g Γ nL k n pc ws lv st := fun H locs ls hP hD hS hl => lv_aload_n ok.hx ok.hb hd hi (lv_at hl q hq) (kk H locs ls hP hD hS hl)
theorem V_aload (ok : OK g Γ y cc nL ret rm post) {i : Nat} {x : Nat} (hd : decode cc pc = .ok (.aload i, 2)) (q : Nat) (hq : lv[q]? = some (i, .ref x)) (kk : V g Γ nL k n (pc + 2) ws lv (.ref x :: st)) : V g Γ nL k n pc ws lv st := fun H locs ls hP hD hS hl => lv_aload ok.hx ok.hb hd (lv_at hl q hq) (kk H locs ls hP hD hS hl)
theorem V_dload_n (ok : OK g Γ y cc nL ret rm post) {j : Fin 4} {i : Nat} {x : UInt64} (hd : decode cc pc = .ok (.dload_n j, 1)) (hi : (j : Nat) = i) (q : Nat) (hq : lv[q]? = some (i, .double x)) (kk : V g Γ nL k n (pc + 1) ws lv (.double x :: st)) : V g Γ nL k n pc ws lv st := fun H locs ls hP hD hS hl => lv_dload_n ok.hx ok.hb hd hi (lv_at hl q hq) (kk H locs ls hP hD hS hl)
theorem V_dload (ok : OK g Γ y cc nL ret rm post) {i : Nat} {x : UInt64} (hd : decode cc pc = .ok (.dload i, 2)) (q : Nat) (hq : lv[q]? = some (i, .double x)) (kk : V g Γ nL k n (pc + 2) ws lv (.double x :: st)) : V g Γ nL k n pc ws lv st := fun H locs ls hP hD hS hl => lv_dload ok.hx ok.hb hd (lv_at hl q hq) (kk H locs ls hP hD hS hl)
theorem V_istore_n (ok : OK g Γ y cc nL ret rm post) {j : Fin 4} {i : Nat} {x : Int32} {lv2 : List (Nat × Value)} (hd : decode cc pc = .ok (.istore_n j, 1)) (hi : (j : Nat) = i) (hn : i < nL) (hlv : (i, Value.int x) :: lv.filter (fun q => !(q.1 == i) && !(q.1 + 1 == i && q.2.category == 2)) = lv2) (kk : V g Γ nL k n (pc + 1) ws lv2 st) : V g Γ nL k n pc ws lv (.int x :: st) := fun H locs ls hP hD hS hl => lv_istore_n ok.hx ok.hb hd hi hl hn hlv (fun ls2 hl2 => kk H locs ls2 hP hD hS hl2)
theorem V_istore (ok : OK g Γ y cc nL ret rm post) {i : Nat} {x : Int32} {lv2 : List (Nat × Value)} (hd : decode cc pc = .ok (.istore i, 2)) (hn : i < nL) (hlv : (i, Value.int x) :: lv.filter (fun q => !(q.1 == i) && !(q.1 + 1 == i && q.2.category == 2)) = lv2) (kk : V g Γ nL k n (pc + 2) ws lv2 st) : V g Γ nL k n pc ws lv (.int x :: st) := fun H locs ls hP hD hS hl => lv_istore ok.hx ok.hb hd hl hn hlv (fun ls2 hl2 => kk H locs ls2 hP hD hS hl2)
theorem V_lstore_n (ok : OK g Γ y cc nL ret rm post) {j : Fin 4} {i : Nat} {x : Int64} {lv2 : List (Nat × Value)} (hd : decode cc pc = .ok (.lstore_n j, 1)) (hi : (j : Nat) = i) (hn : i + 1 < nL) (hlv : (i, Value.long x) :: lv.filter (fun q => !(q.1 == i) && (!(q.1 == i + 1) && !(q.1 + 1 == i && q.2.category == 2))) = lv2) (kk : V g Γ nL k n (pc + 1) ws lv2 st) : V g Γ nL k n pc ws lv (.long x :: st) := fun H locs ls hP hD hS hl => lv_lstore_n ok.hx ok.hb hd hi hl hn hlv (fun ls2 hl2 => kk H locs ls2 hP hD hS hl2)
theorem V_lstore (ok : OK g Γ y cc nL ret rm post) {i : Nat} {x : Int64} {lv2 : List (Nat × Value)} (hd : decode cc pc = .ok (.lstore i, 2)) (hn : i + 1 < nL) (hlv : (i, Value.long x) :: lv.filter (fun q => !(q.1 == i) && (!(q.1 == i + 1) && !(q.1 + 1 == i && q.2.category == 2))) = lv2) (kk : V g Γ nL k n (pc + 2) ws lv2 st) : V g Γ nL k n pc ws lv (.long x :: st) := fun H locs ls hP hD hS hl => lv_lstore ok.hx ok.hb hd hl hn hlv (fun ls2 hl2 => kk H locs ls2 hP hD hS hl2)
theorem V_astore_n (ok : OK g Γ y cc nL ret rm post) {j : Fin 4} {i : Nat} {x : Nat} {lv2 : List (Nat × Value)} (hd : decode cc pc = .ok (.astore_n j, 1)) (hi : (j : Nat) = i) (hn : i < nL) (hlv : (i, Value.ref x) :: lv.filter (fun q => !(q.1 == i) && !(q.1 + 1 == i && q.2.category == 2)) = lv2) (kk : V g Γ nL k n (pc + 1) ws lv2 st) : V g Γ nL k n pc ws lv (.ref x :: st) := fun H locs ls hP hD hS hl => lv_astore_n ok.hx ok.hb hd hi hl hn hlv (fun ls2 hl2 => kk H locs ls2 hP hD hS hl2)
theorem V_astore (ok : OK g Γ y cc nL ret rm post) {i : Nat} {x : Nat} {lv2 : List (Nat × Value)} (hd : decode cc pc = .ok (.astore i, 2)) (hn : i < nL) (hlv : (i, Value.ref x) :: lv.filter (fun q => !(q.1 == i) && !(q.1 + 1 == i && q.2.category == 2)) = lv2) (kk : V g Γ nL k n (pc + 2) ws lv2 st) : V g Γ nL k n pc ws lv (.ref x :: st) := fun H locs ls hP hD hS hl => lv_astore ok.hx ok.hb hd hl hn hlv (fun ls2 hl2 => kk H locs ls2 hP hD hS hl2)
theorem V_dstore_n (ok : OK g Γ y cc nL ret rm post) {j : Fin 4} {i : Nat} {x : UInt64} {lv2 : List (Nat × Value)} (hd : decode cc pc = .ok (.dstore_n j, 1)) (hi : (j : Nat) = i) (hn : i + 1 < nL) (hlv : (i, Value.double x) :: lv.filter (fun q => !(q.1 == i) && (!(q.1 == i + 1) && !(q.1 + 1 == i && q.2.category == 2))) = lv2) (kk : V g Γ nL k n (pc + 1) ws lv2 st) : V g Γ nL k n pc ws lv (.double x :: st) := fun H locs ls hP hD hS hl => lv_dstore_n ok.hx ok.hb hd hi hl hn hlv (fun ls2 hl2 => kk H locs ls2 hP hD hS hl2)
theorem V_dstore (ok : OK g Γ y cc nL ret rm post) {i : Nat} {x : UInt64} {lv2 : List (Nat × Value)} (hd : decode cc pc = .ok (.dstore i, 2)) (hn : i + 1 < nL) (hlv : (i, Value.double x) :: lv.filter (fun q => !(q.1 == i) && (!(q.1 == i + 1) && !(q.1 + 1 == i && q.2.category == 2))) = lv2) (kk : V g Γ nL k n (pc + 2) ws lv2 st) : V g Γ nL k n pc ws lv (.double x :: st) := fun H locs ls hP hD hS hl => lv_dstore ok.hx ok.hb hd hl hn hlv (fun ls2 hl2 => kk H locs ls2 hP hD hS hl2)
theorem V_iinc (ok : OK g Γ y cc nL ret rm post) {i q : Nat} {c : Int} {x v : Int32} {lv2 : List (Nat × Value)} (hd : decode cc pc = .ok (.iinc i c, 3)) (hq : lv[q]? = some (i, .int x)) (hv : x + Int32.ofInt c = v) (hn : i < nL) (hlv : (i, Value.int v) :: lv.filter (fun q => !(q.1 == i) && !(q.1 + 1 == i && q.2.category == 2)) = lv2) (kk : V g Γ nL k n (pc + 3) ws lv2 st) : V g Γ nL k n pc ws lv st := fun H locs ls hP hD hS hl => lv_iinc ok.hx ok.hb hd hl hq hv hn hlv (fun ls2 hl2 => kk H locs ls2 hP hD hS hl2)
theorem V_iadd (ok : OK g Γ y cc nL ret rm post) {a b : Int32} (hd : decode cc pc = .ok (.iadd, 1)) (kk : V g Γ nL k n (pc + 1) ws lv (.int (a + b) :: st)) : V g Γ nL k n pc ws lv (.int b :: .int a :: st) := fun H locs ls hP hD hS hl => lv_iadd ok.hx ok.hb hd (kk H locs ls hP hD hS hl)
theorem V_isub (ok : OK g Γ y cc nL ret rm post) {a b : Int32} (hd : decode cc pc = .ok (.isub, 1)) (kk : V g Γ nL k n (pc + 1) ws lv (.int (a - b) :: st)) : V g Γ nL k n pc ws lv (.int b :: .int a :: st) := fun H locs ls hP hD hS hl => lv_isub ok.hx ok.hb hd (kk H locs ls hP hD hS hl)
theorem V_imul (ok : OK g Γ y cc nL ret rm post) {a b : Int32} (hd : decode cc pc = .ok (.imul, 1)) (kk : V g Γ nL k n (pc + 1) ws lv (.int (a * b) :: st)) : V g Γ nL k n pc ws lv (.int b :: .int a :: st) := fun H locs ls hP hD hS hl => lv_imul ok.hx ok.hb hd (kk H locs ls hP hD hS hl)
theorem V_iand (ok : OK g Γ y cc nL ret rm post) {a b : Int32} (hd : decode cc pc = .ok (.iand, 1)) (kk : V g Γ nL k n (pc + 1) ws lv (.int (a &&& b) :: st)) : V g Γ nL k n pc ws lv (.int b :: .int a :: st) := fun H locs ls hP hD hS hl => lv_iand ok.hx ok.hb hd (kk H locs ls hP hD hS hl)
theorem V_ladd (ok : OK g Γ y cc nL ret rm post) {a b : Int64} (hd : decode cc pc = .ok (.ladd, 1)) (kk : V g Γ nL k n (pc + 1) ws lv (.long (a + b) :: st)) : V g Γ nL k n pc ws lv (.long b :: .long a :: st) := fun H locs ls hP hD hS hl => lv_ladd ok.hx ok.hb hd (kk H locs ls hP hD hS hl)
theorem V_lsub (ok : OK g Γ y cc nL ret rm post) {a b : Int64} (hd : decode cc pc = .ok (.lsub, 1)) (kk : V g Γ nL k n (pc + 1) ws lv (.long (a - b) :: st)) : V g Γ nL k n pc ws lv (.long b :: .long a :: st) := fun H locs ls hP hD hS hl => lv_lsub ok.hx ok.hb hd (kk H locs ls hP hD hS hl)
theorem V_lmul (ok : OK g Γ y cc nL ret rm post) {a b : Int64} (hd : decode cc pc = .ok (.lmul, 1)) (kk : V g Γ nL k n (pc + 1) ws lv (.long (a * b) :: st)) : V g Γ nL k n pc ws lv (.long b :: .long a :: st) := fun H locs ls hP hD hS hl => lv_lmul ok.hx ok.hb hd (kk H locs ls hP hD hS hl)
theorem V_lor (ok : OK g Γ y cc nL ret rm post) {a b : Int64} (hd : decode cc pc = .ok (.lor, 1)) (kk : V g Γ nL k n (pc + 1) ws lv (.long (a ||| b) :: st)) : V g Γ nL k n pc ws lv (.long b :: .long a :: st) := fun H locs ls hP hD hS hl => lv_lor ok.hx ok.hb hd (kk H locs ls hP hD hS hl)
theorem V_ineg (ok : OK g Γ y cc nL ret rm post) {a : Int32} (hd : decode cc pc = .ok (.ineg, 1)) (kk : V g Γ nL k n (pc + 1) ws lv (.int (-a) :: st)) : V g Γ nL k n pc ws lv (.int a :: st) := fun H locs ls hP hD hS hl => lv_ineg ok.hx ok.hb hd (kk H locs ls hP hD hS hl)
theorem V_idiv (ok : OK g Γ y cc nL ret rm post) {a b : Int32} (hd : decode cc pc = .ok (.idiv, 1)) (hne : ¬ b = 0) (kk : V g Γ nL k n (pc + 1) ws lv (.int (a / b) :: st)) : V g Γ nL k n pc ws lv (.int b :: .int a :: st) := fun H locs ls hP hD hS hl => lv_idiv ok.hx ok.hb hd hne (kk H locs ls hP hD hS hl)
theorem V_irem (ok : OK g Γ y cc nL ret rm post) {a b : Int32} (hd : decode cc pc = .ok (.irem, 1)) (hne : ¬ b = 0) (kk : V g Γ nL k n (pc + 1) ws lv (.int (a - a / b * b) :: st)) : V g Γ nL k n pc ws lv (.int b :: .int a :: st) := fun H locs ls hP hD hS hl => lv_irem ok.hx ok.hb hd hne (kk H locs ls hP hD hS hl)
theorem V_lshl (ok : OK g Γ y cc nL ret rm post) {a v : Int64} {b : Int32} (hd : decode cc pc = .ok (.lshl, 1)) (hv : a <<< (b.toInt64 &&& 63) = v) (kk : V g Γ nL k n (pc + 1) ws lv (.long v :: st)) : V g Γ nL k n pc ws lv (.int b :: .long a :: st) := fun H locs ls hP hD hS hl => lv_lshl ok.hx ok.hb hd hv (kk H locs ls hP hD hS hl)
theorem V_dadd (ok : OK g Γ y cc nL ret rm post) {a b : UInt64} (hd : decode cc pc = .ok (.dadd, 1)) (hne : vf_n64 (FP.dadd a b)) (kk : V g Γ nL k n (pc + 1) ws lv (.double (FP.dadd a b) :: st)) : V g Γ nL k n pc ws lv (.double b :: .double a :: st) := fun H locs ls hP hD hS hl => lv_dadd ok.hx ok.hb hd hne (kk H locs ls hP hD hS hl)
theorem V_dsub (ok : OK g Γ y cc nL ret rm post) {a b : UInt64} (hd : decode cc pc = .ok (.dsub, 1)) (hne : vf_n64 (FP.dsub a b)) (kk : V g Γ nL k n (pc + 1) ws lv (.double (FP.dsub a b) :: st)) : V g Γ nL k n pc ws lv (.double b :: .double a :: st) := fun H locs ls hP hD hS hl => lv_dsub ok.hx ok.hb hd hne (kk H locs ls hP hD hS hl)
theorem V_dmul (ok : OK g Γ y cc nL ret rm post) {a b : UInt64} (hd : decode cc pc = .ok (.dmul, 1)) (hne : vf_n64 (FP.dmul a b)) (kk : V g Γ nL k n (pc + 1) ws lv (.double (FP.dmul a b) :: st)) : V g Γ nL k n pc ws lv (.double b :: .double a :: st) := fun H locs ls hP hD hS hl => lv_dmul ok.hx ok.hb hd hne (kk H locs ls hP hD hS hl)
theorem V_ddiv (ok : OK g Γ y cc nL ret rm post) {a b : UInt64} (hd : decode cc pc = .ok (.ddiv, 1)) (hne : vf_n64 (FP.ddiv a b)) (kk : V g Γ nL k n (pc + 1) ws lv (.double (FP.ddiv a b) :: st)) : V g Γ nL k n pc ws lv (.double b :: .double a :: st) := fun H locs ls hP hD hS hl => lv_ddiv ok.hx ok.hb hd hne (kk H locs ls hP hD hS hl)
theorem V_dneg (ok : OK g Γ y cc nL ret rm post) {a : UInt64} (hd : decode cc pc = .ok (.dneg, 1)) (kk : V g Γ nL k n (pc + 1) ws lv (.double (FP.dneg a) :: st)) : V g Γ nL k n pc ws lv (.double a :: st) := fun H locs ls hP hD hS hl => lv_dneg ok.hx ok.hb hd (kk H locs ls hP hD hS hl)
theorem V_dcmp (ok : OK g Γ y cc nL ret rm post) {a b : UInt64} {op : CmpOp} (hd : decode cc pc = .ok (.dcmp op, 1)) (kk : V g Γ nL k n (pc + 1) ws lv (.int (Op.cmpValue (FP.dcmp a b) op) :: st)) : V g Γ nL k n pc ws lv (.double b :: .double a :: st) := fun H locs ls hP hD hS hl => lv_dcmp ok.hx ok.hb hd (kk H locs ls hP hD hS hl)
theorem V_i2d (ok : OK g Γ y cc nL ret rm post) {a : Int32} (hd : decode cc pc = .ok (.i2d, 1)) (kk : V g Γ nL k n (pc + 1) ws lv (.double (FP.i2d a) :: st)) : V g Γ nL k n pc ws lv (.int a :: st) := fun H locs ls hP hD hS hl => lv_i2d ok.hx ok.hb hd (kk H locs ls hP hD hS hl)
theorem V_l2d (ok : OK g Γ y cc nL ret rm post) {a : Int64} (hd : decode cc pc = .ok (.l2d, 1)) (kk : V g Γ nL k n (pc + 1) ws lv (.double (FP.l2d a) :: st)) : V g Γ nL k n pc ws lv (.long a :: st) := fun H locs ls hP hD hS hl => lv_l2d ok.hx ok.hb hd (kk H locs ls hP hD hS hl)
theorem V_d2l (ok : OK g Γ y cc nL ret rm post) {a : UInt64} (hd : decode cc pc = .ok (.d2l, 1)) (kk : V g Γ nL k n (pc + 1) ws lv (.long (FP.d2l a) :: st)) : V g Γ nL k n pc ws lv (.double a :: st) := fun H locs ls hP hD hS hl => lv_d2l ok.hx ok.hb hd (kk H locs ls hP hD hS hl)
theorem V_i2l (ok : OK g Γ y cc nL ret rm post) {a : Int32} (hd : decode cc pc = .ok (.i2l, 1)) (kk : V g Γ nL k n (pc + 1) ws lv (.long a.toInt64 :: st)) : V g Γ nL k n pc ws lv (.int a :: st) := fun H locs ls hP hD hS hl => lv_i2l ok.hx ok.hb hd rfl (kk H locs ls hP hD hS hl)
theorem V_i2b (ok : OK g Γ y cc nL ret rm post) {a : Int32} (hd : decode cc pc = .ok (.i2b, 1)) (kk : V g Γ nL k n (pc + 1) ws lv (.int a.toInt8.toInt32 :: st)) : V g Γ nL k n pc ws lv (.int a :: st) := fun H locs ls hP hD hS hl => lv_i2b ok.hx ok.hb hd rfl (kk H locs ls hP hD hS hl)
theorem V_dup (ok : OK g Γ y cc nL ret rm post) {va : Value} (hd : decode cc pc = .ok (.dup, 1)) (h1 : va.category = 1) (kk : V g Γ nL k n (pc + 1) ws lv (va :: va :: st)) : V g Γ nL k n pc ws lv (va :: st) := fun H locs ls hP hD hS hl => lv_dup ok.hx ok.hb hd h1 (kk H locs ls hP hD hS hl)
theorem V_pop (ok : OK g Γ y cc nL ret rm post) {va : Value} (hd : decode cc pc = .ok (.pop, 1)) (h1 : va.category = 1) (kk : V g Γ nL k n (pc + 1) ws lv st) : V g Γ nL k n pc ws lv (va :: st) := fun H locs ls hP hD hS hl => lv_pop ok.hx ok.hb hd h1 (kk H locs ls hP hD hS hl)
theorem V_dup_x1 (ok : OK g Γ y cc nL ret rm post) {va vb : Value} (hd : decode cc pc = .ok (.dup_x1, 1)) (h1 : va.category = 1) (h2 : vb.category = 1) (kk : V g Γ nL k n (pc + 1) ws lv (va :: vb :: va :: st)) : V g Γ nL k n pc ws lv (va :: vb :: st) := fun H locs ls hP hD hS hl => lv_dup_x1 ok.hx ok.hb hd h1 h2 (kk H locs ls hP hD hS hl)
theorem V_dup2_11 (ok : OK g Γ y cc nL ret rm post) {va vb : Value} (hd : decode cc pc = .ok (.dup2, 1)) (h1 : va.category = 1) (h2 : vb.category = 1) (kk : V g Γ nL k n (pc + 1) ws lv (va :: vb :: va :: vb :: st)) : V g Γ nL k n pc ws lv (va :: vb :: st) := fun H locs ls hP hD hS hl => lv_dup2_11 ok.hx ok.hb hd h1 h2 (kk H locs ls hP hD hS hl)
theorem V_if_eq (ok : OK g Γ y cc nL ret rm post) {x : Int32} {off : Int} {tgt : Nat} (hd : decode cc pc = .ok (.ifCond .eq off, 3)) (ht : (pc : Int) + off = (tgt : Int)) (kt : x = 0 → V g Γ nL k n tgt ws lv st) (kf : ¬ x = 0 → V g Γ nL k n (pc + 3) ws lv st) : V g Γ nL k n pc ws lv (.int x :: st) := fun H locs ls hP hD hS hl => lv_if_eq ok.hx ok.hb hd ht (fun h => kt h H locs ls hP hD hS hl) (fun h => kf h H locs ls hP hD hS hl)
theorem V_if_ne (ok : OK g Γ y cc nL ret rm post) {x : Int32} {off : Int} {tgt : Nat} (hd : decode cc pc = .ok (.ifCond .ne off, 3)) (ht : (pc : Int) + off = (tgt : Int)) (kt : ¬ x = 0 → V g Γ nL k n tgt ws lv st) (kf : x = 0 → V g Γ nL k n (pc + 3) ws lv st) : V g Γ nL k n pc ws lv (.int x :: st) := fun H locs ls hP hD hS hl => lv_if_ne ok.hx ok.hb hd ht (fun h => kt h H locs ls hP hD hS hl) (fun h => kf h H locs ls hP hD hS hl)
theorem V_if_lt (ok : OK g Γ y cc nL ret rm post) {x : Int32} {off : Int} {tgt : Nat} (hd : decode cc pc = .ok (.ifCond .lt off, 3)) (ht : (pc : Int) + off = (tgt : Int)) (kt : x < 0 → V g Γ nL k n tgt ws lv st) (kf : ¬ x < 0 → V g Γ nL k n (pc + 3) ws lv st) : V g Γ nL k n pc ws lv (.int x :: st) := fun H locs ls hP hD hS hl => lv_if_lt ok.hx ok.hb hd ht (fun h => kt h H locs ls hP hD hS hl) (fun h => kf h H locs ls hP hD hS hl)
theorem V_if_ge (ok : OK g Γ y cc nL ret rm post) {x : Int32} {off : Int} {tgt : Nat} (hd : decode cc pc = .ok (.ifCond .ge off, 3)) (ht : (pc : Int) + off = (tgt : Int)) (kt : 0 ≤ x → V g Γ nL k n tgt ws lv st) (kf : ¬ 0 ≤ x → V g Γ nL k n (pc + 3) ws lv st) : V g Γ nL k n pc ws lv (.int x :: st) := fun H locs ls hP hD hS hl => lv_if_ge ok.hx ok.hb hd ht (fun h => kt h H locs ls hP hD hS hl) (fun h => kf h H locs ls hP hD hS hl)
theorem V_if_gt (ok : OK g Γ y cc nL ret rm post) {x : Int32} {off : Int} {tgt : Nat} (hd : decode cc pc = .ok (.ifCond .gt off, 3)) (ht : (pc : Int) + off = (tgt : Int)) (kt : 0 < x → V g Γ nL k n tgt ws lv st) (kf : ¬ 0 < x → V g Γ nL k n (pc + 3) ws lv st) : V g Γ nL k n pc ws lv (.int x :: st) := fun H locs ls hP hD hS hl => lv_if_gt ok.hx ok.hb hd ht (fun h => kt h H locs ls hP hD hS hl) (fun h => kf h H locs ls hP hD hS hl)
theorem V_if_le (ok : OK g Γ y cc nL ret rm post) {x : Int32} {off : Int} {tgt : Nat} (hd : decode cc pc = .ok (.ifCond .le off, 3)) (ht : (pc : Int) + off = (tgt : Int)) (kt : x ≤ 0 → V g Γ nL k n tgt ws lv st) (kf : ¬ x ≤ 0 → V g Γ nL k n (pc + 3) ws lv st) : V g Γ nL k n pc ws lv (.int x :: st) := fun H locs ls hP hD hS hl => lv_if_le ok.hx ok.hb hd ht (fun h => kt h H locs ls hP hD hS hl) (fun h => kf h H locs ls hP hD hS hl)
theorem V_icmp_eq (ok : OK g Γ y cc nL ret rm post) {a b : Int32} {off : Int} {tgt : Nat} (hd : decode cc pc = .ok (.if_icmp .eq off, 3)) (ht : (pc : Int) + off = (tgt : Int)) (kt : a = b → V g Γ nL k n tgt ws lv st) (kf : ¬ a = b → V g Γ nL k n (pc + 3) ws lv st) : V g Γ nL k n pc ws lv (.int b :: .int a :: st) := fun H locs ls hP hD hS hl => lv_icmp_eq ok.hx ok.hb hd ht (fun h => kt h H locs ls hP hD hS hl) (fun h => kf h H locs ls hP hD hS hl)
theorem V_icmp_ne (ok : OK g Γ y cc nL ret rm post) {a b : Int32} {off : Int} {tgt : Nat} (hd : decode cc pc = .ok (.if_icmp .ne off, 3)) (ht : (pc : Int) + off = (tgt : Int)) (kt : ¬ a = b → V g Γ nL k n tgt ws lv st) (kf : a = b → V g Γ nL k n (pc + 3) ws lv st) : V g Γ nL k n pc ws lv (.int b :: .int a :: st) := fun H locs ls hP hD hS hl => lv_icmp_ne ok.hx ok.hb hd ht (fun h => kt h H locs ls hP hD hS hl) (fun h => kf h H locs ls hP hD hS hl)
theorem V_icmp_lt (ok : OK g Γ y cc nL ret rm post) {a b : Int32} {off : Int} {tgt : Nat} (hd : decode cc pc = .ok (.if_icmp .lt off, 3)) (ht : (pc : Int) + off = (tgt : Int)) (kt : a < b → V g Γ nL k n tgt ws lv st) (kf : ¬ a < b → V g Γ nL k n (pc + 3) ws lv st) : V g Γ nL k n pc ws lv (.int b :: .int a :: st) := fun H locs ls hP hD hS hl => lv_icmp_lt ok.hx ok.hb hd ht (fun h => kt h H locs ls hP hD hS hl) (fun h => kf h H locs ls hP hD hS hl)
theorem V_icmp_ge (ok : OK g Γ y cc nL ret rm post) {a b : Int32} {off : Int} {tgt : Nat} (hd : decode cc pc = .ok (.if_icmp .ge off, 3)) (ht : (pc : Int) + off = (tgt : Int)) (kt : b ≤ a → V g Γ nL k n tgt ws lv st) (kf : ¬ b ≤ a → V g Γ nL k n (pc + 3) ws lv st) : V g Γ nL k n pc ws lv (.int b :: .int a :: st) := fun H locs ls hP hD hS hl => lv_icmp_ge ok.hx ok.hb hd ht (fun h => kt h H locs ls hP hD hS hl) (fun h => kf h H locs ls hP hD hS hl)
theorem V_icmp_gt (ok : OK g Γ y cc nL ret rm post) {a b : Int32} {off : Int} {tgt : Nat} (hd : decode cc pc = .ok (.if_icmp .gt off, 3)) (ht : (pc : Int) + off = (tgt : Int)) (kt : b < a → V g Γ nL k n tgt ws lv st) (kf : ¬ b < a → V g Γ nL k n (pc + 3) ws lv st) : V g Γ nL k n pc ws lv (.int b :: .int a :: st) := fun H locs ls hP hD hS hl => lv_icmp_gt ok.hx ok.hb hd ht (fun h => kt h H locs ls hP hD hS hl) (fun h => kf h H locs ls hP hD hS hl)
theorem V_icmp_le (ok : OK g Γ y cc nL ret rm post) {a b : Int32} {off : Int} {tgt : Nat} (hd : decode cc pc = .ok (.if_icmp .le off, 3)) (ht : (pc : Int) + off = (tgt : Int)) (kt : a ≤ b → V g Γ nL k n tgt ws lv st) (kf : ¬ a ≤ b → V g Γ nL k n (pc + 3) ws lv st) : V g Γ nL k n pc ws lv (.int b :: .int a :: st) := fun H locs ls hP hD hS hl => lv_icmp_le ok.hx ok.hb hd ht (fun h => kt h H locs ls hP hD hS hl) (fun h => kf h H locs ls hP hD hS hl)
theorem V_goto (ok : OK g Γ y cc nL ret rm post) {off : Int} {tgt : Nat} (hd : decode cc pc = .ok (.goto off, 3)) (ht : (pc : Int) + off = (tgt : Int)) (kk : V g Γ nL k n tgt ws lv st) : V g Γ nL k n pc ws lv st := fun H locs ls hP hD hS hl => lv_goto ok.hx ok.hb hd ht (kk H locs ls hP hD hS hl)
theorem V_tabIn (ok : OK g Γ y cc nL ret rm post) {dflt lo hi : Int} {offs : Array Int} {len : Nat} {x : Int32} {off : Int} {tgt : Nat} (hd : decode cc pc = .ok (.tableswitch dflt lo hi offs, len)) (h1 : ¬ x.toInt < lo) (h2 : ¬ hi < x.toInt) (ho : offs[(x.toInt - lo).toNat]? = some off) (ht : (pc : Int) + off = (tgt : Int)) (kk : V g Γ nL k n tgt ws lv st) : V g Γ nL k n pc ws lv (.int x :: st) := fun H locs ls hP hD hS hl => lv_tableIn ok.hx ok.hb hd h1 h2 ho ht (kk H locs ls hP hD hS hl)
theorem V_tabOut (ok : OK g Γ y cc nL ret rm post) {dflt lo hi : Int} {offs : Array Int} {len : Nat} {x : Int32} {tgt : Nat} (hd : decode cc pc = .ok (.tableswitch dflt lo hi offs, len)) (h1 : x.toInt < lo ∨ hi < x.toInt) (ht : (pc : Int) + dflt = (tgt : Int)) (kk : V g Γ nL k n tgt ws lv st) : V g Γ nL k n pc ws lv (.int x :: st) := fun H locs ls hP hD hS hl => lv_tableOut ok.hx ok.hb hd h1 ht (kk H locs ls hP hD hS hl)
theorem V_top_int {a b : Int32} (h : a = b) (kk : V g Γ nL k n pc ws lv (.int b :: st)) : V g Γ nL k n pc ws lv (.int a :: st) := h ▸ kk
theorem V_nm_int {a : Int32} (kk : ∀ b : Int32, b = a → V g Γ nL k n pc ws lv (.int b :: st)) : V g Γ nL k n pc ws lv (.int a :: st) := kk a rfl
theorem V_top_long {a b : Int64} (h : a = b) (kk : V g Γ nL k n pc ws lv (.long b :: st)) : V g Γ nL k n pc ws lv (.long a :: st) := h ▸ kk
theorem V_nm_long {a : Int64} (kk : ∀ b : Int64, b = a → V g Γ nL k n pc ws lv (.long b :: st)) : V g Γ nL k n pc ws lv (.long a :: st) := kk a rfl
theorem V_top_double {a b : UInt64} (h : a = b) (kk : V g Γ nL k n pc ws lv (.double b :: st)) : V g Γ nL k n pc ws lv (.double a :: st) := h ▸ kk
theorem V_nm_double {a : UInt64} (kk : ∀ b : UInt64, b = a → V g Γ nL k n pc ws lv (.double b :: st)) : V g Γ nL k n pc ws lv (.double a :: st) := kk a rfl
theorem V_lv {lv2 : List (Nat × Value)} (is : List Nat) (h : lv_pick lv is = lv2) (kk : V g Γ nL k n pc ws lv2 st) : V g Γ nL k n pc ws lv st := fun H locs ls hP hD hS hl => kk H locs ls hP hD hS (lv_sub hl is h)
theorem V_ws {w2 : va_W} (h : ws = w2) (kk : V g Γ nL k n pc w2 lv st) : V g Γ nL k n pc ws lv st := h ▸ kk
theorem V_widen {k2 n2 : Nat} (h1 : k ≤ k2) (h2 : n ≤ n2) (kk : V g Γ nL k2 n2 pc ws lv st) : V g Γ nL k n pc ws lv st := fun H locs ls hP hD hS hl => W.widen h1 h2 (kk H locs ls hP hD hS hl)
theorem V_get (ok : OK g Γ y cc nL ret rm post) {ref C : String} {T : u_T} {N ci index a : Nat} {fs : List Value} {v : Value} (q0 kf : Nat) (hin : ∀ w ∈ u_ws C T N, w ∈ Tw) (hlink : Cond.fieldLink y.cls index ref (T kf).2.1 (T kf).2.2.1 ∈ Tw) (hsame : (T kf).1 = ref) (hc : vwCl[ci]? = some (C, T, N)) (hk : kf < N) (hd : decode cc pc = .ok (.getfield index, 3)) (he : ws[q0]? = some (a, .inr (ci, fs))) (hv : fs[kf]? = some v)
    (kk : V g Γ nL k n (pc + 3) ws lv (v :: st)) : V g Γ nL k n pc ws lv (.ref a :: st) := fun H locs ls hP hD hS hl => va_get ok.hx ok.hb ok.hts hin ok.hown ok.hK hP q0 he hc kf hk (ok.hts _ hlink) (fun _ h9 => by rw [← hsame]; exact h9) hv hd (kk H locs ls hP hD hS hl)
theorem V_put (ok : OK g Γ y cc nL ret rm post) {ref C : String} {T : u_T} {N ci index a : Nat} {fs : List Value} {v : Value} {ty : FieldType} {w2 : va_W} (q0 kf : Nat) (hin : ∀ w ∈ u_ws C T N, w ∈ Tw) (ty0 : Nat → FieldType) (hty : ∀ k, k < N → parseFieldDescriptor (T k).2.2.1 = some (ty0 k)) (hnm : ∀ a, a < N → ∀ b, b < N → a ≠ b → (T a).2.1 ≠ (T b).2.1) (hlink : Cond.fieldLink y.cls index ref (T kf).2.1 (T kf).2.2.1 ∈ Tw) (hsame : (T kf).1 = ref) (hc : vwCl[ci]? = some (C, T, N)) (hk : kf < N) (hfin : (T kf).2.2.2 = false) (hdt : ty0 kf = ty) (hd : decode cc pc = .ok (.putfield index, 3)) (he : ws[q0]? = some (a, .inr (ci, fs))) (hn : narrow ty v = v) (hfit : fits ty v = true) (hl0 : kf < fs.length) (hw : ws.set q0 (a, .inr (ci, fs.set kf v)) = w2)
    (kk : V g Γ nL k n (pc + 3) w2 lv st) : V g Γ nL k n pc ws lv (v :: .ref a :: st) := fun H locs ls hP hD hS hl => va_put ok.hx ok.hb ok.hts hin ty0 hty hnm ok.hown ok.hK hP hD hS q0 he hc kf hk (ok.hts _ hlink) (fun _ h9 => by rw [← hsame]; exact h9) hfin (by rw [hty kf hk, hdt]) hn hfit hl0 hd (fun H1 locs1 hP1 hD1 hS1 => kk H1 locs1 ls (by rw [← hw]; exact hP1) (by rw [← hw]; exact hD1) hS1 hl)
theorem V_putF (ok : OK g Γ y cc nL ret rm post) {ref C : String} {T : u_T} {N ci index a : Nat} {fs : List Value} {v : Value} {ty : FieldType} {w2 : va_W} (q0 kf : Nat) (hin : ∀ w ∈ u_ws C T N, w ∈ Tw) (ty0 : Nat → FieldType) (hty : ∀ k, k < N → parseFieldDescriptor (T k).2.2.1 = some (ty0 k)) (hnm : ∀ a, a < N → ∀ b, b < N → a ≠ b → (T a).2.1 ≠ (T b).2.1) (hlink : Cond.fieldLink y.cls index ref (T kf).2.1 (T kf).2.2.1 ∈ Tw) (hsame : (T kf).1 = ref) (hc : vwCl[ci]? = some (C, T, N)) (hk : kf < N) (hfin : (T kf).2.2.2 = true) (hini : y.name = "<init>") (hdecl : (T kf).1 = y.cls) (hdt : ty0 kf = ty) (hd : decode cc pc = .ok (.putfield index, 3)) (he : ws[q0]? = some (a, .inr (ci, fs))) (hn : narrow ty v = v) (hfit : fits ty v = true) (hl0 : kf < fs.length) (hw : ws.set q0 (a, .inr (ci, fs.set kf v)) = w2)
    (kk : V g Γ nL k n (pc + 3) w2 lv st) : V g Γ nL k n pc ws lv (v :: .ref a :: st) := fun H locs ls hP hD hS hl => va_putF ok.hx ok.hb ok.hts hin ty0 hty hnm ok.hown ok.hK hP hD hS q0 he hc kf hk (ok.hts _ hlink) (fun _ h9 => by rw [← hsame]; exact h9) hfin (ok.hnm.trans hini) hdecl (by rw [hty kf hk, hdt]) hn hfit hl0 hd (fun H1 locs1 hP1 hD1 hS1 => kk H1 locs1 ls (by rw [← hw]; exact hP1) (by rw [← hw]; exact hD1) hS1 hl)
theorem nI_cl {i : Int32} {j N : Nat} (hi : i = nI j) (hj : j < N) (hN : N < 2 ^ 31) : i.toNatClampNeg = j := by rw [hi]; exact nI_clamp (by omega)
theorem nI_vp {i : Int32} {j N : Nat} (hi : i = nI j) (hj : j < N) (hN : N < 2 ^ 31) : vp_in i N := by rw [hi]; exact vp_in_nI hj hN

theorem V_iald (ok : OK g Γ y cc nL ret rm post) {a N : Nat} {f : Nat → Int32} {i : Int32} (q0 j : Nat) (hd : decode cc pc = .ok (.iaload, 1)) (ha : ws[q0]? = some (a, .inl (cI g, N, .inl f))) (hi : i = nI j) (hj : j < N) (hN : N < 2 ^ 31)
    (kk : V g Γ nL k n (pc + 1) ws lv (.int (f j) :: st)) : V g Γ nL k n pc ws lv (.int i :: .ref a :: st) := fun H locs ls hP hD hS hl => va_iald ok.hx ok.hb ok.hK hP q0 0 ha rfl (nI_vp hi hj hN) hd (by rw [nI_cl hi hj hN]; exact kk H locs ls hP hD hS hl)
theorem V_iast (ok : OK g Γ y cc nL ret rm post) {a N : Nat} {f : Nat → Int32} {i : Int32} {x : Int32} {w2 : va_W} (q0 j : Nat) (hd : decode cc pc = .ok (.iastore, 1)) (ha : ws[q0]? = some (a, .inl (cI g, N, .inl f))) (hi : i = nI j) (hj : j < N) (hN : N < 2 ^ 31) (hw : ws.set q0 (a, .inl (cI g, N, .inl (upd f j x))) = w2)
    (kk : V g Γ nL k n (pc + 1) w2 lv st) : V g Γ nL k n pc ws lv (.int x :: .int i :: .ref a :: st) := fun H locs ls hP hD hS hl => va_iast ok.hx ok.hb ok.hK hP hD hS q0 0 ha rfl (nI_vp hi hj hN) hd (by rw [nI_cl hi hj hN, hw]; exact fun H1 locs1 hP1 hD1 hS1 => kk H1 locs1 ls hP1 hD1 hS1 hl)
theorem V_dald (ok : OK g Γ y cc nL ret rm post) {a N : Nat} {f : Nat → UInt64} {i : Int32} (q0 j : Nat) (hd : decode cc pc = .ok (.daload, 1)) (ha : ws[q0]? = some (a, .inl (cD g, N, .inr (.inr (.inr (.inl f)))))) (hi : i = nI j) (hj : j < N) (hN : N < 2 ^ 31)
    (kk : V g Γ nL k n (pc + 1) ws lv (.double (f j) :: st)) : V g Γ nL k n pc ws lv (.int i :: .ref a :: st) := fun H locs ls hP hD hS hl => va_dald ok.hx ok.hb ok.hK hP q0 1 ha rfl (nI_vp hi hj hN) hd (by rw [nI_cl hi hj hN]; exact kk H locs ls hP hD hS hl)
theorem V_dast (ok : OK g Γ y cc nL ret rm post) {a N : Nat} {f : Nat → UInt64} {i : Int32} {x : UInt64} {w2 : va_W} (q0 j : Nat) (hd : decode cc pc = .ok (.dastore, 1)) (ha : ws[q0]? = some (a, .inl (cD g, N, .inr (.inr (.inr (.inl f)))))) (hi : i = nI j) (hj : j < N) (hN : N < 2 ^ 31) (hw : ws.set q0 (a, .inl (cD g, N, .inr (.inr (.inr (.inl (vf_upd f j x)))))) = w2)
    (kk : V g Γ nL k n (pc + 1) w2 lv st) : V g Γ nL k n pc ws lv (.double x :: .int i :: .ref a :: st) := fun H locs ls hP hD hS hl => va_dast ok.hx ok.hb ok.hK hP hD hS q0 1 ha rfl (nI_vp hi hj hN) hd (by rw [nI_cl hi hj hN, hw]; exact fun H1 locs1 hP1 hD1 hS1 => kk H1 locs1 ls hP1 hD1 hS1 hl)
theorem V_bald (ok : OK g Γ y cc nL ret rm post) {a N : Nat} {f : Nat → Int32} {i : Int32} (q0 j : Nat) (hd : decode cc pc = .ok (.baload, 1)) (ha : ws[q0]? = some (a, .inl (cB g, N, .inl f))) (hi : i = nI j) (hj : j < N) (hN : N < 2 ^ 31)
    (kk : V g Γ nL k n (pc + 1) ws lv (.int (f j) :: st)) : V g Γ nL k n pc ws lv (.int i :: .ref a :: st) := fun H locs ls hP hD hS hl => va_bald ok.hx ok.hb ok.hK hP q0 2 ha rfl (nI_vp hi hj hN) hd (by rw [nI_cl hi hj hN]; exact kk H locs ls hP hD hS hl)
theorem V_bast (ok : OK g Γ y cc nL ret rm post) {a N : Nat} {f : Nat → Int32} {i : Int32} {x : Int32} {w2 : va_W} (q0 j : Nat) (hd : decode cc pc = .ok (.bastore, 1)) (ha : ws[q0]? = some (a, .inl (cB g, N, .inl f))) (hi : i = nI j) (hj : j < N) (hN : N < 2 ^ 31) (hw : ws.set q0 (a, .inl (cB g, N, .inl (upd f j (vp_nar .byte x)))) = w2)
    (kk : V g Γ nL k n (pc + 1) w2 lv st) : V g Γ nL k n pc ws lv (.int x :: .int i :: .ref a :: st) := fun H locs ls hP hD hS hl => va_bast ok.hx ok.hb ok.hK hP hD hS q0 2 ha rfl (nI_vp hi hj hN) hd (by rw [nI_cl hi hj hN, hw]; exact fun H1 locs1 hP1 hD1 hS1 => kk H1 locs1 ls hP1 hD1 hS1 hl)
theorem V_aald (ok : OK g Γ y cc nL ret rm post) {a N z : Nat} {f : Nat → Option Nat} {i : Int32} (q0 j : Nat) (hd : decode cc pc = .ok (.aaload, 1)) (ha : ws[q0]? = some (a, .inl (cLn g, N, .inr (.inr (.inr (.inr f)))))) (hi : i = nI j) (hj : j < N) (hN : N < 2 ^ 31) (hz : f j = some z)
    (kk : V g Γ nL k n (pc + 1) ws lv (.ref z :: st)) : V g Γ nL k n pc ws lv (.int i :: .ref a :: st) := fun H locs ls hP hD hS hl => va_aldq ok.hx ok.hb ok.hK hP q0 3 ha rfl (nI_vp hi hj hN) hd (by rw [nI_cl hi hj hN, hz]; exact kk H locs ls hP hD hS hl)
theorem V_aast (ok : OK g Γ y cc nL ret rm post) {a N v : Nat} {vs : List Value} {f : Nat → Option Nat} {i : Int32} {w2 : va_W} (q0 qk j : Nat) (hd : decode cc pc = .ok (.aastore, 1)) (ha : ws[q0]? = some (a, .inl (cLn g, N, .inr (.inr (.inr (.inr f)))))) (hv : ws[qk]? = some (v, .inr (0, vs))) (hi : i = nI j) (hj : j < N) (hN : N < 2 ^ 31) (hw : ws.set q0 (a, .inl (cLn g, N, .inr (.inr (.inr (.inr (va_up f j (some v))))))) = w2)
    (kk : V g Γ nL k n (pc + 1) w2 lv st) : V g Γ nL k n pc ws lv (.ref v :: .int i :: .ref a :: st) := fun H locs ls hP hD hS hl => va_astq (r := (RX0, TX0, 8)) ok.hx ok.hb ok.hK hP hD hS q0 3 qk 0 ha rfl hv rfl (nI_vp hi hj hN) hd (by rw [nI_cl hi hj hN, hw]; exact fun H1 locs1 hP1 hD1 hS1 => kk H1 locs1 ls hP1 hD1 hS1 hl)
theorem V_alen (ok : OK g Γ y cc nL ret rm post) {a t0 : Nat} {cA : ClassId} {x : vp_A} {ty : FieldType} {v : Int32} (q0 : Nat) (hd : decode cc pc = .ok (.arraylength, 1)) (ha : ws[q0]? = some (a, .inl (cA, x))) (ht : (gTys g)[t0]? = some (cA, ty)) (hv : Int32.ofNat x.1 = v)
    (kk : V g Γ nL k n (pc + 1) ws lv (.int v :: st)) : V g Γ nL k n pc ws lv (.ref a :: st) := fun H locs ls hP hD hS hl => va_alen ok.hx ok.hb ok.hK hP q0 t0 ha ht hv hd (kk H locs ls hP hD hS hl)
/-- the static rows -/
theorem V_getsLO (ok : OK g Γ y cc nL ret rm post) {index : Nat} (hlink : Cond.fieldLink y.cls index RX0 "LEAST_OF" "[I" ∈ Tw) (hd : decode cc pc = .ok (.getstatic index, 3)) (kk : ∀ a : Nat, va_X a 8 sLO (kS Γ) (kS Γ).heap → ¬ kO Γ a → a < (kS Γ).heap.size → V g Γ nL k n (pc + 3) ws lv (.ref a :: st)) : V g Γ nL k n pc ws lv st := fun H locs ls hP hD hS hl => by
  obtain ⟨-, a1, a2, h1, h2, h3, h4, h5, h6, h7, h8⟩ := ok.hSP
  exact va_gets ok.hx ok.hb h1 hS ok.hown (ok.hts _ hlink) (fun _ h9 => h9) hd (kk a1 h3 h5 h7 H locs ls hP hD hS hl)
theorem V_getsHI (ok : OK g Γ y cc nL ret rm post) {index : Nat} (hlink : Cond.fieldLink y.cls index RX0 "MOST_OF" "[I" ∈ Tw) (hd : decode cc pc = .ok (.getstatic index, 3)) (kk : ∀ a : Nat, va_X a 8 sHI (kS Γ) (kS Γ).heap → ¬ kO Γ a → a < (kS Γ).heap.size → V g Γ nL k n (pc + 3) ws lv (.ref a :: st)) : V g Γ nL k n pc ws lv st := fun H locs ls hP hD hS hl => by
  obtain ⟨-, a1, a2, h1, h2, h3, h4, h5, h6, h7, h8⟩ := ok.hSP
  exact va_gets ok.hx ok.hb h2 hS ok.hown (ok.hts _ hlink) (fun _ h9 => h9) hd (kk a2 h4 h6 h8 H locs ls hP hD hS hl)
theorem V_sald (ok : OK g Γ y cc nL ret rm post) {a L : Nat} {f : Nat → Int32} {i : Int32} (j : Nat) (hX : va_X a L f (kS Γ) (kS Γ).heap) (hA : ¬ kO Γ a) (hz : a < (kS Γ).heap.size) (hd : decode cc pc = .ok (.iaload, 1)) (hi : i = nI j) (hj : j < L) (hL : L < 2 ^ 31)
    (kk : V g Γ nL k n (pc + 1) ws lv (.int (f j) :: st)) : V g Γ nL k n pc ws lv (.int i :: .ref a :: st) := fun H locs ls hP hD hS hl => va_sld ok.hx ok.hb hX hz hA hS (nI_vp hi hj hL) hd (by rw [nI_cl hi hj hL]; exact kk H locs ls hP hD hS hl)
theorem V_salen (ok : OK g Γ y cc nL ret rm post) {a L : Nat} {f : Nat → Int32} (hX : va_X a L f (kS Γ) (kS Γ).heap) (hA : ¬ kO Γ a) (hz : a < (kS Γ).heap.size) (hd : decode cc pc = .ok (.arraylength, 1))
    (kk : V g Γ nL k n (pc + 1) ws lv (.int (nI L) :: st)) : V g Γ nL k n pc ws lv (.ref a :: st) := fun H locs ls hP hD hS hl => va_slen ok.hx ok.hb hX hz hA hS hd (kk H locs ls hP hD hS hl)
/-- making cells -/
theorem V_newa (ok : OK g Γ y cc nL ret rm post) {atype : ArrayType} {ty : FieldType} {i : Int32} {N t0 : Nat} {a0 : vp_A} {cA : ClassId} (hw : Cond.arrayClass ty ∈ Tw) (hty : newarray.typeOf atype = ty) (ht : (gTys g)[t0]? = some (cA, ty)) (hprim : ∀ (U : State) (c : ClassId), va_RA U c ty → U.vm.findClass ("[" ++ ty.toString) = some c) (hd : decode cc pc = .ok (.newarray atype, 2)) (ha : ∀ cA : ClassId, vp_cell cA a0 = arrV cA N (fun _ => defaultValue ty)) (hn : ¬ i < 0) (hN : i.toNatClampNeg = N) (hbytes : N * componentBytes ty ≤ 536870912) (hc : k + 1 ≤ rm.cells) (hs : n + N ≤ rm.slots)
    (kk : ∀ q : Nat, V g Γ nL (k + 1) (n + N) (pc + 2) (ws ++ [(q, .inl (cA, a0))]) lv (.ref q :: st)) : V g Γ nL k n pc ws lv (.int i :: st) := fun H locs ls hP hD hS hl => by
  refine va_newa (atype := atype) (ty := ty) ok.hx ok.hb (by rw [hty]; exact ok.hts _ hw) hty ok.hK hP hD hS ok.hA ha hn hN hbytes (by rw [ok.hR]; exact hc) (by rw [ok.hR]; exact hs) hd (fun q cA2 H1 hK1 hP1 hD1 hS1 => ?_)
  have e1 := hprim _ _ (hK1.2 (gTys g).length (cA2, ty) (by rw [List.getElem?_append_right (Nat.le_refl _), Nat.sub_self]; rfl)).2
  have e2 := hprim _ _ (ok.hK.2 t0 (cA, ty) ht).2
  have e3 : cA2 = cA := Option.some.inj (e1.symm.trans e2)
  subst e3
  exact kk q H1 locs ls hP1 hD1 hS1 hl
theorem V_newq (ok : OK g Γ y cc nL ret rm post) {index : Nat} {i : Int32} {N : Nat} (hw : Cond.classLink y.cls index RX0 ∈ Tw) (hd : decode cc pc = .ok (.anewarray index, 3)) (hn : ¬ i < 0) (hN : i.toNatClampNeg = N) (hbytes : N * 4 ≤ 536870912) (hc : k + 1 ≤ rm.cells) (hs : n + N ≤ rm.slots)
    (kk : ∀ q : Nat, V g Γ nL (k + 1) (n + N) (pc + 3) (ws ++ [(q, .inl (cLn g, N, .inr (.inr (.inr (.inr (fun _ => none))))))]) lv (.ref q :: st)) : V g Γ nL k n pc ws lv (.int i :: st) := fun H locs ls hP hD hS hl => by
  refine va_newq (C := RX0) ok.hx ok.hb ok.hown (ok.hts _ hw) ok.hSP.1 ok.hK hP hD hS ok.hA hn hN hbytes (by rw [ok.hR]; exact hc) (by rw [ok.hR]; exact hs) hd (fun q cA2 H1 hK1 hP1 hD1 hS1 => ?_)
  have e1 : va_RA (kS Γ) cA2 (.object RX0) := (hK1.2 (gTys g).length (cA2, .object RX0) (by rw [List.getElem?_append_right (Nat.le_refl _), Nat.sub_self]; rfl)).2
  have e2 : va_RA (kS Γ) (cLn g) (.object RX0) := (ok.hK.2 3 (cLn g, .object RX0) rfl).2
  obtain ⟨_, _, _, _, _, e1⟩ := e1
  obtain ⟨_, _, _, _, _, e2⟩ := e2
  have e3 : cA2 = cLn g := Option.some.inj (e1.symm.trans e2)
  subst e3
  exact kk q H1 locs ls hP1 hD1 hS1 hl
theorem V_new (ok : OK g Γ y cc nL ret rm post) {C : String} {T : u_T} {N ci index : Nat} {fs : List Value} (hin : ∀ w ∈ u_ws C T N, w ∈ Tw) (ty : Nat → FieldType) (hty : ∀ k, k < N → parseFieldDescriptor (T k).2.2.1 = some (ty k)) (hcl : Cond.classLink y.cls index C ∈ Tw) (hinst : Cond.instantiable C N ∈ Tw) (hini : Cond.initialized C ∈ Tw) (hcc : vwCl[ci]? = some (C, T, N)) (hfs : ∀ j, j < N → defaultValue (ty j) = vp_V fs j) (hc : k + 1 ≤ rm.cells) (hs : n + N ≤ rm.slots) (hd : decode cc pc = .ok (.new index, 3))
    (kk : ∀ q : Nat, V g Γ nL (k + 1) (n + N) (pc + 3) (ws ++ [(q, .inr (ci, fs))]) lv (.ref q :: st)) : V g Γ nL k n pc ws lv st := fun H locs ls hP hD hS hl =>
  va_new ok.hx ok.hb ok.hts hin ty hty ok.hown (ok.hts _ hcl) (ok.hts _ hinst) (ok.hts _ hini) ok.hK hP hD hS ok.hA hcc hfs (by rw [ok.hR]; exact hc) (by rw [ok.hR]; exact hs) hd (fun q H1 hP1 hD1 hS1 => kk q H1 locs ls hP1 hD1 hS1 hl)
theorem V_objInit (ok : OK g Γ y cc nL ret rm post) {index a : Nat} (hlink : Cond.methodLink y.cls index objectInit ∈ Tw) (hd : decode cc pc = .ok (.invokespecial index, 3)) (hf : 1 ≤ rm.frames) (hlo : (st.map fun v => v.category).sum + 12 ≤ rm.locals)
    (kk : V g Γ nL k n (pc + 3) ws lv st) : V g Γ nL k n pc ws lv (.ref a :: st) := fun H locs ls hP hD hS hl =>
  W.objInit (g := F0 (kM Γ) pc ls (.ref a :: st)) ok.hx ok.hb ok.hown (ok.hts _ hlink) (ok.hts _ twi_objectInit) (ok.hts _ twc_objectInit) rfl (by rw [ok.hml]; exact hl.1) rfl hd (by rw [ok.hR]; exact hf) (by rw [ok.hR]; show 2 * 0 + _ + 12 ≤ _; omega) (kk H locs ls hP hD hS hl)
/-- System.arraycopy over ints and doubles -/
theorem V_copyi (ok : OK g Γ y cc nL ret rm post) {index a0 a1 N : Nat} {f f1 : Nat → Int32} {i : Int32} {w2 : va_W} (q0 q1 c : Nat) (hlink : Cond.methodLink y.cls index arraycopyName ∈ Tw) (hd : decode cc pc = .ok (.invokestatic index, 3)) (ha0 : ws[q0]? = some (a0, .inl (cI g, N, .inl f))) (ha1 : ws[q1]? = some (a1, .inl (cI g, N, .inl f1))) (hi : i = nI c) (hc : c ≤ N) (hN : N < 2 ^ 31) (hf : 1 ≤ rm.frames) (hlo : (st.map fun v => v.category).sum + (nativeFrameWords "java/lang/System" "arraycopy" 5 + 11) ≤ rm.locals) (hw : ws.set q1 (a1, .inl (cI g, N, .inl (va_cpy f f1 0 0 c))) = w2)
    (kk : V g Γ nL k n (pc + 3) w2 lv st) : V g Γ nL k n pc ws lv (.int i :: .int 0 :: .ref a1 :: .int 0 :: .ref a0 :: st) := fun H locs ls hP hD hS hl => by
  have e : i.toNatClampNeg = c := by rw [hi]; exact nI_clamp (by omega)
  have e0 : (0 : Int32).toNatClampNeg = 0 := rfl
  refine va_copyi (q0 := q0) (q1 := q1) (t0 := 0) (t1 := 0) (ty := .int) ok.hx ok.hb (by rw [ok.hml]; exact hl.1.symm) ok.hown (ok.hts _ hlink) (ok.hts _ twn_arraycopyName) (ok.hts _ tws_arraycopyName) (ok.hts _ twin_J10) ok.hK hP hD hS ha0 ha1 rfl rfl rfl (by decide) (by decide) (by rw [hi]; exact nI_pos (by omega)) (by rw [e, e0]; omega) (by rw [e, e0]; omega) (fun _ _ => rfl) (by rw [ok.hR]; exact hf) (by rw [ok.hR]; exact hlo) hd (by rw [e, e0, hw]; exact fun H1 locs1 hP1 hD1 hS1 => kk H1 locs1 ls hP1 hD1 hS1 hl)
theorem V_copyd (ok : OK g Γ y cc nL ret rm post) {index a0 a1 N : Nat} {f f1 : Nat → UInt64} {i : Int32} {w2 : va_W} (q0 q1 c : Nat) (hlink : Cond.methodLink y.cls index arraycopyName ∈ Tw) (hd : decode cc pc = .ok (.invokestatic index, 3)) (ha0 : ws[q0]? = some (a0, .inl (cD g, N, .inr (.inr (.inr (.inl f)))))) (ha1 : ws[q1]? = some (a1, .inl (cD g, N, .inr (.inr (.inr (.inl f1)))))) (hi : i = nI c) (hc : c ≤ N) (hN : N < 2 ^ 31) (hf : 1 ≤ rm.frames) (hlo : (st.map fun v => v.category).sum + (nativeFrameWords "java/lang/System" "arraycopy" 5 + 11) ≤ rm.locals) (hw : ws.set q1 (a1, .inl (cD g, N, .inr (.inr (.inr (.inl (va_cpy f f1 0 0 c)))))) = w2)
    (kk : V g Γ nL k n (pc + 3) w2 lv st) : V g Γ nL k n pc ws lv (.int i :: .int 0 :: .ref a1 :: .int 0 :: .ref a0 :: st) := fun H locs ls hP hD hS hl => by
  have e : i.toNatClampNeg = c := by rw [hi]; exact nI_clamp (by omega)
  have e0 : (0 : Int32).toNatClampNeg = 0 := rfl
  refine va_copyd (q0 := q0) (q1 := q1) (t0 := 1) (t1 := 1) (ty := .double) ok.hx ok.hb (by rw [ok.hml]; exact hl.1.symm) ok.hown (ok.hts _ hlink) (ok.hts _ twn_arraycopyName) (ok.hts _ tws_arraycopyName) (ok.hts _ twin_J10) ok.hK hP hD hS ha0 ha1 rfl rfl rfl (by decide) (by decide) (by rw [hi]; exact nI_pos (by omega)) (by rw [e, e0]; omega) (by rw [e, e0]; omega) (fun _ _ => rfl) (by rw [ok.hR]; exact hf) (by rw [ok.hR]; exact hlo) hd (by rw [e, e0, hw]; exact fun H1 locs1 hP1 hD1 hS1 => kk H1 locs1 ls hP1 hD1 hS1 hl)
theorem V_rawBits (ok : OK g Γ y cc nL ret rm post) {index : Nat} {b : UInt64} (hlink : Cond.methodLink y.cls index y_raw ∈ Tw) (hd : decode cc pc = .ok (.invokestatic index, 3)) (hf : 1 ≤ rm.frames) (hlo : (st.map fun v => v.category).sum + 15 ≤ rm.locals)
    (kk : V g Γ nL k n (pc + 3) ws lv (.long b.toInt64 :: st)) : V g Γ nL k n pc ws lv (.double b :: st) := fun H locs ls hP hD hS hl =>
  vn_d2l ok.hx ok.hb (by rw [ok.hml]; exact hl.1.symm) ok.hown (ok.hts _ hlink) (ok.hts _ twn_y_raw) (ok.hts _ tws_y_raw) (ok.hts _ twin_Jxe99ae) (by rw [ok.hR]; exact hf) (by rw [ok.hR]; exact hlo) hd (kk H locs ls hP hD hS hl)
/-- returns -/
theorem V_iret (ok : OK g Γ y cc nL (some .int) rm post) {v : Int32} (hd : decode cc pc = .ok (.ireturn, 1)) (hk : k ≤ rm.cells) (hn : n ≤ rm.slots) (hp : post (some (.int v)) ws) : V g Γ nL k n pc ws lv [.int v] := fun H locs ls hP hD hS hl => by
  rw [ok.hQ]
  exact W.widen hk hn (W.iret ok.hx ok.hb ok.hr (fun t ht _ => ⟨⟨_, ws, rfl, hp, by rw [ht]; exact hP, hD⟩, hS.F ht⟩) hS.2.2 hd ok.hlocks)
theorem V_zret (ok : OK g Γ y cc nL (some .boolean) rm post) {v : Int32} (hd : decode cc pc = .ok (.ireturn, 1)) (hk : k ≤ rm.cells) (hn : n ≤ rm.slots) (hv : narrow .boolean (.int v) = .int v) (hp : post (some (.int v)) ws) : V g Γ nL k n pc ws lv [.int v] := fun H locs ls hP hD hS hl => by
  rw [ok.hQ]
  exact W.widen hk hn (W.zret ok.hx ok.hb ok.hr hv (fun t ht _ => ⟨⟨_, ws, rfl, hp, by rw [ht]; exact hP, hD⟩, hS.F ht⟩) hS.2.2 hd ok.hlocks)
theorem V_lret (ok : OK g Γ y cc nL (some .long) rm post) {v : Int64} (hd : decode cc pc = .ok (.lreturn, 1)) (hk : k ≤ rm.cells) (hn : n ≤ rm.slots) (hp : post (some (.long v)) ws) : V g Γ nL k n pc ws lv [.long v] := fun H locs ls hP hD hS hl => by
  rw [ok.hQ]
  exact W.widen hk hn (W.lret ok.hx ok.hb ok.hr (fun t ht _ => ⟨⟨_, ws, rfl, hp, by rw [ht]; exact hP, hD⟩, hS.F ht⟩) hS.2.2 hd ok.hlocks)
theorem V_dret (ok : OK g Γ y cc nL (some .double) rm post) {v : UInt64} (hd : decode cc pc = .ok (.dreturn, 1)) (hk : k ≤ rm.cells) (hn : n ≤ rm.slots) (hp : post (some (.double v)) ws) : V g Γ nL k n pc ws lv [.double v] := fun H locs ls hP hD hS hl => by
  rw [ok.hQ]
  exact W.widen hk hn (W.dret ok.hx ok.hb ok.hr (fun t ht _ => ⟨⟨_, ws, rfl, hp, by rw [ht]; exact hP, hD⟩, hS.F ht⟩) hS.2.2 hd ok.hlocks)
theorem V_vret (ok : OK g Γ y cc nL none rm post) (hd : decode cc pc = .ok (.return_, 1)) (hk : k ≤ rm.cells) (hn : n ≤ rm.slots) (hp : post none ws) : V g Γ nL k n pc ws lv [] := fun H locs ls hP hD hS hl => by
  rw [ok.hQ]
  exact W.widen hk hn (W.vret ok.hx ok.hb ok.hr (fun t ht _ => ⟨⟨_, ws, rfl, hp, by rw [ht]; exact hP, hD⟩, hS.F ht⟩) hS.2.2 hd ok.hlocks)
end VROWS
end
section
/-! calls: the callee's cells are taken out of the world by their places and put back at the same places (what it made is laid behind) -/
def setAll : va_W → List Nat → va_W → va_W
  | ws, i :: is, e :: w => setAll (ws.set i e) is w
  | ws, _, _ => ws
def rep (ws : va_W) (is : List Nat) (w : va_W) : va_W := setAll ws is w ++ w.drop is.length
theorem setAll_get : ∀ (is : List Nat) (ws w : va_W) (j : Nat) (q : Nat × va_E), (setAll ws is w)[j]? = some q → (∃ c : Nat, is[c]? = some j ∧ w[c]? = some q) ∨ ((∀ c : Nat, c < w.length → is[c]? ≠ some j) ∧ ws[j]? = some q)
  | [], ws, w, j, q, h => Or.inr ⟨fun c _ => by simp, by simpa [setAll] using h⟩
  | i :: is, ws, [], j, q, h => Or.inr ⟨fun c hc => by simp at hc, by simpa [setAll] using h⟩
  | i :: is, ws, e :: w, j, q, h => by
    rcases setAll_get is (ws.set i e) w j q h with ⟨c, h1, h2⟩ | ⟨h1, h2⟩
    · exact Or.inl ⟨c + 1, by simpa using h1, by simpa using h2⟩
    · by_cases hj : i = j
      · subst hj
        rw [List.getElem?_set] at h2
        split at h2
        · split at h2
          · cases h2
            exact Or.inl ⟨0, by simp, by simp⟩
          · cases h2
        · exact absurd rfl ‹_›
      · rw [List.getElem?_set_ne hj] at h2
        refine Or.inr ⟨fun c hc hic => ?_, h2⟩
        cases c with
        | zero => simp at hic; exact hj hic
        | succ c => exact h1 c (by simpa using hc) (by simpa using hic)
theorem setAll_len : ∀ (is : List Nat) (ws w : va_W), (setAll ws is w).length = ws.length
  | [], ws, w => by simp [setAll]
  | i :: is, ws, [] => by simp [setAll]
  | i :: is, ws, e :: w => by rw [setAll, setAll_len is (ws.set i e) w, List.length_set]
theorem rep_get {ws w : va_W} {is : List Nat} (hlen : is.length ≤ w.length) {j : Nat} {q : Nat × va_E} (h : (rep ws is w)[j]? = some q) :
    (j < ws.length ∧ ∃ c : Nat, is[c]? = some j ∧ w[c]? = some q) ∨ ((∀ c : Nat, is[c]? ≠ some j) ∧ ws[j]? = some q) ∨ (ws.length ≤ j ∧ w[is.length + (j - ws.length)]? = some q) := by
  unfold rep at h
  by_cases hj : j < ws.length
  · rw [List.getElem?_append_left (by rw [setAll_len]; exact hj)] at h
    rcases setAll_get is ws w j q h with ⟨c, h1, h2⟩ | ⟨h1, h2⟩
    · exact Or.inl ⟨hj, c, h1, h2⟩
    · refine Or.inr (Or.inl ⟨fun c hc => ?_, h2⟩)
      have : c < is.length := (List.getElem?_eq_some_iff.mp hc).1
      exact h1 c (by omega) hc
  · rw [List.getElem?_append_right (by rw [setAll_len]; omega), setAll_len, List.getElem?_drop] at h
    exact Or.inr (Or.inr ⟨by omega, h⟩)
theorem rep_ok {A0 : Nat → Prop} {D : va_G} {cl : List vw_C} {ws wc w : va_W} {H H1 : Heap} (hP : va_P D cl ws H) (hD : va_D A0 ws) (is : List Nat) (hC : is.map (fun i => ws[i]?) = wc.map some) (hlen : is.length ≤ w.length)
    (hk : ∀ q : Nat, q < H.size → ¬ va_A wc H.size q → H1[q]? = H[q]?) (hF : ∀ q, va_A wc H.size q → A0 q) (hP1 : va_P D cl w H1) (hD1 : va_D (va_A wc H.size) w) : va_P D cl (rep ws is w) H1 ∧ va_D A0 (rep ws is w) := by
  have at' : ∀ (c : Nat) (q : Nat × va_E), wc[c]? = some q → ∃ i, is[c]? = some i ∧ ws[i]? = some q := by
    intro c q hq
    have h1 : (is.map (fun i => ws[i]?))[c]? = some (some q) := by rw [hC, List.getElem?_map, hq]; rfl
    rw [List.getElem?_map] at h1
    cases hi : is[c]? with
    | none => rw [hi] at h1; cases h1
    | some i => rw [hi] at h1; exact ⟨i, rfl, Option.some.inj h1⟩
  have apart : ∀ (j : Nat) (q : Nat × va_E), (∀ c : Nat, is[c]? ≠ some j) → ws[j]? = some q → q.1 < H.size ∧ ¬ va_A wc H.size q.1 := by
    intro j q hn hq
    have hl := (hP j q hq).lt
    refine ⟨hl, fun h => ?_⟩
    rcases h with ⟨c, e, h⟩ | h
    · obtain ⟨i, h3, h4⟩ := at' c (q.1, e) h
      have hij := hD.1 j i q (q.1, e) hq h4 rfl
      subst hij
      exact hn c h3
    · omega
  refine ⟨fun j q hq => ?_, fun i j x z hi hj hxy => ?_, fun j q hq => ?_⟩
  · rcases rep_get hlen hq with ⟨-, c, -, h2⟩ | ⟨h1, h2⟩ | ⟨-, h2⟩
    · exact hP1 c q h2
    · obtain ⟨g1, g2⟩ := apart j q h1 h2
      exact (hP j q h2).kept (hk q.1 g1 g2)
    · exact hP1 _ q h2
  · rcases rep_get hlen hi with ⟨li, c, h1, h2⟩ | ⟨h1, h2⟩ | ⟨li, h2⟩ <;> rcases rep_get hlen hj with ⟨lj, d, h3, h4⟩ | ⟨h3, h4⟩ | ⟨lj, h4⟩
    · have := hD1.1 c d x z h2 h4 hxy
      subst this
      exact Option.some.inj (h1.symm.trans h3)
    · exact absurd (hD1.2 c x h2) (by rw [hxy]; exact (apart j z h3 h4).2)
    · have := hD1.1 _ _ x z h2 h4 hxy
      have hc : c < is.length := (List.getElem?_eq_some_iff.mp h1).1
      omega
    · exact absurd (hD1.2 d z h4) (by rw [← hxy]; exact (apart i x h1 h2).2)
    · exact hD.1 i j x z h2 h4 hxy
    · exact absurd (hD1.2 _ z h4) (by rw [← hxy]; exact (apart i x h1 h2).2)
    · have := hD1.1 _ _ x z h2 h4 hxy
      have hc : d < is.length := (List.getElem?_eq_some_iff.mp h3).1
      omega
    · exact absurd (hD1.2 _ x h2) (by rw [hxy]; exact (apart j z h3 h4).2)
    · have := hD1.1 _ _ x z h2 h4 hxy
      omega
  · rcases rep_get hlen hq with ⟨-, c, -, h2⟩ | ⟨h1, h2⟩ | ⟨-, h2⟩
    · exact hF _ (hD1.2 c q h2)
    · exact hD.2 j q h2
    · exact hF _ (hD1.2 _ q h2)
theorem tw_gi {c : Cond} (h : c ∈ Tw) : GoodIn Tw (c :: Tw) := fun w hw =>
  have hm : w ∈ Tw := (List.mem_cons.mp hw).elim (fun e => e ▸ h) id
  ⟨hm, good_of_word (List.mem_filter.mp hm).2⟩
/-- what a callee's name must be, and how many arguments it takes: decided by the kernel, once a method -/
abbrev yOK (y : MethodName) (n : Nat) : Prop := y.cls ≠ "java/lang/invoke/MethodHandle" ∧ y.cls ≠ "java/lang/invoke/VarHandle" ∧ (parseMethodDescriptor y.desc).map (fun d => d.parameters.length) = some n
theorem sub_at {ws wc : va_W} {is : List Nat} (hC : is.map (fun i => ws[i]?) = wc.map some) (c : Nat) (q : Nat × va_E) (hq : wc[c]? = some q) : ∃ i, is[c]? = some i ∧ ws[i]? = some q := by
  have h1 : (is.map (fun i => ws[i]?))[c]? = some (some q) := by rw [hC, List.getElem?_map, hq]; rfl
  rw [List.getElem?_map] at h1
  cases hi : is[c]? with
  | none => rw [hi] at h1; cases h1
  | some i => rw [hi] at h1; exact ⟨i, rfl, Option.some.inj h1⟩
section VCALL
variable {g : Glob} {Γ : Ctx} {y : MethodName} {cc : ByteArray} {nL : Nat} {ret : Option FieldType} {rm : Room} {post : Option Value → va_W → Prop} {k n pc : Nat} {ws : va_W} {lv : List (Nat × Value)} {st : List Value}
variable {y2 : MethodName} {cc2 : ByteArray} {maxL2 : Nat} {ret2 : Option FieldType} {rm2 : Room} {As : List Value} {wc : va_W} {post2 : Option Value → va_W → Prop} {index : Nat} {rest : List Value}
/-- the callee's start out of the caller's point -/
theorem Pp_blind {g : Glob} {wc : va_W} {av : List Value} {sz : Nat} : FrameBlind (Pp g wc av sz) := fun a U f mk q => by
  obtain ⟨q0, q1, qP, qK, qD, qS⟩ := q
  exact ⟨q0, q1, qP, va_K.moved (u := U) (U := U.calling f mk a) (Vm.Alike.refl U.vm) qK, qD, SP.moved (u := U) (U := U.calling f mk a) (Vm.Alike.refl U.vm) qS⟩
theorem Pp_start (ok : OK g Γ y cc nL ret rm post) {H : Heap} {locs : List Loc} (hP : va_P g.2.1 vwCl ws H) (hD : va_D (kO Γ) ws) (hS : va_S (kO Γ) (kS Γ).heap H locs) (is : List Nat) (hnd : va_nd is = true) (hC : is.map (fun i => ws[i]?) = wc.map some) (av : List Value) (U : State) (hU : U.heap = H) (hW : (kS Γ).WarmedH U.vm) : Pp g wc av H.size av.toArray U := by
  have hF := va_free (wc := wc) hD hS ok.hA is hC
  refine ⟨rfl, by rw [hU], ?_, va_K.moved hW.alike ok.hK, (hD.sub is hnd hC).weaken (fun _ _ _ _ => trivial), ?_⟩
  · rw [hU]
    intro c q hq
    obtain ⟨i, -, h2⟩ := sub_at hC c q hq
    exact hP i q h2
  · rw [hU]
    exact SP.moved hW.alike ((SP.kept ok.hSP hS.1 hS.2.1).narrow hF)
theorem V_after (ok : OK g Γ y cc nL ret rm post) {H : Heap} {locs : List Loc} {ls : Array Slot} {a : Array Value} {mc ms : Nat} (hr : va_Run (kP Γ) g.1 (kE Γ) (kR Γ) (kS Γ) (kM Γ) (kA Γ) (kB Γ) (kMe Γ) (kC Γ) H locs k n mc ms (F0 (kM Γ) pc ls st) rest (Qp g post2 (va_A wc H.size) a) (va_A wc H.size))
    (hP : va_P g.2.1 vwCl ws H) (hD : va_D (kO Γ) ws) (hS : va_S (kO Γ) (kS Γ).heap H locs) (hl : lv_has ls nL lv) (is : List Nat) (hC : is.map (fun i => ws[i]?) = wc.map some) (hlen : ∀ v w, post2 v w → is.length ≤ w.length)
    (kk : ∀ v w, post2 v w → V g Γ nL (k + mc) (n + ms) (pc + 3) (rep ws is w) lv (v.toList ++ rest)) : W (kP Γ) g.1 (kE Γ) (kR Γ) (kS Γ) (kM Γ) (kA Γ) (kB Γ) (kMe Γ) (kC Γ) H locs k n (kQ Γ) (F0 (kM Γ) pc ls st) := by
  intro T hT X
  obtain ⟨v, st₀, t, T', L, h0, X', hL, e1, e2, ⟨⟨r, w, hv, hp, hP1, hD1⟩, hz, hk⟩, stp⟩ := hr T hT X
  cases hv
  rw [h0] at hz hk
  have hF := va_free (wc := wc) hD hS ok.hA is hC
  rw [← e1] at hz hk hP1
  obtain ⟨hP2, hD2⟩ := rep_ok hP hD is hC (hlen _ _ hp) hk hF hP1 hD1
  obtain ⟨t2, a1, b1⟩ := kk v w hp T'.heap (locs ++ L) ls hP2 hD2 ⟨Nat.le_trans hS.1 hz, fun q h1 h2 => by rw [hk q (Nat.lt_of_lt_of_le h1 hS.1) (fun z => h2 (hF q z))]; exact hS.2.1 q h1 h2, fun q hq => by
      rcases List.mem_append.mp hq with h | h
      · exact hS.2.2 q h
      · exact hF _ (hL q h)⟩ hl T' rfl X'
  exact ⟨t2, stp t2 a1, b1⟩
theorem V_callS (ok : OK g Γ y cc nL ret rm post) (hM : Con g y2 cc2 maxL2 ret2 rm2 As wc post2) (nA : Nat) (hlink : Cond.methodLink y.cls index y2 ∈ Tw) (hstat : Cond.static y2 ∈ Tw) (hini : Cond.initialized y2.cls ∈ Tw) (hcode : Cond.code y2 cc2 maxL2 ret2 ∈ Tw) (hy : yOK y2 nA) (hR : rm2.frames + 1 ≤ rm.frames ∧ 8 + (maxL2 + 11) + rm2.locals ≤ rm.locals) (hd : decode cc pc = .ok (.invokestatic index, 3)) (hn : As.length = nA) (hst : st = As.reverse ++ rest) (hcat : (rest.map fun v => v.category).sum ≤ 8) (hf : k + rm2.cells ≤ rm.cells ∧ n + rm2.slots ≤ rm.slots)
    (is : List Nat) (hnd : va_nd is = true) (hC : is.map (fun i => ws[i]?) = wc.map some) (hlen : ∀ v w, post2 v w → is.length ≤ w.length)
    (kk : ∀ v w, post2 v w → V g Γ nL (k + rm2.cells) (n + rm2.slots) (pc + 3) (rep ws is w) lv (v.toList ++ rest)) : V g Γ nL k n pc ws lv st := fun H locs ls hP hD hS hl => by
  refine V_after ok (va_runS (As := As) (rest := rest) ⟨ok.hx, ok.hb, ok.hml, ok.hown, ok.hts⟩ (hM H.size) ⟨callB_of nA ok.hts (tw_gi hcode) rfl rfl rfl (ok.hts _ hini) (ok.hts _ hlink) hy (by rw [ok.hR]; exact hR), ok.hts _ hstat⟩ ⟨Pp_blind, fun U hU hW => Pp_start ok hP hD hS is hnd hC As U hU hW⟩ rfl hn hl.1 hst (lv_room hcat) hd (by rw [ok.hR]; exact hf)) hP hD hS hl is hC hlen kk
theorem V_callV (ok : OK g Γ y cc nL ret rm post) {b : Nat} {fs : List Value} {C : String} {TT : u_T} {NN : Nat} (q0 ci : Nat) (hM : Con g y2 cc2 maxL2 ret2 rm2 (.ref b :: As) wc post2) (nA : Nat) (hlink : Cond.methodLink y.cls index y2 ∈ Tw) (hin : Cond.instanceMethod y2 ∈ Tw) (hsel : Cond.selects y2.cls y2 y2 ∈ Tw) (hini : Cond.initialized y2.cls ∈ Tw) (hcode : Cond.code y2 cc2 maxL2 ret2 ∈ Tw) (hy : yOK y2 nA) (hR : rm2.frames + 1 ≤ rm.frames ∧ 8 + (maxL2 + 11) + rm2.locals ≤ rm.locals) (hd : decode cc pc = .ok (.invokevirtual index, 3)) (hcl : vwCl[ci]? = some (y2.cls, TT, NN)) (he : ws[q0]? = some (b, .inr (ci, fs))) (hn : As.length = nA) (hst : st = As.reverse ++ .ref b :: rest) (hcat : (rest.map fun v => v.category).sum ≤ 8) (hf : k + rm2.cells ≤ rm.cells ∧ n + rm2.slots ≤ rm.slots)
    (is : List Nat) (hnd : va_nd is = true) (hC : is.map (fun i => ws[i]?) = wc.map some) (hlen : ∀ v w, post2 v w → is.length ≤ w.length)
    (kk : ∀ v w, post2 v w → V g Γ nL (k + rm2.cells) (n + rm2.slots) (pc + 3) (rep ws is w) lv (v.toList ++ rest)) : V g Γ nL k n pc ws lv st := fun H locs ls hP hD hS hl => by
  refine V_after ok (va_runV (C := y2.cls) (b := b) (As := As) (rest := rest) ⟨ok.hx, ok.hb, ok.hml, ok.hown, ok.hts⟩ (hM H.size) ⟨callB_of nA ok.hts (tw_gi hcode) rfl rfl rfl (ok.hts _ hini) (ok.hts _ hlink) hy (by rw [ok.hR]; exact hR), ok.hts _ hin, ok.hts _ hsel⟩ ⟨Pp_blind, va_recv ok.hK hP hcl he, fun U hU hW => Pp_start ok hP hD hS is hnd hC (.ref b :: As) U hU hW⟩ rfl hn hl.1 hst (lv_room hcat) hd (by rw [ok.hR]; exact hf)) hP hD hS hl is hC hlen kk
theorem V_callI (ok : OK g Γ y cc nL ret rm post) {b : Nat} (hM : Con g y2 cc2 maxL2 none rm2 (.ref b :: As) wc post2) (nA : Nat) (hlink : Cond.methodLink y.cls index y2 ∈ Tw) (hin : Cond.instanceMethod y2 ∈ Tw) (hini : Cond.initialized y2.cls ∈ Tw) (hcode : Cond.code y2 cc2 maxL2 none ∈ Tw) (hname : y2.name = "<init>") (hy : yOK y2 nA) (hR : rm2.frames + 1 ≤ rm.frames ∧ 8 + (maxL2 + 11) + rm2.locals ≤ rm.locals) (hd : decode cc pc = .ok (.invokespecial index, 3)) (hn : As.length = nA) (hst : st = As.reverse ++ .ref b :: rest) (hcat : (rest.map fun v => v.category).sum ≤ 8) (hf : k + rm2.cells ≤ rm.cells ∧ n + rm2.slots ≤ rm.slots)
    (is : List Nat) (hnd : va_nd is = true) (hC : is.map (fun i => ws[i]?) = wc.map some) (hlen : ∀ v w, post2 v w → is.length ≤ w.length)
    (kk : ∀ v w, post2 v w → V g Γ nL (k + rm2.cells) (n + rm2.slots) (pc + 3) (rep ws is w) lv (v.toList ++ rest)) : V g Γ nL k n pc ws lv st := fun H locs ls hP hD hS hl => by
  refine V_after ok (va_runI (b := b) (As := As) (rest := rest) ⟨ok.hx, ok.hb, ok.hml, ok.hown, ok.hts⟩ (hM H.size) ⟨callB_of nA ok.hts (tw_gi hcode) rfl rfl rfl (ok.hts _ hini) (ok.hts _ hlink) hy (by rw [ok.hR]; exact hR), hname, ok.hts _ hin⟩ ⟨Pp_blind, fun U hU hW => Pp_start ok hP hD hS is hnd hC (.ref b :: As) U hU hW⟩ rfl hn hl.1 hst (lv_room hcat) hd (by rw [ok.hR]; exact hf)) hP hD hS hl is hC hlen kk
/-- calls of methods whose answer and cells are told by an equation, and that make nothing -/
theorem V_cS (ok : OK g Γ y cc nL ret rm post) {v2 : Option Value} {w2 wn : va_W} (hM : Con g y2 cc2 maxL2 ret2 rm2 As wc (Is v2 w2)) (nA : Nat) (hlink : Cond.methodLink y.cls index y2 ∈ Tw) (hstat : Cond.static y2 ∈ Tw) (hini : Cond.initialized y2.cls ∈ Tw) (hcode : Cond.code y2 cc2 maxL2 ret2 ∈ Tw) (hy : yOK y2 nA) (hR : rm2.frames + 1 ≤ rm.frames ∧ 8 + (maxL2 + 11) + rm2.locals ≤ rm.locals) (hz : rm2.cells = 0 ∧ rm2.slots = 0) (hd : decode cc pc = .ok (.invokestatic index, 3)) (hn : As.length = nA) (hst : st = As.reverse ++ rest) (hcat : (rest.map fun v => v.category).sum ≤ 8) (hf : k ≤ rm.cells ∧ n ≤ rm.slots)
    (is : List Nat) (hnd : va_nd is = true) (hC : is.map (fun i => ws[i]?) = wc.map some) (hlen : is.length ≤ w2.length) (hw : rep ws is w2 = wn)
    (kk : V g Γ nL k n (pc + 3) wn lv (v2.toList ++ rest)) : V g Γ nL k n pc ws lv st := by
  refine V_callS ok hM nA hlink hstat hini hcode hy hR hd hn hst hcat (by rw [hz.1, hz.2]; exact hf) is hnd hC (fun _ _ h => by rw [h.2]; exact hlen) (fun v w h => ?_)
  obtain ⟨rfl, rfl⟩ := h
  rw [hw, hz.1, hz.2]
  exact kk
theorem V_cV (ok : OK g Γ y cc nL ret rm post) {b : Nat} {fs : List Value} {TT : u_T} {NN : Nat} {v2 : Option Value} {w2 wn : va_W} (q0 ci : Nat) (hM : Con g y2 cc2 maxL2 ret2 rm2 (.ref b :: As) wc (Is v2 w2)) (nA : Nat) (hlink : Cond.methodLink y.cls index y2 ∈ Tw) (hin : Cond.instanceMethod y2 ∈ Tw) (hsel : Cond.selects y2.cls y2 y2 ∈ Tw) (hini : Cond.initialized y2.cls ∈ Tw) (hcode : Cond.code y2 cc2 maxL2 ret2 ∈ Tw) (hy : yOK y2 nA) (hR : rm2.frames + 1 ≤ rm.frames ∧ 8 + (maxL2 + 11) + rm2.locals ≤ rm.locals) (hz : rm2.cells = 0 ∧ rm2.slots = 0) (hd : decode cc pc = .ok (.invokevirtual index, 3)) (hcl : vwCl[ci]? = some (y2.cls, TT, NN)) (he : ws[q0]? = some (b, .inr (ci, fs))) (hn : As.length = nA) (hst : st = As.reverse ++ .ref b :: rest) (hcat : (rest.map fun v => v.category).sum ≤ 8) (hf : k ≤ rm.cells ∧ n ≤ rm.slots)
    (is : List Nat) (hnd : va_nd is = true) (hC : is.map (fun i => ws[i]?) = wc.map some) (hlen : is.length ≤ w2.length) (hw : rep ws is w2 = wn)
    (kk : V g Γ nL k n (pc + 3) wn lv (v2.toList ++ rest)) : V g Γ nL k n pc ws lv st := by
  refine V_callV ok (C := y2.cls) q0 ci hM nA hlink hin hsel hini hcode hy hR hd hcl he hn hst hcat (by rw [hz.1, hz.2]; exact hf) is hnd hC (fun _ _ h => by rw [h.2]; exact hlen) (fun v w h => ?_)
  obtain ⟨rfl, rfl⟩ := h
  rw [hw, hz.1, hz.2]
  exact kk
end VCALL
end
section
/-! doubles: a bound on the size, no -0, the order by the value in least units -/
abbrev zv (x : UInt64) : Int := FP.Core.zval FP.Core.b64 (FP.Core.val64 x)
abbrev one : Nat := FP.Core.one64
def Bd (n : Nat) (x : UInt64) : Prop := FP.Core.DFin x ∧ (zv x).natAbs ≤ n * one
def nz (x : UInt64) : Prop := x ≠ 9223372036854775808
abbrev nn (x : UInt64) : Prop := FP.Core.val64 x ≠ .nan
theorem Bd.fin {n : Nat} {x : UInt64} (h : Bd n x) : FP.Core.DFin x := h.1
theorem Bd.nn {n : Nat} {x : UInt64} (h : Bd n x) : nn x := h.1.ne_nan
theorem Bd.mono {a b : Nat} {x : UInt64} (h : Bd a x) (hab : a ≤ b) : Bd b x := ⟨h.1, Nat.le_trans h.2 (Nat.mul_le_mul_right _ hab)⟩
theorem n64_of {x : UInt64} (h : nn x) : vf_n64 x := by
  have h1 := (FP.Core.ne_nan x).mp h
  unfold vf_n64
  rw [UInt64.le_iff_toNat_le, FP.Core.mask_toNat]
  exact h1
theorem n64_isNaN {x : UInt64} (h : FP.Core.dIsNaN x = false) : vf_n64 x := n64_of ((FP.Core.notNaN_iff x).mp h)
theorem Bd.n64 {n : Nat} {x : UInt64} (h : Bd n x) : vf_n64 x := n64_of h.nn
/-- sizes that a double can be -/
def Rp (n : Nat) : Prop := ∃ m k : Nat, n = m * 2 ^ k ∧ m < 2 ^ 53 ∧ k ≤ 800
theorem Rp.small {n : Nat} (h : n < 2 ^ 53) : Rp n := ⟨n, 0, by simp, h, by omega⟩
theorem one_eq : one = 2 ^ 1074 := by unfold one FP.Core.one64; exact rfl
theorem Rp.val {n : Nat} (h : Rp n) : ∃ V : FP.Core.Datum, FP.Core.fits FP.Core.b64 V ∧ V ≠ .nan ∧ FP.Core.zval FP.Core.b64 V = ((n * one : Nat) : Int) := by
  obtain ⟨m, k, rfl, hm, hk⟩ := h
  have q1 : FP.Core.b64.qmin = -1074 := by decide +kernel
  have q2 : FP.Core.b64.qmax = 971 := by decide +kernel
  have q3 : FP.Core.b64.p = 53 := rfl
  have q4 : FP.Core.b64.tails = 2 ^ 52 := by decide +kernel
  by_cases h0 : m = 0
  · refine ⟨.fin false 0 FP.Core.b64.qmin, ⟨by rw [q3]; exact Nat.two_pow_pos _, Int.le_refl _, by rw [q1, q2]; decide, Or.inl rfl⟩, (fun h => by cases h), ?_⟩
    subst h0
    simp [FP.Core.zval, FP.Core.sgn, FP.Core.zmag, FP.Core.inUnits, FP.Core.signed]
  · have l1 : 2 ^ m.log2 ≤ m := Nat.log2_self_le h0
    have l2 : m < 2 ^ (m.log2 + 1) := Nat.lt_log2_self
    have l3 : m.log2 ≤ 52 := by
      rcases Nat.lt_or_ge 52 m.log2 with h | h
      · have : 2 ^ 53 ≤ 2 ^ m.log2 := Nat.pow_le_pow_right (by decide) h
        omega
      · exact h
    generalize m.log2 = L at l1 l2 l3
    have c1 : m * 2 ^ (52 - L) < 2 ^ 53 := by
      calc m * 2 ^ (52 - L) < 2 ^ (L + 1) * 2 ^ (52 - L) := Nat.mul_lt_mul_of_pos_right l2 (Nat.two_pow_pos _)
        _ = 2 ^ 53 := by rw [← Nat.pow_add]; congr 1; omega
    have c2 : 2 ^ 52 ≤ m * 2 ^ (52 - L) := by
      calc 2 ^ 52 = 2 ^ L * 2 ^ (52 - L) := by rw [← Nat.pow_add]; congr 1; omega
        _ ≤ m * 2 ^ (52 - L) := Nat.mul_le_mul_right _ l1
    refine ⟨.fin false (m * 2 ^ (52 - L)) ((k : Int) - (52 - L : Nat)), ⟨by rw [q3]; exact c1, by rw [q1]; omega, by rw [q2]; omega, Or.inr (by rw [q4]; exact c2)⟩, (fun h => by cases h), ?_⟩
    show FP.Core.signed false (m * 2 ^ (52 - L) * 2 ^ ((k : Int) - (52 - L : Nat) - FP.Core.b64.qmin).toNat) = _
    rw [q1]
    have e : ((k : Int) - (52 - L : Nat) - -1074).toNat = k + 1074 - (52 - L) := by omega
    rw [e]
    have e2 : m * 2 ^ (52 - L) * 2 ^ (k + 1074 - (52 - L)) = m * 2 ^ k * one := by
      rw [one_eq, Nat.mul_assoc, ← Nat.pow_add, Nat.mul_assoc, ← Nat.pow_add, show 52 - L + (k + 1074 - (52 - L)) = k + 1074 by omega]
    rw [e2]
    exact if_neg (by decide)
theorem fin_of_zv {x : UInt64} (hn : nn x) {n : Nat} (h : Rp n) (hb : (zv x).natAbs ≤ n * one) : FP.Core.DFin x := by
  cases hx : FP.Core.val64 x with
  | nan => exact absurd hx hn
  | fin s c q => exact ⟨s, c, q, hx⟩
  | inf s =>
    exfalso
    have q4 : FP.Core.b64.tails = 2 ^ 52 := by decide +kernel
    have q5 : FP.Core.b64.exps - 2 = 2046 := by decide +kernel
    have e : (zv x).natAbs = 2 ^ 52 * 2 ^ 2046 := by
      show (FP.Core.zval FP.Core.b64 (FP.Core.val64 x)).natAbs = _
      rw [hx, ← q4, ← q5]
      show (FP.Core.signed s (FP.Core.b64.tails * 2 ^ (FP.Core.b64.exps - 2))).natAbs = _
      generalize FP.Core.b64.tails * 2 ^ (FP.Core.b64.exps - 2) = Z
      cases s
      · exact Int.natAbs_natCast _
      · show (-(Z : Int)).natAbs = _
        rw [Int.natAbs_neg]; exact Int.natAbs_natCast _
    rw [e] at hb
    obtain ⟨m, k, rfl, hm, hk⟩ := h
    have h1 : m * 2 ^ k * one < 2 ^ 53 * 2 ^ 800 * 2 ^ 1074 := by
      have a1 : m * 2 ^ k < 2 ^ 53 * 2 ^ 800 := Nat.lt_of_lt_of_le (Nat.mul_lt_mul_of_pos_right hm (Nat.two_pow_pos _)) (Nat.mul_le_mul_left _ (Nat.pow_le_pow_right (by decide) hk))
      rw [one_eq]
      exact Nat.mul_lt_mul_of_pos_right a1 (Nat.two_pow_pos 1074)
    have h2 : (2 : Nat) ^ 53 * 2 ^ 800 * 2 ^ 1074 ≤ 2 ^ 52 * 2 ^ 2046 := by
      rw [← Nat.pow_add, ← Nat.pow_add, ← Nat.pow_add]
      exact Nat.pow_le_pow_right (by decide) (by decide)
    exact absurd (Nat.lt_of_le_of_lt hb (Nat.lt_of_lt_of_le h1 h2)) (Nat.lt_irrefl _)
theorem bd_of {x : UInt64} (hn : nn x) {n : Nat} (h : Rp n) (h1 : zv x ≤ ((n * one : Nat) : Int)) (h2 : -((n * one : Nat) : Int) ≤ zv x) : Bd n x :=
  have hb : (zv x).natAbs ≤ n * one := by omega
  ⟨fin_of_zv hn h hb, hb⟩
theorem bd_add {a b : Nat} {x y : UInt64} (hx : Bd a x) (hy : Bd b y) (h : Rp (a + b)) : Bd (a + b) (FP.dadd x y) := by
  obtain ⟨V, v1, v2, v3⟩ := h.val
  have hn : nn (FP.dadd x y) := (FP.Core.notNaN_iff _).mp (FP.Core.dadd_out hx.1.notNaN hy.1)
  have e : (a + b) * one = a * one + b * one := Nat.add_mul _ _ _
  have hx2 := hx.2
  have hy2 := hy.2
  refine bd_of hn h ?_ ?_
  · rw [← v3]
    show FP.Core.zval FP.Core.b64 (FP.Core.val64 (FP.Core.dadd x y)) ≤ _
    rw [FP.Core.val64_dadd]
    refine FP.Core.sum_le FP.Core.good_b64 hx.1 hy.1 (FP.Core.val64_fits x) (FP.Core.val64_fits y) v1 v2 ?_
    rw [v3]
    show zv x + zv y ≤ _
    omega
  · have := FP.Core.sum_ge FP.Core.good_b64 hx.1 hy.1 (FP.Core.val64_fits x) (FP.Core.val64_fits y) (FP.Core.negate_fits v1) (FP.Core.negate_ne_nan v2) (by
      rw [FP.Core.zval_negate, v3]
      show _ ≤ zv x + zv y
      omega)
    rw [FP.Core.zval_negate, v3, ← FP.Core.val64_dadd] at this
    exact this
theorem zv_neg {y : UInt64} : FP.Core.zval FP.Core.b64 (FP.Core.negate (FP.Core.val64 y)) = -zv y := FP.Core.zval_negate _ _
theorem fin_neg {y : UInt64} (h : FP.Core.DFin y) : ∃ s c q, FP.Core.negate (FP.Core.val64 y) = .fin s c q := by
  obtain ⟨s, c, q, h⟩ := h
  exact ⟨!s, c, q, by rw [h]; rfl⟩
theorem bd_sub {a b : Nat} {x y : UInt64} (hx : Bd a x) (hy : Bd b y) (h : Rp (a + b)) : Bd (a + b) (FP.dsub x y) := by
  obtain ⟨V, v1, v2, v3⟩ := h.val
  have hn : nn (FP.dsub x y) := (FP.Core.notNaN_iff _).mp (FP.Core.dsub_out hx.1.notNaN hy.1)
  have e : (a + b) * one = a * one + b * one := Nat.add_mul _ _ _
  have hx2 := hx.2
  have hy2 := hy.2
  refine bd_of hn h ?_ ?_
  · rw [← v3]
    show FP.Core.zval FP.Core.b64 (FP.Core.val64 (FP.Core.dsub x y)) ≤ _
    rw [FP.Core.val64_dsub]
    refine FP.Core.sum_le FP.Core.good_b64 hx.1 (fin_neg hy.1) (FP.Core.val64_fits x) (FP.Core.negate_fits (FP.Core.val64_fits y)) v1 v2 ?_
    rw [v3, zv_neg]
    show zv x + -zv y ≤ _
    omega
  · have := FP.Core.sum_ge FP.Core.good_b64 hx.1 (fin_neg hy.1) (FP.Core.val64_fits x) (FP.Core.negate_fits (FP.Core.val64_fits y)) (FP.Core.negate_fits v1) (FP.Core.negate_ne_nan v2) (by
      rw [FP.Core.zval_negate, v3, zv_neg]
      show _ ≤ zv x + -zv y
      omega)
    rw [FP.Core.zval_negate, v3, ← FP.Core.val64_dsub] at this
    exact this
/-- no -0 comes of a sum whose first part is none -/
theorem sum_nz {s t : Bool} {c d : Nat} {q r : Int} (fx : FP.Core.fits FP.Core.b64 (.fin s c q)) (fy : FP.Core.fits FP.Core.b64 (.fin t d r)) (hs : s = true → 0 < FP.Core.zmag FP.Core.b64 (.fin s c q))
    (h1 : FP.Core.sgn (FP.Core.round FP.Core.b64 (FP.Core.exactSum (.fin s c q) (.fin t d r))) = true) (h2 : FP.Core.zval FP.Core.b64 (FP.Core.round FP.Core.b64 (FP.Core.exactSum (.fin s c q) (.fin t d r))) = 0) : False := by
  have ft : FP.Core.fits FP.Core.b64 (.fin true 1 FP.Core.b64.qmin) := ⟨by decide +kernel, Int.le_refl _, by decide +kernel, Or.inl rfl⟩
  have ff : FP.Core.fits FP.Core.b64 (.fin false 1 FP.Core.b64.qmin) := ⟨by decide +kernel, Int.le_refl _, by decide +kernel, Or.inl rfl⟩
  have zt : FP.Core.zval FP.Core.b64 (.fin true 1 FP.Core.b64.qmin) = -1 := by simp [FP.Core.zval, FP.Core.sgn, FP.Core.zmag, FP.Core.inUnits, FP.Core.signed]
  have zf : FP.Core.zval FP.Core.b64 (.fin false 1 FP.Core.b64.qmin) = 1 := by simp [FP.Core.zval, FP.Core.sgn, FP.Core.zmag, FP.Core.inUnits, FP.Core.signed]
  have le1 := fun h => FP.Core.sum_le FP.Core.good_b64 ⟨s, c, q, rfl⟩ ⟨t, d, r, rfl⟩ fx fy ft (fun h => by cases h) h
  have ge1 := fun h => FP.Core.sum_ge FP.Core.good_b64 ⟨s, c, q, rfl⟩ ⟨t, d, r, rfl⟩ fx fy ff (fun h => by cases h) h
  rw [h2, zt] at le1
  rw [h2, zf] at ge1
  have hz : FP.Core.zval FP.Core.b64 (.fin s c q) + FP.Core.zval FP.Core.b64 (.fin t d r) = 0 := by
    rcases Int.lt_trichotomy (FP.Core.zval FP.Core.b64 (.fin s c q) + FP.Core.zval FP.Core.b64 (.fin t d r)) 0 with h | h | h
    · have := le1 (by omega); omega
    · exact h
    · have := ge1 (by omega); omega
  have hv : FP.Core.sumUnits s c q t d r (min q r) = 0 := by
    obtain ⟨sg, n, e, g1, g2, g3⟩ := FP.Core.sum_units fx fy
    rw [hz] at g3
    have g4 : FP.Core.exactSum (.fin s c q) (.fin t d r) = .fin (FP.Core.sumSign s t (FP.Core.sumUnits s c q t d r (min q r))) (FP.Core.sumUnits s c q t d r (min q r)).natAbs (min q r) := rfl
    rw [g4] at g1
    cases g1
    have g5 : FP.Core.inUnits (FP.Core.sumUnits s c q t d r (min q r)).natAbs (min q r) FP.Core.b64.qmin = 0 := by
      unfold FP.Core.signed at g3
      split at g3 <;> omega
    unfold FP.Core.inUnits at g5
    rcases Nat.mul_eq_zero.mp g5 with h | h
    · omega
    · exact absurd h (Nat.pos_iff_ne_zero.mp (Nat.two_pow_pos _))
  have hsg : s = true ∧ t = true := by
    have e1 : FP.Core.sgn (FP.Core.round FP.Core.b64 (FP.Core.exactSum (.fin s c q) (.fin t d r))) = FP.Core.sumSign s t (FP.Core.sumUnits s c q t d r (min q r)) := FP.Core.sgn_roundRatio _ _ _ _ _
    rw [e1, hv] at h1
    simpa [FP.Core.sumSign] using h1
  have z1 : FP.Core.zval FP.Core.b64 (.fin s c q) = -(FP.Core.zmag FP.Core.b64 (.fin s c q) : Int) := by rw [hsg.1]; rfl
  have z2 : FP.Core.zval FP.Core.b64 (.fin t d r) = -(FP.Core.zmag FP.Core.b64 (.fin t d r) : Int) := by rw [hsg.2]; rfl
  have := hs hsg.1
  omega
theorem nz_iff {x : UInt64} (hf : FP.Core.DFin x) : nz x ↔ (FP.Core.sgn (FP.Core.val64 x) = true → 0 < FP.Core.zmag FP.Core.b64 (FP.Core.val64 x)) := by
  have hl := x.toNat_lt
  have e1 := FP.Core.sgn_bits hf.ne_nan
  have e2 := FP.Core.zval_eq_zero hf.ne_nan
  have e3 : zv x = 0 ↔ FP.Core.zmag FP.Core.b64 (FP.Core.val64 x) = 0 := by
    show FP.Core.signed _ _ = 0 ↔ _
    unfold FP.Core.signed
    split <;> omega
  rw [e1]
  constructor
  · intro h h1
    refine Nat.pos_of_ne_zero fun h0 => h ?_
    have h2 := e2.mp (e3.mpr h0)
    have h3 : 2 ^ 63 ≤ x.toNat := by simpa using h1
    apply UInt64.toNat.inj
    show x.toNat = 9223372036854775808
    omega
  · intro h h1
    have h2 : x.toNat = 9223372036854775808 := by rw [h1]; rfl
    have h3 := h (by simp [h2])
    have h4 := e3.mp (e2.mpr (by rw [h2]))
    omega
theorem nz_add {x y : UInt64} (hx : FP.Core.DFin x) (hy : FP.Core.DFin y) (hr : FP.Core.DFin (FP.dadd x y)) (hz : nz x) : nz (FP.dadd x y) := by
  have hzx := (nz_iff hx).mp hz
  refine (nz_iff hr).mpr fun h1 => Nat.pos_of_ne_zero fun h0 => ?_
  have h2 : zv (FP.dadd x y) = 0 := by
    show FP.Core.signed _ _ = 0
    rw [h0]; cases FP.Core.sgn (FP.Core.val64 (FP.dadd x y)) <;> rfl
  obtain ⟨s, c, q, ex⟩ := hx
  obtain ⟨t, d, r, ey⟩ := hy
  have fx := FP.Core.val64_fits x
  have fy := FP.Core.val64_fits y
  have h3 : FP.Core.val64 (FP.dadd x y) = _ := FP.Core.val64_dadd x y
  have h2 : FP.Core.zval FP.Core.b64 (FP.Core.val64 (FP.dadd x y)) = 0 := h2
  rw [h3, ex, ey] at h1 h2
  rw [ex] at fx hzx
  rw [ey] at fy
  exact sum_nz fx fy hzx h1 h2
theorem nz_sub {x y : UInt64} (hx : FP.Core.DFin x) (hy : FP.Core.DFin y) (hr : FP.Core.DFin (FP.dsub x y)) (hz : nz x) : nz (FP.dsub x y) := by
  have hzx := (nz_iff hx).mp hz
  refine (nz_iff hr).mpr fun h1 => Nat.pos_of_ne_zero fun h0 => ?_
  have h2 : zv (FP.dsub x y) = 0 := by
    show FP.Core.signed _ _ = 0
    rw [h0]; cases FP.Core.sgn (FP.Core.val64 (FP.dsub x y)) <;> rfl
  obtain ⟨s, c, q, ex⟩ := hx
  obtain ⟨t, d, r, ey⟩ := hy
  have fx := FP.Core.val64_fits x
  have fy := FP.Core.negate_fits (FP.Core.val64_fits y)
  have h3 : FP.Core.val64 (FP.dsub x y) = _ := FP.Core.val64_dsub x y
  have h2 : FP.Core.zval FP.Core.b64 (FP.Core.val64 (FP.dsub x y)) = 0 := h2
  rw [h3, ex, ey] at h1 h2
  rw [ex] at fx hzx
  rw [ey] at fy
  exact sum_nz fx fy hzx h1 h2
/-- products and quotients -/
theorem bd_mul {a b : Nat} {x y : UInt64} (hx : Bd a x) (hy : Bd b y) (h : Rp (a * b)) : Bd (a * b) (FP.dmul x y) := by
  obtain ⟨V, v1, v2, v3⟩ := h.val
  have hn : nn (FP.dmul x y) := (FP.Core.notNaN_iff _).mp (FP.Core.dmul_out hx.1 hy.1)
  have q1 : FP.Core.b64.qmin = -1074 := by decide +kernel
  have fx := FP.Core.val64_fits x
  have fy := FP.Core.val64_fits y
  have hx2 := hx.2
  have hy2 := hy.2
  have hv : FP.Core.val64 (FP.dmul x y) = _ := FP.Core.val64_dmul x y
  obtain ⟨⟨s, c, q, ex⟩, -⟩ := hx
  obtain ⟨⟨t, d, r, ey⟩, -⟩ := hy
  rw [ex] at fx
  rw [ey] at fy
  have hq := fx.2.1
  have hr := fy.2.1
  have mx : FP.Core.inUnits c q FP.Core.b64.qmin ≤ a * one := by
    have : (zv x).natAbs = FP.Core.inUnits c q FP.Core.b64.qmin := by
      show (FP.Core.zval FP.Core.b64 (FP.Core.val64 x)).natAbs = _
      rw [ex]
      show (FP.Core.signed s (FP.Core.inUnits c q FP.Core.b64.qmin)).natAbs = _
      cases s <;> simp [FP.Core.signed]
    omega
  have my : FP.Core.inUnits d r FP.Core.b64.qmin ≤ b * one := by
    have : (zv y).natAbs = FP.Core.inUnits d r FP.Core.b64.qmin := by
      show (FP.Core.zval FP.Core.b64 (FP.Core.val64 y)).natAbs = _
      rw [ey]
      show (FP.Core.signed t (FP.Core.inUnits d r FP.Core.b64.qmin)).natAbs = _
      cases t <;> simp [FP.Core.signed]
    omega
  have mu : FP.Core.inUnits (c * d) (q + r) (2 * FP.Core.b64.qmin) = FP.Core.inUnits c q FP.Core.b64.qmin * FP.Core.inUnits d r FP.Core.b64.qmin := by
    unfold FP.Core.inUnits
    rw [show (q + r - 2 * FP.Core.b64.qmin).toNat = (q - FP.Core.b64.qmin).toNat + (r - FP.Core.b64.qmin).toNat by omega, Nat.pow_add]
    ac_rfl
  have e0 : 2 ^ (FP.Core.b64.qmin - 2 * FP.Core.b64.qmin).toNat = one := by
    rw [one_eq, show (FP.Core.b64.qmin - 2 * FP.Core.b64.qmin).toNat = 1074 by rw [q1]; decide]
  have bnd : FP.Core.inUnits (c * d) (q + r) (2 * FP.Core.b64.qmin) ≤ a * b * one * one := by
    rw [mu]
    calc _ ≤ (a * one) * (b * one) := Nat.mul_le_mul mx my
      _ = a * b * one * one := by rw [Nat.mul_mul_mul_comm, Nat.mul_assoc (a * b)]
  have rnd : FP.Core.val64 (FP.dmul x y) = FP.Core.round FP.Core.b64 (.fin (s != t) (c * d) (q + r)) := by rw [hv, ex, ey]; rfl
  refine bd_of hn h ?_ ?_
  · show FP.Core.zval FP.Core.b64 (FP.Core.val64 (FP.dmul x y)) ≤ _
    rw [← v3, rnd]
    refine FP.Core.zval_round_le FP.Core.good_b64 (e0 := 2 * FP.Core.b64.qmin) v1 v2 (by omega) (by omega) ?_
    rw [v3, e0]
    have : FP.Core.signed (s != t) (FP.Core.inUnits (c * d) (q + r) (2 * FP.Core.b64.qmin)) ≤ (FP.Core.inUnits (c * d) (q + r) (2 * FP.Core.b64.qmin) : Int) := by
      cases (s != t) <;> simp [FP.Core.signed]
    have b2 : ((FP.Core.inUnits (c * d) (q + r) (2 * FP.Core.b64.qmin) : Nat) : Int) ≤ ((a * b * one * one : Nat) : Int) := Int.ofNat_le.mpr bnd
    rw [Int.natCast_mul (a * b * one) one] at b2
    omega
  · have := FP.Core.zval_round_ge FP.Core.good_b64 (s := (s != t)) (c := c * d) (q := q + r) (e0 := 2 * FP.Core.b64.qmin) (FP.Core.negate_fits v1) (FP.Core.negate_ne_nan v2) (by omega) (by omega) (by
      rw [FP.Core.zval_negate, v3, e0]
      have : -(FP.Core.inUnits (c * d) (q + r) (2 * FP.Core.b64.qmin) : Int) ≤ FP.Core.signed (s != t) (FP.Core.inUnits (c * d) (q + r) (2 * FP.Core.b64.qmin)) := by
        cases (s != t) <;> simp [FP.Core.signed]
      have b2 : ((FP.Core.inUnits (c * d) (q + r) (2 * FP.Core.b64.qmin) : Nat) : Int) ≤ ((a * b * one * one : Nat) : Int) := Int.ofNat_le.mpr bnd
      rw [Int.natCast_mul (a * b * one) one] at b2
      rw [Int.neg_mul]
      omega)
    rw [FP.Core.zval_negate, v3, ← rnd] at this
    exact this
/-- at least one in size: a divisor that makes nothing greater -/
theorem bd_div {a : Nat} {x y : UInt64} (hx : Bd a x) (hy : FP.Core.DFin y) (h1 : one ≤ (zv y).natAbs) (h : Rp a) : Bd a (FP.ddiv x y) := by
  obtain ⟨V, v1, v2, v3⟩ := h.val
  have q1 : FP.Core.b64.qmin = -1074 := by decide +kernel
  have q2 : FP.Core.b64.qmax = 971 := by decide +kernel
  have fx := FP.Core.val64_fits x
  have fy := FP.Core.val64_fits y
  have hx2 := hx.2
  have hv : FP.Core.val64 (FP.ddiv x y) = _ := FP.Core.val64_ddiv x y
  obtain ⟨⟨s, c, q, ex⟩, -⟩ := hx
  obtain ⟨t, d, r, ey⟩ := hy
  rw [ex] at fx
  rw [ey] at fy
  have hq := fx.2.1
  have hr := fy.2.1
  have hr2 := fy.2.2.1
  have mx : FP.Core.inUnits c q FP.Core.b64.qmin ≤ a * one := by
    have : (zv x).natAbs = FP.Core.inUnits c q FP.Core.b64.qmin := by
      show (FP.Core.zval FP.Core.b64 (FP.Core.val64 x)).natAbs = _
      rw [ex]
      show (FP.Core.signed s (FP.Core.inUnits c q FP.Core.b64.qmin)).natAbs = _
      cases s <;> simp [FP.Core.signed]
    omega
  have my : one ≤ FP.Core.inUnits d r FP.Core.b64.qmin := by
    have : (zv y).natAbs = FP.Core.inUnits d r FP.Core.b64.qmin := by
      show (FP.Core.zval FP.Core.b64 (FP.Core.val64 y)).natAbs = _
      rw [ey]
      show (FP.Core.signed t (FP.Core.inUnits d r FP.Core.b64.qmin)).natAbs = _
      cases t <;> simp [FP.Core.signed]
    omega
  have hd : 0 < d := by
    rcases Nat.eq_zero_or_pos d with h0 | h0
    · subst h0
      have : FP.Core.inUnits 0 r FP.Core.b64.qmin = 0 := Nat.zero_mul _
      rw [this] at my
      exact absurd my (Nat.not_le.mpr FP.Core.one64_pos)
    · exact h0
  have rnd : FP.Core.val64 (FP.ddiv x y) = FP.Core.roundRatio FP.Core.b64 (s != t) c d (q - r) := by
    rw [hv, ex, ey]
    show (if d = 0 then _ else _) = _
    rw [if_neg (by omega)]
  have zV : FP.Core.zmag FP.Core.b64 V = a * one := by
    have : FP.Core.signed (FP.Core.sgn V) (FP.Core.zmag FP.Core.b64 V) = ((a * one : Nat) : Int) := v3
    unfold FP.Core.signed at this
    split at this <;> omega
  have key : 2 ^ (FP.Core.b64.qmax - r).toNat ≤ 2 ^ FP.Core.b64.qmax.toNat * d := by
    unfold FP.Core.inUnits at my
    rcases Int.le_total 0 r with h0 | h0
    · exact Nat.le_trans (Nat.pow_le_pow_right (by decide) (by omega)) (Nat.le_mul_of_pos_right _ hd)
    · have hdr : 2 ^ (-r).toNat ≤ d := by
        refine Nat.le_of_mul_le_mul_right (c := 2 ^ (r - FP.Core.b64.qmin).toNat) ?_ (Nat.two_pow_pos _)
        rw [← Nat.pow_add, show (-r).toNat + (r - FP.Core.b64.qmin).toNat = 1074 by omega, ← one_eq]
        exact my
      rw [show (FP.Core.b64.qmax - r).toNat = FP.Core.b64.qmax.toNat + (-r).toNat by omega, Nat.pow_add]
      exact Nat.mul_le_mul_left _ hdr
  have mag : FP.Core.zmag FP.Core.b64 (FP.Core.val64 (FP.ddiv x y)) ≤ a * one := by
    rw [rnd, ← zV]
    refine FP.Core.zmag_roundRatio_le FP.Core.good_b64 (e0 := FP.Core.b64.qmin - FP.Core.b64.qmax) hd v1 v2 (by omega) (by omega) ?_
    rw [zV, show (FP.Core.b64.qmin - (FP.Core.b64.qmin - FP.Core.b64.qmax)).toNat = FP.Core.b64.qmax.toNat by omega]
    have e1 : FP.Core.inUnits c (q - r) (FP.Core.b64.qmin - FP.Core.b64.qmax) = FP.Core.inUnits c q FP.Core.b64.qmin * 2 ^ (FP.Core.b64.qmax - r).toNat := by
      unfold FP.Core.inUnits
      rw [show (q - r - (FP.Core.b64.qmin - FP.Core.b64.qmax)).toNat = (q - FP.Core.b64.qmin).toNat + (FP.Core.b64.qmax - r).toNat by omega, Nat.pow_add, Nat.mul_assoc]
    rw [e1, Nat.mul_assoc]
    exact Nat.mul_le_mul mx key
  have hn : nn (FP.ddiv x y) := by
    show FP.Core.val64 (FP.ddiv x y) ≠ .nan
    rw [rnd]; exact FP.Core.roundRatio_ne_nan _ _ _ _ _
  have hb : (zv (FP.ddiv x y)).natAbs ≤ a * one := by
    have : (zv (FP.ddiv x y)).natAbs = FP.Core.zmag FP.Core.b64 (FP.Core.val64 (FP.ddiv x y)) := by
      show (FP.Core.signed _ _).natAbs = _
      unfold FP.Core.signed
      split <;> simp
    omega
  exact ⟨fin_of_zv hn h hb, hb⟩
/-- whole numbers -/
theorem zv_i2d (v : Int32) : zv (FP.i2d v) = v.toInt * (one : Int) := by
  have h : FP.Core.Whole v.toInt64.toInt (FP.Core.val64 (FP.Core.l2d v.toInt64)) := FP.Core.l2d_whole ⟨by rw [Int32.toInt_toInt64]; have := v.le_toInt; omega, by rw [Int32.toInt_toInt64]; have := v.toInt_lt; omega⟩
  rw [← FP.Core.i2d_l2d, Int32.toInt_toInt64] at h
  have := FP.Core.whole_zval FP.Core.good_b64 (FP.Core.val64_fits _) h
  rw [FP.Core.pow_qmin64] at this
  exact this
theorem bd_i2d {v : Int32} {n : Nat} (h1 : v.toInt ≤ n) (h2 : -(n : Int) ≤ v.toInt) : Bd n (FP.i2d v) := by
  refine ⟨FP.Core.i2d_fin v, ?_⟩
  rw [zv_i2d, Int.natAbs_mul, Int.natAbs_natCast]
  exact Nat.mul_le_mul_right _ (by omega)
theorem nz_i2d (v : Int32) : nz (FP.i2d v) := by
  by_cases h : v = 0
  · subst h; unfold nz; decide +kernel
  · intro h1
    have := FP.Core.i2d_ne_zero h
    have h2 : (FP.i2d v).toNat = 9223372036854775808 := by rw [h1]; rfl
    exact this (by show (FP.i2d v).toNat % 2 ^ 63 = 0; rw [h2])
theorem i2d_one {v : Int32} (h : 1 ≤ v.toInt) : one ≤ (zv (FP.i2d v)).natAbs := by
  rw [zv_i2d, Int.natAbs_mul, Int.natAbs_natCast]
  exact Nat.le_mul_of_pos_left _ (by omega)
/-- comparisons, by the value -/
theorem zv_inj {x y : UInt64} (hx : FP.Core.DFin x) (hy : FP.Core.DFin y) (nx : nz x) (ny : nz y) (h : zv x = zv y) : x = y := by
  have h1 : FP.Core.dcmp x y = some .eq := by
    rw [FP.Core.dcmp_zval hx.ne_nan hy.ne_nan]
    rw [FP.Core.compare_ite, if_neg (by show ¬ zv x < zv y; omega), if_pos h]
  have h2 := (FP.Core.dcmp_eq_key hx.ne_nan hy.ne_nan).mp h1
  have lx := x.toNat_lt
  have ly := y.toNat_lt
  have n1 : x.toNat ≠ 9223372036854775808 := fun e => nx (UInt64.toNat.inj e)
  have n2 : y.toNat ≠ 9223372036854775808 := fun e => ny (UInt64.toNat.inj e)
  refine UInt64.toNat.inj ?_
  unfold FP.Core.dkey at h2
  split at h2 <;> split at h2 <;> omega
theorem cmp_z {x y : UInt64} (hx : nn x) (hy : nn y) (op : CmpOp) : Op.cmpValue (FP.dcmp x y) op = if zv x < zv y then -1 else if zv x = zv y then 0 else 1 := by
  have h1 : FP.dcmp x y = some (compare (zv x) (zv y)) := FP.Core.dcmp_zval hx hy
  rw [h1, FP.Core.compare_ite]
  by_cases h2 : zv x < zv y
  · rw [if_pos h2, if_pos h2]; rfl
  · rw [if_neg h2, if_neg h2]
    by_cases h3 : zv x = zv y
    · rw [if_pos h3, if_pos h3]; rfl
    · rw [if_neg h3, if_neg h3]; rfl
end
section
/-! rows for whole numbers, booleans and doubles compared -/
theorem nI_inc (i c : Nat) : nI i + Int32.ofInt (c : Int) = nI (i + c) := by
  rw [← nI_add]
  congr 1
theorem nI_dec (i : Nat) : nI (i + 1) + Int32.ofInt (-1) = nI i := by
  have h : Int32.ofInt (-1) = -1 := rfl
  rw [h]
  exact pk_m1 i
def bI (b : Bool) : Int32 := if b then 1 else 0
theorem bI_nar (b : Bool) : narrow .boolean (.int (bI b)) = .int (bI b) := by cases b <;> rfl
theorem nI_inj {a b : Nat} (ha : a < 2 ^ 31) (hb : b < 2 ^ 31) (h : nI a = nI b) : a = b := (nI_eq ha hb).mp h
section VMORE
variable {g : Glob} {Γ : Ctx} {y : MethodName} {cc : ByteArray} {nL : Nat} {ret : Option FieldType} {rm : Room} {post : Option Value → va_W → Prop} {k n pc : Nat} {ws : va_W} {lv : List (Nat × Value)} {st : List Value}
theorem V_iaddN (ok : OK g Γ y cc nL ret rm post) {a b c : Nat} (hd : decode cc pc = .ok (.iadd, 1)) (hc : a + b = c) (kk : V g Γ nL k n (pc + 1) ws lv (.int (nI c) :: st)) : V g Γ nL k n pc ws lv (.int (nI b) :: .int (nI a) :: st) := V_iadd ok hd (by rw [nI_add, hc]; exact kk)
theorem V_isubN (ok : OK g Γ y cc nL ret rm post) {a b c : Nat} (hd : decode cc pc = .ok (.isub, 1)) (h : b ≤ a) (hc : a - b = c) (kk : V g Γ nL k n (pc + 1) ws lv (.int (nI c) :: st)) : V g Γ nL k n pc ws lv (.int (nI b) :: .int (nI a) :: st) := V_isub ok hd (by rw [pk_sub h, hc]; exact kk)
theorem V_imulN (ok : OK g Γ y cc nL ret rm post) {a b c : Nat} (hd : decode cc pc = .ok (.imul, 1)) (hc : a * b = c) (kk : V g Γ nL k n (pc + 1) ws lv (.int (nI c) :: st)) : V g Γ nL k n pc ws lv (.int (nI b) :: .int (nI a) :: st) := V_imul ok hd (by rw [pk_mul, hc]; exact kk)
theorem V_nm_nat {x : Int32} {a : Nat} (h : x = nI a) (kk : V g Γ nL k n pc ws lv (.int (nI a) :: st)) : V g Γ nL k n pc ws lv (.int x :: st) := h ▸ kk
theorem V_icmpN_ge (ok : OK g Γ y cc nL ret rm post) {a b : Nat} {off : Int} {tgt : Nat} (hd : decode cc pc = .ok (.if_icmp .ge off, 3)) (ht : (pc : Int) + off = (tgt : Int)) (ha : a < 2 ^ 31) (hb : b < 2 ^ 31) (kt : b ≤ a → V g Γ nL k n tgt ws lv st) (kf : ¬ b ≤ a → V g Γ nL k n (pc + 3) ws lv st) : V g Γ nL k n pc ws lv (.int (nI b) :: .int (nI a) :: st) := V_icmp_ge ok hd ht (fun h => kt ((nI_leI hb ha).mp h)) (fun h => kf (fun q => h ((nI_leI hb ha).mpr q)))
theorem V_icmpN_lt (ok : OK g Γ y cc nL ret rm post) {a b : Nat} {off : Int} {tgt : Nat} (hd : decode cc pc = .ok (.if_icmp .lt off, 3)) (ht : (pc : Int) + off = (tgt : Int)) (ha : a < 2 ^ 31) (hb : b < 2 ^ 31) (kt : a < b → V g Γ nL k n tgt ws lv st) (kf : ¬ a < b → V g Γ nL k n (pc + 3) ws lv st) : V g Γ nL k n pc ws lv (.int (nI b) :: .int (nI a) :: st) := V_icmp_lt ok hd ht (fun h => kt ((nI_ltI ha hb).mp h)) (fun h => kf (fun q => h ((nI_ltI ha hb).mpr q)))
theorem V_icmpN_gt (ok : OK g Γ y cc nL ret rm post) {a b : Nat} {off : Int} {tgt : Nat} (hd : decode cc pc = .ok (.if_icmp .gt off, 3)) (ht : (pc : Int) + off = (tgt : Int)) (ha : a < 2 ^ 31) (hb : b < 2 ^ 31) (kt : b < a → V g Γ nL k n tgt ws lv st) (kf : ¬ b < a → V g Γ nL k n (pc + 3) ws lv st) : V g Γ nL k n pc ws lv (.int (nI b) :: .int (nI a) :: st) := V_icmp_gt ok hd ht (fun h => kt ((nI_ltI hb ha).mp h)) (fun h => kf (fun q => h ((nI_ltI hb ha).mpr q)))
theorem V_icmpN_le (ok : OK g Γ y cc nL ret rm post) {a b : Nat} {off : Int} {tgt : Nat} (hd : decode cc pc = .ok (.if_icmp .le off, 3)) (ht : (pc : Int) + off = (tgt : Int)) (ha : a < 2 ^ 31) (hb : b < 2 ^ 31) (kt : a ≤ b → V g Γ nL k n tgt ws lv st) (kf : ¬ a ≤ b → V g Γ nL k n (pc + 3) ws lv st) : V g Γ nL k n pc ws lv (.int (nI b) :: .int (nI a) :: st) := V_icmp_le ok hd ht (fun h => kt ((nI_leI ha hb).mp h)) (fun h => kf (fun q => h ((nI_leI ha hb).mpr q)))
theorem V_icmpN_eq (ok : OK g Γ y cc nL ret rm post) {a b : Nat} {off : Int} {tgt : Nat} (hd : decode cc pc = .ok (.if_icmp .eq off, 3)) (ht : (pc : Int) + off = (tgt : Int)) (ha : a < 2 ^ 31) (hb : b < 2 ^ 31) (kt : a = b → V g Γ nL k n tgt ws lv st) (kf : ¬ a = b → V g Γ nL k n (pc + 3) ws lv st) : V g Γ nL k n pc ws lv (.int (nI b) :: .int (nI a) :: st) := V_icmp_eq ok hd ht (fun h => kt ((nI_eq ha hb).mp h)) (fun h => kf (fun q => h ((nI_eq ha hb).mpr q)))
theorem V_icmpN_ne (ok : OK g Γ y cc nL ret rm post) {a b : Nat} {off : Int} {tgt : Nat} (hd : decode cc pc = .ok (.if_icmp .ne off, 3)) (ht : (pc : Int) + off = (tgt : Int)) (ha : a < 2 ^ 31) (hb : b < 2 ^ 31) (kt : ¬ a = b → V g Γ nL k n tgt ws lv st) (kf : a = b → V g Γ nL k n (pc + 3) ws lv st) : V g Γ nL k n pc ws lv (.int (nI b) :: .int (nI a) :: st) := V_icmp_ne ok hd ht (fun h => kt (fun q => h ((nI_eq ha hb).mpr q))) (fun h => kf ((nI_eq ha hb).mp h))
theorem V_ifN_eq (ok : OK g Γ y cc nL ret rm post) {a : Nat} {off : Int} {tgt : Nat} (hd : decode cc pc = .ok (.ifCond .eq off, 3)) (ht : (pc : Int) + off = (tgt : Int)) (ha : a < 2 ^ 31) (kt : a = 0 → V g Γ nL k n tgt ws lv st) (kf : ¬ a = 0 → V g Γ nL k n (pc + 3) ws lv st) : V g Γ nL k n pc ws lv (.int (nI a) :: st) := V_if_eq ok hd ht (fun h => kt ((nI_eq ha (by decide)).mp (h.trans nI_0.symm))) (fun h => kf (fun q => h (by rw [q]; exact nI_0)))
theorem V_ifN_ne (ok : OK g Γ y cc nL ret rm post) {a : Nat} {off : Int} {tgt : Nat} (hd : decode cc pc = .ok (.ifCond .ne off, 3)) (ht : (pc : Int) + off = (tgt : Int)) (ha : a < 2 ^ 31) (kt : ¬ a = 0 → V g Γ nL k n tgt ws lv st) (kf : a = 0 → V g Γ nL k n (pc + 3) ws lv st) : V g Γ nL k n pc ws lv (.int (nI a) :: st) := V_if_ne ok hd ht (fun h => kt (fun q => h (by rw [q]; exact nI_0))) (fun h => kf ((nI_eq ha (by decide)).mp (h.trans nI_0.symm)))
theorem V_ifN_le (ok : OK g Γ y cc nL ret rm post) {a : Nat} {off : Int} {tgt : Nat} (hd : decode cc pc = .ok (.ifCond .le off, 3)) (ht : (pc : Int) + off = (tgt : Int)) (ha : a < 2 ^ 31) (kt : a = 0 → V g Γ nL k n tgt ws lv st) (kf : ¬ a = 0 → V g Γ nL k n (pc + 3) ws lv st) : V g Γ nL k n pc ws lv (.int (nI a) :: st) := V_if_le ok hd ht (fun h => kt (by have := (nI_leI ha (b := 0) (by decide)).mp (by rw [nI_0]; exact h); omega)) (fun h => kf (fun q => h (by rw [q, nI_0]; decide)))
theorem V_ifN_lt (ok : OK g Γ y cc nL ret rm post) {a : Nat} {off : Int} {tgt : Nat} (hd : decode cc pc = .ok (.ifCond .lt off, 3)) (ht : (pc : Int) + off = (tgt : Int)) (ha : a < 2 ^ 31) (kf : V g Γ nL k n (pc + 3) ws lv st) : V g Γ nL k n pc ws lv (.int (nI a) :: st) := V_if_lt ok hd ht (fun h => absurd h (nI_pos ha)) (fun _ => kf)
theorem V_ifN_ge (ok : OK g Γ y cc nL ret rm post) {a : Nat} {off : Int} {tgt : Nat} (hd : decode cc pc = .ok (.ifCond .ge off, 3)) (ht : (pc : Int) + off = (tgt : Int)) (ha : a < 2 ^ 31) (kt : V g Γ nL k n tgt ws lv st) : V g Γ nL k n pc ws lv (.int (nI a) :: st) := V_if_ge ok hd ht (fun _ => kt) (fun h => absurd (nI_pos' ha) h)
theorem V_ifN_gt (ok : OK g Γ y cc nL ret rm post) {a : Nat} {off : Int} {tgt : Nat} (hd : decode cc pc = .ok (.ifCond .gt off, 3)) (ht : (pc : Int) + off = (tgt : Int)) (ha : a < 2 ^ 31) (kt : ¬ a = 0 → V g Γ nL k n tgt ws lv st) (kf : a = 0 → V g Γ nL k n (pc + 3) ws lv st) : V g Γ nL k n pc ws lv (.int (nI a) :: st) := V_if_gt ok hd ht (fun h => kt (fun q => by rw [q, nI_0] at h; exact absurd h (by decide))) (fun h => kf (by
  rcases Nat.eq_zero_or_pos a with q | q
  · exact q
  · exact absurd (by rw [← nI_0]; exact nI_lt q ha) h))
theorem V_ifB_eq (ok : OK g Γ y cc nL ret rm post) {b : Bool} {off : Int} {tgt : Nat} (hd : decode cc pc = .ok (.ifCond .eq off, 3)) (ht : (pc : Int) + off = (tgt : Int)) (kt : ¬ b = true → V g Γ nL k n tgt ws lv st) (kf : b = true → V g Γ nL k n (pc + 3) ws lv st) : V g Γ nL k n pc ws lv (.int (bI b) :: st) := V_if_eq ok hd ht (fun h => kt (fun q => by rw [q] at h; exact absurd h (by decide))) (fun h => kf (by cases b <;> first | rfl | exact absurd rfl h))
theorem V_ifB_ne (ok : OK g Γ y cc nL ret rm post) {b : Bool} {off : Int} {tgt : Nat} (hd : decode cc pc = .ok (.ifCond .ne off, 3)) (ht : (pc : Int) + off = (tgt : Int)) (kt : b = true → V g Γ nL k n tgt ws lv st) (kf : ¬ b = true → V g Γ nL k n (pc + 3) ws lv st) : V g Γ nL k n pc ws lv (.int (bI b) :: st) := V_if_ne ok hd ht (fun h => kt (by cases b <;> first | rfl | exact absurd rfl h)) (fun h => kf (fun q => by rw [q] at h; exact absurd h (by decide)))
theorem V_dle (ok : OK g Γ y cc nL ret rm post) {a b : UInt64} {off : Int} {tgt : Nat} (hd : decode cc pc = .ok (.dcmp .l, 1)) (hd2 : decode cc (pc + 1) = .ok (.ifCond .le off, 3)) (ht : ((pc + 1 : Nat) : Int) + off = (tgt : Int)) (na : nn a) (nb : nn b) (kt : ¬ zv b < zv a → V g Γ nL k n tgt ws lv st) (kf : zv b < zv a → V g Γ nL k n (pc + 4) ws lv st) : V g Γ nL k n pc ws lv (.double b :: .double a :: st) := by
  refine V_dcmp ok hd ?_
  rw [cmp_z na nb]
  refine V_if_le ok hd2 ht (fun h => kt fun q => ?_) (fun h => kf ?_)
  · rw [if_neg (by omega), if_neg (by omega)] at h; exact absurd h (by decide)
  · rcases Int.lt_trichotomy (zv a) (zv b) with q | q | q
    · rw [if_pos q] at h; exact absurd (by decide) h
    · rw [if_neg (by omega), if_pos q] at h; exact absurd (by decide) h
    · exact q
theorem V_dge (ok : OK g Γ y cc nL ret rm post) {a b : UInt64} {off : Int} {tgt : Nat} (hd : decode cc pc = .ok (.dcmp .g, 1)) (hd2 : decode cc (pc + 1) = .ok (.ifCond .ge off, 3)) (ht : ((pc + 1 : Nat) : Int) + off = (tgt : Int)) (na : nn a) (nb : nn b) (kt : ¬ zv a < zv b → V g Γ nL k n tgt ws lv st) (kf : zv a < zv b → V g Γ nL k n (pc + 4) ws lv st) : V g Γ nL k n pc ws lv (.double b :: .double a :: st) := by
  refine V_dcmp ok hd ?_
  rw [cmp_z na nb]
  refine V_if_ge ok hd2 ht (fun h => kt fun q => ?_) (fun h => kf ?_)
  · rw [if_pos q] at h; exact absurd h (by decide)
  · rcases Int.lt_trichotomy (zv a) (zv b) with q | q | q
    · exact q
    · rw [if_neg (by omega), if_pos q] at h; exact absurd (by decide) h
    · rw [if_neg (by omega), if_neg (by omega)] at h; exact absurd (by decide) h
theorem V_dgt (ok : OK g Γ y cc nL ret rm post) {a b : UInt64} {off : Int} {tgt : Nat} (hd : decode cc pc = .ok (.dcmp .g, 1)) (hd2 : decode cc (pc + 1) = .ok (.ifCond .gt off, 3)) (ht : ((pc + 1 : Nat) : Int) + off = (tgt : Int)) (na : nn a) (nb : nn b) (kt : zv b < zv a → V g Γ nL k n tgt ws lv st) (kf : ¬ zv b < zv a → V g Γ nL k n (pc + 4) ws lv st) : V g Γ nL k n pc ws lv (.double b :: .double a :: st) := by
  refine V_dcmp ok hd ?_
  rw [cmp_z na nb]
  refine V_if_gt ok hd2 ht (fun h => kt ?_) (fun h => kf fun q => ?_)
  · rcases Int.lt_trichotomy (zv a) (zv b) with q | q | q
    · rw [if_pos q] at h; exact absurd h (by decide)
    · rw [if_neg (by omega), if_pos q] at h; exact absurd h (by decide)
    · exact q
  · rw [if_neg (by omega), if_neg (by omega)] at h; exact absurd (by decide) h
theorem V_dne (ok : OK g Γ y cc nL ret rm post) {a b : UInt64} {off : Int} {tgt : Nat} (hd : decode cc pc = .ok (.dcmp .l, 1)) (hd2 : decode cc (pc + 1) = .ok (.ifCond .ne off, 3)) (ht : ((pc + 1 : Nat) : Int) + off = (tgt : Int)) (na : nn a) (nb : nn b) (kt : ¬ zv a = zv b → V g Γ nL k n tgt ws lv st) (kf : zv a = zv b → V g Γ nL k n (pc + 4) ws lv st) : V g Γ nL k n pc ws lv (.double b :: .double a :: st) := by
  refine V_dcmp ok hd ?_
  rw [cmp_z na nb]
  refine V_if_ne ok hd2 ht (fun h => kt fun q => ?_) (fun h => kf ?_)
  · rw [if_neg (by omega), if_pos q] at h; exact absurd rfl h
  · rcases Int.lt_trichotomy (zv a) (zv b) with q | q | q
    · rw [if_pos q] at h; exact absurd h (by decide)
    · exact q
    · rw [if_neg (by omega), if_neg (by omega)] at h; exact absurd h (by decide)
theorem V_deq (ok : OK g Γ y cc nL ret rm post) {a b : UInt64} {off : Int} {tgt : Nat} (hd : decode cc pc = .ok (.dcmp .l, 1)) (hd2 : decode cc (pc + 1) = .ok (.ifCond .eq off, 3)) (ht : ((pc + 1 : Nat) : Int) + off = (tgt : Int)) (na : nn a) (nb : nn b) (kt : zv a = zv b → V g Γ nL k n tgt ws lv st) (kf : ¬ zv a = zv b → V g Γ nL k n (pc + 4) ws lv st) : V g Γ nL k n pc ws lv (.double b :: .double a :: st) := by
  refine V_dcmp ok hd ?_
  rw [cmp_z na nb]
  refine V_if_eq ok hd2 ht (fun h => kt ?_) (fun h => kf fun q => ?_)
  · rcases Int.lt_trichotomy (zv a) (zv b) with q | q | q
    · rw [if_pos q] at h; exact absurd h (by decide)
    · exact q
    · rw [if_neg (by omega), if_neg (by omega)] at h; exact absurd h (by decide)
  · rw [if_neg (by omega), if_pos q] at h; exact absurd rfl h
end VMORE
theorem yok_X2_init : yOK yX2_init 0 := by decide +kernel
theorem ypl_X2_init : plainName yX2_init.cls = true := by decide +kernel
theorem yok_X0_init : yOK yX0_init 0 := by decide +kernel
theorem ypl_X0_init : plainName yX0_init.cls = true := by decide +kernel
theorem yok_X0_settle : yOK yX0_settle 0 := by decide +kernel
theorem ypl_X0_settle : plainName yX0_settle.cls = true := by decide +kernel
theorem yok_X0_pressure : yOK yX0_pressure 1 := by decide +kernel
theorem ypl_X0_pressure : plainName yX0_pressure.cls = true := by decide +kernel
theorem yok_X1_init : yOK yX1_init 0 := by decide +kernel
theorem ypl_X1_init : plainName yX1_init.cls = true := by decide +kernel
theorem yok_X2_pipe : yOK yX2_pipe 1 := by decide +kernel
theorem ypl_X2_pipe : plainName yX2_pipe.cls = true := by decide +kernel
theorem yok_X2_change : yOK yX2_change 2 := by decide +kernel
theorem ypl_X2_change : plainName yX2_change.cls = true := by decide +kernel
theorem yok_X0_fits : yOK yX0_fits 2 := by decide +kernel
theorem ypl_X0_fits : plainName yX0_fits.cls = true := by decide +kernel
theorem yok_X2_refuse : yOK yX2_refuse 1 := by decide +kernel
theorem ypl_X2_refuse : plainName yX2_refuse.cls = true := by decide +kernel
theorem yok_X2_keep : yOK yX2_keep 1 := by decide +kernel
theorem ypl_X2_keep : plainName yX2_keep.cls = true := by decide +kernel
theorem yok_X0_copyFrom : yOK yX0_copyFrom 1 := by decide +kernel
theorem ypl_X0_copyFrom : plainName yX0_copyFrom.cls = true := by decide +kernel
theorem yok_X0_put : yOK yX0_put 2 := by decide +kernel
theorem ypl_X0_put : plainName yX0_put.cls = true := by decide +kernel
theorem yok_X2_sets : yOK yX2_sets 2 := by decide +kernel
theorem ypl_X2_sets : plainName yX2_sets.cls = true := by decide +kernel
theorem yok_X2_ends : yOK yX2_ends 2 := by decide +kernel
theorem ypl_X2_ends : plainName yX2_ends.cls = true := by decide +kernel
theorem yok_X2_law : yOK yX2_law 2 := by decide +kernel
theorem ypl_X2_law : plainName yX2_law.cls = true := by decide +kernel
theorem yok_X0_isLaw : yOK yX0_isLaw 2 := by decide +kernel
theorem ypl_X0_isLaw : plainName yX0_isLaw.cls = true := by decide +kernel
theorem yok_X0_govern : yOK yX0_govern 2 := by decide +kernel
theorem ypl_X0_govern : plainName yX0_govern.cls = true := by decide +kernel
theorem yok_X2_steady : yOK yX2_steady 0 := by decide +kernel
theorem ypl_X2_steady : plainName yX2_steady.cls = true := by decide +kernel
theorem yok_X2_steps : yOK yX2_steps 1 := by decide +kernel
theorem ypl_X2_steps : plainName yX2_steps.cls = true := by decide +kernel
theorem yok_X2_isStepCount : yOK yX2_isStepCount 1 := by decide +kernel
theorem ypl_X2_isStepCount : plainName yX2_isStepCount.cls = true := by decide +kernel
theorem yok_X2_hasTimeFor : yOK yX2_hasTimeFor 1 := by decide +kernel
theorem ypl_X2_hasTimeFor : plainName yX2_hasTimeFor.cls = true := by decide +kernel
theorem yok_X0_advance : yOK yX0_advance 1 := by decide +kernel
theorem ypl_X0_advance : plainName yX0_advance.cls = true := by decide +kernel
theorem yok_X0_shift : yOK yX0_shift 0 := by decide +kernel
theorem ypl_X0_shift : plainName yX0_shift.cls = true := by decide +kernel
theorem yok_X0_turnLeft : yOK yX0_turnLeft 0 := by decide +kernel
theorem ypl_X0_turnLeft : plainName yX0_turnLeft.cls = true := by decide +kernel
theorem yok_X0_turnRight : yOK yX0_turnRight 0 := by decide +kernel
theorem ypl_X0_turnRight : plainName yX0_turnRight.cls = true := by decide +kernel
theorem yok_X0_letBy : yOK yX0_letBy 4 := by decide +kernel
theorem ypl_X0_letBy : plainName yX0_letBy.cls = true := by decide +kernel
theorem yok_X0_fillTank : yOK yX0_fillTank 1 := by decide +kernel
theorem ypl_X0_fillTank : plainName yX0_fillTank.cls = true := by decide +kernel
theorem yok_X0_widenEnvelopes : yOK yX0_widenEnvelopes 0 := by decide +kernel
theorem ypl_X0_widenEnvelopes : plainName yX0_widenEnvelopes.cls = true := by decide +kernel
theorem yok_X2_node : yOK yX2_node 2 := by decide +kernel
theorem ypl_X2_node : plainName yX2_node.cls = true := by decide +kernel
theorem yok_X0_hasNode : yOK yX0_hasNode 1 := by decide +kernel
theorem ypl_X0_hasNode : plainName yX0_hasNode.cls = true := by decide +kernel
theorem yok_X2_refuseLong : yOK yX2_refuseLong 0 := by decide +kernel
theorem ypl_X2_refuseLong : plainName yX2_refuseLong.cls = true := by decide +kernel
theorem yok_X2_thousandfold : yOK yX2_thousandfold 1 := by decide +kernel
theorem ypl_X2_thousandfold : plainName yX2_thousandfold.cls = true := by decide +kernel
theorem yok_X2_all : yOK yX2_all 1 := by decide +kernel
theorem ypl_X2_all : plainName yX2_all.cls = true := by decide +kernel
theorem yok_X0_sumOfSquares : yOK yX0_sumOfSquares 0 := by decide +kernel
theorem ypl_X0_sumOfSquares : plainName yX0_sumOfSquares.cls = true := by decide +kernel
theorem yok_X2_bits : yOK yX2_bits 1 := by decide +kernel
theorem ypl_X2_bits : plainName yX2_bits.cls = true := by decide +kernel
theorem yok_X2_bitsOf : yOK yX2_bitsOf 1 := by decide +kernel
theorem ypl_X2_bitsOf : plainName yX2_bitsOf.cls = true := by decide +kernel
theorem yok_X2_lets : yOK yX2_lets 3 := by decide +kernel
theorem ypl_X2_lets : plainName yX2_lets.cls = true := by decide +kernel
theorem yok_X2_trial : yOK yX2_trial 3 := by decide +kernel
theorem ypl_X2_trial : plainName yX2_trial.cls = true := by decide +kernel
theorem yok_X2_isTrialLength : yOK yX2_isTrialLength 1 := by decide +kernel
theorem ypl_X2_isTrialLength : plainName yX2_isTrialLength.cls = true := by decide +kernel
theorem yok_X0_tryOut : yOK yX0_tryOut 3 := by decide +kernel
theorem ypl_X0_tryOut : plainName yX0_tryOut.cls = true := by decide +kernel
theorem yok_X2_soonest : yOK yX2_soonest 3 := by decide +kernel
theorem ypl_X2_soonest : plainName yX2_soonest.cls = true := by decide +kernel
theorem yok_X2_isBound : yOK yX2_isBound 1 := by decide +kernel
theorem ypl_X2_isBound : plainName yX2_isBound.cls = true := by decide +kernel
theorem yok_X2_staysWithin : yOK yX2_staysWithin 4 := by decide +kernel
theorem ypl_X2_staysWithin : plainName yX2_staysWithin.cls = true := by decide +kernel
theorem yok_X2_best : yOK yX2_best 3 := by decide +kernel
theorem ypl_X2_best : plainName yX2_best.cls = true := by decide +kernel
theorem yok_X2_type : yOK yX2_type 1 := by decide +kernel
theorem ypl_X2_type : plainName yX2_type.cls = true := by decide +kernel
theorem yok_X1_append : yOK yX1_append 1 := by decide +kernel
theorem ypl_X1_append : plainName yX1_append.cls = true := by decide +kernel
theorem yok_X2_clear : yOK yX2_clear 0 := by decide +kernel
theorem ypl_X2_clear : plainName yX2_clear.cls = true := by decide +kernel
theorem yok_X2_reads : yOK yX2_reads 0 := by decide +kernel
theorem ypl_X2_reads : plainName yX2_reads.cls = true := by decide +kernel
theorem yok_X1_findFault : yOK yX1_findFault 0 := by decide +kernel
theorem ypl_X1_findFault : plainName yX1_findFault.cls = true := by decide +kernel
theorem yok_X1_rewind : yOK yX1_rewind 0 := by decide +kernel
theorem ypl_X1_rewind : plainName yX1_rewind.cls = true := by decide +kernel
theorem yok_X1_nextOrder : yOK yX1_nextOrder 0 := by decide +kernel
theorem ypl_X1_nextOrder : plainName yX1_nextOrder.cls = true := by decide +kernel
theorem yok_X1_skipBlanks : yOK yX1_skipBlanks 0 := by decide +kernel
theorem ypl_X1_skipBlanks : plainName yX1_skipBlanks.cls = true := by decide +kernel
theorem yok_X1_byteHere : yOK yX1_byteHere 0 := by decide +kernel
theorem ypl_X1_byteHere : plainName yX1_byteHere.cls = true := by decide +kernel
theorem yok_X1_valueNamed : yOK yX1_valueNamed 1 := by decide +kernel
theorem ypl_X1_valueNamed : plainName yX1_valueNamed.cls = true := by decide +kernel
theorem yok_X1_takeNumbers : yOK yX1_takeNumbers 0 := by decide +kernel
theorem ypl_X1_takeNumbers : plainName yX1_takeNumbers.cls = true := by decide +kernel
theorem yok_X1_takeNumber : yOK yX1_takeNumber 0 := by decide +kernel
theorem ypl_X1_takeNumber : plainName yX1_takeNumber.cls = true := by decide +kernel
theorem yok_X2_obey : yOK yX2_obey 3 := by decide +kernel
theorem ypl_X2_obey : plainName yX2_obey.cls = true := by decide +kernel
theorem yok_X2_back : yOK yX2_back 0 := by decide +kernel
theorem ypl_X2_back : plainName yX2_back.cls = true := by decide +kernel
theorem yok_X2_told : yOK yX2_told 1 := by decide +kernel
theorem ypl_X2_told : plainName yX2_told.cls = true := by decide +kernel
theorem yok_X2_digest : yOK yX2_digest 0 := by decide +kernel
theorem ypl_X2_digest : plainName yX2_digest.cls = true := by decide +kernel
theorem yok_X3_init : yOK yX3_init 0 := by decide +kernel
theorem ypl_X3_init : plainName yX3_init.cls = true := by decide +kernel
theorem yok_X3_laysSteady : yOK yX3_laysSteady 0 := by decide +kernel
theorem ypl_X3_laysSteady : plainName yX3_laysSteady.cls = true := by decide +kernel
theorem yok_X3_back : yOK yX3_back 0 := by decide +kernel
theorem ypl_X3_back : plainName yX3_back.cls = true := by decide +kernel
theorem yok_X3_counts : yOK yX3_counts 1 := by decide +kernel
theorem ypl_X3_counts : plainName yX3_counts.cls = true := by decide +kernel
theorem yok_X3_becomesPast : yOK yX3_becomesPast 1 := by decide +kernel
theorem ypl_X3_becomesPast : plainName yX3_becomesPast.cls = true := by decide +kernel
theorem yok_X3_pipe : yOK yX3_pipe 1 := by decide +kernel
theorem ypl_X3_pipe : plainName yX3_pipe.cls = true := by decide +kernel
theorem yok_X3_mayPipe : yOK yX3_mayPipe 1 := by decide +kernel
theorem ypl_X3_mayPipe : plainName yX3_mayPipe.cls = true := by decide +kernel
theorem yok_X3_within : yOK yX3_within 3 := by decide +kernel
theorem ypl_X3_within : plainName yX3_within.cls = true := by decide +kernel
theorem yok_X3_leaves : yOK yX3_leaves 0 := by decide +kernel
theorem ypl_X3_leaves : plainName yX3_leaves.cls = true := by decide +kernel
theorem yok_X3_becomes : yOK yX3_becomes 2 := by decide +kernel
theorem ypl_X3_becomes : plainName yX3_becomes.cls = true := by decide +kernel
theorem yok_X3_sets : yOK yX3_sets 2 := by decide +kernel
theorem ypl_X3_sets : plainName yX3_sets.cls = true := by decide +kernel
theorem yok_X3_maySet : yOK yX3_maySet 2 := by decide +kernel
theorem ypl_X3_maySet : plainName yX3_maySet.cls = true := by decide +kernel
theorem yok_X3_ends : yOK yX3_ends 2 := by decide +kernel
theorem ypl_X3_ends : plainName yX3_ends.cls = true := by decide +kernel
theorem yok_X3_mayEnd : yOK yX3_mayEnd 2 := by decide +kernel
theorem ypl_X3_mayEnd : plainName yX3_mayEnd.cls = true := by decide +kernel
theorem yok_X3_law : yOK yX3_law 2 := by decide +kernel
theorem ypl_X3_law : plainName yX3_law.cls = true := by decide +kernel
theorem yok_X3_isLaw : yOK yX3_isLaw 2 := by decide +kernel
theorem ypl_X3_isLaw : plainName yX3_isLaw.cls = true := by decide +kernel
theorem yok_X3_becomesLaw : yOK yX3_becomesLaw 2 := by decide +kernel
theorem ypl_X3_becomesLaw : plainName yX3_becomesLaw.cls = true := by decide +kernel
theorem yok_X3_steady : yOK yX3_steady 0 := by decide +kernel
theorem ypl_X3_steady : plainName yX3_steady.cls = true := by decide +kernel
theorem yok_X3_steps : yOK yX3_steps 1 := by decide +kernel
theorem ypl_X3_steps : plainName yX3_steps.cls = true := by decide +kernel
theorem yok_X3_goesOnFor : yOK yX3_goesOnFor 1 := by decide +kernel
theorem ypl_X3_goesOnFor : plainName yX3_goesOnFor.cls = true := by decide +kernel
theorem yok_X3_goesOn : yOK yX3_goesOn 0 := by decide +kernel
theorem ypl_X3_goesOn : plainName yX3_goesOn.cls = true := by decide +kernel
theorem yok_X3_laysEnds : yOK yX3_laysEnds 0 := by decide +kernel
theorem ypl_X3_laysEnds : plainName yX3_laysEnds.cls = true := by decide +kernel
theorem yok_X3_let : yOK yX3_let 3 := by decide +kernel
theorem ypl_X3_let : plainName yX3_let.cls = true := by decide +kernel
theorem yok_X3_node : yOK yX3_node 2 := by decide +kernel
theorem ypl_X3_node : plainName yX3_node.cls = true := by decide +kernel
theorem yok_X3_nodeIs : yOK yX3_nodeIs 2 := by decide +kernel
theorem ypl_X3_nodeIs : plainName yX3_nodeIs.cls = true := by decide +kernel
theorem yok_X3_whole : yOK yX3_whole 1 := by decide +kernel
theorem ypl_X3_whole : plainName yX3_whole.cls = true := by decide +kernel
theorem yok_X3_countsLong : yOK yX3_countsLong 0 := by decide +kernel
theorem ypl_X3_countsLong : plainName yX3_countsLong.cls = true := by decide +kernel
theorem yok_X3_all : yOK yX3_all 1 := by decide +kernel
theorem ypl_X3_all : plainName yX3_all.cls = true := by decide +kernel
theorem yok_X3_allIs : yOK yX3_allIs 1 := by decide +kernel
theorem ypl_X3_allIs : plainName yX3_allIs.cls = true := by decide +kernel
theorem yok_X3_kept : yOK yX3_kept 0 := by decide +kernel
theorem ypl_X3_kept : plainName yX3_kept.cls = true := by decide +kernel
theorem yok_X3_farthest : yOK yX3_farthest 2 := by decide +kernel
theorem ypl_X3_farthest : plainName yX3_farthest.cls = true := by decide +kernel
theorem yok_X3_bits : yOK yX3_bits 1 := by decide +kernel
theorem ypl_X3_bits : plainName yX3_bits.cls = true := by decide +kernel
theorem yok_Jxe99ae_doubleToLongBits_ccdee : yOK yJxe99ae_doubleToLongBits_ccdee 1 := by decide +kernel
theorem ypl_Jxe99ae_doubleToLongBits_ccdee : plainName yJxe99ae_doubleToLongBits_ccdee.cls = true := by decide +kernel
theorem yok_Jxe99ae_isNaN_b9ae7 : yOK yJxe99ae_isNaN_b9ae7 1 := by decide +kernel
theorem ypl_Jxe99ae_isNaN_b9ae7 : plainName yJxe99ae_isNaN_b9ae7.cls = true := by decide +kernel
theorem yok_X3_lets : yOK yX3_lets 3 := by decide +kernel
theorem ypl_X3_lets : plainName yX3_lets.cls = true := by decide +kernel
theorem yok_X3_trial : yOK yX3_trial 3 := by decide +kernel
theorem ypl_X3_trial : plainName yX3_trial.cls = true := by decide +kernel
theorem yok_X3_tried : yOK yX3_tried 3 := by decide +kernel
theorem ypl_X3_tried : plainName yX3_tried.cls = true := by decide +kernel
theorem yok_X3_laysAside : yOK yX3_laysAside 0 := by decide +kernel
theorem ypl_X3_laysAside : plainName yX3_laysAside.cls = true := by decide +kernel
theorem yok_X3_becomesAside : yOK yX3_becomesAside 0 := by decide +kernel
theorem ypl_X3_becomesAside : plainName yX3_becomesAside.cls = true := by decide +kernel
theorem yok_X3_soonest : yOK yX3_soonest 3 := by decide +kernel
theorem ypl_X3_soonest : plainName yX3_soonest.cls = true := by decide +kernel
theorem yok_X3_soonestOf : yOK yX3_soonestOf 3 := by decide +kernel
theorem ypl_X3_soonestOf : plainName yX3_soonestOf.cls = true := by decide +kernel
theorem yok_X3_best : yOK yX3_best 3 := by decide +kernel
theorem ypl_X3_best : plainName yX3_best.cls = true := by decide +kernel
theorem yok_X3_type : yOK yX3_type 1 := by decide +kernel
theorem ypl_X3_type : plainName yX3_type.cls = true := by decide +kernel
theorem yok_X3_clear : yOK yX3_clear 0 := by decide +kernel
theorem ypl_X3_clear : plainName yX3_clear.cls = true := by decide +kernel
theorem yok_X3_reads : yOK yX3_reads 0 := by decide +kernel
theorem ypl_X3_reads : plainName yX3_reads.cls = true := by decide +kernel
theorem yok_X3_isRead : yOK yX3_isRead 0 := by decide +kernel
theorem ypl_X3_isRead : plainName yX3_isRead.cls = true := by decide +kernel
theorem yok_X3_blanks : yOK yX3_blanks 0 := by decide +kernel
theorem ypl_X3_blanks : plainName yX3_blanks.cls = true := by decide +kernel
theorem yok_X3_here : yOK yX3_here 0 := by decide +kernel
theorem ypl_X3_here : plainName yX3_here.cls = true := by decide +kernel
theorem yok_X3_passesOrder : yOK yX3_passesOrder 0 := by decide +kernel
theorem ypl_X3_passesOrder : plainName yX3_passesOrder.cls = true := by decide +kernel
theorem yok_X3_isOrder : yOK yX3_isOrder 1 := by decide +kernel
theorem ypl_X3_isOrder : plainName yX3_isOrder.cls = true := by decide +kernel
theorem yok_X3_passesNumber : yOK yX3_passesNumber 2 := by decide +kernel
theorem ypl_X3_passesNumber : plainName yX3_passesNumber.cls = true := by decide +kernel
theorem yok_X3_isDone : yOK yX3_isDone 1 := by decide +kernel
theorem ypl_X3_isDone : plainName yX3_isDone.cls = true := by decide +kernel
theorem yok_X3_swapsAside : yOK yX3_swapsAside 0 := by decide +kernel
theorem ypl_X3_swapsAside : plainName yX3_swapsAside.cls = true := by decide +kernel
theorem yok_X3_told : yOK yX3_told 1 := by decide +kernel
theorem ypl_X3_told : plainName yX3_told.cls = true := by decide +kernel
theorem yok_X3_toldIs : yOK yX3_toldIs 1 := by decide +kernel
theorem ypl_X3_toldIs : plainName yX3_toldIs.cls = true := by decide +kernel
theorem yok_X3_digest : yOK yX3_digest 0 := by decide +kernel
theorem ypl_X3_digest : plainName yX3_digest.cls = true := by decide +kernel
theorem yok_X3_mix : yOK yX3_mix 1 := by decide +kernel
theorem ypl_X3_mix : plainName yX3_mix.cls = true := by decide +kernel
end
section
/-! the cells of a Line and what they hold; small bounds -/
abbrev LineSt : Type := (Nat → Int32) × (Nat → UInt64) × (Nat → UInt64) × (Nat → UInt64) × (Nat → UInt64) × UInt64 × UInt64 × UInt64
abbrev lineW (g : Glob) (a : Nat → Nat) (x : LineSt) : va_W :=
  [(a 0, .inr (0, [.ref (a 1), .ref (a 2), .ref (a 3), .ref (a 4), .ref (a 5), .double x.2.2.2.2.2.1, .double x.2.2.2.2.2.2.1, .double x.2.2.2.2.2.2.2])),
   (a 1, .inl (cI g, 9, .inl x.1)), (a 2, .inl (cD g, 11, .inr (.inr (.inr (.inl x.2.1))))), (a 3, .inl (cD g, 11, .inr (.inr (.inr (.inl x.2.2.1))))),
   (a 4, .inl (cD g, 11, .inr (.inr (.inr (.inl x.2.2.2.1))))), (a 5, .inl (cD g, 11, .inr (.inr (.inr (.inl x.2.2.2.2.1)))))]
theorem bdA {a b n : Nat} {x y : UInt64} (hx : Bd a x) (hy : Bd b y) (h : a + b ≤ n) (hn : n < 9007199254740992) : Bd n (FP.dadd x y) := (bd_add hx hy (Rp.small (Nat.lt_of_le_of_lt h hn))).mono h
theorem bdS {a b n : Nat} {x y : UInt64} (hx : Bd a x) (hy : Bd b y) (h : a + b ≤ n) (hn : n < 9007199254740992) : Bd n (FP.dsub x y) := (bd_sub hx hy (Rp.small (Nat.lt_of_le_of_lt h hn))).mono h
theorem bdM {a b n : Nat} {x y : UInt64} (hx : Bd a x) (hy : Bd b y) (h : a * b ≤ n) (hn : n < 9007199254740992) : Bd n (FP.dmul x y) := (bd_mul hx hy (Rp.small (Nat.lt_of_le_of_lt h hn))).mono h
theorem bdQ {a : Nat} {x y : UInt64} (hx : Bd a x) (hy : FP.Core.DFin y) (h1 : one ≤ (zv y).natAbs) (h : a < 9007199254740992) : Bd a (FP.ddiv x y) := bd_div hx hy h1 (Rp.small h)
theorem two_one : one ≤ (zv 4611686018427387904).natAbs := by
  have h : zv 4611686018427387904 = zv (FP.i2d 2) := by rw [show FP.i2d 2 = 4611686018427387904 by decide +kernel]
  rw [h]; exact i2d_one (by decide)
theorem two_fin : FP.Core.DFin 4611686018427387904 := by
  rw [← show FP.i2d 2 = 4611686018427387904 by decide +kernel]; exact FP.Core.i2d_fin 2
theorem bd_nI {n m : Nat} (h : n ≤ m) (hm : m < 2 ^ 31) : Bd m (FP.i2d (nI n)) := bd_i2d (by rw [nI_toInt (by omega)]; omega) (by rw [nI_toInt (by omega)]; omega)
theorem one_nI {n : Nat} (h : 1 ≤ n) (hm : n < 2 ^ 31) : one ≤ (zv (FP.i2d (nI n))).natAbs := i2d_one (by rw [nI_toInt hm]; omega)
theorem bI_t {b : Bool} (h : b = true) : (some (Value.int (nI 1))) = some (.int (bI b)) := by rw [h]; rfl
theorem bI_f {b : Bool} (h : b = false) : (some (Value.int (nI 0))) = some (.int (bI b)) := by rw [h]; rfl
theorem zero_fin : FP.Core.DFin 0 := ⟨false, 0, _, FP.Core.val64_zero⟩
theorem zero_bd (n : Nat) : Bd n 0 := ⟨zero_fin, by rw [show zv 0 = 0 from FP.Core.zval64_zero]; exact Nat.zero_le _⟩
theorem zero_nn : nn 0 := zero_fin.ne_nan
/-- does v fit where w says -/
def fitsB (w v : Int32) : Bool := if w < 0 then false else if nI 8 ≤ w then false else if v < sLO w.toNatClampNeg then false else if sHI w.toNatClampNeg < v then false else true
/-- what law k with T lets at a time -/
def letF (k T t : Nat) (q : Int32) : UInt64 :=
  if k = 1 then (if t < T then FP.i2d q else 0)
  else if k = 2 then (if t < T then FP.ddiv (FP.dmul (FP.i2d q) (FP.dsub (FP.i2d (nI T)) (FP.i2d (nI t)))) (FP.i2d (nI T)) else 0)
  else if k = 3 then (if t < T then FP.ddiv (FP.dmul (FP.i2d q) (FP.dsub (FP.dmul (FP.i2d (nI T)) (FP.i2d (nI T))) (FP.dmul (FP.i2d (nI t)) (FP.i2d (nI t))))) (FP.dmul (FP.i2d (nI T)) (FP.i2d (nI T))) else 0)
  else if k = 4 then (if t < T then FP.ddiv (FP.i2d q) 4611686018427387904 else 0)
  else if k = 5 then (if t / T % 2 = 0 then FP.i2d q else FP.ddiv (FP.i2d q) 4611686018427387904)
  else FP.i2d q
theorem sq_one {n : Nat} (h : 1 ≤ n) (hm : n ≤ 60) : one ≤ (zv (FP.dmul (FP.i2d (nI n)) (FP.i2d (nI n)))).natAbs := by
  have e : ∀ n : Fin 61, 1 ≤ n.val → FP.dmul (FP.i2d (nI n.val)) (FP.i2d (nI n.val)) = FP.i2d (nI (n.val * n.val)) := by decide +kernel
  rw [e ⟨n, by omega⟩ h]
  have h1 : n * n ≤ 60 * 60 := Nat.mul_le_mul hm hm
  exact one_nI (Nat.mul_pos h h) (by show n * n < _; omega)
theorem let_2a {T t : Nat} {q : Int32} (hq : Bd 100 (FP.i2d q)) (hT : T ≤ 60) (ht : t ≤ 9999) : Bd 10059 (FP.dsub (FP.i2d (nI T)) (FP.i2d (nI t))) := bdS (bd_nI hT (by decide)) (bd_nI ht (by decide)) (by decide) (by decide)
theorem let_2b {T t : Nat} {q : Int32} (hq : Bd 100 (FP.i2d q)) (hT : T ≤ 60) (h : t < T) : Bd 12000 (FP.dmul (FP.i2d q) (FP.dsub (FP.i2d (nI T)) (FP.i2d (nI t)))) := bdM hq (bdS (n := 120) (bd_nI hT (by decide)) (bd_nI (m := 60) (by omega) (by decide)) (by decide) (by decide)) (by decide) (by decide)
theorem let_2 {T t : Nat} {q : Int32} (hq : Bd 100 (FP.i2d q)) (hT : T ≤ 60) (h : t < T) : Bd 12000 (FP.ddiv (FP.dmul (FP.i2d q) (FP.dsub (FP.i2d (nI T)) (FP.i2d (nI t)))) (FP.i2d (nI T))) := bdQ (let_2b hq hT h) (FP.Core.i2d_fin _) (one_nI (by omega) (by omega)) (by decide)
theorem let_3s {n : Nat} (hT : n ≤ 60) : Bd 3600 (FP.dmul (FP.i2d (nI n)) (FP.i2d (nI n))) := bdM (bd_nI hT (by decide)) (bd_nI hT (by decide)) (by decide) (by decide)
theorem let_3a {T t : Nat} (hT : T ≤ 60) (h : t < T) : Bd 7200 (FP.dsub (FP.dmul (FP.i2d (nI T)) (FP.i2d (nI T))) (FP.dmul (FP.i2d (nI t)) (FP.i2d (nI t)))) := bdS (let_3s hT) (let_3s (by omega)) (by decide) (by decide)
theorem let_3b {T t : Nat} {q : Int32} (hq : Bd 100 (FP.i2d q)) (hT : T ≤ 60) (h : t < T) : Bd 720000 (FP.dmul (FP.i2d q) (FP.dsub (FP.dmul (FP.i2d (nI T)) (FP.i2d (nI T))) (FP.dmul (FP.i2d (nI t)) (FP.i2d (nI t))))) := bdM hq (let_3a hT h) (by decide) (by decide)
theorem let_3 {T t : Nat} {q : Int32} (hq : Bd 100 (FP.i2d q)) (hT : T ≤ 60) (h : t < T) : Bd 720000 (FP.ddiv (FP.dmul (FP.i2d q) (FP.dsub (FP.dmul (FP.i2d (nI T)) (FP.i2d (nI T))) (FP.dmul (FP.i2d (nI t)) (FP.i2d (nI t))))) (FP.dmul (FP.i2d (nI T)) (FP.i2d (nI T)))) := bdQ (let_3b hq hT h) (let_3s hT).fin (sq_one (by omega) hT) (by decide)
theorem let_4 {q : Int32} (hq : Bd 100 (FP.i2d q)) : Bd 100 (FP.ddiv (FP.i2d q) 4611686018427387904) := bdQ hq two_fin two_one (by decide)
theorem letF_bd {k T t : Nat} {q : Int32} (hq : Bd 100 (FP.i2d q)) (hT : T ≤ 60) : Bd 720000 (letF k T t q) := by
  unfold letF
  split
  · split
    · exact hq.mono (by decide)
    · exact zero_bd _
  · split
    · split
      · exact (let_2 hq hT ‹_›).mono (by decide)
      · exact zero_bd _
    · split
      · split
        · exact let_3 hq hT ‹_›
        · exact zero_bd _
      · split
        · split
          · exact (let_4 hq).mono (by decide)
          · exact zero_bd _
        · split
          · split
            · exact hq.mono (by decide)
            · exact (let_4 hq).mono (by decide)
          · exact hq.mono (by decide)
end
section
/-! what the methods of a Line do to its parts -/
def nv (v : Nat → Int32) (i : Nat) : Nat := (v i).toNatClampNeg
/-- the nine numbers are as told -/
def VG (v : Nat → Int32) : Prop := (v 0 = nI (nv v 0) ∧ 1 ≤ nv v 0 ∧ nv v 0 ≤ 10) ∧ (v 1 = nI (nv v 1) ∧ nv v 1 ≤ 1000) ∧ (-100 ≤ (v 2).toInt ∧ (v 2).toInt ≤ 100) ∧ (v 3 = nI (nv v 3) ∧ 1 ≤ nv v 3 ∧ nv v 3 ≤ 99) ∧ (v 4 = nI (nv v 4) ∧ nv v 4 ≤ 1) ∧ (v 5 = nI (nv v 5) ∧ nv v 5 ≤ 3) ∧ (v 6 = nI (nv v 6) ∧ nv v 6 ≤ 5) ∧ (v 7 = nI (nv v 7) ∧ 1 ≤ nv v 7 ∧ nv v 7 ≤ 60) ∧ (v 8 = nI (nv v 8) ∧ nv v 8 ≤ 999)
theorem VG.n {v : Nat → Int32} (h : VG v) : v 0 = nI (nv v 0) ∧ 1 ≤ nv v 0 ∧ nv v 0 ≤ 10 := h.1
theorem VG.h {v : Nat → Int32} (h : VG v) : v 1 = nI (nv v 1) ∧ nv v 1 ≤ 1000 := h.2.1
theorem VG.q {v : Nat → Int32} (h : VG v) : -100 ≤ (v 2).toInt ∧ (v 2).toInt ≤ 100 := h.2.2.1
theorem VG.a {v : Nat → Int32} (h : VG v) : v 3 = nI (nv v 3) ∧ 1 ≤ nv v 3 ∧ nv v 3 ≤ 99 := h.2.2.2.1
theorem VG.lf {v : Nat → Int32} (h : VG v) : v 4 = nI (nv v 4) ∧ nv v 4 ≤ 1 := h.2.2.2.2.1
theorem VG.rt {v : Nat → Int32} (h : VG v) : v 5 = nI (nv v 5) ∧ nv v 5 ≤ 3 := h.2.2.2.2.2.1
theorem VG.k {v : Nat → Int32} (h : VG v) : v 6 = nI (nv v 6) ∧ nv v 6 ≤ 5 := h.2.2.2.2.2.2.1
theorem VG.t {v : Nat → Int32} (h : VG v) : v 7 = nI (nv v 7) ∧ 1 ≤ nv v 7 ∧ nv v 7 ≤ 60 := h.2.2.2.2.2.2.2.1
theorem VG.tm {v : Nat → Int32} (h : VG v) : v 8 = nI (nv v 8) ∧ nv v 8 ≤ 999 := h.2.2.2.2.2.2.2.2
theorem VG.bq {v : Nat → Int32} (h : VG v) : Bd 100 (FP.i2d (v 2)) := bd_i2d (n := 100) (by have := h.q; omega) (by have := h.q; omega)
theorem VG.bh {v : Nat → Int32} (h : VG v) : Bd 1000 (FP.i2d (v 1)) := by rw [h.h.1]; exact bd_nI h.h.2 (by decide)
/-- below i the one value, else as it was -/
def fil {α : Type} (F : Nat → α) (i : Nat) (x : α) : Nat → α := fun j => if j < i then x else F j
theorem fil_0 {α : Type} (F : Nat → α) (x : α) : fil F 0 x = F := by funext j; simp [fil]
theorem fil_s (F : Nat → UInt64) (i : Nat) (x : UInt64) : vf_upd (fil F i x) i x = fil F (i + 1) x := by
  funext j
  simp only [vf_upd, fil]
  by_cases h : j = i
  · rw [if_pos h, if_pos (by omega)]
  · rw [if_neg h]
    by_cases h2 : j < i
    · rw [if_pos h2, if_pos (by omega)]
    · rw [if_neg h2, if_neg (by omega)]
theorem fil_at {α : Type} (F : Nat → α) {i j : Nat} (x : α) (h : j < i) : fil F i x j = x := if_pos h
/-- steady: F, B and pressure by H and Q -/
def stF (v : Nat → Int32) : UInt64 := FP.ddiv (FP.dadd (FP.i2d (v 1)) (FP.i2d (v 2))) 4611686018427387904
def stB (v : Nat → Int32) : UInt64 := FP.ddiv (FP.dsub (FP.i2d (v 1)) (FP.i2d (v 2))) 4611686018427387904
def stP (v : Nat → Int32) : UInt64 := FP.dadd (stF v) (stB v)
def settleL (x : LineSt) : LineSt := (upd x.1 8 (nI 0), fil x.2.1 (nv x.1 0 + 1) (stF x.1), fil x.2.2.1 (nv x.1 0 + 1) (stB x.1), fil x.2.2.2.1 (nv x.1 0 + 1) (stP x.1), fil x.2.2.2.2.1 (nv x.1 0 + 1) (stP x.1), stP x.1, stP x.1, FP.i2d (x.1 1))
/-- the waves go on by one node -/
def shF (N i : Nat) (F : Nat → UInt64) : Nat → UInt64 := fun j => if i < j ∧ j ≤ N then F (j - 1) else F j
def shB (i : Nat) (B : Nat → UInt64) : Nat → UInt64 := fun j => if j < i then B (j + 1) else B j
theorem shF_N (N : Nat) (F : Nat → UInt64) : shF N N F = F := by
  funext j
  simp only [shF]
  rw [if_neg (by omega)]
theorem shF_s {N i : Nat} (F : Nat → UInt64) (h : i + 1 ≤ N) : vf_upd (shF N (i + 1) F) (i + 1) (shF N (i + 1) F i) = shF N i F := by
  funext j
  simp only [vf_upd, shF]
  rw [if_neg (show ¬ (i + 1 < i ∧ i ≤ N) by omega)]
  by_cases h1 : j = i + 1
  · subst h1
    rw [if_pos rfl, if_pos (by omega)]
    rfl
  · rw [if_neg h1]
    by_cases h2 : i + 1 < j ∧ j ≤ N
    · rw [if_pos h2, if_pos (by omega)]
    · rw [if_neg h2, if_neg (by omega)]
theorem shB_0 (B : Nat → UInt64) : shB 0 B = B := by funext j; simp [shB]
theorem shB_s (i : Nat) (B : Nat → UInt64) : vf_upd (shB i B) i (shB i B (i + 1)) = shB (i + 1) B := by
  funext j
  simp only [vf_upd, shB]
  rw [if_neg (show ¬ (i + 1 < i) by omega)]
  by_cases h1 : j = i
  · subst h1
    rw [if_pos rfl, if_pos (by omega)]
  · rw [if_neg h1]
    by_cases h2 : j < i
    · rw [if_pos h2, if_pos (by omega)]
    · rw [if_neg h2, if_neg (by omega)]
def shiftL (x : LineSt) : LineSt := (x.1, shF (nv x.1 0) 0 x.2.1, shB (nv x.1 0) x.2.2.1, x.2.2.2.1, x.2.2.2.2.1, x.2.2.2.2.2.1, x.2.2.2.2.2.2.1, x.2.2.2.2.2.2.2)
/-- the ends -/
def leftF (v : Nat → Int32) (b0 : UInt64) : UInt64 := if v 4 = 0 then FP.dsub (FP.i2d (v 1)) b0 else b0
def turnLeftL (x : LineSt) : LineSt := (x.1, vf_upd x.2.1 0 (leftF x.1 (x.2.2.1 0)), x.2.2.1, x.2.2.2.1, x.2.2.2.2.1, x.2.2.2.2.2.1, x.2.2.2.2.2.2.1, x.2.2.2.2.2.2.2)
def risen (lev inflow : UInt64) (A : Int32) : UInt64 := FP.dadd lev (FP.ddiv inflow (FP.i2d A))
def clampF (r : UInt64) : UInt64 := if zv 4666723172467343360 < zv r then 4666723172467343360 else if zv r < zv 13890095209322119168 then 13890095209322119168 else r
def rightB (v : Nat → Int32) (fN lev : UInt64) : UInt64 :=
  if nv v 5 = 0 then FP.dsub fN (letF (nv v 6) (nv v 7) (nv v 8) (v 2)) else if nv v 5 = 1 then FP.dsub (FP.i2d (v 1)) fN else if nv v 5 = 2 then fN else FP.dsub lev fN
def rightLev (v : Nat → Int32) (fN lev : UInt64) : UInt64 := if nv v 5 = 3 then clampF (risen lev (FP.dsub fN (FP.dsub lev fN)) (v 3)) else lev
def turnRightL (x : LineSt) : LineSt := (x.1, x.2.1, vf_upd x.2.2.1 (nv x.1 0) (rightB x.1 (x.2.1 (nv x.1 0)) x.2.2.2.2.2.2.2), x.2.2.2.1, x.2.2.2.2.1, x.2.2.2.2.2.1, x.2.2.2.2.2.2.1, rightLev x.1 (x.2.1 (nv x.1 0)) x.2.2.2.2.2.2.2)
/-- the envelopes: greater and lesser of two -/
def mx (a b : UInt64) : UInt64 := if zv b < zv a then a else b
def mn (a b : UInt64) : UInt64 := if zv a < zv b then a else b
/-- one node: (G, L, hi, lo) behind it -/
def wid1 (p : UInt64) (i : Nat) (e : (Nat → UInt64) × (Nat → UInt64) × UInt64 × UInt64) : (Nat → UInt64) × (Nat → UInt64) × UInt64 × UInt64 :=
  ((if zv (e.1 i) < zv p then vf_upd e.1 i p else e.1), (if zv p < zv (e.2.1 i) then vf_upd e.2.1 i p else e.2.1), (if zv (e.1 i) < zv p then mx p e.2.2.1 else e.2.2.1), (if zv p < zv (e.2.1 i) then mn p e.2.2.2 else e.2.2.2))
def widN (P : Nat → UInt64) : Nat → (Nat → UInt64) × (Nat → UInt64) × UInt64 × UInt64 → (Nat → UInt64) × (Nat → UInt64) × UInt64 × UInt64
  | 0, e => e
  | i + 1, e => wid1 (P i) i (widN P i e)
def widE (x : LineSt) : (Nat → UInt64) × (Nat → UInt64) × UInt64 × UInt64 := widN (fun i => FP.dadd (x.2.1 i) (x.2.2.1 i)) (nv x.1 0 + 1) (x.2.2.2.1, x.2.2.2.2.1, x.2.2.2.2.2.1, x.2.2.2.2.2.2.1)
def widenL (x : LineSt) : LineSt := (x.1, x.2.1, x.2.2.1, (widE x).1, (widE x).2.1, (widE x).2.2.1, (widE x).2.2.2, x.2.2.2.2.2.2.2)
def tickL (x : LineSt) : LineSt := (upd x.1 8 (x.1 8 + nI 1), x.2)
def stepL (x : LineSt) : LineSt := widenL (turnRightL (turnLeftL (shiftL (tickL x))))
def advL : Nat → LineSt → LineSt
  | 0, x => x
  | i + 1, x => stepL (advL i x)
def kept0 (F B : Nat → UInt64) : Nat → UInt64
  | 0 => 0
  | i + 1 => FP.dadd (kept0 F B i) (FP.dadd (FP.dmul (F i) (F i)) (FP.dmul (B i) (B i)))
end
section
set_option maxHeartbeats 4000000 in
set_option maxRecDepth 100000 in
/-- does it fit -/
theorem c_X0_fits (g : Glob) (w u : Int32) : Con g yX0_fits cX0_fits 2 (some .boolean) ({ frames := 0, cells := 0, slots := 0, locals := 0 } : Room) [.int w, .int u] ([]) (Is (some (.int (bI (fitsB w u)))) []) := by
  refine con_of_V ypl_X0_fits (Nat.le_of_ble_eq_true rfl) [(0, .int w), (1, .int u)] rfl (fun Γ ok => ?_)
  rcases pk_ix w (n := 8) (by decide) with hw | hw | ⟨j, hj, rfl⟩
  · refine V_iload_n ok dX0_fits_0 rfl 0 rfl ?_
    refine V_if_lt (tgt := 34) ok dX0_fits_1 (by decide) (fun h1 => ?_) (fun h1 => absurd hw h1)
    refine V_iconst (v := nI 0) ok dX0_fits_34 rfl ?_
    exact V_zret ok dX0_fits_35 (Nat.zero_le _) (Nat.zero_le _) rfl ⟨bI_f (by simp [fitsB, hw]), rfl⟩
  · refine V_iload_n ok dX0_fits_0 rfl 0 rfl ?_
    refine V_if_lt (tgt := 34) ok dX0_fits_1 (by decide) (fun h1 => (Int32.lt_irrefl (Int32.lt_of_lt_of_le h1 (Int32.le_trans (show (0 : Int32) ≤ nI 8 by decide) hw))).elim) (fun h1 => ?_)
    refine V_iload_n ok dX0_fits_4 rfl 0 rfl ?_
    refine V_getsLO ok twf_X0_29 dX0_fits_5 (fun sA5 sA5_X sA5_A sA5_z => ?_)
    refine V_salen ok sA5_X sA5_A sA5_z dX0_fits_8 ?_
    refine V_icmp_ge (tgt := 34) ok dX0_fits_9 (by decide) (fun h9 => ?_) (fun h9 => absurd hw h9)
    refine V_iconst (v := nI 0) ok dX0_fits_34 rfl ?_
    exact V_zret ok dX0_fits_35 (Nat.zero_le _) (Nat.zero_le _) rfl ⟨bI_f (by simp [fitsB, hw]), rfl⟩
  · refine V_iload_n ok dX0_fits_0 rfl 0 rfl ?_
    refine V_ifN_lt (tgt := 34) ok dX0_fits_1 (by decide) (by omega) ?_
    refine V_iload_n ok dX0_fits_4 rfl 0 rfl ?_
    refine V_getsLO ok twf_X0_29 dX0_fits_5 (fun sA5 sA5_X sA5_A sA5_z => ?_)
    refine V_salen ok sA5_X sA5_A sA5_z dX0_fits_8 ?_
    refine V_icmpN_ge (tgt := 34) ok dX0_fits_9 (by decide) (by omega) (by omega) (fun h9 => absurd h9 (by omega)) (fun h9 => ?_)
    refine V_iload_n ok dX0_fits_12 rfl 1 rfl ?_
    refine V_getsLO ok twf_X0_29 dX0_fits_13 (fun sA13 sA13_X sA13_A sA13_z => ?_)
    refine V_iload_n ok dX0_fits_16 rfl 0 rfl ?_
    refine V_sald (f := sLO) ok j sA13_X sA13_A sA13_z dX0_fits_17 rfl hj (by decide) ?_
    refine V_icmp_lt (tgt := 34) ok dX0_fits_18 (by decide) (fun h18 => ?_) (fun h18 => ?_)
    · refine V_iconst (v := nI 0) ok dX0_fits_34 rfl ?_
      exact V_zret ok dX0_fits_35 (Nat.zero_le _) (Nat.zero_le _) rfl ⟨bI_f (by simp only [fitsB, nI_clamp (show j < 2 ^ 31 by omega)]; rw [if_neg (nI_pos (by omega)), if_neg (nI_ge hj (by decide)), if_pos h18]), rfl⟩
    · refine V_iload_n ok dX0_fits_21 rfl 1 rfl ?_
      refine V_getsHI ok twf_X0_32 dX0_fits_22 (fun sA22 sA22_X sA22_A sA22_z => ?_)
      refine V_iload_n ok dX0_fits_25 rfl 0 rfl ?_
      refine V_sald (f := sHI) ok j sA22_X sA22_A sA22_z dX0_fits_26 rfl hj (by decide) ?_
      refine V_icmp_gt (tgt := 34) ok dX0_fits_27 (by decide) (fun h27 => ?_) (fun h27 => ?_)
      · refine V_iconst (v := nI 0) ok dX0_fits_34 rfl ?_
        exact V_zret ok dX0_fits_35 (Nat.zero_le _) (Nat.zero_le _) rfl ⟨bI_f (by simp only [fitsB, nI_clamp (show j < 2 ^ 31 by omega)]; rw [if_neg (nI_pos (by omega)), if_neg (nI_ge hj (by decide)), if_neg h18, if_pos h27]), rfl⟩
      · refine V_iconst (v := nI 1) ok dX0_fits_30 rfl ?_
        refine V_goto (tgt := 35) ok dX0_fits_31 (by decide) ?_
        exact V_zret ok dX0_fits_35 (Nat.zero_le _) (Nat.zero_le _) rfl ⟨bI_t (by simp only [fitsB, nI_clamp (show j < 2 ^ 31 by omega)]; rw [if_neg (nI_pos (by omega)), if_neg (nI_ge hj (by decide)), if_neg h18, if_neg h27]), rfl⟩
def isLawB (k t : Int32) : Bool := if fitsB (nI 6) k = true then (if fitsB (nI 7) t = true then true else false) else false
set_option maxHeartbeats 4000000 in
set_option maxRecDepth 100000 in
/-- is it a law -/
theorem c_X0_isLaw (g : Glob) (k t : Int32) : Con g yX0_isLaw cX0_isLaw 2 (some .boolean) ({ frames := 1, cells := 0, slots := 0, locals := 21 } : Room) [.int k, .int t] ([]) (Is (some (.int (bI (isLawB k t)))) []) := by
  refine con_of_V ypl_X0_isLaw (Nat.le_of_ble_eq_true rfl) [(0, .int k), (1, .int t)] rfl (fun Γ ok => ?_)
  refine V_bipush (v := nI 6) ok dX0_isLaw_0 rfl ?_
  refine V_iload_n ok dX0_isLaw_2 rfl 0 rfl ?_
  refine V_cS (v2 := some (.int (bI (fitsB (nI 6) k)))) (wn := []) (rest := []) ok (c_X0_fits g (nI 6) k) 2 twm_X0_35 tws_yX0_fits twin_X0 twc_yX0_fits yok_X0_fits (by decide) ⟨rfl, rfl⟩ dX0_isLaw_3 rfl rfl (Nat.le_of_ble_eq_true rfl) ⟨Nat.zero_le _, Nat.zero_le _⟩ [] rfl rfl (Nat.le_of_ble_eq_true rfl) rfl ?_
  refine V_ifB_eq (tgt := 22) ok dX0_isLaw_6 (by decide) (fun h6 => ?_) (fun h6 => ?_)
  · refine V_iconst (v := nI 0) ok dX0_isLaw_22 rfl ?_
    exact V_zret ok dX0_isLaw_23 (Nat.zero_le _) (Nat.zero_le _) rfl ⟨bI_f (by simp only [isLawB]; rw [if_neg h6]), rfl⟩
  · refine V_bipush (v := nI 7) ok dX0_isLaw_9 rfl ?_
    refine V_iload_n ok dX0_isLaw_11 rfl 1 rfl ?_
    refine V_cS (v2 := some (.int (bI (fitsB (nI 7) t)))) (wn := []) (rest := []) ok (c_X0_fits g (nI 7) t) 2 twm_X0_35 tws_yX0_fits twin_X0 twc_yX0_fits yok_X0_fits (by decide) ⟨rfl, rfl⟩ dX0_isLaw_12 rfl rfl (Nat.le_of_ble_eq_true rfl) ⟨Nat.zero_le _, Nat.zero_le _⟩ [] rfl rfl (Nat.le_of_ble_eq_true rfl) rfl ?_
    refine V_ifB_eq (tgt := 22) ok dX0_isLaw_15 (by decide) (fun h15 => ?_) (fun h15 => ?_)
    · refine V_iconst (v := nI 0) ok dX0_isLaw_22 rfl ?_
      exact V_zret ok dX0_isLaw_23 (Nat.zero_le _) (Nat.zero_le _) rfl ⟨bI_f (by simp only [isLawB]; rw [if_pos h6, if_neg h15]), rfl⟩
    · refine V_iconst (v := nI 1) ok dX0_isLaw_18 rfl ?_
      refine V_goto (tgt := 23) ok dX0_isLaw_19 (by decide) ?_
      exact V_zret ok dX0_isLaw_23 (Nat.zero_le _) (Nat.zero_le _) rfl ⟨bI_t (by simp only [isLawB]; rw [if_pos h6, if_pos h15]), rfl⟩
set_option maxHeartbeats 4000000 in
set_option maxRecDepth 100000 in
/-- what a law lets -/
theorem c_X0_letBy (g : Glob) (k : Nat) (q : Int32) (T t : Nat) (hk5 : k ≤ 5) (hq : Bd 100 (FP.i2d q)) (hT1 : 1 ≤ T) (hT2 : T ≤ 60) (ht : t ≤ 9999) : Con g yX0_letBy cX0_letBy 11 (some .double) ({ frames := 0, cells := 0, slots := 0, locals := 0 } : Room) [.int (nI k), .int q, .int (nI T), .int (nI t)] ([]) (Is (some (.double (letF k T t q))) []) := by
  refine con_of_V ypl_X0_letBy (Nat.le_of_ble_eq_true rfl) [(0, .int (nI k)), (1, .int q), (2, .int (nI T)), (3, .int (nI t))] rfl (fun Γ ok => ?_)
  refine V_iload_n ok dX0_letBy_0 rfl 1 rfl ?_
  refine V_i2d ok dX0_letBy_1 ?_
  refine V_dstore (lv2 := [(4, .double (FP.i2d q)), (0, .int (nI k)), (1, .int q), (2, .int (nI T)), (3, .int (nI t))]) ok dX0_letBy_2 (by decide) rfl ?_
  refine V_iload_n ok dX0_letBy_4 rfl 3 rfl ?_
  refine V_i2d ok dX0_letBy_5 ?_
  refine V_dstore (lv2 := [(6, .double (FP.i2d (nI T))), (4, .double (FP.i2d q)), (0, .int (nI k)), (1, .int q), (2, .int (nI T)), (3, .int (nI t))]) ok dX0_letBy_6 (by decide) rfl ?_
  refine V_iload_n ok dX0_letBy_8 rfl 5 rfl ?_
  refine V_i2d ok dX0_letBy_9 ?_
  refine V_dstore (lv2 := [(8, .double (FP.i2d (nI t))), (6, .double (FP.i2d (nI T))), (4, .double (FP.i2d q)), (0, .int (nI k)), (1, .int q), (2, .int (nI T)), (3, .int (nI t))]) ok dX0_letBy_10 (by decide) rfl ?_
  refine V_iload_n ok dX0_letBy_12 rfl 6 rfl ?_
  refine V_iload_n ok dX0_letBy_13 rfl 5 rfl ?_
  have hq0 := hq
  refine V_icmpN_ge (tgt := 21) ok dX0_letBy_14 (by decide) (by omega) (by omega) (fun h14 => ?_) (fun h14 => ?_)
  · have ho : ¬ t < T := by omega
    refine V_iconst (v := nI 0) ok dX0_letBy_21 rfl ?_
    refine V_istore (lv2 := [(10, .int (nI 0)), (8, .double (FP.i2d (nI t))), (6, .double (FP.i2d (nI T))), (4, .double (FP.i2d q)), (0, .int (nI k)), (1, .int q), (2, .int (nI T)), (3, .int (nI t))]) ok dX0_letBy_22 (by decide) rfl ?_
    refine V_iload_n ok dX0_letBy_24 rfl 4 rfl ?_
    rcases (show k = 0 ∨ k = 1 ∨ k = 2 ∨ k = 3 ∨ k = 4 ∨ k = 5 by omega) with hk | hk | hk | hk | hk | hk
    · refine V_top_int (b := nI 0) (by rw [hk]) ?_
      refine V_tabOut (tgt := 163) ok dX0_letBy_25 (by decide) (by decide) ?_
      refine V_dload ok dX0_letBy_163 3 rfl ?_
      exact V_dret ok dX0_letBy_165 (Nat.zero_le _) (Nat.zero_le _) ⟨by subst hk; simp [letF], rfl⟩
    · refine V_top_int (b := nI 1) (by rw [hk]) ?_
      refine V_tabIn (off := 35) (tgt := 60) ok dX0_letBy_25 (by decide) (by decide) rfl (by decide) ?_
      refine V_iload ok dX0_letBy_60 0 rfl ?_
      refine V_ifN_eq (tgt := 70) ok dX0_letBy_62 (by decide) (by omega) (fun h62 => ?_) (fun h62 => absurd rfl h62)
      refine V_dconst0 ok dX0_letBy_70 ?_
      exact V_dret ok dX0_letBy_71 (Nat.zero_le _) (Nat.zero_le _) ⟨by subst hk; simp [letF, ho], rfl⟩
    · refine V_top_int (b := nI 2) (by rw [hk]) ?_
      refine V_tabIn (off := 47) (tgt := 72) ok dX0_letBy_25 (by decide) (by decide) rfl (by decide) ?_
      refine V_iload ok dX0_letBy_72 0 rfl ?_
      refine V_ifN_eq (tgt := 91) ok dX0_letBy_74 (by decide) (by omega) (fun h74 => ?_) (fun h74 => absurd rfl h74)
      refine V_dconst0 ok dX0_letBy_91 ?_
      exact V_dret ok dX0_letBy_92 (Nat.zero_le _) (Nat.zero_le _) ⟨by subst hk; simp [letF, ho], rfl⟩
    · refine V_top_int (b := nI 3) (by rw [hk]) ?_
      refine V_tabIn (off := 68) (tgt := 93) ok dX0_letBy_25 (by decide) (by decide) rfl (by decide) ?_
      refine V_iload ok dX0_letBy_93 0 rfl ?_
      refine V_ifN_eq (tgt := 121) ok dX0_letBy_95 (by decide) (by omega) (fun h95 => ?_) (fun h95 => absurd rfl h95)
      refine V_dconst0 ok dX0_letBy_121 ?_
      exact V_dret ok dX0_letBy_122 (Nat.zero_le _) (Nat.zero_le _) ⟨by subst hk; simp [letF, ho], rfl⟩
    · refine V_top_int (b := nI 4) (by rw [hk]) ?_
      refine V_tabIn (off := 98) (tgt := 123) ok dX0_letBy_25 (by decide) (by decide) rfl (by decide) ?_
      refine V_iload ok dX0_letBy_123 0 rfl ?_
      refine V_ifN_eq (tgt := 137) ok dX0_letBy_125 (by decide) (by omega) (fun h125 => ?_) (fun h125 => absurd rfl h125)
      refine V_dconst0 ok dX0_letBy_137 ?_
      exact V_dret ok dX0_letBy_138 (Nat.zero_le _) (Nat.zero_le _) ⟨by subst hk; simp [letF, ho], rfl⟩
    · refine V_top_int (b := nI 5) (by rw [hk]) ?_
      refine V_tabIn (off := 114) (tgt := 139) ok dX0_letBy_25 (by decide) (by decide) rfl (by decide) ?_
      refine V_iload_n ok dX0_letBy_139 rfl 6 rfl ?_
      refine V_ifN_le (tgt := 160) ok dX0_letBy_140 (by decide) (by omega) (fun h140 => absurd h140 (by omega)) (fun h140 => ?_)
      refine V_iload_n ok dX0_letBy_143 rfl 7 rfl ?_
      refine V_iload_n ok dX0_letBy_144 rfl 6 rfl ?_
      refine V_idiv ok dX0_letBy_145 (nI_ne0 (by omega) (by omega)) ?_
      refine V_top_int (b := nI (t / T)) (pk_div (by omega) (by omega) (by omega)) ?_
      refine V_iconst (v := nI 2) ok dX0_letBy_146 rfl ?_
      refine V_irem ok dX0_letBy_147 (by decide) ?_
      refine V_top_int (b := nI (t / T % 2)) (pk_rem (d := 2) (Nat.lt_of_le_of_lt (Nat.div_le_self t T) (by omega)) (by decide) (by decide)) ?_
      have hm2 : t / T % 2 < 2 := Nat.mod_lt _ (by decide)
      refine V_ifN_eq (tgt := 160) ok dX0_letBy_148 (by decide) (by omega) (fun h148 => ?_) (fun h148 => ?_)
      · refine V_dload ok dX0_letBy_160 3 rfl ?_
        exact V_dret ok dX0_letBy_162 (Nat.zero_le _) (Nat.zero_le _) ⟨by subst hk; simp [letF, h148], rfl⟩
      · refine V_dload ok dX0_letBy_151 3 rfl ?_
        refine V_ldc2d ok twd_X0_39 dX0_letBy_153 ?_
        refine V_ddiv ok dX0_letBy_156 (let_4 hq).n64 ?_
        refine V_goto (tgt := 162) ok dX0_letBy_157 (by decide) ?_
        exact V_dret ok dX0_letBy_162 (Nat.zero_le _) (Nat.zero_le _) ⟨by subst hk; simp [letF, h148], rfl⟩
  · have ho : t < T := by omega
    refine V_iconst (v := nI 1) ok dX0_letBy_17 rfl ?_
    refine V_goto (tgt := 22) ok dX0_letBy_18 (by decide) ?_
    refine V_istore (lv2 := [(10, .int (nI 1)), (8, .double (FP.i2d (nI t))), (6, .double (FP.i2d (nI T))), (4, .double (FP.i2d q)), (0, .int (nI k)), (1, .int q), (2, .int (nI T)), (3, .int (nI t))]) ok dX0_letBy_22 (by decide) rfl ?_
    refine V_iload_n ok dX0_letBy_24 rfl 4 rfl ?_
    rcases (show k = 0 ∨ k = 1 ∨ k = 2 ∨ k = 3 ∨ k = 4 ∨ k = 5 by omega) with hk | hk | hk | hk | hk | hk
    · refine V_top_int (b := nI 0) (by rw [hk]) ?_
      refine V_tabOut (tgt := 163) ok dX0_letBy_25 (by decide) (by decide) ?_
      refine V_dload ok dX0_letBy_163 3 rfl ?_
      exact V_dret ok dX0_letBy_165 (Nat.zero_le _) (Nat.zero_le _) ⟨by subst hk; simp [letF], rfl⟩
    · refine V_top_int (b := nI 1) (by rw [hk]) ?_
      refine V_tabIn (off := 35) (tgt := 60) ok dX0_letBy_25 (by decide) (by decide) rfl (by decide) ?_
      refine V_iload ok dX0_letBy_60 0 rfl ?_
      refine V_ifN_eq (tgt := 70) ok dX0_letBy_62 (by decide) (by omega) (fun h62 => absurd h62 (by decide)) (fun h62 => ?_)
      refine V_dload ok dX0_letBy_65 3 rfl ?_
      refine V_goto (tgt := 71) ok dX0_letBy_67 (by decide) ?_
      exact V_dret ok dX0_letBy_71 (Nat.zero_le _) (Nat.zero_le _) ⟨by subst hk; simp [letF, ho], rfl⟩
    · refine V_top_int (b := nI 2) (by rw [hk]) ?_
      refine V_tabIn (off := 47) (tgt := 72) ok dX0_letBy_25 (by decide) (by decide) rfl (by decide) ?_
      refine V_iload ok dX0_letBy_72 0 rfl ?_
      refine V_ifN_eq (tgt := 91) ok dX0_letBy_74 (by decide) (by omega) (fun h74 => absurd h74 (by decide)) (fun h74 => ?_)
      refine V_dload ok dX0_letBy_77 3 rfl ?_
      refine V_dload ok dX0_letBy_79 2 rfl ?_
      refine V_dload ok dX0_letBy_81 1 rfl ?_
      refine V_dsub ok dX0_letBy_83 (let_2a hq hT2 ht).n64 ?_
      refine V_dmul ok dX0_letBy_84 (let_2b hq hT2 ho).n64 ?_
      refine V_dload ok dX0_letBy_85 2 rfl ?_
      refine V_ddiv ok dX0_letBy_87 (let_2 hq hT2 ho).n64 ?_
      refine V_goto (tgt := 92) ok dX0_letBy_88 (by decide) ?_
      exact V_dret ok dX0_letBy_92 (Nat.zero_le _) (Nat.zero_le _) ⟨by subst hk; simp [letF, ho], rfl⟩
    · refine V_top_int (b := nI 3) (by rw [hk]) ?_
      refine V_tabIn (off := 68) (tgt := 93) ok dX0_letBy_25 (by decide) (by decide) rfl (by decide) ?_
      refine V_iload ok dX0_letBy_93 0 rfl ?_
      refine V_ifN_eq (tgt := 121) ok dX0_letBy_95 (by decide) (by omega) (fun h95 => absurd h95 (by decide)) (fun h95 => ?_)
      refine V_dload ok dX0_letBy_98 3 rfl ?_
      refine V_dload ok dX0_letBy_100 2 rfl ?_
      refine V_dload ok dX0_letBy_102 2 rfl ?_
      refine V_dmul ok dX0_letBy_104 (let_3s hT2).n64 ?_
      refine V_dload ok dX0_letBy_105 1 rfl ?_
      refine V_dload ok dX0_letBy_107 1 rfl ?_
      refine V_dmul ok dX0_letBy_109 (let_3s (show t ≤ 60 by omega)).n64 ?_
      refine V_dsub ok dX0_letBy_110 (let_3a hT2 ho).n64 ?_
      refine V_dmul ok dX0_letBy_111 (let_3b hq hT2 ho).n64 ?_
      refine V_dload ok dX0_letBy_112 2 rfl ?_
      refine V_dload ok dX0_letBy_114 2 rfl ?_
      refine V_dmul ok dX0_letBy_116 (let_3s hT2).n64 ?_
      refine V_ddiv ok dX0_letBy_117 (let_3 hq hT2 ho).n64 ?_
      refine V_goto (tgt := 122) ok dX0_letBy_118 (by decide) ?_
      exact V_dret ok dX0_letBy_122 (Nat.zero_le _) (Nat.zero_le _) ⟨by subst hk; simp [letF, ho], rfl⟩
    · refine V_top_int (b := nI 4) (by rw [hk]) ?_
      refine V_tabIn (off := 98) (tgt := 123) ok dX0_letBy_25 (by decide) (by decide) rfl (by decide) ?_
      refine V_iload ok dX0_letBy_123 0 rfl ?_
      refine V_ifN_eq (tgt := 137) ok dX0_letBy_125 (by decide) (by omega) (fun h125 => absurd h125 (by decide)) (fun h125 => ?_)
      refine V_dload ok dX0_letBy_128 3 rfl ?_
      refine V_ldc2d ok twd_X0_39 dX0_letBy_130 ?_
      refine V_ddiv ok dX0_letBy_133 (let_4 hq).n64 ?_
      refine V_goto (tgt := 138) ok dX0_letBy_134 (by decide) ?_
      exact V_dret ok dX0_letBy_138 (Nat.zero_le _) (Nat.zero_le _) ⟨by subst hk; simp [letF, ho], rfl⟩
    · refine V_top_int (b := nI 5) (by rw [hk]) ?_
      refine V_tabIn (off := 114) (tgt := 139) ok dX0_letBy_25 (by decide) (by decide) rfl (by decide) ?_
      refine V_iload_n ok dX0_letBy_139 rfl 6 rfl ?_
      refine V_ifN_le (tgt := 160) ok dX0_letBy_140 (by decide) (by omega) (fun h140 => absurd h140 (by omega)) (fun h140 => ?_)
      refine V_iload_n ok dX0_letBy_143 rfl 7 rfl ?_
      refine V_iload_n ok dX0_letBy_144 rfl 6 rfl ?_
      refine V_idiv ok dX0_letBy_145 (nI_ne0 (by omega) (by omega)) ?_
      refine V_top_int (b := nI (t / T)) (pk_div (by omega) (by omega) (by omega)) ?_
      refine V_iconst (v := nI 2) ok dX0_letBy_146 rfl ?_
      refine V_irem ok dX0_letBy_147 (by decide) ?_
      refine V_top_int (b := nI (t / T % 2)) (pk_rem (d := 2) (Nat.lt_of_le_of_lt (Nat.div_le_self t T) (by omega)) (by decide) (by decide)) ?_
      have hm2 : t / T % 2 < 2 := Nat.mod_lt _ (by decide)
      refine V_ifN_eq (tgt := 160) ok dX0_letBy_148 (by decide) (by omega) (fun h148 => ?_) (fun h148 => ?_)
      · refine V_dload ok dX0_letBy_160 3 rfl ?_
        exact V_dret ok dX0_letBy_162 (Nat.zero_le _) (Nat.zero_le _) ⟨by subst hk; simp [letF, h148], rfl⟩
      · refine V_dload ok dX0_letBy_151 3 rfl ?_
        refine V_ldc2d ok twd_X0_39 dX0_letBy_153 ?_
        refine V_ddiv ok dX0_letBy_156 (let_4 hq).n64 ?_
        refine V_goto (tgt := 162) ok dX0_letBy_157 (by decide) ?_
        exact V_dret ok dX0_letBy_162 (Nat.zero_le _) (Nat.zero_le _) ⟨by subst hk; simp [letF, h148], rfl⟩
def nodeB (v : Nat → Int32) (i : Int32) : Bool := if i < 0 then false else if v 0 < i then false else true
set_option maxHeartbeats 4000000 in
set_option maxRecDepth 100000 in
theorem c_X0_hasNode (g : Glob) (a : Nat → Nat) (v : Nat → Int32) (F B G L : Nat → UInt64) (hi lo lev : UInt64) (i : Int32) : Con g yX0_hasNode cX0_hasNode 2 (some .boolean) ({ frames := 0, cells := 0, slots := 0, locals := 0 } : Room) [.ref (a 0), .int i] (lineW g a (v, F, B, G, L, hi, lo, lev)) (Is (some (.int (bI (nodeB v i)))) (lineW g a (v, F, B, G, L, hi, lo, lev))) := by
  refine con_of_V ypl_X0_hasNode (Nat.le_of_ble_eq_true rfl) [(0, .ref (a 0)), (1, .int i)] rfl (fun Γ ok => ?_)
  refine V_iload_n ok dX0_hasNode_0 rfl 1 rfl ?_
  refine V_if_lt (tgt := 18) ok dX0_hasNode_1 (by decide) (fun h1 => ?_) (fun h1 => ?_)
  · refine V_iconst (v := nI 0) ok dX0_hasNode_18 rfl ?_
    exact V_zret ok dX0_hasNode_19 (Nat.zero_le _) (Nat.zero_le _) rfl ⟨bI_f (by simp only [nodeB]; rw [if_pos h1]), rfl⟩
  · refine V_iload_n ok dX0_hasNode_4 rfl 1 rfl ?_
    refine V_aload_n ok dX0_hasNode_5 rfl 0 rfl ?_
    refine V_get (v := .ref (a 1)) ok 0 0 tw_X0 twf_X0_7 rfl rfl (by decide) dX0_hasNode_6 rfl rfl ?_
    refine V_iconst (v := nI 0) ok dX0_hasNode_9 rfl ?_
    refine V_iald (f := v) (N := 9) ok 1 0 dX0_hasNode_10 rfl rfl (by decide) (by decide) ?_
    refine V_icmp_gt (tgt := 18) ok dX0_hasNode_11 (by decide) (fun h11 => ?_) (fun h11 => ?_)
    · refine V_iconst (v := nI 0) ok dX0_hasNode_18 rfl ?_
      exact V_zret ok dX0_hasNode_19 (Nat.zero_le _) (Nat.zero_le _) rfl ⟨bI_f (by simp only [nodeB]; rw [if_neg h1, if_pos h11]), rfl⟩
    · refine V_iconst (v := nI 1) ok dX0_hasNode_14 rfl ?_
      refine V_goto (tgt := 19) ok dX0_hasNode_15 (by decide) ?_
      exact V_zret ok dX0_hasNode_19 (Nat.zero_le _) (Nat.zero_le _) rfl ⟨bI_t (by simp only [nodeB]; rw [if_neg h1, if_neg h11]), rfl⟩
set_option maxHeartbeats 4000000 in
set_option maxRecDepth 100000 in
theorem c_X0_pressure (g : Glob) (a : Nat → Nat) (v : Nat → Int32) (F B G L : Nat → UInt64) (hi lo lev : UInt64) (i : Nat) (hi10 : i ≤ 10) (hp : vf_n64 (FP.dadd (F i) (B i))) : Con g yX0_pressure cX0_pressure 2 (some .double) ({ frames := 0, cells := 0, slots := 0, locals := 0 } : Room) [.ref (a 0), .int (nI i)] (lineW g a (v, F, B, G, L, hi, lo, lev)) (Is (some (.double (FP.dadd (F i) (B i)))) (lineW g a (v, F, B, G, L, hi, lo, lev))) := by
  refine con_of_V ypl_X0_pressure (Nat.le_of_ble_eq_true rfl) [(0, .ref (a 0)), (1, .int (nI i))] rfl (fun Γ ok => ?_)
  refine V_aload_n ok dX0_pressure_0 rfl 0 rfl ?_
  refine V_get (v := .ref (a 2)) ok 0 1 tw_X0 twf_X0_13 rfl rfl (by decide) dX0_pressure_1 rfl rfl ?_
  refine V_iload_n ok dX0_pressure_4 rfl 1 rfl ?_
  refine V_dald (f := F) (N := 11) ok 2 i dX0_pressure_5 rfl rfl (by omega) (by decide) ?_
  refine V_aload_n ok dX0_pressure_6 rfl 0 rfl ?_
  refine V_get (v := .ref (a 3)) ok 0 2 tw_X0 twf_X0_17 rfl rfl (by decide) dX0_pressure_7 rfl rfl ?_
  refine V_iload_n ok dX0_pressure_10 rfl 1 rfl ?_
  refine V_dald (f := B) (N := 11) ok 3 i dX0_pressure_11 rfl rfl (by omega) (by decide) ?_
  refine V_dadd ok dX0_pressure_12 hp ?_
  exact V_dret ok dX0_pressure_13 (Nat.zero_le _) (Nat.zero_le _) ⟨rfl, rfl⟩
set_option maxHeartbeats 4000000 in
set_option maxRecDepth 100000 in
theorem c_X0_govern (g : Glob) (a : Nat → Nat) (v : Nat → Int32) (F B G L : Nat → UInt64) (hi lo lev : UInt64) (k t : Int32) : Con g yX0_govern cX0_govern 3 none ({ frames := 0, cells := 0, slots := 0, locals := 0 } : Room) [.ref (a 0), .int k, .int t] (lineW g a (v, F, B, G, L, hi, lo, lev)) (Is none (lineW g a (upd (upd v 6 k) 7 t, F, B, G, L, hi, lo, lev))) := by
  refine con_of_V ypl_X0_govern (Nat.le_of_ble_eq_true rfl) [(0, .ref (a 0)), (1, .int k), (2, .int t)] rfl (fun Γ ok => ?_)
  refine V_aload_n ok dX0_govern_0 rfl 0 rfl ?_
  refine V_get (v := .ref (a 1)) ok 0 0 tw_X0 twf_X0_7 rfl rfl (by decide) dX0_govern_1 rfl rfl ?_
  refine V_bipush (v := nI 6) ok dX0_govern_4 rfl ?_
  refine V_iload_n ok dX0_govern_6 rfl 1 rfl ?_
  refine V_iast (f := v) (N := 9) (w2 := lineW g a (upd v 6 k, F, B, G, L, hi, lo, lev)) ok 1 6 dX0_govern_7 rfl rfl (by decide) (by decide) rfl ?_
  refine V_aload_n ok dX0_govern_8 rfl 0 rfl ?_
  refine V_get (v := .ref (a 1)) ok 0 0 tw_X0 twf_X0_7 rfl rfl (by decide) dX0_govern_9 rfl rfl ?_
  refine V_bipush (v := nI 7) ok dX0_govern_12 rfl ?_
  refine V_iload_n ok dX0_govern_14 rfl 2 rfl ?_
  refine V_iast (f := upd v 6 k) (N := 9) (w2 := lineW g a (upd (upd v 6 k) 7 t, F, B, G, L, hi, lo, lev)) ok 1 7 dX0_govern_15 rfl rfl (by decide) (by decide) rfl ?_
  exact V_vret ok dX0_govern_16 (Nat.zero_le _) (Nat.zero_le _) ⟨rfl, rfl⟩
theorem ten_fin : FP.Core.DFin 4666723172467343360 := by rw [← show FP.i2d 10000 = 4666723172467343360 by decide +kernel]; exact FP.Core.i2d_fin _
theorem mten_fin : FP.Core.DFin 13890095209322119168 := by rw [← show FP.i2d (-10000) = 13890095209322119168 by decide +kernel]; exact FP.Core.i2d_fin _
theorem ten_nn : nn 4666723172467343360 := ten_fin.ne_nan
theorem mten_nn : nn 13890095209322119168 := mten_fin.ne_nan
set_option maxHeartbeats 4000000 in
set_option maxRecDepth 100000 in
theorem c_X0_fillTank (g : Glob) (a : Nat → Nat) (v : Nat → Int32) (F B G L : Nat → UInt64) (hi lo lev : UInt64) (z : UInt64) (hn1 : vf_n64 (FP.ddiv z (FP.i2d (v 3)))) (hn2 : vf_n64 (FP.dadd lev (FP.ddiv z (FP.i2d (v 3))))) (hn3 : nn (FP.dadd lev (FP.ddiv z (FP.i2d (v 3))))) : Con g yX0_fillTank cX0_fillTank 7 none ({ frames := 0, cells := 0, slots := 0, locals := 0 } : Room) [.ref (a 0), .double z] (lineW g a (v, F, B, G, L, hi, lo, lev)) (Is none (lineW g a (v, F, B, G, L, hi, lo, clampF (risen lev z (v 3))))) := by
  refine con_of_V ypl_X0_fillTank (Nat.le_of_ble_eq_true rfl) [(0, .ref (a 0)), (1, .double z)] rfl (fun Γ ok => ?_)
  refine V_aload_n ok dX0_fillTank_0 rfl 0 rfl ?_
  refine V_get (v := .ref (a 1)) ok 0 0 tw_X0 twf_X0_7 rfl rfl (by decide) dX0_fillTank_1 rfl rfl ?_
  refine V_iconst (v := nI 3) ok dX0_fillTank_4 rfl ?_
  refine V_iald (f := v) (N := 9) ok 1 3 dX0_fillTank_5 rfl rfl (by decide) (by decide) ?_
  refine V_i2d ok dX0_fillTank_6 ?_
  refine V_dstore_n (lv2 := [(3, .double (FP.i2d (v 3))), (0, .ref (a 0)), (1, .double z)]) ok dX0_fillTank_7 rfl (by decide) rfl ?_
  refine V_aload_n ok dX0_fillTank_8 rfl 1 rfl ?_
  refine V_get (v := .double lev) ok 0 7 tw_X0 twf_X0_58 rfl rfl (by decide) dX0_fillTank_9 rfl rfl ?_
  refine V_dload_n ok dX0_fillTank_12 rfl 2 rfl ?_
  refine V_dload_n ok dX0_fillTank_13 rfl 0 rfl ?_
  refine V_ddiv ok dX0_fillTank_14 hn1 ?_
  refine V_dadd ok dX0_fillTank_15 hn2 ?_
  refine V_dstore (lv2 := [(5, .double (FP.dadd lev (FP.ddiv z (FP.i2d (v 3))))), (3, .double (FP.i2d (v 3))), (0, .ref (a 0)), (1, .double z)]) ok dX0_fillTank_16 (by decide) rfl ?_
  refine V_aload_n ok dX0_fillTank_18 rfl 2 rfl ?_
  refine V_dload ok dX0_fillTank_19 0 rfl ?_
  refine V_ldc2d ok twd_X0_85 dX0_fillTank_21 ?_
  have J24 : V g Γ 7 0 0 51 (lineW g a (v, F, B, G, L, hi, lo, lev)) [(5, .double (FP.dadd lev (FP.ddiv z (FP.i2d (v 3))))), (3, .double (FP.i2d (v 3))), (0, .ref (a 0)), (1, .double z)] [.double (if zv 4666723172467343360 < zv (FP.dadd lev (FP.ddiv z (FP.i2d (v 3)))) then 4666723172467343360 else (if zv (FP.dadd lev (FP.ddiv z (FP.i2d (v 3)))) < zv 13890095209322119168 then 13890095209322119168 else FP.dadd lev (FP.ddiv z (FP.i2d (v 3))))), .ref (a 0)] := by
    refine V_put (w2 := lineW g a (v, F, B, G, L, hi, lo, (if zv 4666723172467343360 < zv (FP.dadd lev (FP.ddiv z (FP.i2d (v 3)))) then 4666723172467343360 else (if zv (FP.dadd lev (FP.ddiv z (FP.i2d (v 3)))) < zv 13890095209322119168 then 13890095209322119168 else FP.dadd lev (FP.ddiv z (FP.i2d (v 3))))))) ok 0 7 tw_X0 tyX0 tyX0_ok nmX0 twf_X0_58 rfl rfl (by decide) rfl rfl dX0_fillTank_51 rfl rfl rfl (Nat.lt_of_lt_of_eq (m := 8) (by decide) rfl) rfl ?_
    exact V_vret ok dX0_fillTank_54 (Nat.zero_le _) (Nat.zero_le _) ⟨rfl, rfl⟩
  refine V_dle (tgt := 34) ok dX0_fillTank_24 dX0_fillTank_25 (by decide) hn3 ten_nn (fun h24 => ?_) (fun h24 => ?_)
  · refine V_dload ok dX0_fillTank_34 0 rfl ?_
    refine V_ldc2d ok twd_X0_87 dX0_fillTank_36 ?_
    have J39 : V g Γ 7 0 0 51 (lineW g a (v, F, B, G, L, hi, lo, lev)) [(5, .double (FP.dadd lev (FP.ddiv z (FP.i2d (v 3))))), (3, .double (FP.i2d (v 3))), (0, .ref (a 0)), (1, .double z)] [.double (if zv (FP.dadd lev (FP.ddiv z (FP.i2d (v 3)))) < zv 13890095209322119168 then 13890095209322119168 else FP.dadd lev (FP.ddiv z (FP.i2d (v 3)))), .ref (a 0)] := by
      simp only [if_neg h24] at J24
      exact J24
    refine V_dge (tgt := 49) ok dX0_fillTank_39 dX0_fillTank_40 (by decide) hn3 mten_nn (fun h39 => ?_) (fun h39 => ?_)
    · refine V_dload ok dX0_fillTank_49 0 rfl ?_
      simp only [if_neg h39] at J39
      exact J39
    · refine V_ldc2d ok twd_X0_87 dX0_fillTank_43 ?_
      refine V_goto (tgt := 51) ok dX0_fillTank_46 (by decide) ?_
      simp only [if_pos h39] at J39
      exact J39
  · refine V_ldc2d ok twd_X0_85 dX0_fillTank_28 ?_
    refine V_goto (tgt := 51) ok dX0_fillTank_31 (by decide) ?_
    simp only [if_pos h24] at J24
    exact J24
end
section
set_option maxHeartbeats 4000000 in
set_option maxRecDepth 100000 in
/-- the waves go on -/
theorem c_X0_shift (g : Glob) (a : Nat → Nat) (v : Nat → Int32) (F B G L : Nat → UInt64) (hi lo lev : UInt64) (hv : VG v) : Con g yX0_shift cX0_shift 3 none ({ frames := 0, cells := 0, slots := 0, locals := 0 } : Room) [.ref (a 0)] (lineW g a (v, F, B, G, L, hi, lo, lev)) (Is none (lineW g a (v, shF (nv v 0) 0 F, shB (nv v 0) B, G, L, hi, lo, lev))) := by
  refine con_of_V ypl_X0_shift (Nat.le_of_ble_eq_true rfl) [(0, .ref (a 0))] rfl (fun Γ ok => ?_)
  have hN := hv.n
  have HB : ∀ (n i : Nat), i ≤ nv v 0 → n = nv v 0 - i → V g Γ 3 0 0 35 (lineW g a (v, shF (nv v 0) 0 F, shB i B, G, L, hi, lo, lev)) [(2, .int (nI i)), (1, .int (nI (nv v 0))), (0, .ref (a 0))] [] := by
    intro n
    induction n using Nat.strongRecOn with
    | ind n ih =>
    intro i hi1 hn
    subst hn
    refine V_iload_n ok dX0_shift_35 rfl 0 rfl ?_
    refine V_iload_n ok dX0_shift_36 rfl 1 rfl ?_
    refine V_icmpN_ge (tgt := 60) ok dX0_shift_37 (by decide) (by omega) (by omega) (fun h37 => ?_) (fun h37 => ?_)
    · exact V_vret ok dX0_shift_60 (Nat.zero_le _) (Nat.zero_le _) ⟨rfl, by rw [show i = nv v 0 by omega]⟩
    · refine V_aload_n ok dX0_shift_40 rfl 2 rfl ?_
      refine V_get (v := .ref (a 3)) ok 0 2 tw_X0 twf_X0_17 rfl rfl (by decide) dX0_shift_41 rfl rfl ?_
      refine V_iload_n ok dX0_shift_44 rfl 0 rfl ?_
      refine V_aload_n ok dX0_shift_45 rfl 2 rfl ?_
      refine V_get (v := .ref (a 3)) ok 0 2 tw_X0 twf_X0_17 rfl rfl (by decide) dX0_shift_46 rfl rfl ?_
      refine V_iload_n ok dX0_shift_49 rfl 0 rfl ?_
      refine V_iconst (v := nI 1) ok dX0_shift_50 rfl ?_
      refine V_iaddN (a := i) (b := 1) (c := i + 1) ok dX0_shift_51 (by first | rfl | omega) ?_
      refine V_dald (f := shB i B) (N := 11) ok 3 (i + 1) dX0_shift_52 rfl rfl (by omega) (by decide) ?_
      refine V_dast (f := shB i B) (N := 11) (w2 := lineW g a (v, shF (nv v 0) 0 F, shB (i + 1) B, G, L, hi, lo, lev)) ok 3 i dX0_shift_53 rfl rfl (by omega) (by decide) (congrArg (fun zz => lineW g a (v, shF (nv v 0) 0 F, zz, G, L, hi, lo, lev)) (shB_s i B)) ?_
      refine V_iinc (q := 0) (v := nI (i + 1)) (lv2 := [(2, .int (nI (i + 1))), (1, .int (nI (nv v 0))), (0, .ref (a 0))]) ok dX0_shift_54 rfl (nI_inc i 1) (by decide) rfl ?_
      refine V_goto (tgt := 35) ok dX0_shift_57 (by decide) ?_
      refine V_lv [0, 1, 2] rfl ?_
      exact ih (nv v 0 - (i + 1)) (by omega) (i + 1) (by omega) rfl
  have HA : ∀ i : Nat, i ≤ nv v 0 → V g Γ 3 0 0 9 (lineW g a (v, shF (nv v 0) i F, B, G, L, hi, lo, lev)) [(2, .int (nI i)), (1, .int (nI (nv v 0))), (0, .ref (a 0))] [] := by
    intro i
    induction i with
    | zero =>
      intro hi1
      refine V_iload_n ok dX0_shift_9 rfl 0 rfl ?_
      refine V_ifN_le (tgt := 33) ok dX0_shift_10 (by decide) (by omega) (fun h10 => ?_) (fun h10 => absurd rfl h10)
      refine V_iconst (v := nI 0) ok dX0_shift_33 rfl ?_
      refine V_istore_n (lv2 := [(2, .int (nI 0)), (1, .int (nI (nv v 0))), (0, .ref (a 0))]) ok dX0_shift_34 rfl (by decide) rfl ?_
      refine V_lv [0, 1, 2] rfl ?_
      refine V_ws (w2 := lineW g a (v, shF (nv v 0) 0 F, shB 0 B, G, L, hi, lo, lev)) (by rw [shB_0]) ?_
      exact HB (nv v 0) 0 (Nat.zero_le _) rfl
    | succ i ih =>
      intro hi1
      refine V_iload_n ok dX0_shift_9 rfl 0 rfl ?_
      refine V_ifN_le (tgt := 33) ok dX0_shift_10 (by decide) (by omega) (fun h10 => absurd h10 (by omega)) (fun h10 => ?_)
      refine V_aload_n ok dX0_shift_13 rfl 2 rfl ?_
      refine V_get (v := .ref (a 2)) ok 0 1 tw_X0 twf_X0_13 rfl rfl (by decide) dX0_shift_14 rfl rfl ?_
      refine V_iload_n ok dX0_shift_17 rfl 0 rfl ?_
      refine V_aload_n ok dX0_shift_18 rfl 2 rfl ?_
      refine V_get (v := .ref (a 2)) ok 0 1 tw_X0 twf_X0_13 rfl rfl (by decide) dX0_shift_19 rfl rfl ?_
      refine V_iload_n ok dX0_shift_22 rfl 0 rfl ?_
      refine V_iconst (v := nI 1) ok dX0_shift_23 rfl ?_
      refine V_isubN (a := i + 1) (b := 1) (c := i) ok dX0_shift_24 (by omega) (by omega) ?_
      refine V_dald (f := shF (nv v 0) (i + 1) F) (N := 11) ok 2 i dX0_shift_25 rfl rfl (by omega) (by decide) ?_
      refine V_dast (f := shF (nv v 0) (i + 1) F) (N := 11) (w2 := lineW g a (v, shF (nv v 0) i F, B, G, L, hi, lo, lev)) ok 2 (i + 1) dX0_shift_26 rfl rfl (by omega) (by decide) (congrArg (fun zz => lineW g a (v, zz, B, G, L, hi, lo, lev)) (shF_s F hi1)) ?_
      refine V_iinc (q := 0) (v := nI i) (lv2 := [(2, .int (nI i)), (1, .int (nI (nv v 0))), (0, .ref (a 0))]) ok dX0_shift_27 rfl (nI_dec i) (by decide) rfl ?_
      refine V_goto (tgt := 9) ok dX0_shift_30 (by decide) ?_
      refine V_lv [0, 1, 2] rfl ?_
      exact ih (by omega)
  refine V_aload_n ok dX0_shift_0 rfl 0 rfl ?_
  refine V_get (v := .ref (a 1)) ok 0 0 tw_X0 twf_X0_7 rfl rfl (by decide) dX0_shift_1 rfl rfl ?_
  refine V_iconst (v := nI 0) ok dX0_shift_4 rfl ?_
  refine V_iald (f := v) (N := 9) ok 1 0 dX0_shift_5 rfl rfl (by decide) (by decide) ?_
  refine V_top_int (b := nI (nv v 0)) (hv.n.1) ?_
  refine V_istore_n (lv2 := [(1, .int (nI (nv v 0))), (0, .ref (a 0))]) ok dX0_shift_6 rfl (by decide) rfl ?_
  refine V_iload_n ok dX0_shift_7 rfl 0 rfl ?_
  refine V_istore_n (lv2 := [(2, .int (nI (nv v 0))), (1, .int (nI (nv v 0))), (0, .ref (a 0))]) ok dX0_shift_8 rfl (by decide) rfl ?_
  refine V_ws (w2 := lineW g a (v, shF (nv v 0) (nv v 0) F, B, G, L, hi, lo, lev)) (by rw [shF_N]) ?_
  refine V_lv [0, 1, 2] rfl ?_
  exact HA (nv v 0) (Nat.le_refl _)
set_option maxHeartbeats 4000000 in
set_option maxRecDepth 100000 in
theorem c_X0_turnLeft (g : Glob) (a : Nat → Nat) (v : Nat → Int32) (F B G L : Nat → UInt64) (hi lo lev : UInt64) (hn : vf_n64 (FP.dsub (FP.i2d (v 1)) (B 0))) : Con g yX0_turnLeft cX0_turnLeft 3 none ({ frames := 0, cells := 0, slots := 0, locals := 0 } : Room) [.ref (a 0)] (lineW g a (v, F, B, G, L, hi, lo, lev)) (Is none (lineW g a (v, vf_upd F 0 (leftF v (B 0)), B, G, L, hi, lo, lev))) := by
  refine con_of_V ypl_X0_turnLeft (Nat.le_of_ble_eq_true rfl) [(0, .ref (a 0))] rfl (fun Γ ok => ?_)
  refine V_aload_n ok dX0_turnLeft_0 rfl 0 rfl ?_
  refine V_get (v := .ref (a 1)) ok 0 0 tw_X0 twf_X0_7 rfl rfl (by decide) dX0_turnLeft_1 rfl rfl ?_
  refine V_iconst (v := nI 1) ok dX0_turnLeft_4 rfl ?_
  refine V_iald (f := v) (N := 9) ok 1 1 dX0_turnLeft_5 rfl rfl (by decide) (by decide) ?_
  refine V_i2d ok dX0_turnLeft_6 ?_
  refine V_dstore_n (lv2 := [(1, .double (FP.i2d (v 1))), (0, .ref (a 0))]) ok dX0_turnLeft_7 rfl (by decide) rfl ?_
  refine V_aload_n ok dX0_turnLeft_8 rfl 1 rfl ?_
  refine V_get (v := .ref (a 2)) ok 0 1 tw_X0 twf_X0_13 rfl rfl (by decide) dX0_turnLeft_9 rfl rfl ?_
  refine V_iconst (v := nI 0) ok dX0_turnLeft_12 rfl ?_
  refine V_aload_n ok dX0_turnLeft_13 rfl 1 rfl ?_
  refine V_get (v := .ref (a 1)) ok 0 0 tw_X0 twf_X0_7 rfl rfl (by decide) dX0_turnLeft_14 rfl rfl ?_
  refine V_iconst (v := nI 4) ok dX0_turnLeft_17 rfl ?_
  refine V_iald (f := v) (N := 9) ok 1 4 dX0_turnLeft_18 rfl rfl (by decide) (by decide) ?_
  have J19 : V g Γ 3 0 0 39 (lineW g a (v, F, B, G, L, hi, lo, lev)) [(1, .double (FP.i2d (v 1))), (0, .ref (a 0))] [.double (if (v 4) = 0 then FP.dsub (FP.i2d (v 1)) (B 0) else B 0), .int (nI 0), .ref (a 2)] := by
    refine V_dast (f := F) (N := 11) (w2 := lineW g a (v, vf_upd F 0 (if (v 4) = 0 then FP.dsub (FP.i2d (v 1)) (B 0) else B 0), B, G, L, hi, lo, lev)) ok 2 0 dX0_turnLeft_39 rfl rfl (by decide) (by decide) rfl ?_
    exact V_vret ok dX0_turnLeft_40 (Nat.zero_le _) (Nat.zero_le _) ⟨rfl, rfl⟩
  refine V_if_ne (tgt := 33) ok dX0_turnLeft_19 (by decide) (fun h19 => ?_) (fun h19 => ?_)
  · refine V_aload_n ok dX0_turnLeft_33 rfl 1 rfl ?_
    refine V_get (v := .ref (a 3)) ok 0 2 tw_X0 twf_X0_17 rfl rfl (by decide) dX0_turnLeft_34 rfl rfl ?_
    refine V_iconst (v := nI 0) ok dX0_turnLeft_37 rfl ?_
    refine V_dald (f := B) (N := 11) ok 3 0 dX0_turnLeft_38 rfl rfl (by decide) (by decide) ?_
    simp only [if_neg h19] at J19
    exact J19
  · refine V_dload_n ok dX0_turnLeft_22 rfl 0 rfl ?_
    refine V_aload_n ok dX0_turnLeft_23 rfl 1 rfl ?_
    refine V_get (v := .ref (a 3)) ok 0 2 tw_X0 twf_X0_17 rfl rfl (by decide) dX0_turnLeft_24 rfl rfl ?_
    refine V_iconst (v := nI 0) ok dX0_turnLeft_27 rfl ?_
    refine V_dald (f := B) (N := 11) ok 3 0 dX0_turnLeft_28 rfl rfl (by decide) (by decide) ?_
    refine V_dsub ok dX0_turnLeft_29 hn ?_
    refine V_goto (tgt := 39) ok dX0_turnLeft_30 (by decide) ?_
    simp only [if_pos h19] at J19
    exact J19
set_option maxHeartbeats 4000000 in
set_option maxRecDepth 100000 in
theorem c_X0_turnRight (g : Glob) (a : Nat → Nat) (v : Nat → Int32) (F B G L : Nat → UInt64) (hi lo lev : UInt64) (hv : VG v) (hn0 : vf_n64 (FP.dsub (F (nv v 0)) (letF (nv v 6) (nv v 7) (nv v 8) (v 2)))) (hn1 : vf_n64 (FP.dsub (FP.i2d (v 1)) (F (nv v 0)))) (hn2 : vf_n64 (FP.dsub lev (F (nv v 0)))) (hn3 : vf_n64 (FP.dsub (F (nv v 0)) (FP.dsub lev (F (nv v 0))))) (hf1 : vf_n64 (FP.ddiv (FP.dsub (F (nv v 0)) (FP.dsub lev (F (nv v 0)))) (FP.i2d (v 3)))) (hf2 : vf_n64 (FP.dadd lev (FP.ddiv (FP.dsub (F (nv v 0)) (FP.dsub lev (F (nv v 0)))) (FP.i2d (v 3))))) (hf3 : nn (FP.dadd lev (FP.ddiv (FP.dsub (F (nv v 0)) (FP.dsub lev (F (nv v 0)))) (FP.i2d (v 3))))) : Con g yX0_turnRight cX0_turnRight 4 none ({ frames := 1, cells := 0, slots := 0, locals := 30 } : Room) [.ref (a 0)] (lineW g a (v, F, B, G, L, hi, lo, lev)) (Is none (lineW g a (v, F, vf_upd B (nv v 0) (rightB v (F (nv v 0)) lev), G, L, hi, lo, rightLev v (F (nv v 0)) lev))) := by
  refine con_of_V ypl_X0_turnRight (Nat.le_of_ble_eq_true rfl) [(0, .ref (a 0))] rfl (fun Γ ok => ?_)
  have hN := hv.n
  refine V_aload_n ok dX0_turnRight_0 rfl 0 rfl ?_
  refine V_get (v := .ref (a 1)) ok 0 0 tw_X0 twf_X0_7 rfl rfl (by decide) dX0_turnRight_1 rfl rfl ?_
  refine V_iconst (v := nI 0) ok dX0_turnRight_4 rfl ?_
  refine V_iald (f := v) (N := 9) ok 1 0 dX0_turnRight_5 rfl rfl (by decide) (by decide) ?_
  refine V_top_int (b := nI (nv v 0)) (hv.n.1) ?_
  refine V_istore_n (lv2 := [(1, .int (nI (nv v 0))), (0, .ref (a 0))]) ok dX0_turnRight_6 rfl (by decide) rfl ?_
  refine V_aload_n ok dX0_turnRight_7 rfl 1 rfl ?_
  refine V_get (v := .ref (a 1)) ok 0 0 tw_X0 twf_X0_7 rfl rfl (by decide) dX0_turnRight_8 rfl rfl ?_
  refine V_iconst (v := nI 1) ok dX0_turnRight_11 rfl ?_
  refine V_iald (f := v) (N := 9) ok 1 1 dX0_turnRight_12 rfl rfl (by decide) (by decide) ?_
  refine V_i2d ok dX0_turnRight_13 ?_
  refine V_dstore_n (lv2 := [(2, .double (FP.i2d (v 1))), (1, .int (nI (nv v 0))), (0, .ref (a 0))]) ok dX0_turnRight_14 rfl (by decide) rfl ?_
  refine V_aload_n ok dX0_turnRight_15 rfl 2 rfl ?_
  refine V_get (v := .ref (a 1)) ok 0 0 tw_X0 twf_X0_7 rfl rfl (by decide) dX0_turnRight_16 rfl rfl ?_
  refine V_iconst (v := nI 5) ok dX0_turnRight_19 rfl ?_
  refine V_iald (f := v) (N := 9) ok 1 5 dX0_turnRight_20 rfl rfl (by decide) (by decide) ?_
  refine V_top_int (b := nI (nv v 5)) (hv.rt.1) ?_
  rcases (show nv v 5 = 0 ∨ nv v 5 = 1 ∨ nv v 5 = 2 ∨ nv v 5 = 3 by have := hv.rt; omega) with hr | hr | hr | hr
  · refine V_top_int (b := nI 0) (by rw [hr]) ?_
    refine V_tabIn (off := 27) (tgt := 48) ok dX0_turnRight_21 (by decide) (by decide) rfl (by decide) ?_
    refine V_aload_n ok dX0_turnRight_48 rfl 2 rfl ?_
    refine V_get (v := .ref (a 3)) ok 0 2 tw_X0 twf_X0_17 rfl rfl (by decide) dX0_turnRight_49 rfl rfl ?_
    refine V_iload_n ok dX0_turnRight_52 rfl 1 rfl ?_
    refine V_aload_n ok dX0_turnRight_53 rfl 2 rfl ?_
    refine V_get (v := .ref (a 2)) ok 0 1 tw_X0 twf_X0_13 rfl rfl (by decide) dX0_turnRight_54 rfl rfl ?_
    refine V_iload_n ok dX0_turnRight_57 rfl 1 rfl ?_
    refine V_dald (f := F) (N := 11) ok 2 (nv v 0) dX0_turnRight_58 rfl rfl (by omega) (by decide) ?_
    refine V_aload_n ok dX0_turnRight_59 rfl 2 rfl ?_
    refine V_get (v := .ref (a 1)) ok 0 0 tw_X0 twf_X0_7 rfl rfl (by decide) dX0_turnRight_60 rfl rfl ?_
    refine V_bipush (v := nI 6) ok dX0_turnRight_63 rfl ?_
    refine V_iald (f := v) (N := 9) ok 1 6 dX0_turnRight_65 rfl rfl (by decide) (by decide) ?_
    refine V_top_int (b := nI (nv v 6)) (hv.k.1) ?_
    refine V_aload_n ok dX0_turnRight_66 rfl 2 rfl ?_
    refine V_get (v := .ref (a 1)) ok 0 0 tw_X0 twf_X0_7 rfl rfl (by decide) dX0_turnRight_67 rfl rfl ?_
    refine V_iconst (v := nI 2) ok dX0_turnRight_70 rfl ?_
    refine V_iald (f := v) (N := 9) ok 1 2 dX0_turnRight_71 rfl rfl (by decide) (by decide) ?_
    refine V_aload_n ok dX0_turnRight_72 rfl 2 rfl ?_
    refine V_get (v := .ref (a 1)) ok 0 0 tw_X0 twf_X0_7 rfl rfl (by decide) dX0_turnRight_73 rfl rfl ?_
    refine V_bipush (v := nI 7) ok dX0_turnRight_76 rfl ?_
    refine V_iald (f := v) (N := 9) ok 1 7 dX0_turnRight_78 rfl rfl (by decide) (by decide) ?_
    refine V_top_int (b := nI (nv v 7)) (hv.t.1) ?_
    refine V_aload_n ok dX0_turnRight_79 rfl 2 rfl ?_
    refine V_get (v := .ref (a 1)) ok 0 0 tw_X0 twf_X0_7 rfl rfl (by decide) dX0_turnRight_80 rfl rfl ?_
    refine V_bipush (v := nI 8) ok dX0_turnRight_83 rfl ?_
    refine V_iald (f := v) (N := 9) ok 1 8 dX0_turnRight_85 rfl rfl (by decide) (by decide) ?_
    refine V_top_int (b := nI (nv v 8)) (hv.tm.1) ?_
    refine V_cS (v2 := some (.double (letF (nv v 6) (nv v 7) (nv v 8) (v 2)))) (wn := lineW g a (v, F, B, G, L, hi, lo, lev)) (rest := [.double (F (nv v 0)), .int (nI (nv v 0)), .ref (a 3)]) ok (c_X0_letBy g (nv v 6) (v 2) (nv v 7) (nv v 8) hv.k.2 hv.bq hv.t.2.1 hv.t.2.2 (by have := hv.tm; omega)) 4 twm_X0_77 tws_yX0_letBy twin_X0 twc_yX0_letBy yok_X0_letBy (by decide) ⟨rfl, rfl⟩ dX0_turnRight_86 rfl rfl (Nat.le_of_ble_eq_true rfl) ⟨Nat.zero_le _, Nat.zero_le _⟩ [] rfl rfl (Nat.le_of_ble_eq_true rfl) rfl ?_
    refine V_dsub ok dX0_turnRight_89 hn0 ?_
    refine V_dast (f := B) (N := 11) (w2 := lineW g a (v, F, vf_upd B (nv v 0) (FP.dsub (F (nv v 0)) (letF (nv v 6) (nv v 7) (nv v 8) (v 2))), G, L, hi, lo, lev)) ok 3 (nv v 0) dX0_turnRight_90 rfl rfl (by omega) (by decide) rfl ?_
    refine V_goto (tgt := 160) ok dX0_turnRight_91 (by decide) ?_
    exact V_vret ok dX0_turnRight_160 (Nat.zero_le _) (Nat.zero_le _) ⟨rfl, by simp [rightB, rightLev, hr]⟩
  · refine V_top_int (b := nI 1) (by rw [hr]) ?_
    refine V_tabIn (off := 73) (tgt := 94) ok dX0_turnRight_21 (by decide) (by decide) rfl (by decide) ?_
    refine V_aload_n ok dX0_turnRight_94 rfl 2 rfl ?_
    refine V_get (v := .ref (a 3)) ok 0 2 tw_X0 twf_X0_17 rfl rfl (by decide) dX0_turnRight_95 rfl rfl ?_
    refine V_iload_n ok dX0_turnRight_98 rfl 1 rfl ?_
    refine V_dload_n ok dX0_turnRight_99 rfl 0 rfl ?_
    refine V_aload_n ok dX0_turnRight_100 rfl 2 rfl ?_
    refine V_get (v := .ref (a 2)) ok 0 1 tw_X0 twf_X0_13 rfl rfl (by decide) dX0_turnRight_101 rfl rfl ?_
    refine V_iload_n ok dX0_turnRight_104 rfl 1 rfl ?_
    refine V_dald (f := F) (N := 11) ok 2 (nv v 0) dX0_turnRight_105 rfl rfl (by omega) (by decide) ?_
    refine V_dsub ok dX0_turnRight_106 hn1 ?_
    refine V_dast (f := B) (N := 11) (w2 := lineW g a (v, F, vf_upd B (nv v 0) (FP.dsub (FP.i2d (v 1)) (F (nv v 0))), G, L, hi, lo, lev)) ok 3 (nv v 0) dX0_turnRight_107 rfl rfl (by omega) (by decide) rfl ?_
    refine V_goto (tgt := 160) ok dX0_turnRight_108 (by decide) ?_
    exact V_vret ok dX0_turnRight_160 (Nat.zero_le _) (Nat.zero_le _) ⟨rfl, by simp [rightB, rightLev, hr]⟩
  · refine V_top_int (b := nI 2) (by rw [hr]) ?_
    refine V_tabIn (off := 90) (tgt := 111) ok dX0_turnRight_21 (by decide) (by decide) rfl (by decide) ?_
    refine V_aload_n ok dX0_turnRight_111 rfl 2 rfl ?_
    refine V_get (v := .ref (a 3)) ok 0 2 tw_X0 twf_X0_17 rfl rfl (by decide) dX0_turnRight_112 rfl rfl ?_
    refine V_iload_n ok dX0_turnRight_115 rfl 1 rfl ?_
    refine V_aload_n ok dX0_turnRight_116 rfl 2 rfl ?_
    refine V_get (v := .ref (a 2)) ok 0 1 tw_X0 twf_X0_13 rfl rfl (by decide) dX0_turnRight_117 rfl rfl ?_
    refine V_iload_n ok dX0_turnRight_120 rfl 1 rfl ?_
    refine V_dald (f := F) (N := 11) ok 2 (nv v 0) dX0_turnRight_121 rfl rfl (by omega) (by decide) ?_
    refine V_dast (f := B) (N := 11) (w2 := lineW g a (v, F, vf_upd B (nv v 0) (F (nv v 0)), G, L, hi, lo, lev)) ok 3 (nv v 0) dX0_turnRight_122 rfl rfl (by omega) (by decide) rfl ?_
    refine V_goto (tgt := 160) ok dX0_turnRight_123 (by decide) ?_
    exact V_vret ok dX0_turnRight_160 (Nat.zero_le _) (Nat.zero_le _) ⟨rfl, by simp [rightB, rightLev, hr]⟩
  · refine V_top_int (b := nI 3) (by rw [hr]) ?_
    refine V_tabOut (tgt := 126) ok dX0_turnRight_21 (by decide) (by decide) ?_
    refine V_aload_n ok dX0_turnRight_126 rfl 2 rfl ?_
    refine V_get (v := .ref (a 3)) ok 0 2 tw_X0 twf_X0_17 rfl rfl (by decide) dX0_turnRight_127 rfl rfl ?_
    refine V_iload_n ok dX0_turnRight_130 rfl 1 rfl ?_
    refine V_aload_n ok dX0_turnRight_131 rfl 2 rfl ?_
    refine V_get (v := .double lev) ok 0 7 tw_X0 twf_X0_58 rfl rfl (by decide) dX0_turnRight_132 rfl rfl ?_
    refine V_aload_n ok dX0_turnRight_135 rfl 2 rfl ?_
    refine V_get (v := .ref (a 2)) ok 0 1 tw_X0 twf_X0_13 rfl rfl (by decide) dX0_turnRight_136 rfl rfl ?_
    refine V_iload_n ok dX0_turnRight_139 rfl 1 rfl ?_
    refine V_dald (f := F) (N := 11) ok 2 (nv v 0) dX0_turnRight_140 rfl rfl (by omega) (by decide) ?_
    refine V_dsub ok dX0_turnRight_141 hn2 ?_
    refine V_dast (f := B) (N := 11) (w2 := lineW g a (v, F, vf_upd B (nv v 0) (FP.dsub lev (F (nv v 0))), G, L, hi, lo, lev)) ok 3 (nv v 0) dX0_turnRight_142 rfl rfl (by omega) (by decide) rfl ?_
    refine V_aload_n ok dX0_turnRight_143 rfl 2 rfl ?_
    refine V_aload_n ok dX0_turnRight_144 rfl 2 rfl ?_
    refine V_get (v := .ref (a 2)) ok 0 1 tw_X0 twf_X0_13 rfl rfl (by decide) dX0_turnRight_145 rfl rfl ?_
    refine V_iload_n ok dX0_turnRight_148 rfl 1 rfl ?_
    refine V_dald (f := F) (N := 11) ok 2 (nv v 0) dX0_turnRight_149 rfl rfl (by omega) (by decide) ?_
    refine V_aload_n ok dX0_turnRight_150 rfl 2 rfl ?_
    refine V_get (v := .ref (a 3)) ok 0 2 tw_X0 twf_X0_17 rfl rfl (by decide) dX0_turnRight_151 rfl rfl ?_
    refine V_iload_n ok dX0_turnRight_154 rfl 1 rfl ?_
    refine V_dald (f := vf_upd B (nv v 0) (FP.dsub lev (F (nv v 0)))) (N := 11) ok 3 (nv v 0) dX0_turnRight_155 rfl rfl (by omega) (by decide) ?_
    refine V_top_double (b := FP.dsub lev (F (nv v 0))) (by simp [vf_upd]) ?_
    refine V_dsub ok dX0_turnRight_156 hn3 ?_
    refine V_cV (v2 := none) (wn := lineW g a (v, F, vf_upd B (nv v 0) (FP.dsub lev (F (nv v 0))), G, L, hi, lo, clampF (risen lev (FP.dsub (F (nv v 0)) (FP.dsub lev (F (nv v 0)))) (v 3)))) (rest := []) ok 0 0 (c_X0_fillTank g a v F (vf_upd B (nv v 0) (FP.dsub lev (F (nv v 0)))) G L hi lo lev (FP.dsub (F (nv v 0)) (FP.dsub lev (F (nv v 0)))) hf1 hf2 hf3) 1 twm_X0_81 twi_yX0_fillTank twv_yX0_fillTank twin_X0 twc_yX0_fillTank yok_X0_fillTank (by decide) ⟨rfl, rfl⟩ dX0_turnRight_157 rfl rfl rfl rfl (Nat.le_of_ble_eq_true rfl) ⟨Nat.zero_le _, Nat.zero_le _⟩ [0, 1, 2, 3, 4, 5] rfl rfl (Nat.le_of_ble_eq_true rfl) rfl ?_
    exact V_vret ok dX0_turnRight_160 (Nat.zero_le _) (Nat.zero_le _) ⟨rfl, by simp [rightB, rightLev, hr]⟩
theorem st_a {v : Nat → Int32} (hv : VG v) : Bd 1100 (FP.dadd (FP.i2d (v 1)) (FP.i2d (v 2))) := bdA hv.bh hv.bq (by decide) (by decide)
theorem st_s {v : Nat → Int32} (hv : VG v) : Bd 1100 (FP.dsub (FP.i2d (v 1)) (FP.i2d (v 2))) := bdS hv.bh hv.bq (by decide) (by decide)
theorem st_F {v : Nat → Int32} (hv : VG v) : Bd 1100 (stF v) := bdQ (st_a hv) two_fin two_one (by decide)
theorem st_B {v : Nat → Int32} (hv : VG v) : Bd 1100 (stB v) := bdQ (st_s hv) two_fin two_one (by decide)
theorem st_P {v : Nat → Int32} (hv : VG v) : Bd 2200 (stP v) := bdA (st_F hv) (st_B hv) (by decide) (by decide)
set_option maxHeartbeats 4000000 in
set_option maxRecDepth 100000 in
/-- steady -/
theorem c_X0_settle (g : Glob) (a : Nat → Nat) (v : Nat → Int32) (F B G L : Nat → UInt64) (hi lo lev : UInt64) (hv : VG v) : Con g yX0_settle cX0_settle 6 none ({ frames := 1, cells := 0, slots := 0, locals := 21 } : Room) [.ref (a 0)] (lineW g a (v, F, B, G, L, hi, lo, lev)) (Is none (lineW g a (upd v 8 (nI 0), fil F (nv v 0 + 1) (stF v), fil B (nv v 0 + 1) (stB v), fil G (nv v 0 + 1) (stP v), fil L (nv v 0 + 1) (stP v), stP v, stP v, FP.i2d (v 1)))) := by
  refine con_of_V ypl_X0_settle (Nat.le_of_ble_eq_true rfl) [(0, .ref (a 0))] rfl (fun Γ ok => ?_)
  have hN := hv.n
  have HT : V g Γ 6 0 0 103 (lineW g a (upd v 8 (nI 0), fil F (nv v 0 + 1) (stF v), fil B (nv v 0 + 1) (stB v), fil G (nv v 0 + 1) (stP v), fil L (nv v 0 + 1) (stP v), hi, lo, FP.i2d (v 1))) [(5, .int (nI (nv v 0 + 1))), (3, .double (FP.i2d (v 2))), (1, .double (FP.i2d (v 1))), (0, .ref (a 0))] [] := by
    refine V_aload_n ok dX0_settle_103 rfl 3 rfl ?_
    refine V_aload_n ok dX0_settle_104 rfl 3 rfl ?_
    refine V_iconst (v := nI 0) ok dX0_settle_105 rfl ?_
    refine V_cV (v2 := some (.double (FP.dadd ((fil F (nv v 0 + 1) (stF v)) 0) ((fil B (nv v 0 + 1) (stB v)) 0)))) (wn := lineW g a (upd v 8 (nI 0), fil F (nv v 0 + 1) (stF v), fil B (nv v 0 + 1) (stB v), fil G (nv v 0 + 1) (stP v), fil L (nv v 0 + 1) (stP v), hi, lo, FP.i2d (v 1))) (rest := [.ref (a 0)]) ok 0 0 (c_X0_pressure g a (upd v 8 (nI 0)) (fil F (nv v 0 + 1) (stF v)) (fil B (nv v 0 + 1) (stB v)) (fil G (nv v 0 + 1) (stP v)) (fil L (nv v 0 + 1) (stP v)) hi lo (FP.i2d (v 1)) 0 (by omega) (by rw [fil_at F (stF v) (Nat.succ_pos _), fil_at B (stB v) (Nat.succ_pos _)]; exact (st_P hv).n64)) 1 twm_X0_61 twi_yX0_pressure twv_yX0_pressure twin_X0 twc_yX0_pressure yok_X0_pressure (by decide) ⟨rfl, rfl⟩ dX0_settle_106 rfl rfl rfl rfl (Nat.le_of_ble_eq_true rfl) ⟨Nat.zero_le _, Nat.zero_le _⟩ [0, 1, 2, 3, 4, 5] rfl rfl (Nat.le_of_ble_eq_true rfl) rfl ?_
    refine V_top_double (b := stP v) (by rw [fil_at F (stF v) (Nat.succ_pos _), fil_at B (stB v) (Nat.succ_pos _)]; rfl) ?_
    refine V_put (w2 := lineW g a (upd v 8 (nI 0), fil F (nv v 0 + 1) (stF v), fil B (nv v 0 + 1) (stB v), fil G (nv v 0 + 1) (stP v), fil L (nv v 0 + 1) (stP v), stP v, lo, FP.i2d (v 1))) ok 0 5 tw_X0 tyX0 tyX0_ok nmX0 twf_X0_51 rfl rfl (by decide) rfl rfl dX0_settle_109 rfl rfl rfl (Nat.lt_of_lt_of_eq (m := 8) (by decide) rfl) rfl ?_
    refine V_aload_n ok dX0_settle_112 rfl 3 rfl ?_
    refine V_aload_n ok dX0_settle_113 rfl 3 rfl ?_
    refine V_iconst (v := nI 0) ok dX0_settle_114 rfl ?_
    refine V_cV (v2 := some (.double (FP.dadd ((fil F (nv v 0 + 1) (stF v)) 0) ((fil B (nv v 0 + 1) (stB v)) 0)))) (wn := lineW g a (upd v 8 (nI 0), fil F (nv v 0 + 1) (stF v), fil B (nv v 0 + 1) (stB v), fil G (nv v 0 + 1) (stP v), fil L (nv v 0 + 1) (stP v), stP v, lo, FP.i2d (v 1))) (rest := [.ref (a 0)]) ok 0 0 (c_X0_pressure g a (upd v 8 (nI 0)) (fil F (nv v 0 + 1) (stF v)) (fil B (nv v 0 + 1) (stB v)) (fil G (nv v 0 + 1) (stP v)) (fil L (nv v 0 + 1) (stP v)) (stP v) lo (FP.i2d (v 1)) 0 (by omega) (by rw [fil_at F (stF v) (Nat.succ_pos _), fil_at B (stB v) (Nat.succ_pos _)]; exact (st_P hv).n64)) 1 twm_X0_61 twi_yX0_pressure twv_yX0_pressure twin_X0 twc_yX0_pressure yok_X0_pressure (by decide) ⟨rfl, rfl⟩ dX0_settle_115 rfl rfl rfl rfl (Nat.le_of_ble_eq_true rfl) ⟨Nat.zero_le _, Nat.zero_le _⟩ [0, 1, 2, 3, 4, 5] rfl rfl (Nat.le_of_ble_eq_true rfl) rfl ?_
    refine V_top_double (b := stP v) (by rw [fil_at F (stF v) (Nat.succ_pos _), fil_at B (stB v) (Nat.succ_pos _)]; rfl) ?_
    refine V_put (w2 := lineW g a (upd v 8 (nI 0), fil F (nv v 0 + 1) (stF v), fil B (nv v 0 + 1) (stB v), fil G (nv v 0 + 1) (stP v), fil L (nv v 0 + 1) (stP v), stP v, stP v, FP.i2d (v 1))) ok 0 6 tw_X0 tyX0 tyX0_ok nmX0 twf_X0_55 rfl rfl (by decide) rfl rfl dX0_settle_118 rfl rfl rfl (Nat.lt_of_lt_of_eq (m := 8) (by decide) rfl) rfl ?_
    exact V_vret ok dX0_settle_121 (Nat.zero_le _) (Nat.zero_le _) ⟨rfl, rfl⟩
  have HL : ∀ (n i : Nat), i ≤ nv v 0 + 1 → n = nv v 0 + 1 - i → V g Γ 6 0 0 32 (lineW g a (upd v 8 (nI 0), fil F i (stF v), fil B i (stB v), fil G i (stP v), fil L i (stP v), hi, lo, FP.i2d (v 1))) [(5, .int (nI i)), (3, .double (FP.i2d (v 2))), (1, .double (FP.i2d (v 1))), (0, .ref (a 0))] [] := by
    intro n
    induction n using Nat.strongRecOn with
    | ind n ih =>
    intro i hi1 hn
    subst hn
    refine V_iload ok dX0_settle_32 0 rfl ?_
    refine V_aload_n ok dX0_settle_34 rfl 3 rfl ?_
    refine V_get (v := .ref (a 1)) ok 0 0 tw_X0 twf_X0_7 rfl rfl (by decide) dX0_settle_35 rfl rfl ?_
    refine V_iconst (v := nI 0) ok dX0_settle_38 rfl ?_
    refine V_iald (f := upd v 8 (nI 0)) (N := 9) ok 1 0 dX0_settle_39 rfl rfl (by decide) (by decide) ?_
    refine V_top_int (b := nI (nv v 0)) ((show upd v 8 (nI 0) 0 = nI (nv v 0) from hv.n.1)) ?_
    refine V_icmpN_gt (tgt := 103) ok dX0_settle_40 (by decide) (by omega) (by omega) (fun h40 => ?_) (fun h40 => ?_)
    · have hiN : i = nv v 0 + 1 := by omega
      subst hiN
      exact HT
    · refine V_aload_n ok dX0_settle_43 rfl 3 rfl ?_
      refine V_get (v := .ref (a 2)) ok 0 1 tw_X0 twf_X0_13 rfl rfl (by decide) dX0_settle_44 rfl rfl ?_
      refine V_iload ok dX0_settle_47 0 rfl ?_
      refine V_dload_n ok dX0_settle_49 rfl 2 rfl ?_
      refine V_dload_n ok dX0_settle_50 rfl 1 rfl ?_
      refine V_dadd ok dX0_settle_51 (st_a hv).n64 ?_
      refine V_ldc2d ok twd_X0_39 dX0_settle_52 ?_
      refine V_ddiv ok dX0_settle_55 (st_F hv).n64 ?_
      refine V_dast (f := fil F i (stF v)) (N := 11) (w2 := lineW g a (upd v 8 (nI 0), fil F (i + 1) (stF v), fil B i (stB v), fil G i (stP v), fil L i (stP v), hi, lo, FP.i2d (v 1))) ok 2 i dX0_settle_56 rfl rfl (by omega) (by decide) (congrArg (fun zz => lineW g a (upd v 8 (nI 0), zz, fil B i (stB v), fil G i (stP v), fil L i (stP v), hi, lo, FP.i2d (v 1))) (fil_s F i (stF v))) ?_
      refine V_aload_n ok dX0_settle_57 rfl 3 rfl ?_
      refine V_get (v := .ref (a 3)) ok 0 2 tw_X0 twf_X0_17 rfl rfl (by decide) dX0_settle_58 rfl rfl ?_
      refine V_iload ok dX0_settle_61 0 rfl ?_
      refine V_dload_n ok dX0_settle_63 rfl 2 rfl ?_
      refine V_dload_n ok dX0_settle_64 rfl 1 rfl ?_
      refine V_dsub ok dX0_settle_65 (st_s hv).n64 ?_
      refine V_ldc2d ok twd_X0_39 dX0_settle_66 ?_
      refine V_ddiv ok dX0_settle_69 (st_B hv).n64 ?_
      refine V_dast (f := fil B i (stB v)) (N := 11) (w2 := lineW g a (upd v 8 (nI 0), fil F (i + 1) (stF v), fil B (i + 1) (stB v), fil G i (stP v), fil L i (stP v), hi, lo, FP.i2d (v 1))) ok 3 i dX0_settle_70 rfl rfl (by omega) (by decide) (congrArg (fun zz => lineW g a (upd v 8 (nI 0), fil F (i + 1) (stF v), zz, fil G i (stP v), fil L i (stP v), hi, lo, FP.i2d (v 1))) (fil_s B i (stB v))) ?_
      refine V_aload_n ok dX0_settle_71 rfl 3 rfl ?_
      refine V_get (v := .ref (a 4)) ok 0 3 tw_X0 twf_X0_20 rfl rfl (by decide) dX0_settle_72 rfl rfl ?_
      refine V_iload ok dX0_settle_75 0 rfl ?_
      refine V_aload_n ok dX0_settle_77 rfl 3 rfl ?_
      refine V_iload ok dX0_settle_78 0 rfl ?_
      refine V_cV (v2 := some (.double (FP.dadd ((fil F (i + 1) (stF v)) i) ((fil B (i + 1) (stB v)) i)))) (wn := lineW g a (upd v 8 (nI 0), fil F (i + 1) (stF v), fil B (i + 1) (stB v), fil G i (stP v), fil L i (stP v), hi, lo, FP.i2d (v 1))) (rest := [.int (nI i), .ref (a 4)]) ok 0 0 (c_X0_pressure g a (upd v 8 (nI 0)) (fil F (i + 1) (stF v)) (fil B (i + 1) (stB v)) (fil G i (stP v)) (fil L i (stP v)) hi lo (FP.i2d (v 1)) i (by omega) (by rw [fil_at F (stF v) (Nat.lt_succ_self i), fil_at B (stB v) (Nat.lt_succ_self i)]; exact (st_P hv).n64)) 1 twm_X0_61 twi_yX0_pressure twv_yX0_pressure twin_X0 twc_yX0_pressure yok_X0_pressure (by decide) ⟨rfl, rfl⟩ dX0_settle_80 rfl rfl rfl rfl (Nat.le_of_ble_eq_true rfl) ⟨Nat.zero_le _, Nat.zero_le _⟩ [0, 1, 2, 3, 4, 5] rfl rfl (Nat.le_of_ble_eq_true rfl) rfl ?_
      refine V_top_double (b := stP v) (by rw [fil_at F (stF v) (Nat.lt_succ_self i), fil_at B (stB v) (Nat.lt_succ_self i)]; rfl) ?_
      refine V_dast (f := fil G i (stP v)) (N := 11) (w2 := lineW g a (upd v 8 (nI 0), fil F (i + 1) (stF v), fil B (i + 1) (stB v), fil G (i + 1) (stP v), fil L i (stP v), hi, lo, FP.i2d (v 1))) ok 4 i dX0_settle_83 rfl rfl (by omega) (by decide) (congrArg (fun zz => lineW g a (upd v 8 (nI 0), fil F (i + 1) (stF v), fil B (i + 1) (stB v), zz, fil L i (stP v), hi, lo, FP.i2d (v 1))) (fil_s G i (stP v))) ?_
      refine V_aload_n ok dX0_settle_84 rfl 3 rfl ?_
      refine V_get (v := .ref (a 5)) ok 0 4 tw_X0 twf_X0_23 rfl rfl (by decide) dX0_settle_85 rfl rfl ?_
      refine V_iload ok dX0_settle_88 0 rfl ?_
      refine V_aload_n ok dX0_settle_90 rfl 3 rfl ?_
      refine V_iload ok dX0_settle_91 0 rfl ?_
      refine V_cV (v2 := some (.double (FP.dadd ((fil F (i + 1) (stF v)) i) ((fil B (i + 1) (stB v)) i)))) (wn := lineW g a (upd v 8 (nI 0), fil F (i + 1) (stF v), fil B (i + 1) (stB v), fil G (i + 1) (stP v), fil L i (stP v), hi, lo, FP.i2d (v 1))) (rest := [.int (nI i), .ref (a 5)]) ok 0 0 (c_X0_pressure g a (upd v 8 (nI 0)) (fil F (i + 1) (stF v)) (fil B (i + 1) (stB v)) (fil G (i + 1) (stP v)) (fil L i (stP v)) hi lo (FP.i2d (v 1)) i (by omega) (by rw [fil_at F (stF v) (Nat.lt_succ_self i), fil_at B (stB v) (Nat.lt_succ_self i)]; exact (st_P hv).n64)) 1 twm_X0_61 twi_yX0_pressure twv_yX0_pressure twin_X0 twc_yX0_pressure yok_X0_pressure (by decide) ⟨rfl, rfl⟩ dX0_settle_93 rfl rfl rfl rfl (Nat.le_of_ble_eq_true rfl) ⟨Nat.zero_le _, Nat.zero_le _⟩ [0, 1, 2, 3, 4, 5] rfl rfl (Nat.le_of_ble_eq_true rfl) rfl ?_
      refine V_top_double (b := stP v) (by rw [fil_at F (stF v) (Nat.lt_succ_self i), fil_at B (stB v) (Nat.lt_succ_self i)]; rfl) ?_
      refine V_dast (f := fil L i (stP v)) (N := 11) (w2 := lineW g a (upd v 8 (nI 0), fil F (i + 1) (stF v), fil B (i + 1) (stB v), fil G (i + 1) (stP v), fil L (i + 1) (stP v), hi, lo, FP.i2d (v 1))) ok 5 i dX0_settle_96 rfl rfl (by omega) (by decide) (congrArg (fun zz => lineW g a (upd v 8 (nI 0), fil F (i + 1) (stF v), fil B (i + 1) (stB v), fil G (i + 1) (stP v), zz, hi, lo, FP.i2d (v 1))) (fil_s L i (stP v))) ?_
      refine V_iinc (q := 0) (v := nI (i + 1)) (lv2 := [(5, .int (nI (i + 1))), (3, .double (FP.i2d (v 2))), (1, .double (FP.i2d (v 1))), (0, .ref (a 0))]) ok dX0_settle_97 rfl (nI_inc i 1) (by decide) rfl ?_
      refine V_goto (tgt := 32) ok dX0_settle_100 (by decide) ?_
      refine V_lv [0, 1, 2, 3] rfl ?_
      exact ih (nv v 0 + 1 - (i + 1)) (by omega) (i + 1) (by omega) rfl
  refine V_aload_n ok dX0_settle_0 rfl 0 rfl ?_
  refine V_get (v := .ref (a 1)) ok 0 0 tw_X0 twf_X0_7 rfl rfl (by decide) dX0_settle_1 rfl rfl ?_
  refine V_iconst (v := nI 1) ok dX0_settle_4 rfl ?_
  refine V_iald (f := v) (N := 9) ok 1 1 dX0_settle_5 rfl rfl (by decide) (by decide) ?_
  refine V_i2d ok dX0_settle_6 ?_
  refine V_dstore_n (lv2 := [(1, .double (FP.i2d (v 1))), (0, .ref (a 0))]) ok dX0_settle_7 rfl (by decide) rfl ?_
  refine V_aload_n ok dX0_settle_8 rfl 1 rfl ?_
  refine V_get (v := .ref (a 1)) ok 0 0 tw_X0 twf_X0_7 rfl rfl (by decide) dX0_settle_9 rfl rfl ?_
  refine V_iconst (v := nI 2) ok dX0_settle_12 rfl ?_
  refine V_iald (f := v) (N := 9) ok 1 2 dX0_settle_13 rfl rfl (by decide) (by decide) ?_
  refine V_i2d ok dX0_settle_14 ?_
  refine V_dstore_n (lv2 := [(3, .double (FP.i2d (v 2))), (1, .double (FP.i2d (v 1))), (0, .ref (a 0))]) ok dX0_settle_15 rfl (by decide) rfl ?_
  refine V_aload_n ok dX0_settle_16 rfl 2 rfl ?_
  refine V_get (v := .ref (a 1)) ok 0 0 tw_X0 twf_X0_7 rfl rfl (by decide) dX0_settle_17 rfl rfl ?_
  refine V_bipush (v := nI 8) ok dX0_settle_20 rfl ?_
  refine V_iconst (v := nI 0) ok dX0_settle_22 rfl ?_
  refine V_iast (f := v) (N := 9) (w2 := lineW g a (upd v 8 (nI 0), F, B, G, L, hi, lo, lev)) ok 1 8 dX0_settle_23 rfl rfl (by decide) (by decide) rfl ?_
  refine V_aload_n ok dX0_settle_24 rfl 2 rfl ?_
  refine V_dload_n ok dX0_settle_25 rfl 1 rfl ?_
  refine V_put (w2 := lineW g a (upd v 8 (nI 0), F, B, G, L, hi, lo, FP.i2d (v 1))) ok 0 7 tw_X0 tyX0 tyX0_ok nmX0 twf_X0_58 rfl rfl (by decide) rfl rfl dX0_settle_26 rfl rfl rfl (Nat.lt_of_lt_of_eq (m := 8) (by decide) rfl) rfl ?_
  refine V_iconst (v := nI 0) ok dX0_settle_29 rfl ?_
  refine V_istore (lv2 := [(5, .int (nI 0)), (3, .double (FP.i2d (v 2))), (1, .double (FP.i2d (v 1))), (0, .ref (a 0))]) ok dX0_settle_30 (by decide) rfl ?_
  refine V_ws (w2 := lineW g a (upd v 8 (nI 0), fil F 0 (stF v), fil B 0 (stB v), fil G 0 (stP v), fil L 0 (stP v), hi, lo, FP.i2d (v 1))) (by simp only [fil_0]) ?_
  refine V_lv [0, 1, 2, 3] rfl ?_
  exact HL (nv v 0 + 1) 0 (Nat.zero_le _) rfl
end
section
/-! a Line that is as it should be stays so: bounds, no -0, the greatest and the least -/
theorem upd_ne {f : Nat → Int32} {k j : Nat} {x : Int32} (h : j ≠ k) : upd f k x j = f j := pk_un h
theorem upd_eq {f : Nat → Int32} {k : Nat} {x : Int32} : upd f k x k = x := pk_us
def maxU (f : Nat → UInt64) : Nat → UInt64
  | 0 => f 0
  | n + 1 => mx (f (n + 1)) (maxU f n)
def minU (f : Nat → UInt64) : Nat → UInt64
  | 0 => f 0
  | n + 1 => mn (f (n + 1)) (minU f n)
theorem mx_ge1 (a b : UInt64) : zv a ≤ zv (mx a b) := by unfold mx; split <;> omega
theorem mx_ge2 (a b : UInt64) : zv b ≤ zv (mx a b) := by unfold mx; split <;> omega
theorem mn_le1 (a b : UInt64) : zv (mn a b) ≤ zv a := by unfold mn; split <;> omega
theorem mn_le2 (a b : UInt64) : zv (mn a b) ≤ zv b := by unfold mn; split <;> omega
theorem mx_or (a b : UInt64) : mx a b = a ∨ mx a b = b := by unfold mx; split <;> simp
theorem mn_or (a b : UInt64) : mn a b = a ∨ mn a b = b := by unfold mn; split <;> simp
theorem le_maxU (f : Nat → UInt64) : ∀ (n j : Nat), j ≤ n → zv (f j) ≤ zv (maxU f n)
  | 0, j, h => by rw [show j = 0 by omega]; exact Int.le_refl _
  | n + 1, j, h => by
    by_cases h1 : j = n + 1
    · rw [h1]; exact mx_ge1 _ _
    · exact Int.le_trans (le_maxU f n j (by omega)) (mx_ge2 _ _)
theorem maxU_mem (f : Nat → UInt64) : ∀ n : Nat, ∃ j, j ≤ n ∧ maxU f n = f j
  | 0 => ⟨0, Nat.le_refl _, rfl⟩
  | n + 1 => by
    obtain ⟨j, h1, h2⟩ := maxU_mem f n
    rcases mx_or (f (n + 1)) (maxU f n) with h | h
    · exact ⟨n + 1, Nat.le_refl _, h⟩
    · exact ⟨j, by omega, by show mx _ _ = _; rw [h, h2]⟩
theorem minU_le (f : Nat → UInt64) : ∀ (n j : Nat), j ≤ n → zv (minU f n) ≤ zv (f j)
  | 0, j, h => by rw [show j = 0 by omega]; exact Int.le_refl _
  | n + 1, j, h => by
    by_cases h1 : j = n + 1
    · rw [h1]; exact mn_le1 _ _
    · exact Int.le_trans (mn_le2 _ _) (minU_le f n j (by omega))
theorem minU_mem (f : Nat → UInt64) : ∀ n : Nat, ∃ j, j ≤ n ∧ minU f n = f j
  | 0 => ⟨0, Nat.le_refl _, rfl⟩
  | n + 1 => by
    obtain ⟨j, h1, h2⟩ := minU_mem f n
    rcases mn_or (f (n + 1)) (minU f n) with h | h
    · exact ⟨n + 1, Nat.le_refl _, h⟩
    · exact ⟨j, by omega, by show mn _ _ = _; rw [h, h2]⟩
/-- finite, and no -0 -/
def fz (x : UInt64) : Prop := FP.Core.DFin x ∧ nz x
theorem fz_inj {x y : UInt64} (hx : fz x) (hy : fz y) (h : zv x = zv y) : x = y := zv_inj hx.1 hy.1 hx.2 hy.2 h
theorem maxU_upd {f : Nat → UInt64} {N i : Nat} {p : UInt64} (hf : ∀ j, j ≤ N → fz (f j)) (hp : fz p) (hi : i ≤ N) (h : zv (f i) < zv p) : maxU (vf_upd f i p) N = mx p (maxU f N) := by
  have hf' : ∀ j, j ≤ N → fz (vf_upd f i p j) := fun j hj => by simp only [vf_upd]; split; exact hp; exact hf j hj
  obtain ⟨j0, a1, a2⟩ := maxU_mem (vf_upd f i p) N
  obtain ⟨j1, b1, b2⟩ := maxU_mem f N
  have e1 : fz (maxU (vf_upd f i p) N) := by rw [a2]; exact hf' j0 a1
  have e2 : fz (mx p (maxU f N)) := by
    rcases mx_or p (maxU f N) with q | q <;> rw [q]
    · exact hp
    · rw [b2]; exact hf j1 b1
  refine fz_inj e1 e2 (Int.le_antisymm ?_ ?_)
  · rw [a2]
    simp only [vf_upd]
    split
    · exact mx_ge1 _ _
    · exact Int.le_trans (le_maxU f N j0 a1) (mx_ge2 _ _)
  · rcases mx_or p (maxU f N) with q | q
    · rw [q]
      have := le_maxU (vf_upd f i p) N i hi
      simpa [vf_upd] using this
    · rw [q, b2]
      by_cases hj : j1 = i
      · have := le_maxU (vf_upd f i p) N i hi
        simp [vf_upd] at this
        rw [hj]; omega
      · have := le_maxU (vf_upd f i p) N j1 b1
        simpa [vf_upd, hj] using this
theorem minU_upd {f : Nat → UInt64} {N i : Nat} {p : UInt64} (hf : ∀ j, j ≤ N → fz (f j)) (hp : fz p) (hi : i ≤ N) (h : zv p < zv (f i)) : minU (vf_upd f i p) N = mn p (minU f N) := by
  have hf' : ∀ j, j ≤ N → fz (vf_upd f i p j) := fun j hj => by simp only [vf_upd]; split; exact hp; exact hf j hj
  obtain ⟨j0, a1, a2⟩ := minU_mem (vf_upd f i p) N
  obtain ⟨j1, b1, b2⟩ := minU_mem f N
  have e1 : fz (minU (vf_upd f i p) N) := by rw [a2]; exact hf' j0 a1
  have e2 : fz (mn p (minU f N)) := by
    rcases mn_or p (minU f N) with q | q <;> rw [q]
    · exact hp
    · rw [b2]; exact hf j1 b1
  refine fz_inj e1 e2 (Int.le_antisymm ?_ ?_)
  · rcases mn_or p (minU f N) with q | q
    · rw [q]
      have := minU_le (vf_upd f i p) N i hi
      simpa [vf_upd] using this
    · rw [q, b2]
      by_cases hj : j1 = i
      · have := minU_le (vf_upd f i p) N i hi
        simp [vf_upd] at this
        rw [hj]; omega
      · have := minU_le (vf_upd f i p) N j1 b1
        simpa [vf_upd, hj] using this
  · rw [a2]
    simp only [vf_upd]
    split
    · exact mn_le1 _ _
    · exact Int.le_trans (mn_le2 _ _) (minU_le f N j0 a1)
abbrev EnvT : Type := (Nat → UInt64) × (Nat → UInt64) × UInt64 × UInt64
/-- what all nodes' pressures and envelopes have, they keep -/
theorem widN_all (Q : UInt64 → Prop) {P : Nat → UInt64} {N : Nat} {e : EnvT} (hP : ∀ j, j ≤ N → Q (P j)) (hG : ∀ j, j ≤ N → Q (e.1 j)) (hL : ∀ j, j ≤ N → Q (e.2.1 j)) (hh : Q e.2.2.1) (hl : Q e.2.2.2) :
    ∀ i, i ≤ N + 1 → (∀ j, j ≤ N → Q ((widN P i e).1 j)) ∧ (∀ j, j ≤ N → Q ((widN P i e).2.1 j)) ∧ Q (widN P i e).2.2.1 ∧ Q (widN P i e).2.2.2
  | 0, _ => ⟨hG, hL, hh, hl⟩
  | i + 1, hi => by
    obtain ⟨a1, a2, a3, a4⟩ := widN_all Q hP hG hL hh hl i (by omega)
    have hp := hP i (by omega)
    refine ⟨fun j hj => ?_, fun j hj => ?_, ?_, ?_⟩
    · show Q ((if _ then _ else _ : Nat → UInt64) j)
      split
      · simp only [vf_upd]; split
        · exact hp
        · exact a1 j hj
      · exact a1 j hj
    · show Q ((if _ then _ else _ : Nat → UInt64) j)
      split
      · simp only [vf_upd]; split
        · exact hp
        · exact a2 j hj
      · exact a2 j hj
    · show Q (if _ then _ else _)
      split
      · rcases mx_or (P i) (widN P i e).2.2.1 with q | q <;> rw [q]
        · exact hp
        · exact a3
      · exact a3
    · show Q (if _ then _ else _)
      split
      · rcases mn_or (P i) (widN P i e).2.2.2 with q | q <;> rw [q]
        · exact hp
        · exact a4
      · exact a4
theorem widN_hi {P : Nat → UInt64} {N : Nat} {e : EnvT} (hP : ∀ j, j ≤ N → fz (P j)) (hG : ∀ j, j ≤ N → fz (e.1 j)) (hL : ∀ j, j ≤ N → fz (e.2.1 j)) (h1 : e.2.2.1 = maxU e.1 N) (h2 : e.2.2.2 = minU e.2.1 N) :
    ∀ i, i ≤ N + 1 → (widN P i e).2.2.1 = maxU (widN P i e).1 N ∧ (widN P i e).2.2.2 = minU (widN P i e).2.1 N
  | 0, _ => ⟨h1, h2⟩
  | i + 1, hi => by
    have hh : fz e.2.2.1 := by rw [h1]; obtain ⟨j, a, b⟩ := maxU_mem e.1 N; rw [b]; exact hG j a
    have hl : fz e.2.2.2 := by rw [h2]; obtain ⟨j, a, b⟩ := minU_mem e.2.1 N; rw [b]; exact hL j a
    obtain ⟨a1, a2, a3, a4⟩ := widN_all fz hP hG hL hh hl i (by omega)
    obtain ⟨b1, b2⟩ := widN_hi hP hG hL h1 h2 i (by omega)
    have hp := hP i (by omega)
    constructor
    · show (if _ then _ else _) = maxU (if _ then _ else _) N
      split
      · rw [maxU_upd a1 hp (by omega) ‹_›, b1]
      · exact b1
    · show (if _ then _ else _) = minU (if _ then _ else _) N
      split
      · rw [minU_upd a2 hp (by omega) ‹_›, b2]
      · exact b2
/-- the greatest of all never falls -/
theorem widN_mono (P : Nat → UInt64) (e : EnvT) : ∀ i, zv e.2.2.1 ≤ zv (widN P i e).2.2.1
  | 0 => Int.le_refl _
  | i + 1 => by
    refine Int.le_trans (widN_mono P e i) ?_
    show _ ≤ zv (if _ then _ else _)
    split
    · exact mx_ge2 _ _
    · exact Int.le_refl _
/-- bounds: waves by the time -/
def wb (t : Nat) : Nat := 1000000 * (t + 1)
def bz (b : Nat) (x : UInt64) : Prop := Bd b x ∧ nz x
theorem bz.fz {b : Nat} {x : UInt64} (h : bz b x) : fz x := ⟨h.1.fin, h.2⟩
theorem bz.mono {a b : Nat} {x : UInt64} (h : bz a x) (hab : a ≤ b) : bz b x := ⟨h.1.mono hab, h.2⟩
theorem bz_add {a b n : Nat} {x y : UInt64} (hx : bz a x) (hy : Bd b y) (h : a + b ≤ n) (hn : n < 9007199254740992) : bz n (FP.dadd x y) :=
  have q := bdA hx.1 hy h hn
  ⟨q, nz_add hx.1.fin hy.fin q.fin hx.2⟩
theorem bz_sub {a b n : Nat} {x y : UInt64} (hx : bz a x) (hy : Bd b y) (h : a + b ≤ n) (hn : n < 9007199254740992) : bz n (FP.dsub x y) :=
  have q := bdS hx.1 hy h hn
  ⟨q, nz_sub hx.1.fin hy.fin q.fin hx.2⟩
def WG (b N : Nat) (F B : Nat → UInt64) : Prop := ∀ i, i ≤ N → bz b (F i) ∧ bz b (B i)
theorem WG.mono {a b N : Nat} {F B : Nat → UInt64} (h : WG a N F B) (hab : a ≤ b) : WG b N F B := fun i hi => ⟨(h i hi).1.mono hab, (h i hi).2.mono hab⟩
theorem WG.shift {b N : Nat} {F B : Nat → UInt64} (h : WG b N F B) : WG b N (shF N 0 F) (shB N B) := fun i hi => by
  refine ⟨?_, ?_⟩
  · simp only [shF]; split
    · exact (h (i - 1) (by omega)).1
    · exact (h i hi).1
  · simp only [shB]; split
    · exact (h (i + 1) (by omega)).2
    · exact (h i hi).2
theorem leftF_bz {v : Nat → Int32} {b : Nat} {x : UInt64} (hv : VG v) (hx : bz b x) (hb : b ≤ 2000000000) : bz (b + 1000) (leftF v x) := by
  unfold leftF
  split
  · exact bz_sub (a := 1000) ⟨hv.bh, nz_i2d _⟩ hx.1 (by omega) (by omega)
  · exact hx.mono (by omega)
theorem rightB_bz {v : Nat → Int32} {b : Nat} {x l : UInt64} (hv : VG v) (hx : bz b x) (hl : bz 10000 l) (hb : b ≤ 2000000000) : bz (b + 720000) (rightB v x l) := by
  unfold rightB
  split
  · exact bz_sub hx (letF_bd hv.bq hv.t.2.2) (by omega) (by omega)
  · split
    · exact bz_sub (a := 1000) ⟨hv.bh, nz_i2d _⟩ hx.1 (by omega) (by omega)
    · split
      · exact hx.mono (by omega)
      · exact bz_sub hl hx.1 (by omega) (by omega)
theorem risen_bz {v : Nat → Int32} {b : Nat} {x l : UInt64} (hv : VG v) (hx : Bd b x) (hl : bz 10000 l) (hb : b ≤ 2000000000) : Bd (2 * b + 10000) (FP.ddiv (FP.dsub x (FP.dsub l x)) (FP.i2d (v 3))) ∧ bz (2 * b + 20000) (risen l (FP.dsub x (FP.dsub l x)) (v 3)) := by
  have h1 : Bd (b + 10000) (FP.dsub l x) := bdS hl.1 hx (by omega) (by omega)
  have h2 : Bd (2 * b + 10000) (FP.dsub x (FP.dsub l x)) := bdS hx h1 (by omega) (by omega)
  have h3 : one ≤ (zv (FP.i2d (v 3))).natAbs := by rw [hv.a.1]; exact one_nI hv.a.2.1 (by have := hv.a; omega)
  have h4 : Bd (2 * b + 10000) (FP.ddiv (FP.dsub x (FP.dsub l x)) (FP.i2d (v 3))) := bdQ h2 (FP.Core.i2d_fin _) h3 (by omega)
  exact ⟨h4, bz_add hl h4 (by omega) (by omega)⟩
theorem ten_zv : zv 4666723172467343360 = 10000 * (one : Int) := by
  have h : zv 4666723172467343360 = zv (FP.i2d 10000) := by rw [show FP.i2d 10000 = 4666723172467343360 by decide +kernel]
  rw [h, zv_i2d]; rfl
theorem mten_zv : zv 13890095209322119168 = -10000 * (one : Int) := by
  have h : zv 13890095209322119168 = zv (FP.i2d (-10000)) := by rw [show FP.i2d (-10000) = 13890095209322119168 by decide +kernel]
  rw [h, zv_i2d]; rfl
theorem clampF_bz {b : Nat} {r : UInt64} (hr : bz b r) : bz 10000 (clampF r) := by
  unfold clampF
  split
  · exact ⟨⟨ten_fin, by rw [ten_zv]; omega⟩, by unfold nz; decide⟩
  · split
    · exact ⟨⟨mten_fin, by rw [mten_zv]; omega⟩, by unfold nz; decide⟩
    · rename_i h1 h2
      rw [ten_zv] at h1
      rw [mten_zv] at h2
      exact ⟨⟨hr.1.fin, by omega⟩, hr.2⟩
theorem rightLev_bz {v : Nat → Int32} {b : Nat} {x l : UInt64} (hv : VG v) (hx : Bd b x) (hl : bz 10000 l) (hb : b ≤ 2000000000) : bz 10000 (rightLev v x l) := by
  unfold rightLev
  split
  · exact clampF_bz (risen_bz hv hx hl hb).2
  · exact hl
def LG (x : LineSt) : Prop := VG x.1 ∧ WG (wb (nv x.1 8)) (nv x.1 0) x.2.1 x.2.2.1 ∧ WG (2 * wb (nv x.1 8)) (nv x.1 0) x.2.2.2.1 x.2.2.2.2.1 ∧ bz 10000 x.2.2.2.2.2.2.2 ∧
  (nv x.1 5 ≠ 3 → x.2.2.2.2.2.2.2 = FP.i2d (x.1 1)) ∧ x.2.2.2.2.2.1 = maxU x.2.2.2.1 (nv x.1 0) ∧ x.2.2.2.2.2.2.1 = minU x.2.2.2.2.1 (nv x.1 0)
theorem nv_upd_ne {v : Nat → Int32} {k j : Nat} {x : Int32} (h : j ≠ k) : nv (upd v k x) j = nv v j := by unfold nv; rw [upd_ne h]
theorem nv_upd_eq {v : Nat → Int32} {k n : Nat} (h : n < 2 ^ 31) : nv (upd v k (nI n)) k = n := by unfold nv; rw [upd_eq]; exact nI_clamp h
theorem VG.tick {v : Nat → Int32} (h : VG v) (ht : nv v 8 + 1 ≤ 999) : VG (upd v 8 (v 8 + nI 1)) ∧ nv (upd v 8 (v 8 + nI 1)) 8 = nv v 8 + 1 := by
  have e : v 8 + nI 1 = nI (nv v 8 + 1) := by rw [h.tm.1, nI_add]
  have e8 : nv (upd v 8 (v 8 + nI 1)) 8 = nv v 8 + 1 := by rw [e]; exact nv_upd_eq (by omega)
  have u : ∀ j, j ≠ 8 → upd v 8 (v 8 + nI 1) j = v j := fun j hj => upd_ne hj
  have w : ∀ j, j ≠ 8 → nv (upd v 8 (v 8 + nI 1)) j = nv v j := fun j hj => nv_upd_ne hj
  refine ⟨?_, e8⟩
  unfold VG
  rw [u 0 (by decide), u 1 (by decide), u 2 (by decide), u 3 (by decide), u 4 (by decide), u 5 (by decide), u 6 (by decide), u 7 (by decide), w 0 (by decide), w 1 (by decide), w 3 (by decide), w 4 (by decide), w 5 (by decide), w 6 (by decide), w 7 (by decide), e8, upd_eq]
  exact ⟨h.n, h.h, h.q, h.a, h.lf, h.rt, h.k, h.t, e, ht⟩
end
section
/-! one step of a Line: all that its methods ask for, and that it stays as it should be -/
theorem wb_le {t : Nat} (h : t ≤ 999) : wb t ≤ 1000000000 := by unfold wb; omega
theorem wb_s (t : Nat) : wb (t + 1) = wb t + 1000000 := by unfold wb; omega
/-- behind shift and the left end -/
theorem LG.mid {x : LineSt} (h : LG x) (ht : nv x.1 8 + 1 ≤ 999) : VG (turnLeftL (shiftL (tickL x))).1 ∧ WG (wb (nv x.1 8) + 1000) (nv x.1 0) (turnLeftL (shiftL (tickL x))).2.1 (turnLeftL (shiftL (tickL x))).2.2.1 ∧ nv (turnLeftL (shiftL (tickL x))).1 0 = nv x.1 0 ∧ nv (turnLeftL (shiftL (tickL x))).1 8 = nv x.1 8 + 1 := by
  obtain ⟨hv, hw, -⟩ := h
  obtain ⟨hv2, h8⟩ := hv.tick ht
  have hN : nv (tickL x).1 0 = nv x.1 0 := nv_upd_ne (by decide)
  have hb := wb_le (t := nv x.1 8) (by omega)
  refine ⟨hv2, fun i hi => ?_, hN, h8⟩
  have hs := hw.shift
  show bz _ (vf_upd (shF (nv (tickL x).1 0) 0 x.2.1) 0 (leftF (tickL x).1 (shB (nv (tickL x).1 0) x.2.2.1 0)) i) ∧ bz _ (shB (nv (tickL x).1 0) x.2.2.1 i)
  rw [hN]
  refine ⟨?_, (hs i hi).2.mono (by omega)⟩
  simp only [vf_upd]
  split
  · exact leftF_bz hv2 (hs 0 (by omega)).2 (by omega)
  · exact (hs i hi).1.mono (by omega)
/-- behind both ends -/
theorem LG.ends {x : LineSt} (h : LG x) (ht : nv x.1 8 + 1 ≤ 999) : WG (wb (nv x.1 8 + 1)) (nv x.1 0) (turnRightL (turnLeftL (shiftL (tickL x)))).2.1 (turnRightL (turnLeftL (shiftL (tickL x)))).2.2.1 ∧ bz 10000 (turnRightL (turnLeftL (shiftL (tickL x)))).2.2.2.2.2.2.2 := by
  obtain ⟨hv, hw, hN, h8⟩ := h.mid ht
  have hb := wb_le (t := nv x.1 8) (by omega)
  have hl : bz 10000 (turnLeftL (shiftL (tickL x))).2.2.2.2.2.2.2 := h.2.2.2.1
  generalize hy : turnLeftL (shiftL (tickL x)) = y at *
  have hf := hw (nv x.1 0) (Nat.le_refl _)
  rw [wb_s]
  refine ⟨fun i hi => ⟨(hw i hi).1.mono (by omega), ?_⟩, ?_⟩
  · show bz _ (vf_upd y.2.2.1 (nv y.1 0) (rightB y.1 (y.2.1 (nv y.1 0)) y.2.2.2.2.2.2.2) i)
    rw [hN]
    simp only [vf_upd]
    split
    · exact (rightB_bz hv hf.1 hl (by omega)).mono (by omega)
    · exact (hw i hi).2.mono (by omega)
  · show bz 10000 (rightLev y.1 (y.2.1 (nv y.1 0)) y.2.2.2.2.2.2.2)
    rw [hN]
    exact rightLev_bz hv hf.1.1 hl (by omega)
theorem WG.press {b N : Nat} {F B : Nat → UInt64} (h : WG b N F B) (hb : b ≤ 2000000000) : ∀ i, i ≤ N → bz (2 * b) (FP.dadd (F i) (B i)) := fun i hi => bz_add (h i hi).1 (h i hi).2.1 (by omega) (by omega)
theorem LG.widen {y : LineSt} {N t : Nat} (hv : VG y.1) (hN : nv y.1 0 = N) (h8 : nv y.1 8 = t) (hw : WG (wb t) N y.2.1 y.2.2.1) (hE : WG (2 * wb t) N y.2.2.2.1 y.2.2.2.2.1) (hl : bz 10000 y.2.2.2.2.2.2.2) (hlv : nv y.1 5 ≠ 3 → y.2.2.2.2.2.2.2 = FP.i2d (y.1 1)) (hmx : y.2.2.2.2.2.1 = maxU y.2.2.2.1 N) (hmn : y.2.2.2.2.2.2.1 = minU y.2.2.2.2.1 N) (ht : t ≤ 999) : LG (widenL y) := by
  have hb := wb_le ht
  have hp := hw.press (by omega)
  have hh : bz (2 * wb t) y.2.2.2.2.2.1 := by rw [hmx]; obtain ⟨j, a, b⟩ := maxU_mem y.2.2.2.1 N; rw [b]; exact (hE j a).1
  have hlo : bz (2 * wb t) y.2.2.2.2.2.2.1 := by rw [hmn]; obtain ⟨j, a, b⟩ := minU_mem y.2.2.2.2.1 N; rw [b]; exact (hE j a).2
  have a1 := widN_all (bz (2 * wb t)) (P := fun i => FP.dadd (y.2.1 i) (y.2.2.1 i)) (e := (y.2.2.2.1, y.2.2.2.2.1, y.2.2.2.2.2.1, y.2.2.2.2.2.2.1)) hp (fun j hj => (hE j hj).1) (fun j hj => (hE j hj).2) hh hlo (N + 1) (Nat.le_refl _)
  have b1 := widN_hi (P := fun i => FP.dadd (y.2.1 i) (y.2.2.1 i)) (e := (y.2.2.2.1, y.2.2.2.2.1, y.2.2.2.2.2.1, y.2.2.2.2.2.2.1)) (N := N) (fun j hj => (hp j hj).fz) (fun j hj => (hE j hj).1.fz) (fun j hj => (hE j hj).2.fz) hmx hmn (N + 1) (Nat.le_refl _)
  rw [show widN (fun i => FP.dadd (y.2.1 i) (y.2.2.1 i)) (N + 1) (y.2.2.2.1, y.2.2.2.2.1, y.2.2.2.2.2.1, y.2.2.2.2.2.2.1) = widE y by unfold widE; rw [hN]] at a1 b1
  unfold LG widenL
  simp only
  rw [hN, h8]
  exact ⟨hv, hw, fun i hi => ⟨a1.1 i hi, a1.2.1 i hi⟩, hl, hlv, b1.1, b1.2⟩
theorem LG.step {x : LineSt} (h : LG x) (ht : nv x.1 8 + 1 ≤ 999) : LG (stepL x) ∧ nv (stepL x).1 8 = nv x.1 8 + 1 ∧ nv (stepL x).1 0 = nv x.1 0 := by
  obtain ⟨hv, -, hN, h8⟩ := h.mid ht
  obtain ⟨hw, hl⟩ := h.ends ht
  have hb0 : 2 * wb (nv x.1 8) ≤ 2 * wb (nv x.1 8 + 1) := by rw [wb_s]; omega
  obtain ⟨-, -, hE, -, hlv, hmx, hmn⟩ := h
  refine ⟨LG.widen hv hN h8 hw (hE.mono hb0) hl ?_ hmx hmn ht, h8, hN⟩
  intro h5
  have e5 : nv (tickL x).1 5 = nv x.1 5 := nv_upd_ne (by decide)
  have h5' : nv (tickL x).1 5 ≠ 3 := h5
  have e6 : rightLev (tickL x).1 ((turnLeftL (shiftL (tickL x))).2.1 (nv (tickL x).1 0)) x.2.2.2.2.2.2.2 = x.2.2.2.2.2.2.2 := if_neg h5'
  have e7 : (tickL x).1 1 = x.1 1 := by show upd x.1 8 (x.1 8 + nI 1) 1 = _; exact upd_ne (by decide)
  show rightLev (tickL x).1 ((turnLeftL (shiftL (tickL x))).2.1 (nv (tickL x).1 0)) x.2.2.2.2.2.2.2 = FP.i2d ((tickL x).1 1)
  rw [e6, e7]
  exact hlv (by rw [← e5]; exact h5')
theorem LG.adv {x : LineSt} (h : LG x) : ∀ i, nv x.1 8 + i ≤ 999 → LG (advL i x) ∧ nv (advL i x).1 8 = nv x.1 8 + i ∧ nv (advL i x).1 0 = nv x.1 0
  | 0, _ => ⟨h, rfl, rfl⟩
  | i + 1, ht => by
    obtain ⟨a, b, c⟩ := LG.adv h i (by omega)
    obtain ⟨a1, b1, c1⟩ := LG.step a (by omega)
    exact ⟨a1, by show nv (stepL (advL i x)).1 8 = _; rw [b1, b]; omega, by show nv (stepL (advL i x)).1 0 = _; rw [c1, c]⟩
theorem step_mono (x : LineSt) : zv x.2.2.2.2.2.1 ≤ zv (stepL x).2.2.2.2.2.1 := widN_mono _ _ _
/-- steady is as it should be -/
theorem half_nz : ∀ n : Fin 1201, FP.ddiv (FP.i2d (nI n.val - nI 100)) 4611686018427387904 ≠ 9223372036854775808 := by decide +kernel
theorem i2d_of {y : Int32} {z : Int64} (h : y.toInt = z.toInt) : FP.i2d y = FP.Core.l2d z := by
  show FP.Core.i2d y = _
  rw [FP.Core.i2d_l2d]
  congr 1
  exact Int64.toInt_inj.mp (by rw [Int32.toInt_toInt64]; exact h)
theorem half_ok {z : Int64} (h1 : -100 ≤ z.toInt) (h2 : z.toInt ≤ 1100) : nz (FP.ddiv (FP.Core.l2d z) 4611686018427387904) := by
  have h := half_nz ⟨(z.toInt + 100).toNat, by omega⟩
  have e : (nI (z.toInt + 100).toNat - nI 100).toInt = z.toInt := by rw [pk_sub_toInt (by omega) (by decide)]; omega
  rw [i2d_of e] at h
  exact h
theorem small_i {y : Int32} : FP.Core.Small53 y.toInt64 := ⟨by rw [Int32.toInt_toInt64]; have := y.le_toInt; omega, by rw [Int32.toInt_toInt64]; have := y.toInt_lt; omega⟩
theorem hq_i {v : Nat → Int32} (hv : VG v) : 0 ≤ (v 1).toInt ∧ (v 1).toInt ≤ 1000 := by rw [hv.h.1, nI_toInt (by have := hv.h; omega)]; have := hv.h; omega
theorem st_Fz {v : Nat → Int32} (hv : VG v) : bz 1100 (stF v) := by
  refine ⟨st_F hv, ?_⟩
  have e : FP.dadd (FP.i2d (v 1)) (FP.i2d (v 2)) = FP.Core.l2d ((v 1).toInt64 + (v 2).toInt64) := by
    show FP.Core.dadd (FP.Core.i2d (v 1)) (FP.Core.i2d (v 2)) = _
    rw [FP.Core.i2d_l2d, FP.Core.i2d_l2d, FP.Core.dadd_l2d small_i small_i]
  have a := hq_i hv
  have b := hv.q
  have e2 : ((v 1).toInt64 + (v 2).toInt64).toInt = (v 1).toInt + (v 2).toInt := by rw [FP.Core.int64_add (by rw [Int32.toInt_toInt64, Int32.toInt_toInt64]; omega) (by rw [Int32.toInt_toInt64, Int32.toInt_toInt64]; omega), Int32.toInt_toInt64, Int32.toInt_toInt64]
  unfold stF
  rw [e]
  exact half_ok (by omega) (by omega)
theorem st_Bz {v : Nat → Int32} (hv : VG v) : bz 1100 (stB v) := by
  refine ⟨st_B hv, ?_⟩
  have e : FP.dsub (FP.i2d (v 1)) (FP.i2d (v 2)) = FP.Core.l2d ((v 1).toInt64 - (v 2).toInt64) := by
    show FP.Core.dsub (FP.Core.i2d (v 1)) (FP.Core.i2d (v 2)) = _
    rw [FP.Core.i2d_l2d, FP.Core.i2d_l2d, FP.Core.dsub_l2d small_i small_i]
  have a := hq_i hv
  have b := hv.q
  have e2 : ((v 1).toInt64 - (v 2).toInt64).toInt = (v 1).toInt - (v 2).toInt := by rw [FP.Core.int64_sub (by rw [Int32.toInt_toInt64, Int32.toInt_toInt64]; omega) (by rw [Int32.toInt_toInt64, Int32.toInt_toInt64]; omega), Int32.toInt_toInt64, Int32.toInt_toInt64]
  unfold stB
  rw [e]
  exact half_ok (by omega) (by omega)
theorem st_Pz {v : Nat → Int32} (hv : VG v) : bz 2200 (stP v) := bz_add (st_Fz hv) (st_B hv) (by decide) (by decide)
theorem maxU_const {f : Nat → UInt64} {x : UInt64} : ∀ n, (∀ j, j ≤ n → f j = x) → maxU f n = x
  | 0, h => h 0 (Nat.le_refl _)
  | n + 1, h => by show mx _ _ = _; rw [h (n + 1) (Nat.le_refl _), maxU_const n (fun j hj => h j (by omega))]; unfold mx; split <;> rfl
theorem minU_const {f : Nat → UInt64} {x : UInt64} : ∀ n, (∀ j, j ≤ n → f j = x) → minU f n = x
  | 0, h => h 0 (Nat.le_refl _)
  | n + 1, h => by show mn _ _ = _; rw [h (n + 1) (Nat.le_refl _), minU_const n (fun j hj => h j (by omega))]; unfold mn; split <;> rfl
theorem VG.steady {v : Nat → Int32} (h : VG v) : VG (upd v 8 (nI 0)) ∧ nv (upd v 8 (nI 0)) 8 = 0 ∧ nv (upd v 8 (nI 0)) 0 = nv v 0 := by
  have e8 : nv (upd v 8 (nI 0)) 8 = 0 := nv_upd_eq (by decide)
  have u : ∀ j, j ≠ 8 → upd v 8 (nI 0) j = v j := fun j hj => upd_ne hj
  have w : ∀ j, j ≠ 8 → nv (upd v 8 (nI 0)) j = nv v j := fun j hj => nv_upd_ne hj
  refine ⟨?_, e8, w 0 (by decide)⟩
  unfold VG
  rw [u 0 (by decide), u 1 (by decide), u 2 (by decide), u 3 (by decide), u 4 (by decide), u 5 (by decide), u 6 (by decide), u 7 (by decide), w 0 (by decide), w 1 (by decide), w 3 (by decide), w 4 (by decide), w 5 (by decide), w 6 (by decide), w 7 (by decide), e8, upd_eq]
  exact ⟨h.n, h.h, h.q, h.a, h.lf, h.rt, h.k, h.t, rfl, by decide⟩
theorem LG.settle {x : LineSt} (hv : VG x.1) : LG (settleL x) := by
  obtain ⟨hv2, h8, h0⟩ := hv.steady
  have e1 : upd x.1 8 (nI 0) 1 = x.1 1 := upd_ne (by decide)
  unfold LG settleL
  simp only
  rw [h8, h0, e1]
  refine ⟨hv2, fun i hi => ?_, fun i hi => ?_, ⟨hv.bh.mono (by decide), nz_i2d _⟩, fun _ => rfl, ?_, ?_⟩
  · rw [fil_at _ _ (by omega), fil_at _ _ (by omega)]
    exact ⟨(st_Fz hv).mono (by decide), (st_Bz hv).mono (by decide)⟩
  · rw [fil_at _ _ (by omega), fil_at _ _ (by omega)]
    exact ⟨(st_Pz hv).mono (by decide), (st_Pz hv).mono (by decide)⟩
  · exact (maxU_const _ (fun j hj => fil_at _ _ (by omega))).symm
  · exact (minU_const _ (fun j hj => fil_at _ _ (by omega))).symm
end
section
/-! what a row holds beyond its length counts for nothing -/
theorem arrV_congr {c : ClassId} {N : Nat} {f h : Nat → Value} (e : ∀ j, j < N → f j = h j) : arrV c N f = arrV c N h := by
  unfold arrV
  congr 1
  congr 1
  funext j
  exact e j.val j.isLt
theorem cpy0 {α : Type} {f h : Nat → α} {n j : Nat} (hj : j < n) : va_cpy f h 0 0 n j = f j := by
  simp [va_cpy, hj]
section VAG
variable {g : Glob} {Γ : Ctx} {nL : Nat} {k n pc : Nat} {ws : va_W} {lv : List (Nat × Value)} {st : List Value}
theorem V_ci {a N : Nat} {c : ClassId} {f f2 : Nat → Int32} {w2 : va_W} (q0 : Nat) (ha : ws[q0]? = some (a, .inl (c, N, .inl f))) (hf : ∀ j, j < N → f j = f2 j) (hw : ws.set q0 (a, .inl (c, N, .inl f2)) = w2) (kk : V g Γ nL k n pc w2 lv st) : V g Γ nL k n pc ws lv st := fun H locs ls hP hD hS hl => by
  refine kk H locs ls ?_ ?_ hS hl
  · rw [← hw]
    refine hP.set hD ha ?_ (fun _ _ => rfl)
    have h1 : H[a]? = some (vp_cell c (N, .inl f)) := hP q0 _ ha
    show H[a]? = some (vp_cell c (N, .inl f2))
    rw [h1]
    exact congrArg some (show arrV c N (fun j => .int (f j)) = arrV c N (fun j => .int (f2 j)) from arrV_congr (fun j hj => by rw [hf j hj]))
  · rw [← hw]; exact hD.set ha
theorem V_cd {a N : Nat} {c : ClassId} {f f2 : Nat → UInt64} {w2 : va_W} (q0 : Nat) (ha : ws[q0]? = some (a, .inl (c, N, .inr (.inr (.inr (.inl f)))))) (hf : ∀ j, j < N → f j = f2 j) (hw : ws.set q0 (a, .inl (c, N, .inr (.inr (.inr (.inl f2))))) = w2) (kk : V g Γ nL k n pc w2 lv st) : V g Γ nL k n pc ws lv st := fun H locs ls hP hD hS hl => by
  refine kk H locs ls ?_ ?_ hS hl
  · rw [← hw]
    refine hP.set hD ha ?_ (fun _ _ => rfl)
    have h1 : H[a]? = some (vp_cell c (N, .inr (.inr (.inr (.inl f))))) := hP q0 _ ha
    show H[a]? = some (vp_cell c (N, .inr (.inr (.inr (.inl f2)))))
    rw [h1]
    exact congrArg some (show arrV c N (fun j => .double (f j)) = arrV c N (fun j => .double (f2 j)) from arrV_congr (fun j hj => by rw [hf j hj]))
  · rw [← hw]; exact hD.set ha
end VAG
end
section
set_option maxHeartbeats 4000000 in
set_option maxRecDepth 100000 in
/-- the envelopes -/
theorem c_X0_widenEnvelopes (g : Glob) (a : Nat → Nat) (v : Nat → Int32) (F B G L : Nat → UInt64) (hi lo lev : UInt64) (hv : VG v) (hq : (∀ j, j ≤ nv v 0 → nn (FP.dadd (F j) (B j)) ∧ nn (G j) ∧ nn (L j)) ∧ nn hi ∧ nn lo) : Con g yX0_widenEnvelopes cX0_widenEnvelopes 4 none ({ frames := 1, cells := 0, slots := 0, locals := 21 } : Room) [.ref (a 0)] (lineW g a (v, F, B, G, L, hi, lo, lev)) (Is none (lineW g a (v, F, B, (widE (v, F, B, G, L, hi, lo, lev)).1, (widE (v, F, B, G, L, hi, lo, lev)).2.1, (widE (v, F, B, G, L, hi, lo, lev)).2.2.1, (widE (v, F, B, G, L, hi, lo, lev)).2.2.2, lev))) := by
  refine con_of_V ypl_X0_widenEnvelopes (Nat.le_of_ble_eq_true rfl) [(0, .ref (a 0))] rfl (fun Γ ok => ?_)
  have hN := hv.n
  have HL : ∀ (n i : Nat), i ≤ nv v 0 + 1 → n = nv v 0 + 1 - i → V g Γ 4 0 0 2 (lineW g a (v, F, B, (widN (fun j => FP.dadd (F j) (B j)) i (G, L, hi, lo)).1, (widN (fun j => FP.dadd (F j) (B j)) i (G, L, hi, lo)).2.1, (widN (fun j => FP.dadd (F j) (B j)) i (G, L, hi, lo)).2.2.1, (widN (fun j => FP.dadd (F j) (B j)) i (G, L, hi, lo)).2.2.2, lev)) [(1, .int (nI i)), (0, .ref (a 0))] [] := by
    intro n
    induction n using Nat.strongRecOn with
    | ind n ih =>
    intro i hi1 hn
    subst hn
    refine V_iload_n ok dX0_widenEnvelopes_2 rfl 0 rfl ?_
    refine V_aload_n ok dX0_widenEnvelopes_3 rfl 1 rfl ?_
    refine V_get (v := .ref (a 1)) ok 0 0 tw_X0 twf_X0_7 rfl rfl (by decide) dX0_widenEnvelopes_4 rfl rfl ?_
    refine V_iconst (v := nI 0) ok dX0_widenEnvelopes_7 rfl ?_
    refine V_iald (f := v) (N := 9) ok 1 0 dX0_widenEnvelopes_8 rfl rfl (by decide) (by decide) ?_
    refine V_top_int (b := nI (nv v 0)) (hv.n.1) ?_
    refine V_icmpN_gt (tgt := 102) ok dX0_widenEnvelopes_9 (by decide) (by omega) (by omega) (fun h9 => ?_) (fun h9 => ?_)
    · exact V_vret ok dX0_widenEnvelopes_102 (Nat.zero_le _) (Nat.zero_le _) ⟨rfl, by rw [show i = nv v 0 + 1 by omega]; rfl⟩
    · refine V_aload_n ok dX0_widenEnvelopes_12 rfl 1 rfl ?_
      refine V_iload_n ok dX0_widenEnvelopes_13 rfl 0 rfl ?_
      refine V_cV (v2 := some (.double (FP.dadd (F i) (B i)))) (wn := lineW g a (v, F, B, (widN (fun j => FP.dadd (F j) (B j)) i (G, L, hi, lo)).1, (widN (fun j => FP.dadd (F j) (B j)) i (G, L, hi, lo)).2.1, (widN (fun j => FP.dadd (F j) (B j)) i (G, L, hi, lo)).2.2.1, (widN (fun j => FP.dadd (F j) (B j)) i (G, L, hi, lo)).2.2.2, lev)) (rest := []) ok 0 0 (c_X0_pressure g a v F B ((widN (fun j => FP.dadd (F j) (B j)) i (G, L, hi, lo)).1) ((widN (fun j => FP.dadd (F j) (B j)) i (G, L, hi, lo)).2.1) ((widN (fun j => FP.dadd (F j) (B j)) i (G, L, hi, lo)).2.2.1) ((widN (fun j => FP.dadd (F j) (B j)) i (G, L, hi, lo)).2.2.2) lev i (by omega) (n64_of (hq.1 i (by omega)).1)) 1 twm_X0_61 twi_yX0_pressure twv_yX0_pressure twin_X0 twc_yX0_pressure yok_X0_pressure (by decide) ⟨rfl, rfl⟩ dX0_widenEnvelopes_14 rfl rfl rfl rfl (Nat.le_of_ble_eq_true rfl) ⟨Nat.zero_le _, Nat.zero_le _⟩ [0, 1, 2, 3, 4, 5] rfl rfl (Nat.le_of_ble_eq_true rfl) rfl ?_
      obtain ⟨w1, w2, w3, w4⟩ := widN_all nn (P := fun j => FP.dadd (F j) (B j)) (N := nv v 0) (e := (G, L, hi, lo)) (fun j hj => (hq.1 j hj).1) (fun j hj => (hq.1 j hj).2.1) (fun j hj => (hq.1 j hj).2.2) hq.2.1 hq.2.2 i (by omega)
      refine V_dstore_n (lv2 := [(2, .double (FP.dadd (F i) (B i))), (1, .int (nI i)), (0, .ref (a 0))]) ok dX0_widenEnvelopes_17 rfl (by decide) rfl ?_
      refine V_dload_n ok dX0_widenEnvelopes_18 rfl 0 rfl ?_
      refine V_aload_n ok dX0_widenEnvelopes_19 rfl 2 rfl ?_
      refine V_get (v := .ref (a 4)) ok 0 3 tw_X0 twf_X0_20 rfl rfl (by decide) dX0_widenEnvelopes_20 rfl rfl ?_
      refine V_iload_n ok dX0_widenEnvelopes_23 rfl 1 rfl ?_
      refine V_dald (f := (widN (fun j => FP.dadd (F j) (B j)) i (G, L, hi, lo)).1) (N := 11) ok 4 i dX0_widenEnvelopes_24 rfl rfl (by omega) (by decide) ?_
      have J25 : V g Γ 4 0 0 57 (lineW g a (v, F, B, (if zv (((widN (fun j => FP.dadd (F j) (B j)) i (G, L, hi, lo)).1) i) < zv (FP.dadd (F i) (B i)) then vf_upd ((widN (fun j => FP.dadd (F j) (B j)) i (G, L, hi, lo)).1) i (FP.dadd (F i) (B i)) else (widN (fun j => FP.dadd (F j) (B j)) i (G, L, hi, lo)).1), (widN (fun j => FP.dadd (F j) (B j)) i (G, L, hi, lo)).2.1, (if zv (((widN (fun j => FP.dadd (F j) (B j)) i (G, L, hi, lo)).1) i) < zv (FP.dadd (F i) (B i)) then (if zv ((widN (fun j => FP.dadd (F j) (B j)) i (G, L, hi, lo)).2.2.1) < zv (FP.dadd (F i) (B i)) then FP.dadd (F i) (B i) else (widN (fun j => FP.dadd (F j) (B j)) i (G, L, hi, lo)).2.2.1) else (widN (fun j => FP.dadd (F j) (B j)) i (G, L, hi, lo)).2.2.1), (widN (fun j => FP.dadd (F j) (B j)) i (G, L, hi, lo)).2.2.2, lev)) [(2, .double (FP.dadd (F i) (B i))), (1, .int (nI i)), (0, .ref (a 0))] [] := by
        refine V_dload_n ok dX0_widenEnvelopes_57 rfl 0 rfl ?_
        refine V_aload_n ok dX0_widenEnvelopes_58 rfl 2 rfl ?_
        refine V_get (v := .ref (a 5)) ok 0 4 tw_X0 twf_X0_23 rfl rfl (by decide) dX0_widenEnvelopes_59 rfl rfl ?_
        refine V_iload_n ok dX0_widenEnvelopes_62 rfl 1 rfl ?_
        refine V_dald (f := (widN (fun j => FP.dadd (F j) (B j)) i (G, L, hi, lo)).2.1) (N := 11) ok 5 i dX0_widenEnvelopes_63 rfl rfl (by omega) (by decide) ?_
        have J64 : V g Γ 4 0 0 96 (lineW g a (v, F, B, (if zv (((widN (fun j => FP.dadd (F j) (B j)) i (G, L, hi, lo)).1) i) < zv (FP.dadd (F i) (B i)) then vf_upd ((widN (fun j => FP.dadd (F j) (B j)) i (G, L, hi, lo)).1) i (FP.dadd (F i) (B i)) else (widN (fun j => FP.dadd (F j) (B j)) i (G, L, hi, lo)).1), (if zv (FP.dadd (F i) (B i)) < zv (((widN (fun j => FP.dadd (F j) (B j)) i (G, L, hi, lo)).2.1) i) then vf_upd ((widN (fun j => FP.dadd (F j) (B j)) i (G, L, hi, lo)).2.1) i (FP.dadd (F i) (B i)) else (widN (fun j => FP.dadd (F j) (B j)) i (G, L, hi, lo)).2.1), (if zv (((widN (fun j => FP.dadd (F j) (B j)) i (G, L, hi, lo)).1) i) < zv (FP.dadd (F i) (B i)) then (if zv ((widN (fun j => FP.dadd (F j) (B j)) i (G, L, hi, lo)).2.2.1) < zv (FP.dadd (F i) (B i)) then FP.dadd (F i) (B i) else (widN (fun j => FP.dadd (F j) (B j)) i (G, L, hi, lo)).2.2.1) else (widN (fun j => FP.dadd (F j) (B j)) i (G, L, hi, lo)).2.2.1), (if zv (FP.dadd (F i) (B i)) < zv (((widN (fun j => FP.dadd (F j) (B j)) i (G, L, hi, lo)).2.1) i) then (if zv (FP.dadd (F i) (B i)) < zv ((widN (fun j => FP.dadd (F j) (B j)) i (G, L, hi, lo)).2.2.2) then FP.dadd (F i) (B i) else (widN (fun j => FP.dadd (F j) (B j)) i (G, L, hi, lo)).2.2.2) else (widN (fun j => FP.dadd (F j) (B j)) i (G, L, hi, lo)).2.2.2), lev)) [(2, .double (FP.dadd (F i) (B i))), (1, .int (nI i)), (0, .ref (a 0))] [] := by
          refine V_iinc (q := 1) (v := nI (i + 1)) (lv2 := [(1, .int (nI (i + 1))), (2, .double (FP.dadd (F i) (B i))), (0, .ref (a 0))]) ok dX0_widenEnvelopes_96 rfl (nI_inc i 1) (by decide) rfl ?_
          refine V_goto (tgt := 2) ok dX0_widenEnvelopes_99 (by decide) ?_
          refine V_lv [0, 2] rfl ?_
          exact ih (nv v 0 + 1 - (i + 1)) (by omega) (i + 1) (by omega) rfl
        refine V_dge (tgt := 96) ok dX0_widenEnvelopes_64 dX0_widenEnvelopes_65 (by decide) ((hq.1 i (by omega)).1) (w2 i (by omega)) (fun h64 => ?_) (fun h64 => ?_)
        · simp only [if_neg h64] at J64
          exact J64
        · refine V_aload_n ok dX0_widenEnvelopes_68 rfl 2 rfl ?_
          refine V_get (v := .ref (a 5)) ok 0 4 tw_X0 twf_X0_23 rfl rfl (by decide) dX0_widenEnvelopes_69 rfl rfl ?_
          refine V_iload_n ok dX0_widenEnvelopes_72 rfl 1 rfl ?_
          refine V_dload_n ok dX0_widenEnvelopes_73 rfl 0 rfl ?_
          refine V_dast (f := (widN (fun j => FP.dadd (F j) (B j)) i (G, L, hi, lo)).2.1) (N := 11) (w2 := lineW g a (v, F, B, (if zv (((widN (fun j => FP.dadd (F j) (B j)) i (G, L, hi, lo)).1) i) < zv (FP.dadd (F i) (B i)) then vf_upd ((widN (fun j => FP.dadd (F j) (B j)) i (G, L, hi, lo)).1) i (FP.dadd (F i) (B i)) else (widN (fun j => FP.dadd (F j) (B j)) i (G, L, hi, lo)).1), vf_upd ((widN (fun j => FP.dadd (F j) (B j)) i (G, L, hi, lo)).2.1) i (FP.dadd (F i) (B i)), (if zv (((widN (fun j => FP.dadd (F j) (B j)) i (G, L, hi, lo)).1) i) < zv (FP.dadd (F i) (B i)) then (if zv ((widN (fun j => FP.dadd (F j) (B j)) i (G, L, hi, lo)).2.2.1) < zv (FP.dadd (F i) (B i)) then FP.dadd (F i) (B i) else (widN (fun j => FP.dadd (F j) (B j)) i (G, L, hi, lo)).2.2.1) else (widN (fun j => FP.dadd (F j) (B j)) i (G, L, hi, lo)).2.2.1), (widN (fun j => FP.dadd (F j) (B j)) i (G, L, hi, lo)).2.2.2, lev)) ok 5 i dX0_widenEnvelopes_74 rfl rfl (by omega) (by decide) rfl ?_
          refine V_aload_n ok dX0_widenEnvelopes_75 rfl 2 rfl ?_
          refine V_dload_n ok dX0_widenEnvelopes_76 rfl 0 rfl ?_
          refine V_aload_n ok dX0_widenEnvelopes_77 rfl 2 rfl ?_
          refine V_get (v := .double ((widN (fun j => FP.dadd (F j) (B j)) i (G, L, hi, lo)).2.2.2)) ok 0 6 tw_X0 twf_X0_55 rfl rfl (by decide) dX0_widenEnvelopes_78 rfl rfl ?_
          have J81 : V g Γ 4 0 0 93 (lineW g a (v, F, B, (if zv (((widN (fun j => FP.dadd (F j) (B j)) i (G, L, hi, lo)).1) i) < zv (FP.dadd (F i) (B i)) then vf_upd ((widN (fun j => FP.dadd (F j) (B j)) i (G, L, hi, lo)).1) i (FP.dadd (F i) (B i)) else (widN (fun j => FP.dadd (F j) (B j)) i (G, L, hi, lo)).1), vf_upd ((widN (fun j => FP.dadd (F j) (B j)) i (G, L, hi, lo)).2.1) i (FP.dadd (F i) (B i)), (if zv (((widN (fun j => FP.dadd (F j) (B j)) i (G, L, hi, lo)).1) i) < zv (FP.dadd (F i) (B i)) then (if zv ((widN (fun j => FP.dadd (F j) (B j)) i (G, L, hi, lo)).2.2.1) < zv (FP.dadd (F i) (B i)) then FP.dadd (F i) (B i) else (widN (fun j => FP.dadd (F j) (B j)) i (G, L, hi, lo)).2.2.1) else (widN (fun j => FP.dadd (F j) (B j)) i (G, L, hi, lo)).2.2.1), (widN (fun j => FP.dadd (F j) (B j)) i (G, L, hi, lo)).2.2.2, lev)) [(2, .double (FP.dadd (F i) (B i))), (1, .int (nI i)), (0, .ref (a 0))] [.double (if zv (FP.dadd (F i) (B i)) < zv ((widN (fun j => FP.dadd (F j) (B j)) i (G, L, hi, lo)).2.2.2) then FP.dadd (F i) (B i) else (widN (fun j => FP.dadd (F j) (B j)) i (G, L, hi, lo)).2.2.2), .ref (a 0)] := by
            refine V_put (w2 := lineW g a (v, F, B, (if zv (((widN (fun j => FP.dadd (F j) (B j)) i (G, L, hi, lo)).1) i) < zv (FP.dadd (F i) (B i)) then vf_upd ((widN (fun j => FP.dadd (F j) (B j)) i (G, L, hi, lo)).1) i (FP.dadd (F i) (B i)) else (widN (fun j => FP.dadd (F j) (B j)) i (G, L, hi, lo)).1), vf_upd ((widN (fun j => FP.dadd (F j) (B j)) i (G, L, hi, lo)).2.1) i (FP.dadd (F i) (B i)), (if zv (((widN (fun j => FP.dadd (F j) (B j)) i (G, L, hi, lo)).1) i) < zv (FP.dadd (F i) (B i)) then (if zv ((widN (fun j => FP.dadd (F j) (B j)) i (G, L, hi, lo)).2.2.1) < zv (FP.dadd (F i) (B i)) then FP.dadd (F i) (B i) else (widN (fun j => FP.dadd (F j) (B j)) i (G, L, hi, lo)).2.2.1) else (widN (fun j => FP.dadd (F j) (B j)) i (G, L, hi, lo)).2.2.1), (if zv (FP.dadd (F i) (B i)) < zv ((widN (fun j => FP.dadd (F j) (B j)) i (G, L, hi, lo)).2.2.2) then FP.dadd (F i) (B i) else (widN (fun j => FP.dadd (F j) (B j)) i (G, L, hi, lo)).2.2.2), lev)) ok 0 6 tw_X0 tyX0 tyX0_ok nmX0 twf_X0_55 rfl rfl (by decide) rfl rfl dX0_widenEnvelopes_93 rfl rfl rfl (Nat.lt_of_lt_of_eq (m := 8) (by decide) rfl) rfl ?_
            simp only [if_pos h64] at J64
            exact J64
          refine V_dge (tgt := 89) ok dX0_widenEnvelopes_81 dX0_widenEnvelopes_82 (by decide) ((hq.1 i (by omega)).1) w4 (fun h81 => ?_) (fun h81 => ?_)
          · refine V_aload_n ok dX0_widenEnvelopes_89 rfl 2 rfl ?_
            refine V_get (v := .double ((widN (fun j => FP.dadd (F j) (B j)) i (G, L, hi, lo)).2.2.2)) ok 0 6 tw_X0 twf_X0_55 rfl rfl (by decide) dX0_widenEnvelopes_90 rfl rfl ?_
            simp only [if_neg h81] at J81
            exact J81
          · refine V_dload_n ok dX0_widenEnvelopes_85 rfl 0 rfl ?_
            refine V_goto (tgt := 93) ok dX0_widenEnvelopes_86 (by decide) ?_
            simp only [if_pos h81] at J81
            exact J81
      refine V_dle (tgt := 57) ok dX0_widenEnvelopes_25 dX0_widenEnvelopes_26 (by decide) ((hq.1 i (by omega)).1) (w1 i (by omega)) (fun h25 => ?_) (fun h25 => ?_)
      · simp only [if_neg h25] at J25
        exact J25
      · refine V_aload_n ok dX0_widenEnvelopes_29 rfl 2 rfl ?_
        refine V_get (v := .ref (a 4)) ok 0 3 tw_X0 twf_X0_20 rfl rfl (by decide) dX0_widenEnvelopes_30 rfl rfl ?_
        refine V_iload_n ok dX0_widenEnvelopes_33 rfl 1 rfl ?_
        refine V_dload_n ok dX0_widenEnvelopes_34 rfl 0 rfl ?_
        refine V_dast (f := (widN (fun j => FP.dadd (F j) (B j)) i (G, L, hi, lo)).1) (N := 11) (w2 := lineW g a (v, F, B, vf_upd ((widN (fun j => FP.dadd (F j) (B j)) i (G, L, hi, lo)).1) i (FP.dadd (F i) (B i)), (widN (fun j => FP.dadd (F j) (B j)) i (G, L, hi, lo)).2.1, (widN (fun j => FP.dadd (F j) (B j)) i (G, L, hi, lo)).2.2.1, (widN (fun j => FP.dadd (F j) (B j)) i (G, L, hi, lo)).2.2.2, lev)) ok 4 i dX0_widenEnvelopes_35 rfl rfl (by omega) (by decide) rfl ?_
        refine V_aload_n ok dX0_widenEnvelopes_36 rfl 2 rfl ?_
        refine V_dload_n ok dX0_widenEnvelopes_37 rfl 0 rfl ?_
        refine V_aload_n ok dX0_widenEnvelopes_38 rfl 2 rfl ?_
        refine V_get (v := .double ((widN (fun j => FP.dadd (F j) (B j)) i (G, L, hi, lo)).2.2.1)) ok 0 5 tw_X0 twf_X0_51 rfl rfl (by decide) dX0_widenEnvelopes_39 rfl rfl ?_
        have J42 : V g Γ 4 0 0 54 (lineW g a (v, F, B, vf_upd ((widN (fun j => FP.dadd (F j) (B j)) i (G, L, hi, lo)).1) i (FP.dadd (F i) (B i)), (widN (fun j => FP.dadd (F j) (B j)) i (G, L, hi, lo)).2.1, (widN (fun j => FP.dadd (F j) (B j)) i (G, L, hi, lo)).2.2.1, (widN (fun j => FP.dadd (F j) (B j)) i (G, L, hi, lo)).2.2.2, lev)) [(2, .double (FP.dadd (F i) (B i))), (1, .int (nI i)), (0, .ref (a 0))] [.double (if zv ((widN (fun j => FP.dadd (F j) (B j)) i (G, L, hi, lo)).2.2.1) < zv (FP.dadd (F i) (B i)) then FP.dadd (F i) (B i) else (widN (fun j => FP.dadd (F j) (B j)) i (G, L, hi, lo)).2.2.1), .ref (a 0)] := by
          refine V_put (w2 := lineW g a (v, F, B, vf_upd ((widN (fun j => FP.dadd (F j) (B j)) i (G, L, hi, lo)).1) i (FP.dadd (F i) (B i)), (widN (fun j => FP.dadd (F j) (B j)) i (G, L, hi, lo)).2.1, (if zv ((widN (fun j => FP.dadd (F j) (B j)) i (G, L, hi, lo)).2.2.1) < zv (FP.dadd (F i) (B i)) then FP.dadd (F i) (B i) else (widN (fun j => FP.dadd (F j) (B j)) i (G, L, hi, lo)).2.2.1), (widN (fun j => FP.dadd (F j) (B j)) i (G, L, hi, lo)).2.2.2, lev)) ok 0 5 tw_X0 tyX0 tyX0_ok nmX0 twf_X0_51 rfl rfl (by decide) rfl rfl dX0_widenEnvelopes_54 rfl rfl rfl (Nat.lt_of_lt_of_eq (m := 8) (by decide) rfl) rfl ?_
          simp only [if_pos h25] at J25
          exact J25
        refine V_dle (tgt := 50) ok dX0_widenEnvelopes_42 dX0_widenEnvelopes_43 (by decide) ((hq.1 i (by omega)).1) w3 (fun h42 => ?_) (fun h42 => ?_)
        · refine V_aload_n ok dX0_widenEnvelopes_50 rfl 2 rfl ?_
          refine V_get (v := .double ((widN (fun j => FP.dadd (F j) (B j)) i (G, L, hi, lo)).2.2.1)) ok 0 5 tw_X0 twf_X0_51 rfl rfl (by decide) dX0_widenEnvelopes_51 rfl rfl ?_
          simp only [if_neg h42] at J42
          exact J42
        · refine V_dload_n ok dX0_widenEnvelopes_46 rfl 0 rfl ?_
          refine V_goto (tgt := 54) ok dX0_widenEnvelopes_47 (by decide) ?_
          simp only [if_pos h42] at J42
          exact J42
  refine V_iconst (v := nI 0) ok dX0_widenEnvelopes_0 rfl ?_
  refine V_istore_n (lv2 := [(1, .int (nI 0)), (0, .ref (a 0))]) ok dX0_widenEnvelopes_1 rfl (by decide) rfl ?_
  refine V_lv [0, 1] rfl ?_
  exact HL (nv v 0 + 1) 0 (Nat.zero_le _) rfl
/-- what a step's methods ask for -/
theorem LG.asks {y : LineSt} (h : LG y) (ht : nv y.1 8 + 1 ≤ 999) : VG (tickL y).1 ∧ vf_n64 (FP.dsub (FP.i2d ((tickL y).1 1)) ((shiftL (tickL y)).2.2.1 0)) := by
  obtain ⟨hv, hw, -⟩ := h
  obtain ⟨hv2, h8⟩ := hv.tick ht
  have hN : nv (tickL y).1 0 = nv y.1 0 := nv_upd_ne (by decide)
  have hb := wb_le (t := nv y.1 8) (by omega)
  refine ⟨hv2, ?_⟩
  have hs := (hw.shift 0 (Nat.zero_le _)).2
  show vf_n64 (FP.dsub (FP.i2d ((tickL y).1 1)) (shB (nv (tickL y).1 0) y.2.2.1 0))
  rw [hN]
  exact (bdS (n := 1000000000 + 1000) hv2.bh (hs.1.mono hb) (by decide) (by decide)).n64
theorem LG.asksR {y : LineSt} (h : LG y) (ht : nv y.1 8 + 1 ≤ 999) {z : LineSt} (hz : turnLeftL (shiftL (tickL y)) = z) :
    vf_n64 (FP.dsub (z.2.1 (nv z.1 0)) (letF (nv z.1 6) (nv z.1 7) (nv z.1 8) (z.1 2))) ∧ vf_n64 (FP.dsub (FP.i2d (z.1 1)) (z.2.1 (nv z.1 0))) ∧ vf_n64 (FP.dsub z.2.2.2.2.2.2.2 (z.2.1 (nv z.1 0))) ∧ vf_n64 (FP.dsub (z.2.1 (nv z.1 0)) (FP.dsub z.2.2.2.2.2.2.2 (z.2.1 (nv z.1 0)))) ∧ vf_n64 (FP.ddiv (FP.dsub (z.2.1 (nv z.1 0)) (FP.dsub z.2.2.2.2.2.2.2 (z.2.1 (nv z.1 0)))) (FP.i2d (z.1 3))) ∧
    vf_n64 (FP.dadd z.2.2.2.2.2.2.2 (FP.ddiv (FP.dsub (z.2.1 (nv z.1 0)) (FP.dsub z.2.2.2.2.2.2.2 (z.2.1 (nv z.1 0)))) (FP.i2d (z.1 3)))) ∧ nn (FP.dadd z.2.2.2.2.2.2.2 (FP.ddiv (FP.dsub (z.2.1 (nv z.1 0)) (FP.dsub z.2.2.2.2.2.2.2 (z.2.1 (nv z.1 0)))) (FP.i2d (z.1 3)))) := by
  obtain ⟨hv, hw, hN, h8⟩ := h.mid ht
  have hb := wb_le (t := nv y.1 8) (by omega)
  have hl : bz 10000 (turnLeftL (shiftL (tickL y))).2.2.2.2.2.2.2 := h.2.2.2.1
  rw [hz] at hv hw hN h8 hl
  have hf := (hw (nv y.1 0) (Nat.le_refl _)).1
  rw [← hN] at hf
  have hf2 : Bd 1000001000 (z.2.1 (nv z.1 0)) := hf.1.mono (by omega)
  have r := risen_bz hv hf2 hl (by decide)
  refine ⟨(bdS (n := 1000721000) hf2 (letF_bd hv.bq hv.t.2.2) (by decide) (by decide)).n64, (bdS (n := 1000002000) hv.bh hf2 (by decide) (by decide)).n64, (bdS (n := 1000011000) hl.1 hf2 (by decide) (by decide)).n64, ?_, r.1.n64, r.2.1.n64, r.2.1.nn⟩
  exact (bdS (n := 2000012000) hf2 (bdS (n := 1000011000) hl.1 hf2 (by decide) (by decide)) (by decide) (by decide)).n64
theorem LG.asksW {y : LineSt} (h : LG y) (ht : nv y.1 8 + 1 ≤ 999) {z : LineSt} (hz : turnRightL (turnLeftL (shiftL (tickL y))) = z) : (∀ j, j ≤ nv z.1 0 → nn (FP.dadd (z.2.1 j) (z.2.2.1 j)) ∧ nn (z.2.2.2.1 j) ∧ nn (z.2.2.2.2.1 j)) ∧ nn z.2.2.2.2.2.1 ∧ nn z.2.2.2.2.2.2.1 := by
  obtain ⟨hv, -, hN, h8⟩ := h.mid ht
  obtain ⟨hw, -⟩ := h.ends ht
  have hb := wb_le (t := nv y.1 8 + 1) ht
  have hE := h.2.2.1
  have hx := h.2.2.2.2.2.1
  have hm := h.2.2.2.2.2.2
  have eN : nv z.1 0 = nv y.1 0 := by rw [← hz]; exact hN
  have eG : z.2.2.2.1 = y.2.2.2.1 := by rw [← hz]; rfl
  have eL : z.2.2.2.2.1 = y.2.2.2.2.1 := by rw [← hz]; rfl
  have eh : z.2.2.2.2.2.1 = y.2.2.2.2.2.1 := by rw [← hz]; rfl
  have el : z.2.2.2.2.2.2.1 = y.2.2.2.2.2.2.1 := by rw [← hz]; rfl
  rw [hz] at hw
  have hp := hw.press (by omega)
  rw [eN, eG, eL, eh, el, hx, hm]
  refine ⟨fun j hj => ⟨(hp j hj).1.nn, (hE j hj).1.1.nn, (hE j hj).2.1.nn⟩, ?_, ?_⟩
  · obtain ⟨j, a, b⟩ := maxU_mem y.2.2.2.1 (nv y.1 0); rw [b]; exact (hE j a).1.1.nn
  · obtain ⟨j, a, b⟩ := minU_mem y.2.2.2.2.1 (nv y.1 0); rw [b]; exact (hE j a).2.1.nn
set_option maxHeartbeats 4000000 in
set_option maxRecDepth 100000 in
/-- steps -/
theorem c_X0_advance (g : Glob) (a : Nat → Nat) (x : LineSt) (c : Nat) (hx : LG x) (hc : nv x.1 8 + c ≤ 999) : Con g yX0_advance cX0_advance 3 none ({ frames := 2, cells := 0, slots := 0, locals := 53 } : Room) [.ref (a 0), .int (nI c)] (lineW g a x) (Is none (lineW g a (advL c x))) := by
  refine con_of_V ypl_X0_advance (Nat.le_of_ble_eq_true rfl) [(0, .ref (a 0)), (1, .int (nI c))] rfl (fun Γ ok => ?_)
  have HL : ∀ (n i : Nat), i ≤ c → n = c - i → V g Γ 3 0 0 2 (lineW g a (advL i x)) [(2, .int (nI i)), (1, .int (nI c)), (0, .ref (a 0))] [] := by
    intro n
    induction n using Nat.strongRecOn with
    | ind n ih =>
    intro i hi1 hn
    subst hn
    obtain ⟨hg, hg8, hg0⟩ := LG.adv hx i (by omega)
    obtain ⟨y, hy⟩ : ∃ y, y = advL i x := ⟨_, rfl⟩
    rw [← hy] at hg hg8 hg0
    rw [← hy]
    refine V_iload_n ok dX0_advance_2 rfl 0 rfl ?_
    refine V_iload_n ok dX0_advance_3 rfl 1 rfl ?_
    refine V_icmpN_ge (tgt := 40) ok dX0_advance_4 (by decide) (by omega) (by omega) (fun h4 => ?_) (fun h4 => ?_)
    · exact V_vret ok dX0_advance_40 (Nat.zero_le _) (Nat.zero_le _) ⟨rfl, by rw [show c = i by omega]; exact hy.symm ▸ rfl⟩
    · refine V_aload_n ok dX0_advance_7 rfl 2 rfl ?_
      obtain ⟨hv1, hnL⟩ := hg.asks (by omega)
      obtain ⟨hr0, hr1, hr2, hr3, hr4, hr5, hr6⟩ := hg.asksR (by omega) rfl
      have hwq := hg.asksW (by omega) rfl
      refine V_get (v := .ref (a 1)) ok 0 0 tw_X0 twf_X0_7 rfl rfl (by decide) dX0_advance_8 rfl rfl ?_
      refine V_bipush (v := nI 8) ok dX0_advance_11 rfl ?_
      refine V_dup2_11 ok dX0_advance_13 rfl rfl ?_
      refine V_iald (f := y.1) (N := 9) ok 1 8 dX0_advance_14 rfl rfl (by decide) (by decide) ?_
      refine V_iconst (v := nI 1) ok dX0_advance_15 rfl ?_
      refine V_iadd ok dX0_advance_16 ?_
      refine V_iast (f := y.1) (N := 9) (w2 := lineW g a (upd y.1 8 ((y.1 8) + (nI 1)), y.2.1, y.2.2.1, y.2.2.2.1, y.2.2.2.2.1, y.2.2.2.2.2.1, y.2.2.2.2.2.2.1, y.2.2.2.2.2.2.2)) ok 1 8 dX0_advance_17 rfl rfl (by decide) (by decide) rfl ?_
      refine V_aload_n ok dX0_advance_18 rfl 2 rfl ?_
      refine V_cV (v2 := none) (wn := lineW g a (upd y.1 8 ((y.1 8) + (nI 1)), shF (nv (upd y.1 8 ((y.1 8) + (nI 1))) 0) 0 y.2.1, shB (nv (upd y.1 8 ((y.1 8) + (nI 1))) 0) y.2.2.1, y.2.2.2.1, y.2.2.2.2.1, y.2.2.2.2.2.1, y.2.2.2.2.2.2.1, y.2.2.2.2.2.2.2)) (rest := []) ok 0 0 (c_X0_shift g a (upd y.1 8 ((y.1 8) + (nI 1))) y.2.1 y.2.2.1 y.2.2.2.1 y.2.2.2.2.1 y.2.2.2.2.2.1 y.2.2.2.2.2.2.1 y.2.2.2.2.2.2.2 hv1) 0 twm_X0_65 twi_yX0_shift twv_yX0_shift twin_X0 twc_yX0_shift yok_X0_shift (by decide) ⟨rfl, rfl⟩ dX0_advance_19 rfl rfl rfl rfl (Nat.le_of_ble_eq_true rfl) ⟨Nat.zero_le _, Nat.zero_le _⟩ [0, 1, 2, 3, 4, 5] rfl rfl (Nat.le_of_ble_eq_true rfl) rfl ?_
      refine V_aload_n ok dX0_advance_22 rfl 2 rfl ?_
      refine V_cV (v2 := none) (wn := lineW g a (upd y.1 8 ((y.1 8) + (nI 1)), vf_upd (shF (nv (upd y.1 8 ((y.1 8) + (nI 1))) 0) 0 y.2.1) 0 (leftF (upd y.1 8 ((y.1 8) + (nI 1))) ((shB (nv (upd y.1 8 ((y.1 8) + (nI 1))) 0) y.2.2.1) 0)), shB (nv (upd y.1 8 ((y.1 8) + (nI 1))) 0) y.2.2.1, y.2.2.2.1, y.2.2.2.2.1, y.2.2.2.2.2.1, y.2.2.2.2.2.2.1, y.2.2.2.2.2.2.2)) (rest := []) ok 0 0 (c_X0_turnLeft g a (upd y.1 8 ((y.1 8) + (nI 1))) (shF (nv (upd y.1 8 ((y.1 8) + (nI 1))) 0) 0 y.2.1) (shB (nv (upd y.1 8 ((y.1 8) + (nI 1))) 0) y.2.2.1) y.2.2.2.1 y.2.2.2.2.1 y.2.2.2.2.2.1 y.2.2.2.2.2.2.1 y.2.2.2.2.2.2.2 hnL) 0 twm_X0_68 twi_yX0_turnLeft twv_yX0_turnLeft twin_X0 twc_yX0_turnLeft yok_X0_turnLeft (by decide) ⟨rfl, rfl⟩ dX0_advance_23 rfl rfl rfl rfl (Nat.le_of_ble_eq_true rfl) ⟨Nat.zero_le _, Nat.zero_le _⟩ [0, 1, 2, 3, 4, 5] rfl rfl (Nat.le_of_ble_eq_true rfl) rfl ?_
      refine V_aload_n ok dX0_advance_26 rfl 2 rfl ?_
      refine V_cV (v2 := none) (wn := lineW g a (upd y.1 8 ((y.1 8) + (nI 1)), vf_upd (shF (nv (upd y.1 8 ((y.1 8) + (nI 1))) 0) 0 y.2.1) 0 (leftF (upd y.1 8 ((y.1 8) + (nI 1))) ((shB (nv (upd y.1 8 ((y.1 8) + (nI 1))) 0) y.2.2.1) 0)), vf_upd (shB (nv (upd y.1 8 ((y.1 8) + (nI 1))) 0) y.2.2.1) (nv (upd y.1 8 ((y.1 8) + (nI 1))) 0) (rightB (upd y.1 8 ((y.1 8) + (nI 1))) ((vf_upd (shF (nv (upd y.1 8 ((y.1 8) + (nI 1))) 0) 0 y.2.1) 0 (leftF (upd y.1 8 ((y.1 8) + (nI 1))) ((shB (nv (upd y.1 8 ((y.1 8) + (nI 1))) 0) y.2.2.1) 0))) (nv (upd y.1 8 ((y.1 8) + (nI 1))) 0)) y.2.2.2.2.2.2.2), y.2.2.2.1, y.2.2.2.2.1, y.2.2.2.2.2.1, y.2.2.2.2.2.2.1, rightLev (upd y.1 8 ((y.1 8) + (nI 1))) ((vf_upd (shF (nv (upd y.1 8 ((y.1 8) + (nI 1))) 0) 0 y.2.1) 0 (leftF (upd y.1 8 ((y.1 8) + (nI 1))) ((shB (nv (upd y.1 8 ((y.1 8) + (nI 1))) 0) y.2.2.1) 0))) (nv (upd y.1 8 ((y.1 8) + (nI 1))) 0)) y.2.2.2.2.2.2.2)) (rest := []) ok 0 0 (c_X0_turnRight g a (upd y.1 8 ((y.1 8) + (nI 1))) (vf_upd (shF (nv (upd y.1 8 ((y.1 8) + (nI 1))) 0) 0 y.2.1) 0 (leftF (upd y.1 8 ((y.1 8) + (nI 1))) ((shB (nv (upd y.1 8 ((y.1 8) + (nI 1))) 0) y.2.2.1) 0))) (shB (nv (upd y.1 8 ((y.1 8) + (nI 1))) 0) y.2.2.1) y.2.2.2.1 y.2.2.2.2.1 y.2.2.2.2.2.1 y.2.2.2.2.2.2.1 y.2.2.2.2.2.2.2 hv1 hr0 hr1 hr2 hr3 hr4 hr5 hr6) 0 twm_X0_71 twi_yX0_turnRight twv_yX0_turnRight twin_X0 twc_yX0_turnRight yok_X0_turnRight (by decide) ⟨rfl, rfl⟩ dX0_advance_27 rfl rfl rfl rfl (Nat.le_of_ble_eq_true rfl) ⟨Nat.zero_le _, Nat.zero_le _⟩ [0, 1, 2, 3, 4, 5] rfl rfl (Nat.le_of_ble_eq_true rfl) rfl ?_
      refine V_aload_n ok dX0_advance_30 rfl 2 rfl ?_
      refine V_cV (v2 := none) (wn := lineW g a (upd y.1 8 ((y.1 8) + (nI 1)), vf_upd (shF (nv (upd y.1 8 ((y.1 8) + (nI 1))) 0) 0 y.2.1) 0 (leftF (upd y.1 8 ((y.1 8) + (nI 1))) ((shB (nv (upd y.1 8 ((y.1 8) + (nI 1))) 0) y.2.2.1) 0)), vf_upd (shB (nv (upd y.1 8 ((y.1 8) + (nI 1))) 0) y.2.2.1) (nv (upd y.1 8 ((y.1 8) + (nI 1))) 0) (rightB (upd y.1 8 ((y.1 8) + (nI 1))) ((vf_upd (shF (nv (upd y.1 8 ((y.1 8) + (nI 1))) 0) 0 y.2.1) 0 (leftF (upd y.1 8 ((y.1 8) + (nI 1))) ((shB (nv (upd y.1 8 ((y.1 8) + (nI 1))) 0) y.2.2.1) 0))) (nv (upd y.1 8 ((y.1 8) + (nI 1))) 0)) y.2.2.2.2.2.2.2), (widE (upd y.1 8 ((y.1 8) + (nI 1)), vf_upd (shF (nv (upd y.1 8 ((y.1 8) + (nI 1))) 0) 0 y.2.1) 0 (leftF (upd y.1 8 ((y.1 8) + (nI 1))) ((shB (nv (upd y.1 8 ((y.1 8) + (nI 1))) 0) y.2.2.1) 0)), vf_upd (shB (nv (upd y.1 8 ((y.1 8) + (nI 1))) 0) y.2.2.1) (nv (upd y.1 8 ((y.1 8) + (nI 1))) 0) (rightB (upd y.1 8 ((y.1 8) + (nI 1))) ((vf_upd (shF (nv (upd y.1 8 ((y.1 8) + (nI 1))) 0) 0 y.2.1) 0 (leftF (upd y.1 8 ((y.1 8) + (nI 1))) ((shB (nv (upd y.1 8 ((y.1 8) + (nI 1))) 0) y.2.2.1) 0))) (nv (upd y.1 8 ((y.1 8) + (nI 1))) 0)) y.2.2.2.2.2.2.2), y.2.2.2.1, y.2.2.2.2.1, y.2.2.2.2.2.1, y.2.2.2.2.2.2.1, rightLev (upd y.1 8 ((y.1 8) + (nI 1))) ((vf_upd (shF (nv (upd y.1 8 ((y.1 8) + (nI 1))) 0) 0 y.2.1) 0 (leftF (upd y.1 8 ((y.1 8) + (nI 1))) ((shB (nv (upd y.1 8 ((y.1 8) + (nI 1))) 0) y.2.2.1) 0))) (nv (upd y.1 8 ((y.1 8) + (nI 1))) 0)) y.2.2.2.2.2.2.2)).1, (widE (upd y.1 8 ((y.1 8) + (nI 1)), vf_upd (shF (nv (upd y.1 8 ((y.1 8) + (nI 1))) 0) 0 y.2.1) 0 (leftF (upd y.1 8 ((y.1 8) + (nI 1))) ((shB (nv (upd y.1 8 ((y.1 8) + (nI 1))) 0) y.2.2.1) 0)), vf_upd (shB (nv (upd y.1 8 ((y.1 8) + (nI 1))) 0) y.2.2.1) (nv (upd y.1 8 ((y.1 8) + (nI 1))) 0) (rightB (upd y.1 8 ((y.1 8) + (nI 1))) ((vf_upd (shF (nv (upd y.1 8 ((y.1 8) + (nI 1))) 0) 0 y.2.1) 0 (leftF (upd y.1 8 ((y.1 8) + (nI 1))) ((shB (nv (upd y.1 8 ((y.1 8) + (nI 1))) 0) y.2.2.1) 0))) (nv (upd y.1 8 ((y.1 8) + (nI 1))) 0)) y.2.2.2.2.2.2.2), y.2.2.2.1, y.2.2.2.2.1, y.2.2.2.2.2.1, y.2.2.2.2.2.2.1, rightLev (upd y.1 8 ((y.1 8) + (nI 1))) ((vf_upd (shF (nv (upd y.1 8 ((y.1 8) + (nI 1))) 0) 0 y.2.1) 0 (leftF (upd y.1 8 ((y.1 8) + (nI 1))) ((shB (nv (upd y.1 8 ((y.1 8) + (nI 1))) 0) y.2.2.1) 0))) (nv (upd y.1 8 ((y.1 8) + (nI 1))) 0)) y.2.2.2.2.2.2.2)).2.1, (widE (upd y.1 8 ((y.1 8) + (nI 1)), vf_upd (shF (nv (upd y.1 8 ((y.1 8) + (nI 1))) 0) 0 y.2.1) 0 (leftF (upd y.1 8 ((y.1 8) + (nI 1))) ((shB (nv (upd y.1 8 ((y.1 8) + (nI 1))) 0) y.2.2.1) 0)), vf_upd (shB (nv (upd y.1 8 ((y.1 8) + (nI 1))) 0) y.2.2.1) (nv (upd y.1 8 ((y.1 8) + (nI 1))) 0) (rightB (upd y.1 8 ((y.1 8) + (nI 1))) ((vf_upd (shF (nv (upd y.1 8 ((y.1 8) + (nI 1))) 0) 0 y.2.1) 0 (leftF (upd y.1 8 ((y.1 8) + (nI 1))) ((shB (nv (upd y.1 8 ((y.1 8) + (nI 1))) 0) y.2.2.1) 0))) (nv (upd y.1 8 ((y.1 8) + (nI 1))) 0)) y.2.2.2.2.2.2.2), y.2.2.2.1, y.2.2.2.2.1, y.2.2.2.2.2.1, y.2.2.2.2.2.2.1, rightLev (upd y.1 8 ((y.1 8) + (nI 1))) ((vf_upd (shF (nv (upd y.1 8 ((y.1 8) + (nI 1))) 0) 0 y.2.1) 0 (leftF (upd y.1 8 ((y.1 8) + (nI 1))) ((shB (nv (upd y.1 8 ((y.1 8) + (nI 1))) 0) y.2.2.1) 0))) (nv (upd y.1 8 ((y.1 8) + (nI 1))) 0)) y.2.2.2.2.2.2.2)).2.2.1, (widE (upd y.1 8 ((y.1 8) + (nI 1)), vf_upd (shF (nv (upd y.1 8 ((y.1 8) + (nI 1))) 0) 0 y.2.1) 0 (leftF (upd y.1 8 ((y.1 8) + (nI 1))) ((shB (nv (upd y.1 8 ((y.1 8) + (nI 1))) 0) y.2.2.1) 0)), vf_upd (shB (nv (upd y.1 8 ((y.1 8) + (nI 1))) 0) y.2.2.1) (nv (upd y.1 8 ((y.1 8) + (nI 1))) 0) (rightB (upd y.1 8 ((y.1 8) + (nI 1))) ((vf_upd (shF (nv (upd y.1 8 ((y.1 8) + (nI 1))) 0) 0 y.2.1) 0 (leftF (upd y.1 8 ((y.1 8) + (nI 1))) ((shB (nv (upd y.1 8 ((y.1 8) + (nI 1))) 0) y.2.2.1) 0))) (nv (upd y.1 8 ((y.1 8) + (nI 1))) 0)) y.2.2.2.2.2.2.2), y.2.2.2.1, y.2.2.2.2.1, y.2.2.2.2.2.1, y.2.2.2.2.2.2.1, rightLev (upd y.1 8 ((y.1 8) + (nI 1))) ((vf_upd (shF (nv (upd y.1 8 ((y.1 8) + (nI 1))) 0) 0 y.2.1) 0 (leftF (upd y.1 8 ((y.1 8) + (nI 1))) ((shB (nv (upd y.1 8 ((y.1 8) + (nI 1))) 0) y.2.2.1) 0))) (nv (upd y.1 8 ((y.1 8) + (nI 1))) 0)) y.2.2.2.2.2.2.2)).2.2.2, rightLev (upd y.1 8 ((y.1 8) + (nI 1))) ((vf_upd (shF (nv (upd y.1 8 ((y.1 8) + (nI 1))) 0) 0 y.2.1) 0 (leftF (upd y.1 8 ((y.1 8) + (nI 1))) ((shB (nv (upd y.1 8 ((y.1 8) + (nI 1))) 0) y.2.2.1) 0))) (nv (upd y.1 8 ((y.1 8) + (nI 1))) 0)) y.2.2.2.2.2.2.2)) (rest := []) ok 0 0 (c_X0_widenEnvelopes g a (upd y.1 8 ((y.1 8) + (nI 1))) (vf_upd (shF (nv (upd y.1 8 ((y.1 8) + (nI 1))) 0) 0 y.2.1) 0 (leftF (upd y.1 8 ((y.1 8) + (nI 1))) ((shB (nv (upd y.1 8 ((y.1 8) + (nI 1))) 0) y.2.2.1) 0))) (vf_upd (shB (nv (upd y.1 8 ((y.1 8) + (nI 1))) 0) y.2.2.1) (nv (upd y.1 8 ((y.1 8) + (nI 1))) 0) (rightB (upd y.1 8 ((y.1 8) + (nI 1))) ((vf_upd (shF (nv (upd y.1 8 ((y.1 8) + (nI 1))) 0) 0 y.2.1) 0 (leftF (upd y.1 8 ((y.1 8) + (nI 1))) ((shB (nv (upd y.1 8 ((y.1 8) + (nI 1))) 0) y.2.2.1) 0))) (nv (upd y.1 8 ((y.1 8) + (nI 1))) 0)) y.2.2.2.2.2.2.2)) y.2.2.2.1 y.2.2.2.2.1 y.2.2.2.2.2.1 y.2.2.2.2.2.2.1 (rightLev (upd y.1 8 ((y.1 8) + (nI 1))) ((vf_upd (shF (nv (upd y.1 8 ((y.1 8) + (nI 1))) 0) 0 y.2.1) 0 (leftF (upd y.1 8 ((y.1 8) + (nI 1))) ((shB (nv (upd y.1 8 ((y.1 8) + (nI 1))) 0) y.2.2.1) 0))) (nv (upd y.1 8 ((y.1 8) + (nI 1))) 0)) y.2.2.2.2.2.2.2) hv1 hwq) 0 twm_X0_74 twi_yX0_widenEnvelopes twv_yX0_widenEnvelopes twin_X0 twc_yX0_widenEnvelopes yok_X0_widenEnvelopes (by decide) ⟨rfl, rfl⟩ dX0_advance_31 rfl rfl rfl rfl (Nat.le_of_ble_eq_true rfl) ⟨Nat.zero_le _, Nat.zero_le _⟩ [0, 1, 2, 3, 4, 5] rfl rfl (Nat.le_of_ble_eq_true rfl) rfl ?_
      refine V_iinc (q := 0) (v := nI (i + 1)) (lv2 := [(2, .int (nI (i + 1))), (1, .int (nI c)), (0, .ref (a 0))]) ok dX0_advance_34 rfl (nI_inc i 1) (by decide) rfl ?_
      refine V_goto (tgt := 2) ok dX0_advance_37 (by decide) ?_
      refine V_lv [0, 1, 2] rfl ?_
      have hz := ih (c - (i + 1)) (by omega) (i + 1) (by omega) rfl
      rw [show advL (i + 1) x = stepL y by rw [hy]; rfl] at hz
      exact hz
  refine V_iconst (v := nI 0) ok dX0_advance_0 rfl ?_
  refine V_istore_n (lv2 := [(2, .int (nI 0)), (0, .ref (a 0)), (1, .int (nI c))]) ok dX0_advance_1 rfl (by decide) rfl ?_
  refine V_lv [0, 2, 1] rfl ?_
  exact HL c 0 (Nat.zero_le _) rfl
end
section
set_option maxHeartbeats 4000000 in
set_option maxRecDepth 100000 in
/-- a number becomes another one, steady -/
theorem c_X0_put (g : Glob) (a : Nat → Nat) (v : Nat → Int32) (F B G L : Nat → UInt64) (hi lo lev : UInt64) (w : Nat) (u : Int32) (hw : w < 9) (hv : VG (upd v w u)) : Con g yX0_put cX0_put 3 none ({ frames := 2, cells := 0, slots := 0, locals := 46 } : Room) [.ref (a 0), .int (nI w), .int u] (lineW g a (v, F, B, G, L, hi, lo, lev)) (Is none (lineW g a (settleL (upd v w u, F, B, G, L, hi, lo, lev)))) := by
  refine con_of_V ypl_X0_put (Nat.le_of_ble_eq_true rfl) [(0, .ref (a 0)), (1, .int (nI w)), (2, .int u)] rfl (fun Γ ok => ?_)
  refine V_aload_n ok dX0_put_0 rfl 0 rfl ?_
  refine V_get (v := .ref (a 1)) ok 0 0 tw_X0 twf_X0_7 rfl rfl (by decide) dX0_put_1 rfl rfl ?_
  refine V_iload_n ok dX0_put_4 rfl 1 rfl ?_
  refine V_iload_n ok dX0_put_5 rfl 2 rfl ?_
  refine V_iast (f := v) (N := 9) (w2 := lineW g a (upd v w u, F, B, G, L, hi, lo, lev)) ok 1 w dX0_put_6 rfl rfl hw (by decide) rfl ?_
  refine V_aload_n ok dX0_put_7 rfl 0 rfl ?_
  refine V_cV (v2 := none) (wn := lineW g a (upd (upd v w u) 8 (nI 0), fil F (nv (upd v w u) 0 + 1) (stF (upd v w u)), fil B (nv (upd v w u) 0 + 1) (stB (upd v w u)), fil G (nv (upd v w u) 0 + 1) (stP (upd v w u)), fil L (nv (upd v w u) 0 + 1) (stP (upd v w u)), stP (upd v w u), stP (upd v w u), FP.i2d ((upd v w u) 1))) (rest := []) ok 0 0 (c_X0_settle g a (upd v w u) F B G L hi lo lev hv) 0 twm_X0_26 twi_yX0_settle twv_yX0_settle twin_X0 twc_yX0_settle yok_X0_settle (by decide) ⟨rfl, rfl⟩ dX0_put_8 rfl rfl rfl rfl (Nat.le_of_ble_eq_true rfl) ⟨Nat.zero_le _, Nat.zero_le _⟩ [0, 1, 2, 3, 4, 5] rfl rfl (Nat.le_of_ble_eq_true rfl) rfl ?_
  exact V_vret ok dX0_put_11 (Nat.zero_le _) (Nat.zero_le _) ⟨rfl, rfl⟩
set_option maxHeartbeats 4000000 in
set_option maxRecDepth 100000 in
/-- becomes the other -/
theorem c_X0_copyFrom (g : Glob) (a b : Nat → Nat) (x y : LineSt) : Con g yX0_copyFrom cX0_copyFrom 2 none ({ frames := 1, cells := 0, slots := 0, locals := 30 } : Room) [.ref (a 0), .ref (b 0)] (lineW g a x ++ lineW g b y) (Is none (lineW g a y ++ lineW g b y)) := by
  refine con_of_V ypl_X0_copyFrom (Nat.le_of_ble_eq_true rfl) [(0, .ref (a 0)), (1, .ref (b 0))] rfl (fun Γ ok => ?_)
  refine V_aload_n ok dX0_copyFrom_0 rfl 1 rfl ?_
  refine V_get (v := .ref (b 1)) ok 6 0 tw_X0 twf_X0_7 rfl rfl (by decide) dX0_copyFrom_1 rfl rfl ?_
  refine V_iconst (v := nI 0) ok dX0_copyFrom_4 rfl ?_
  refine V_aload_n ok dX0_copyFrom_5 rfl 0 rfl ?_
  refine V_get (v := .ref (a 1)) ok 0 0 tw_X0 twf_X0_7 rfl rfl (by decide) dX0_copyFrom_6 rfl rfl ?_
  refine V_iconst (v := nI 0) ok dX0_copyFrom_9 rfl ?_
  refine V_aload_n ok dX0_copyFrom_10 rfl 0 rfl ?_
  refine V_get (v := .ref (a 1)) ok 0 0 tw_X0 twf_X0_7 rfl rfl (by decide) dX0_copyFrom_11 rfl rfl ?_
  refine V_alen (t0 := 0) (v := nI 9) ok 1 dX0_copyFrom_14 rfl rfl rfl ?_
  refine V_copyi (f := y.1) (f1 := x.1) (N := 9) (w2 := lineW g a (va_cpy y.1 x.1 0 0 9, x.2.1, x.2.2.1, x.2.2.2.1, x.2.2.2.2.1, x.2.2.2.2.2.1, x.2.2.2.2.2.2.1, x.2.2.2.2.2.2.2) ++ lineW g b (y.1, y.2.1, y.2.2.1, y.2.2.2.1, y.2.2.2.2.1, y.2.2.2.2.2.1, y.2.2.2.2.2.2.1, y.2.2.2.2.2.2.2)) ok 7 1 9 twm_X0_41 dX0_copyFrom_15 rfl rfl rfl (by decide) (by decide) (by decide) (by decide +kernel) rfl ?_
  refine V_ci (f := va_cpy y.1 x.1 0 0 9) (f2 := y.1) (N := 9) (w2 := lineW g a (y.1, x.2.1, x.2.2.1, x.2.2.2.1, x.2.2.2.2.1, x.2.2.2.2.2.1, x.2.2.2.2.2.2.1, x.2.2.2.2.2.2.2) ++ lineW g b (y.1, y.2.1, y.2.2.1, y.2.2.2.1, y.2.2.2.2.1, y.2.2.2.2.2.1, y.2.2.2.2.2.2.1, y.2.2.2.2.2.2.2)) 1 rfl (fun j hj => cpy0 hj) rfl ?_
  refine V_aload_n ok dX0_copyFrom_18 rfl 1 rfl ?_
  refine V_get (v := .ref (b 2)) ok 6 1 tw_X0 twf_X0_13 rfl rfl (by decide) dX0_copyFrom_19 rfl rfl ?_
  refine V_iconst (v := nI 0) ok dX0_copyFrom_22 rfl ?_
  refine V_aload_n ok dX0_copyFrom_23 rfl 0 rfl ?_
  refine V_get (v := .ref (a 2)) ok 0 1 tw_X0 twf_X0_13 rfl rfl (by decide) dX0_copyFrom_24 rfl rfl ?_
  refine V_iconst (v := nI 0) ok dX0_copyFrom_27 rfl ?_
  refine V_bipush (v := nI 11) ok dX0_copyFrom_28 rfl ?_
  refine V_copyd (f := y.2.1) (f1 := x.2.1) (N := 11) (w2 := lineW g a (y.1, va_cpy y.2.1 x.2.1 0 0 11, x.2.2.1, x.2.2.2.1, x.2.2.2.2.1, x.2.2.2.2.2.1, x.2.2.2.2.2.2.1, x.2.2.2.2.2.2.2) ++ lineW g b (y.1, y.2.1, y.2.2.1, y.2.2.2.1, y.2.2.2.2.1, y.2.2.2.2.2.1, y.2.2.2.2.2.2.1, y.2.2.2.2.2.2.2)) ok 8 2 11 twm_X0_41 dX0_copyFrom_30 rfl rfl rfl (by decide) (by decide) (by decide) (by decide +kernel) rfl ?_
  refine V_cd (f := va_cpy y.2.1 x.2.1 0 0 11) (f2 := y.2.1) (N := 11) (w2 := lineW g a (y.1, y.2.1, x.2.2.1, x.2.2.2.1, x.2.2.2.2.1, x.2.2.2.2.2.1, x.2.2.2.2.2.2.1, x.2.2.2.2.2.2.2) ++ lineW g b (y.1, y.2.1, y.2.2.1, y.2.2.2.1, y.2.2.2.2.1, y.2.2.2.2.2.1, y.2.2.2.2.2.2.1, y.2.2.2.2.2.2.2)) 2 rfl (fun j hj => cpy0 hj) rfl ?_
  refine V_aload_n ok dX0_copyFrom_33 rfl 1 rfl ?_
  refine V_get (v := .ref (b 3)) ok 6 2 tw_X0 twf_X0_17 rfl rfl (by decide) dX0_copyFrom_34 rfl rfl ?_
  refine V_iconst (v := nI 0) ok dX0_copyFrom_37 rfl ?_
  refine V_aload_n ok dX0_copyFrom_38 rfl 0 rfl ?_
  refine V_get (v := .ref (a 3)) ok 0 2 tw_X0 twf_X0_17 rfl rfl (by decide) dX0_copyFrom_39 rfl rfl ?_
  refine V_iconst (v := nI 0) ok dX0_copyFrom_42 rfl ?_
  refine V_bipush (v := nI 11) ok dX0_copyFrom_43 rfl ?_
  refine V_copyd (f := y.2.2.1) (f1 := x.2.2.1) (N := 11) (w2 := lineW g a (y.1, y.2.1, va_cpy y.2.2.1 x.2.2.1 0 0 11, x.2.2.2.1, x.2.2.2.2.1, x.2.2.2.2.2.1, x.2.2.2.2.2.2.1, x.2.2.2.2.2.2.2) ++ lineW g b (y.1, y.2.1, y.2.2.1, y.2.2.2.1, y.2.2.2.2.1, y.2.2.2.2.2.1, y.2.2.2.2.2.2.1, y.2.2.2.2.2.2.2)) ok 9 3 11 twm_X0_41 dX0_copyFrom_45 rfl rfl rfl (by decide) (by decide) (by decide) (by decide +kernel) rfl ?_
  refine V_cd (f := va_cpy y.2.2.1 x.2.2.1 0 0 11) (f2 := y.2.2.1) (N := 11) (w2 := lineW g a (y.1, y.2.1, y.2.2.1, x.2.2.2.1, x.2.2.2.2.1, x.2.2.2.2.2.1, x.2.2.2.2.2.2.1, x.2.2.2.2.2.2.2) ++ lineW g b (y.1, y.2.1, y.2.2.1, y.2.2.2.1, y.2.2.2.2.1, y.2.2.2.2.2.1, y.2.2.2.2.2.2.1, y.2.2.2.2.2.2.2)) 3 rfl (fun j hj => cpy0 hj) rfl ?_
  refine V_aload_n ok dX0_copyFrom_48 rfl 1 rfl ?_
  refine V_get (v := .ref (b 4)) ok 6 3 tw_X0 twf_X0_20 rfl rfl (by decide) dX0_copyFrom_49 rfl rfl ?_
  refine V_iconst (v := nI 0) ok dX0_copyFrom_52 rfl ?_
  refine V_aload_n ok dX0_copyFrom_53 rfl 0 rfl ?_
  refine V_get (v := .ref (a 4)) ok 0 3 tw_X0 twf_X0_20 rfl rfl (by decide) dX0_copyFrom_54 rfl rfl ?_
  refine V_iconst (v := nI 0) ok dX0_copyFrom_57 rfl ?_
  refine V_bipush (v := nI 11) ok dX0_copyFrom_58 rfl ?_
  refine V_copyd (f := y.2.2.2.1) (f1 := x.2.2.2.1) (N := 11) (w2 := lineW g a (y.1, y.2.1, y.2.2.1, va_cpy y.2.2.2.1 x.2.2.2.1 0 0 11, x.2.2.2.2.1, x.2.2.2.2.2.1, x.2.2.2.2.2.2.1, x.2.2.2.2.2.2.2) ++ lineW g b (y.1, y.2.1, y.2.2.1, y.2.2.2.1, y.2.2.2.2.1, y.2.2.2.2.2.1, y.2.2.2.2.2.2.1, y.2.2.2.2.2.2.2)) ok 10 4 11 twm_X0_41 dX0_copyFrom_60 rfl rfl rfl (by decide) (by decide) (by decide) (by decide +kernel) rfl ?_
  refine V_cd (f := va_cpy y.2.2.2.1 x.2.2.2.1 0 0 11) (f2 := y.2.2.2.1) (N := 11) (w2 := lineW g a (y.1, y.2.1, y.2.2.1, y.2.2.2.1, x.2.2.2.2.1, x.2.2.2.2.2.1, x.2.2.2.2.2.2.1, x.2.2.2.2.2.2.2) ++ lineW g b (y.1, y.2.1, y.2.2.1, y.2.2.2.1, y.2.2.2.2.1, y.2.2.2.2.2.1, y.2.2.2.2.2.2.1, y.2.2.2.2.2.2.2)) 4 rfl (fun j hj => cpy0 hj) rfl ?_
  refine V_aload_n ok dX0_copyFrom_63 rfl 1 rfl ?_
  refine V_get (v := .ref (b 5)) ok 6 4 tw_X0 twf_X0_23 rfl rfl (by decide) dX0_copyFrom_64 rfl rfl ?_
  refine V_iconst (v := nI 0) ok dX0_copyFrom_67 rfl ?_
  refine V_aload_n ok dX0_copyFrom_68 rfl 0 rfl ?_
  refine V_get (v := .ref (a 5)) ok 0 4 tw_X0 twf_X0_23 rfl rfl (by decide) dX0_copyFrom_69 rfl rfl ?_
  refine V_iconst (v := nI 0) ok dX0_copyFrom_72 rfl ?_
  refine V_bipush (v := nI 11) ok dX0_copyFrom_73 rfl ?_
  refine V_copyd (f := y.2.2.2.2.1) (f1 := x.2.2.2.2.1) (N := 11) (w2 := lineW g a (y.1, y.2.1, y.2.2.1, y.2.2.2.1, va_cpy y.2.2.2.2.1 x.2.2.2.2.1 0 0 11, x.2.2.2.2.2.1, x.2.2.2.2.2.2.1, x.2.2.2.2.2.2.2) ++ lineW g b (y.1, y.2.1, y.2.2.1, y.2.2.2.1, y.2.2.2.2.1, y.2.2.2.2.2.1, y.2.2.2.2.2.2.1, y.2.2.2.2.2.2.2)) ok 11 5 11 twm_X0_41 dX0_copyFrom_75 rfl rfl rfl (by decide) (by decide) (by decide) (by decide +kernel) rfl ?_
  refine V_cd (f := va_cpy y.2.2.2.2.1 x.2.2.2.2.1 0 0 11) (f2 := y.2.2.2.2.1) (N := 11) (w2 := lineW g a (y.1, y.2.1, y.2.2.1, y.2.2.2.1, y.2.2.2.2.1, x.2.2.2.2.2.1, x.2.2.2.2.2.2.1, x.2.2.2.2.2.2.2) ++ lineW g b (y.1, y.2.1, y.2.2.1, y.2.2.2.1, y.2.2.2.2.1, y.2.2.2.2.2.1, y.2.2.2.2.2.2.1, y.2.2.2.2.2.2.2)) 5 rfl (fun j hj => cpy0 hj) rfl ?_
  refine V_aload_n ok dX0_copyFrom_78 rfl 0 rfl ?_
  refine V_aload_n ok dX0_copyFrom_79 rfl 1 rfl ?_
  refine V_get (v := .double y.2.2.2.2.2.1) ok 6 5 tw_X0 twf_X0_51 rfl rfl (by decide) dX0_copyFrom_80 rfl rfl ?_
  refine V_put (w2 := lineW g a (y.1, y.2.1, y.2.2.1, y.2.2.2.1, y.2.2.2.2.1, y.2.2.2.2.2.1, x.2.2.2.2.2.2.1, x.2.2.2.2.2.2.2) ++ lineW g b (y.1, y.2.1, y.2.2.1, y.2.2.2.1, y.2.2.2.2.1, y.2.2.2.2.2.1, y.2.2.2.2.2.2.1, y.2.2.2.2.2.2.2)) ok 0 5 tw_X0 tyX0 tyX0_ok nmX0 twf_X0_51 rfl rfl (by decide) rfl rfl dX0_copyFrom_83 rfl rfl rfl (Nat.lt_of_lt_of_eq (m := 8) (by decide) rfl) rfl ?_
  refine V_aload_n ok dX0_copyFrom_86 rfl 0 rfl ?_
  refine V_aload_n ok dX0_copyFrom_87 rfl 1 rfl ?_
  refine V_get (v := .double y.2.2.2.2.2.2.1) ok 6 6 tw_X0 twf_X0_55 rfl rfl (by decide) dX0_copyFrom_88 rfl rfl ?_
  refine V_put (w2 := lineW g a (y.1, y.2.1, y.2.2.1, y.2.2.2.1, y.2.2.2.2.1, y.2.2.2.2.2.1, y.2.2.2.2.2.2.1, x.2.2.2.2.2.2.2) ++ lineW g b (y.1, y.2.1, y.2.2.1, y.2.2.2.1, y.2.2.2.2.1, y.2.2.2.2.2.1, y.2.2.2.2.2.2.1, y.2.2.2.2.2.2.2)) ok 0 6 tw_X0 tyX0 tyX0_ok nmX0 twf_X0_55 rfl rfl (by decide) rfl rfl dX0_copyFrom_91 rfl rfl rfl (Nat.lt_of_lt_of_eq (m := 8) (by decide) rfl) rfl ?_
  refine V_aload_n ok dX0_copyFrom_94 rfl 0 rfl ?_
  refine V_aload_n ok dX0_copyFrom_95 rfl 1 rfl ?_
  refine V_get (v := .double y.2.2.2.2.2.2.2) ok 6 7 tw_X0 twf_X0_58 rfl rfl (by decide) dX0_copyFrom_96 rfl rfl ?_
  refine V_put (w2 := lineW g a (y.1, y.2.1, y.2.2.1, y.2.2.2.1, y.2.2.2.2.1, y.2.2.2.2.2.1, y.2.2.2.2.2.2.1, y.2.2.2.2.2.2.2) ++ lineW g b (y.1, y.2.1, y.2.2.1, y.2.2.2.1, y.2.2.2.2.1, y.2.2.2.2.2.1, y.2.2.2.2.2.2.1, y.2.2.2.2.2.2.2)) ok 0 7 tw_X0 tyX0 tyX0_ok nmX0 twf_X0_58 rfl rfl (by decide) rfl rfl dX0_copyFrom_99 rfl rfl rfl (Nat.lt_of_lt_of_eq (m := 8) (by decide) rfl) rfl ?_
  exact V_vret ok dX0_copyFrom_102 (Nat.zero_le _) (Nat.zero_le _) ⟨rfl, rfl⟩
/-- the numbers of a trial -/
def tryV (v : Nat → Int32) (k t : Int32) : Nat → Int32 := upd (upd (upd v 5 (nI 0)) 6 k) 7 t
set_option maxHeartbeats 4000000 in
set_option maxRecDepth 100000 in
/-- the other pipe, steady, with a valve under law k -/
theorem c_X0_tryOut (g : Glob) (a b : Nat → Nat) (x y : LineSt) (k t : Int32) (hv : VG (tryV y.1 k t)) : Con g yX0_tryOut cX0_tryOut 4 none ({ frames := 2, cells := 0, slots := 0, locals := 46 } : Room) [.ref (a 0), .ref (b 0), .int k, .int t] (lineW g a x ++ lineW g b y) (Is none (lineW g a (settleL (tryV y.1 k t, x.2)) ++ lineW g b y)) := by
  refine con_of_V ypl_X0_tryOut (Nat.le_of_ble_eq_true rfl) [(0, .ref (a 0)), (1, .ref (b 0)), (2, .int k), (3, .int t)] rfl (fun Γ ok => ?_)
  refine V_aload_n ok dX0_tryOut_0 rfl 1 rfl ?_
  refine V_get (v := .ref (b 1)) ok 6 0 tw_X0 twf_X0_7 rfl rfl (by decide) dX0_tryOut_1 rfl rfl ?_
  refine V_iconst (v := nI 0) ok dX0_tryOut_4 rfl ?_
  refine V_aload_n ok dX0_tryOut_5 rfl 0 rfl ?_
  refine V_get (v := .ref (a 1)) ok 0 0 tw_X0 twf_X0_7 rfl rfl (by decide) dX0_tryOut_6 rfl rfl ?_
  refine V_iconst (v := nI 0) ok dX0_tryOut_9 rfl ?_
  refine V_aload_n ok dX0_tryOut_10 rfl 0 rfl ?_
  refine V_get (v := .ref (a 1)) ok 0 0 tw_X0 twf_X0_7 rfl rfl (by decide) dX0_tryOut_11 rfl rfl ?_
  refine V_alen (t0 := 0) (v := nI 9) ok 1 dX0_tryOut_14 rfl rfl rfl ?_
  refine V_copyi (f := y.1) (f1 := x.1) (N := 9) (w2 := lineW g a (va_cpy y.1 x.1 0 0 9, x.2.1, x.2.2.1, x.2.2.2.1, x.2.2.2.2.1, x.2.2.2.2.2.1, x.2.2.2.2.2.2.1, x.2.2.2.2.2.2.2) ++ lineW g b (y.1, y.2.1, y.2.2.1, y.2.2.2.1, y.2.2.2.2.1, y.2.2.2.2.2.1, y.2.2.2.2.2.2.1, y.2.2.2.2.2.2.2)) ok 7 1 9 twm_X0_41 dX0_tryOut_15 rfl rfl rfl (by decide) (by decide) (by decide) (by decide +kernel) rfl ?_
  refine V_ci (f := va_cpy y.1 x.1 0 0 9) (f2 := y.1) (N := 9) (w2 := lineW g a (y.1, x.2.1, x.2.2.1, x.2.2.2.1, x.2.2.2.2.1, x.2.2.2.2.2.1, x.2.2.2.2.2.2.1, x.2.2.2.2.2.2.2) ++ lineW g b (y.1, y.2.1, y.2.2.1, y.2.2.2.1, y.2.2.2.2.1, y.2.2.2.2.2.1, y.2.2.2.2.2.2.1, y.2.2.2.2.2.2.2)) 1 rfl (fun j hj => cpy0 hj) rfl ?_
  refine V_aload_n ok dX0_tryOut_18 rfl 0 rfl ?_
  refine V_get (v := .ref (a 1)) ok 0 0 tw_X0 twf_X0_7 rfl rfl (by decide) dX0_tryOut_19 rfl rfl ?_
  refine V_iconst (v := nI 5) ok dX0_tryOut_22 rfl ?_
  refine V_iconst (v := nI 0) ok dX0_tryOut_23 rfl ?_
  refine V_iast (f := y.1) (N := 9) (w2 := lineW g a (upd y.1 5 (nI 0), x.2.1, x.2.2.1, x.2.2.2.1, x.2.2.2.2.1, x.2.2.2.2.2.1, x.2.2.2.2.2.2.1, x.2.2.2.2.2.2.2) ++ lineW g b (y.1, y.2.1, y.2.2.1, y.2.2.2.1, y.2.2.2.2.1, y.2.2.2.2.2.1, y.2.2.2.2.2.2.1, y.2.2.2.2.2.2.2)) ok 1 5 dX0_tryOut_24 rfl rfl (by decide) (by decide) rfl ?_
  refine V_aload_n ok dX0_tryOut_25 rfl 0 rfl ?_
  refine V_iload_n ok dX0_tryOut_26 rfl 2 rfl ?_
  refine V_iload_n ok dX0_tryOut_27 rfl 3 rfl ?_
  refine V_cV (v2 := none) (wn := lineW g a (upd (upd (upd y.1 5 (nI 0)) 6 k) 7 t, x.2.1, x.2.2.1, x.2.2.2.1, x.2.2.2.2.1, x.2.2.2.2.2.1, x.2.2.2.2.2.2.1, x.2.2.2.2.2.2.2) ++ lineW g b (y.1, y.2.1, y.2.2.1, y.2.2.2.1, y.2.2.2.2.1, y.2.2.2.2.2.1, y.2.2.2.2.2.2.1, y.2.2.2.2.2.2.2)) (rest := []) ok 0 0 (c_X0_govern g a (upd y.1 5 (nI 0)) x.2.1 x.2.2.1 x.2.2.2.1 x.2.2.2.2.1 x.2.2.2.2.2.1 x.2.2.2.2.2.2.1 x.2.2.2.2.2.2.2 k t) 2 twm_X0_47 twi_yX0_govern twv_yX0_govern twin_X0 twc_yX0_govern yok_X0_govern (by decide) ⟨rfl, rfl⟩ dX0_tryOut_28 rfl rfl rfl rfl (Nat.le_of_ble_eq_true rfl) ⟨Nat.zero_le _, Nat.zero_le _⟩ [0, 1, 2, 3, 4, 5] rfl rfl (Nat.le_of_ble_eq_true rfl) rfl ?_
  refine V_aload_n ok dX0_tryOut_31 rfl 0 rfl ?_
  refine V_cV (v2 := none) (wn := lineW g a (upd (upd (upd (upd y.1 5 (nI 0)) 6 k) 7 t) 8 (nI 0), fil x.2.1 (nv (upd (upd (upd y.1 5 (nI 0)) 6 k) 7 t) 0 + 1) (stF (upd (upd (upd y.1 5 (nI 0)) 6 k) 7 t)), fil x.2.2.1 (nv (upd (upd (upd y.1 5 (nI 0)) 6 k) 7 t) 0 + 1) (stB (upd (upd (upd y.1 5 (nI 0)) 6 k) 7 t)), fil x.2.2.2.1 (nv (upd (upd (upd y.1 5 (nI 0)) 6 k) 7 t) 0 + 1) (stP (upd (upd (upd y.1 5 (nI 0)) 6 k) 7 t)), fil x.2.2.2.2.1 (nv (upd (upd (upd y.1 5 (nI 0)) 6 k) 7 t) 0 + 1) (stP (upd (upd (upd y.1 5 (nI 0)) 6 k) 7 t)), stP (upd (upd (upd y.1 5 (nI 0)) 6 k) 7 t), stP (upd (upd (upd y.1 5 (nI 0)) 6 k) 7 t), FP.i2d ((upd (upd (upd y.1 5 (nI 0)) 6 k) 7 t) 1)) ++ lineW g b (y.1, y.2.1, y.2.2.1, y.2.2.2.1, y.2.2.2.2.1, y.2.2.2.2.2.1, y.2.2.2.2.2.2.1, y.2.2.2.2.2.2.2)) (rest := []) ok 0 0 (c_X0_settle g a (upd (upd (upd y.1 5 (nI 0)) 6 k) 7 t) x.2.1 x.2.2.1 x.2.2.2.1 x.2.2.2.2.1 x.2.2.2.2.2.1 x.2.2.2.2.2.2.1 x.2.2.2.2.2.2.2 hv) 0 twm_X0_26 twi_yX0_settle twv_yX0_settle twin_X0 twc_yX0_settle yok_X0_settle (by decide) ⟨rfl, rfl⟩ dX0_tryOut_32 rfl rfl rfl rfl (Nat.le_of_ble_eq_true rfl) ⟨Nat.zero_le _, Nat.zero_le _⟩ [0, 1, 2, 3, 4, 5] rfl rfl (Nat.le_of_ble_eq_true rfl) rfl ?_
  exact V_vret ok dX0_tryOut_35 (Nat.zero_le _) (Nat.zero_le _) ⟨rfl, rfl⟩
set_option maxHeartbeats 4000000 in
set_option maxRecDepth 100000 in
/-- what is kept -/
theorem c_X0_sumOfSquares (g : Glob) (a : Nat → Nat) (v : Nat → Int32) (F B G L : Nat → UInt64) (hi lo lev : UInt64) (hv : VG v) (hk : ∀ i, i ≤ nv v 0 → vf_n64 (FP.dmul (F i) (F i)) ∧ vf_n64 (FP.dmul (B i) (B i)) ∧ vf_n64 (FP.dadd (FP.dmul (F i) (F i)) (FP.dmul (B i) (B i))) ∧ vf_n64 (kept0 F B (i + 1))) : Con g yX0_sumOfSquares cX0_sumOfSquares 4 (some .double) ({ frames := 0, cells := 0, slots := 0, locals := 0 } : Room) [.ref (a 0)] (lineW g a (v, F, B, G, L, hi, lo, lev)) (Is (some (.double (kept0 F B (nv v 0 + 1)))) (lineW g a (v, F, B, G, L, hi, lo, lev))) := by
  refine con_of_V ypl_X0_sumOfSquares (Nat.le_of_ble_eq_true rfl) [(0, .ref (a 0))] rfl (fun Γ ok => ?_)
  have hN := hv.n
  have HL : ∀ (n i : Nat), i ≤ nv v 0 + 1 → n = nv v 0 + 1 - i → V g Γ 4 0 0 4 (lineW g a (v, F, B, G, L, hi, lo, lev)) [(3, .int (nI i)), (1, .double (kept0 F B i)), (0, .ref (a 0))] [] := by
    intro n
    induction n using Nat.strongRecOn with
    | ind n ih =>
    intro i hi1 hn
    subst hn
    refine V_iload_n ok dX0_sumOfSquares_4 rfl 0 rfl ?_
    refine V_aload_n ok dX0_sumOfSquares_5 rfl 2 rfl ?_
    refine V_get (v := .ref (a 1)) ok 0 0 tw_X0 twf_X0_7 rfl rfl (by decide) dX0_sumOfSquares_6 rfl rfl ?_
    refine V_iconst (v := nI 0) ok dX0_sumOfSquares_9 rfl ?_
    refine V_iald (f := v) (N := 9) ok 1 0 dX0_sumOfSquares_10 rfl rfl (by decide) (by decide) ?_
    refine V_top_int (b := nI (nv v 0)) (hv.n.1) ?_
    refine V_icmpN_gt (tgt := 50) ok dX0_sumOfSquares_11 (by decide) (by omega) (by omega) (fun h11 => ?_) (fun h11 => ?_)
    · refine V_dload_n ok dX0_sumOfSquares_50 rfl 1 rfl ?_
      exact V_dret ok dX0_sumOfSquares_51 (Nat.zero_le _) (Nat.zero_le _) ⟨by rw [show i = nv v 0 + 1 by omega], rfl⟩
    · refine V_dload_n ok dX0_sumOfSquares_14 rfl 1 rfl ?_
      refine V_aload_n ok dX0_sumOfSquares_15 rfl 2 rfl ?_
      refine V_get (v := .ref (a 2)) ok 0 1 tw_X0 twf_X0_13 rfl rfl (by decide) dX0_sumOfSquares_16 rfl rfl ?_
      refine V_iload_n ok dX0_sumOfSquares_19 rfl 0 rfl ?_
      refine V_dald (f := F) (N := 11) ok 2 i dX0_sumOfSquares_20 rfl rfl (by omega) (by decide) ?_
      refine V_aload_n ok dX0_sumOfSquares_21 rfl 2 rfl ?_
      refine V_get (v := .ref (a 2)) ok 0 1 tw_X0 twf_X0_13 rfl rfl (by decide) dX0_sumOfSquares_22 rfl rfl ?_
      refine V_iload_n ok dX0_sumOfSquares_25 rfl 0 rfl ?_
      refine V_dald (f := F) (N := 11) ok 2 i dX0_sumOfSquares_26 rfl rfl (by omega) (by decide) ?_
      refine V_dmul ok dX0_sumOfSquares_27 (hk i (by omega)).1 ?_
      refine V_aload_n ok dX0_sumOfSquares_28 rfl 2 rfl ?_
      refine V_get (v := .ref (a 3)) ok 0 2 tw_X0 twf_X0_17 rfl rfl (by decide) dX0_sumOfSquares_29 rfl rfl ?_
      refine V_iload_n ok dX0_sumOfSquares_32 rfl 0 rfl ?_
      refine V_dald (f := B) (N := 11) ok 3 i dX0_sumOfSquares_33 rfl rfl (by omega) (by decide) ?_
      refine V_aload_n ok dX0_sumOfSquares_34 rfl 2 rfl ?_
      refine V_get (v := .ref (a 3)) ok 0 2 tw_X0 twf_X0_17 rfl rfl (by decide) dX0_sumOfSquares_35 rfl rfl ?_
      refine V_iload_n ok dX0_sumOfSquares_38 rfl 0 rfl ?_
      refine V_dald (f := B) (N := 11) ok 3 i dX0_sumOfSquares_39 rfl rfl (by omega) (by decide) ?_
      refine V_dmul ok dX0_sumOfSquares_40 (hk i (by omega)).2.1 ?_
      refine V_dadd ok dX0_sumOfSquares_41 (hk i (by omega)).2.2.1 ?_
      refine V_dadd ok dX0_sumOfSquares_42 (hk i (by omega)).2.2.2 ?_
      refine V_dstore_n (lv2 := [(1, .double (FP.dadd (kept0 F B i) (FP.dadd (FP.dmul (F i) (F i)) (FP.dmul (B i) (B i))))), (3, .int (nI i)), (0, .ref (a 0))]) ok dX0_sumOfSquares_43 rfl (by decide) rfl ?_
      refine V_iinc (q := 1) (v := nI (i + 1)) (lv2 := [(3, .int (nI (i + 1))), (1, .double (FP.dadd (kept0 F B i) (FP.dadd (FP.dmul (F i) (F i)) (FP.dmul (B i) (B i))))), (0, .ref (a 0))]) ok dX0_sumOfSquares_44 rfl (nI_inc i 1) (by decide) rfl ?_
      refine V_goto (tgt := 4) ok dX0_sumOfSquares_47 (by decide) ?_
      refine V_lv [0, 1, 2] rfl ?_
      exact ih (nv v 0 + 1 - (i + 1)) (by omega) (i + 1) (by omega) rfl
  refine V_dconst0 ok dX0_sumOfSquares_0 ?_
  refine V_dstore_n (lv2 := [(1, .double 0), (0, .ref (a 0))]) ok dX0_sumOfSquares_1 rfl (by decide) rfl ?_
  refine V_iconst (v := nI 0) ok dX0_sumOfSquares_2 rfl ?_
  refine V_istore_n (lv2 := [(3, .int (nI 0)), (1, .double 0), (0, .ref (a 0))]) ok dX0_sumOfSquares_3 rfl (by decide) rfl ?_
  refine V_lv [0, 1, 2] rfl ?_
  exact HL (nv v 0 + 1) 0 (Nat.zero_le _) rfl
end
section
/-! THE TEXT: what the methods of a Page do -/
abbrev PageSt : Type := (Nat → Int32) × Nat × Nat × Int32 × Int32 × Int32 × Nat × Int32
abbrev pageW (g : Glob) (a : Nat → Nat) (p : PageSt) : va_W :=
  [(a 0, .inr (1, [.ref (a 1), .int (nI p.2.1), .int (nI p.2.2.1), .int p.2.2.2.1, .int p.2.2.2.2.1, .int p.2.2.2.2.2.1, .int (nI p.2.2.2.2.2.2.1), .int p.2.2.2.2.2.2.2])), (a 1, .inl (cB g, 100, .inl p.1))]
def valN (c : Int32) : Int32 := if c = nI 112 then nI 0 else if c = nI 104 then nI 1 else if c = nI 113 then nI 2 else if c = nI 97 then nI 3 else if c = nI 108 then nI 4 else if c = nI 114 then nI 5 else (-1)
def hereP (tx : Nat → Int32) (len p : Nat) : Int32 := if len ≤ p then (-1) else tx p
def skipN (tx : Nat → Int32) (len : Nat) : Nat → Nat → Nat
  | 0, p => p
  | f + 1, p => if len ≤ p then p else if tx p = nI 32 then skipN tx len f (p + 1) else p
def skipP (tx : Nat → Int32) (len p : Nat) : Nat := skipN tx len (len - p) p
theorem skipP_end {tx : Nat → Int32} {len p : Nat} (h : len ≤ p) : skipP tx len p = p := by
  unfold skipP; rw [show len - p = 0 by omega]; rfl
theorem skipP_no {tx : Nat → Int32} {len p : Nat} (h : ¬ tx p = nI 32) : skipP tx len p = p := by
  unfold skipP
  cases len - p with
  | zero => rfl
  | succ f => simp only [skipN]; split <;> first | rfl | (rw [if_neg h])
theorem skipP_yes {tx : Nat → Int32} {len p : Nat} (h1 : ¬ len ≤ p) (h : tx p = nI 32) : skipP tx len p = skipP tx len (p + 1) := by
  unfold skipP
  rw [show len - p = (len - (p + 1)) + 1 by omega]
  simp only [skipN]
  rw [if_neg h1, if_pos h]
theorem skipN_le (tx : Nat → Int32) (len : Nat) : ∀ (f p : Nat), p ≤ len → p ≤ skipN tx len f p ∧ skipN tx len f p ≤ len
  | 0, p, h => ⟨Nat.le_refl _, h⟩
  | f + 1, p, h => by
    simp only [skipN]
    split
    · exact ⟨Nat.le_refl _, h⟩
    · split
      · have := skipN_le tx len f (p + 1) (by omega); omega
      · exact ⟨Nat.le_refl _, h⟩
theorem skipP_le {tx : Nat → Int32} {len p : Nat} (h : p ≤ len) : p ≤ skipP tx len p ∧ skipP tx len p ≤ len := skipN_le tx len _ p h
/-- up to f figures from p: (place, number, figures) -/
def numN (tx : Nat → Int32) (len : Nat) : Nat → Nat → Int32 → Nat → Nat × Int32 × Nat
  | 0, p, v, c => (p, v, c)
  | f + 1, p, v, c => if hereP tx len p < nI 48 then (p, v, c) else if nI 57 < hereP tx len p then (p, v, c) else numN tx len f (p + 1) (v * nI 10 + (hereP tx len p - nI 48)) (c + 1)
theorem here_lt {tx : Nat → Int32} {len p : Nat} (h : ¬ hereP tx len p < nI 48) : p < len := by
  unfold hereP at h
  split at h
  · exact absurd (by decide) h
  · omega
theorem numN_le (tx : Nat → Int32) (len : Nat) : ∀ (f p : Nat) (v : Int32) (c : Nat), p ≤ len → p ≤ (numN tx len f p v c).1 ∧ (numN tx len f p v c).1 ≤ len ∧ (numN tx len f p v c).2.2 ≤ c + f ∧ c ≤ (numN tx len f p v c).2.2
  | 0, p, v, c, h => ⟨Nat.le_refl _, h, Nat.le_add_right _ _, Nat.le_refl _⟩
  | f + 1, p, v, c, h => by
    simp only [numN]
    split
    · exact ⟨Nat.le_refl _, h, Nat.le_add_right _ _, Nat.le_refl _⟩
    · split
      · exact ⟨Nat.le_refl _, h, Nat.le_add_right _ _, Nat.le_refl _⟩
      · have := here_lt ‹_›
        have := numN_le tx len f (p + 1) (v * nI 10 + (hereP tx len p - nI 48)) (c + 1) (by omega)
        omega
abbrev pTx (P : PageSt) : Nat → Int32 := P.1
abbrev pLen (P : PageSt) : Nat := P.2.1
abbrev pOrd (P : PageSt) : Nat := P.2.2.1
abbrev pLet (P : PageSt) : Int32 := P.2.2.2.1
abbrev pFst (P : PageSt) : Int32 := P.2.2.2.2.1
abbrev pSnd (P : PageSt) : Int32 := P.2.2.2.2.2.1
abbrev pPl (P : PageSt) : Nat := P.2.2.2.2.2.2.1
abbrev pNum (P : PageSt) : Int32 := P.2.2.2.2.2.2.2
abbrev pHere (P : PageSt) : Int32 := hereP P.1 P.2.1 P.2.2.2.2.2.2.1
def setPl (P : PageSt) (p : Nat) : PageSt := (P.1, P.2.1, P.2.2.1, P.2.2.2.1, P.2.2.2.2.1, P.2.2.2.2.2.1, p, P.2.2.2.2.2.2.2)
def skipF (P : PageSt) : PageSt := setPl P (skipP P.1 P.2.1 (pPl P))
def takeNumberF (P : PageSt) : Bool × PageSt :=
  (decide (¬ (numN P.1 P.2.1 4 (pPl P) (nI 0) 0).2.2 = 0), (P.1, P.2.1, P.2.2.1, P.2.2.2.1, P.2.2.2.2.1, P.2.2.2.2.2.1, (numN P.1 P.2.1 4 (pPl P) (nI 0) 0).1, (numN P.1 P.2.1 4 (pPl P) (nI 0) 0).2.1))
def minusB (P : PageSt) : Bool := if pLet P = nI 104 then (if pHere P = nI 45 then true else false) else if pLet P = nI 113 then (if pHere P = nI 45 then true else false) else false
def setFst (P : PageSt) (x : Int32) : PageSt := (P.1, P.2.1, P.2.2.1, P.2.2.2.1, x, P.2.2.2.2.2.1, P.2.2.2.2.2.2.1, P.2.2.2.2.2.2.2)
def setSnd (P : PageSt) (x : Int32) : PageSt := (P.1, P.2.1, P.2.2.1, P.2.2.2.1, P.2.2.2.2.1, x, P.2.2.2.2.2.2.1, P.2.2.2.2.2.2.2)
def setLet (P : PageSt) (x : Int32) : PageSt := (P.1, P.2.1, P.2.2.1, x, P.2.2.2.2.1, P.2.2.2.2.2.1, P.2.2.2.2.2.2.1, P.2.2.2.2.2.2.2)
def setOrd (P : PageSt) (x : Nat) : PageSt := (P.1, P.2.1, x, P.2.2.2.1, P.2.2.2.2.1, P.2.2.2.2.2.1, P.2.2.2.2.2.2.1, P.2.2.2.2.2.2.2)
/-- behind the second number -/
def secF (r : Bool × PageSt) : Bool × PageSt := if r.1 = true then (true, skipF (setSnd r.2 (pNum r.2))) else (false, r.2)
/-- behind the first number: the second, if the order is a law's -/
def restF (P : PageSt) : Bool × PageSt := if pLet P = nI 119 then (if pHere P = nI 32 then secF (takeNumberF (skipF P)) else (false, P)) else (true, skipF P)
def firF (m : Bool) (r : Bool × PageSt) : Bool × PageSt := if r.1 = true then restF (setFst r.2 (if m = true then -(pNum r.2) else pNum r.2)) else (false, r.2)
def takeNumbersF (P : PageSt) : Bool × PageSt := firF (minusB P) (takeNumberF (setPl P (if minusB P = true then pPl P + 1 else pPl P)))
def letB (c : Int32) : Bool := if c = nI 119 then true else if c = nI 115 then true else if valN c = (-1) then false else true
/-- behind the numbers -/
def endF (r : Bool × PageSt) : Bool × PageSt := if r.1 = true then (if pHere r.2 = nI 59 then (true, skipF (setPl r.2 (pPl r.2 + 1))) else (false, r.2)) else (false, r.2)
def orderF (P : PageSt) : Bool × PageSt := endF (takeNumbersF (skipF (setPl P (pPl P + 1))))
def nxtF (P : PageSt) : Bool × PageSt := if letB (pHere P) = true then orderF (setLet P (pHere P)) else (false, setLet P (pHere P))
def nextOrderF (P : PageSt) : Bool × PageSt := nxtF (skipF P)
/-- the search for a fault, with f orders left -/
def faultN : Nat → PageSt → Int32 × PageSt
  | 0, P => ((-1), P)
  | f + 1, P => if ¬ pOrd P = 0 ∧ pLen P ≤ pPl P then ((-1), P) else if (nextOrderF P).1 = true then faultN f (setOrd (nextOrderF P).2 (pOrd (nextOrderF P).2 + 1)) else (nI (pPl (nextOrderF P).2), (nextOrderF P).2)
def findFaultF (P : PageSt) : Int32 × PageSt := faultN 100 (setOrd (setPl P 0) 0)
/-- the text stays, the place stays within it -/
def PG (P : PageSt) : Prop := pLen P ≤ 100 ∧ pPl P ≤ pLen P
def PK (P P' : PageSt) : Prop := P'.1 = P.1 ∧ P'.2.1 = P.2.1 ∧ P'.2.2.1 = P.2.2.1
theorem PK.rf (P : PageSt) : PK P P := ⟨rfl, rfl, rfl⟩
theorem PK.tr {P Q R : PageSt} (h : PK P Q) (k : PK Q R) : PK P R := ⟨k.1.trans h.1, k.2.1.trans h.2.1, k.2.2.trans h.2.2⟩
theorem PG.skip {P : PageSt} (h : PG P) : PG (skipF P) ∧ PK P (skipF P) ∧ pPl P ≤ pPl (skipF P) := ⟨⟨h.1, (skipP_le h.2).2⟩, ⟨rfl, rfl, rfl⟩, (skipP_le h.2).1⟩
theorem PG.take {P : PageSt} (h : PG P) : PG (takeNumberF P).2 ∧ PK P (takeNumberF P).2 ∧ pPl P ≤ pPl (takeNumberF P).2 := ⟨⟨h.1, (numN_le P.1 P.2.1 4 (pPl P) (nI 0) 0 h.2).2.1⟩, ⟨rfl, rfl, rfl⟩, (numN_le P.1 P.2.1 4 (pPl P) (nI 0) 0 h.2).1⟩
theorem here_in {tx : Nat → Int32} {len p : Nat} (h : ¬ hereP tx len p = (-1)) : p < len := by
  unfold hereP at h
  split at h
  · exact absurd rfl h
  · omega
theorem here_eq {tx : Nat → Int32} {len p : Nat} {c : Nat} (hc : c < 1000) (h : hereP tx len p = nI c) : p < len := here_in (by
  rw [h]
  intro q
  have := congrArg Int32.toInt q
  rw [nI_toInt (by omega)] at this
  have e : (-1 : Int32).toInt = -1 := rfl
  rw [e] at this
  omega)
theorem minusB_in {P : PageSt} (h : minusB P = true) : pPl P < pLen P := by
  unfold minusB at h
  split at h
  · split at h
    · exact here_eq (c := 45) (by decide) ‹_›
    · cases h
  · split at h
    · split at h
      · exact here_eq (c := 45) (by decide) ‹_›
      · cases h
    · cases h
theorem PG.minus {P : PageSt} (h : PG P) : PG (setPl P (if minusB P = true then pPl P + 1 else pPl P)) ∧ pPl P ≤ (if minusB P = true then pPl P + 1 else pPl P) := by
  split
  · exact ⟨⟨h.1, minusB_in ‹_›⟩, by omega⟩
  · exact ⟨h, Nat.le_refl _⟩
theorem PG.sec {P : PageSt} {r : Bool × PageSt} (h : PG r.2) (k : PK P r.2) (l : pPl P ≤ pPl r.2) : PG (secF r).2 ∧ PK P (secF r).2 ∧ pPl P ≤ pPl (secF r).2 := by
  unfold secF
  split
  · obtain ⟨c1, c2, c3⟩ := PG.skip (P := setSnd r.2 (pNum r.2)) h
    exact ⟨c1, k.tr ⟨c2.1, c2.2.1, c2.2.2⟩, Nat.le_trans l c3⟩
  · exact ⟨h, k, l⟩
theorem PG.rest {P : PageSt} (h : PG P) : PG (restF P).2 ∧ PK P (restF P).2 ∧ pPl P ≤ pPl (restF P).2 := by
  unfold restF
  split
  · split
    · obtain ⟨a1, a2, a3⟩ := h.skip
      obtain ⟨b1, b2, b3⟩ := PG.take a1
      exact PG.sec b1 (a2.tr b2) (Nat.le_trans a3 b3)
    · exact ⟨h, PK.rf P, Nat.le_refl _⟩
  · exact h.skip
theorem PG.fir {P : PageSt} {m : Bool} {r : Bool × PageSt} (h : PG r.2) (k : PK P r.2) (l : pPl P ≤ pPl r.2) : PG (firF m r).2 ∧ PK P (firF m r).2 ∧ pPl P ≤ pPl (firF m r).2 := by
  unfold firF
  split
  · generalize (if m = true then -(pNum r.2) else pNum r.2) = x
    obtain ⟨c1, c2, c3⟩ := PG.rest (P := setFst r.2 x) h
    exact ⟨c1, k.tr ⟨c2.1, c2.2.1, c2.2.2⟩, Nat.le_trans l c3⟩
  · exact ⟨h, k, l⟩
theorem PG.takes {P : PageSt} (h : PG P) : PG (takeNumbersF P).2 ∧ PK P (takeNumbersF P).2 ∧ pPl P ≤ pPl (takeNumbersF P).2 := by
  obtain ⟨m1, m2⟩ := h.minus
  obtain ⟨b1, b2, b3⟩ := PG.take m1
  exact PG.fir b1 ⟨b2.1, b2.2.1, b2.2.2⟩ (Nat.le_trans m2 b3)
theorem letB_in {P : PageSt} (h : letB (pHere P) = true) : pPl P < pLen P := by
  refine here_in (tx := P.1) fun q => ?_
  rw [show pHere P = -1 from q] at h
  exact absurd h (by decide)
theorem PG.end {P : PageSt} {r : Bool × PageSt} (h : PG r.2) (k : PK P r.2) (l : pPl P < pPl r.2) : PG (endF r).2 ∧ PK P (endF r).2 ∧ pPl P < pPl (endF r).2 ∧ ((endF r).1 = true → pPl P + 2 ≤ pPl (endF r).2) := by
  unfold endF
  split
  · split
    · have c0 : PG (setPl r.2 (pPl r.2 + 1)) := ⟨h.1, here_eq (tx := r.2.1) (c := 59) (by decide) ‹_›⟩
      obtain ⟨c1, c2, c3⟩ := PG.skip c0
      have c4 : pPl r.2 + 1 ≤ pPl (skipF (setPl r.2 (pPl r.2 + 1))) := c3
      exact ⟨c1, k.tr ⟨c2.1, c2.2.1, c2.2.2⟩, Nat.lt_of_lt_of_le l (Nat.le_of_succ_le c4), fun _ => Nat.le_trans (Nat.succ_le_succ l) c4⟩
    · exact ⟨h, k, l, fun q => by cases q⟩
  · exact ⟨h, k, l, fun q => by cases q⟩
theorem PG.order {P : PageSt} (h : PG P) (hin : pPl P < pLen P) : PG (orderF P).2 ∧ PK P (orderF P).2 ∧ pPl P < pPl (orderF P).2 ∧ ((orderF P).1 = true → pPl P + 2 ≤ pPl (orderF P).2) := by
  have h1 : PG (setPl P (pPl P + 1)) := ⟨h.1, hin⟩
  obtain ⟨a1, a2, a3⟩ := PG.skip h1
  obtain ⟨b1, b2, b3⟩ := PG.takes a1
  exact PG.end b1 (PK.tr (Q := setPl P (pPl P + 1)) ⟨rfl, rfl, rfl⟩ (PK.tr a2 b2)) (Nat.le_trans (show pPl P + 1 ≤ pPl (skipF (setPl P (pPl P + 1))) from a3) b3)
theorem PG.nxt {P : PageSt} (h : PG P) : PG (nxtF P).2 ∧ PK P (nxtF P).2 ∧ pPl P ≤ pPl (nxtF P).2 ∧ ((nxtF P).1 = true → pPl P + 2 ≤ pPl (nxtF P).2) := by
  unfold nxtF
  split
  · obtain ⟨b1, b2, b3, b4⟩ := PG.order (P := setLet P (pHere P)) h (letB_in ‹_›)
    exact ⟨b1, ⟨b2.1, b2.2.1, b2.2.2⟩, Nat.le_of_lt b3, b4⟩
  · exact ⟨h, PK.rf P, Nat.le_refl _, fun q => by cases q⟩
theorem PG.next {P : PageSt} (h : PG P) : PG (nextOrderF P).2 ∧ PK P (nextOrderF P).2 ∧ pPl P ≤ pPl (nextOrderF P).2 ∧ ((nextOrderF P).1 = true → pPl P + 2 ≤ pPl (nextOrderF P).2) := by
  obtain ⟨a1, a2, a3⟩ := h.skip
  obtain ⟨b1, b2, b3, b4⟩ := PG.nxt a1
  exact ⟨b1, a2.tr b2, Nat.le_trans a3 b3, fun q => Nat.le_trans (Nat.add_le_add_right a3 2) (b4 q)⟩
end
section
theorem valN_no {c : Int32} (h : ¬ (nI 97 ≤ c ∧ c ≤ nI 114)) : valN c = -1 := by
  have key : ∀ k : Nat, 97 ≤ k → k ≤ 114 → ¬ c = nI k := fun k h1 h2 e => h (by rw [e]; exact ⟨nI_le h1 (by omega), nI_le h2 (by omega)⟩)
  unfold valN
  rw [if_neg (key 112 (by decide) (by decide)), if_neg (key 104 (by decide) (by decide)), if_neg (key 113 (by decide) (by decide)), if_neg (key 97 (by decide) (by decide)), if_neg (key 108 (by decide) (by decide)), if_neg (key 114 (by decide) (by decide))]
set_option maxHeartbeats 4000000 in
set_option maxRecDepth 100000 in
theorem c_X1_valueNamed (g : Glob) (c : Int32) : Con g yX1_valueNamed cX1_valueNamed 1 (some .int) ({ frames := 0, cells := 0, slots := 0, locals := 0 } : Room) [.int c] ([]) (Is (some (.int (valN c))) []) := by
  refine con_of_V ypl_X1_valueNamed (Nat.le_of_ble_eq_true rfl) [(0, .int c)] rfl (fun Γ ok => ?_)
  by_cases hc : (nI 97 ≤ c ∧ c ≤ nI 114)
  · obtain ⟨j, hj, rfl⟩ : ∃ j, j < 18 ∧ c = nI (97 + j) := by
      have h0 : 97 ≤ c.toInt := by have := Int32.le_iff_toInt_le.mp hc.1; rw [nI_toInt (by decide)] at this; exact this
      have h1 : c.toInt ≤ 114 := by have := Int32.le_iff_toInt_le.mp hc.2; rw [nI_toInt (by decide)] at this; exact this
      refine ⟨(c.toInt - 97).toNat, by omega, Int32.toInt_inj.mp ?_⟩
      rw [nI_toInt (by omega)]; omega
    rcases (show j = 0 ∨ j = 1 ∨ j = 2 ∨ j = 3 ∨ j = 4 ∨ j = 5 ∨ j = 6 ∨ j = 7 ∨ j = 8 ∨ j = 9 ∨ j = 10 ∨ j = 11 ∨ j = 12 ∨ j = 13 ∨ j = 14 ∨ j = 15 ∨ j = 16 ∨ j = 17 by omega) with rfl | rfl | rfl | rfl | rfl | rfl | rfl | rfl | rfl | rfl | rfl | rfl | rfl | rfl | rfl | rfl | rfl | rfl
    · refine V_iload_n ok dX1_valueNamed_0 rfl 0 rfl ?_
      refine V_tabIn (off := 93) (tgt := 94) ok dX1_valueNamed_1 (by decide) (by decide) rfl (by decide) ?_
      refine V_iconst (v := nI 3) ok dX1_valueNamed_94 rfl ?_
      exact V_iret ok dX1_valueNamed_95 (Nat.zero_le _) (Nat.zero_le _) ⟨rfl, rfl⟩
    · refine V_iload_n ok dX1_valueNamed_0 rfl 0 rfl ?_
      refine V_tabIn (off := 99) (tgt := 100) ok dX1_valueNamed_1 (by decide) (by decide) rfl (by decide) ?_
      refine V_iconst (v := (-1)) ok dX1_valueNamed_100 rfl ?_
      exact V_iret ok dX1_valueNamed_101 (Nat.zero_le _) (Nat.zero_le _) ⟨rfl, rfl⟩
    · refine V_iload_n ok dX1_valueNamed_0 rfl 0 rfl ?_
      refine V_tabIn (off := 99) (tgt := 100) ok dX1_valueNamed_1 (by decide) (by decide) rfl (by decide) ?_
      refine V_iconst (v := (-1)) ok dX1_valueNamed_100 rfl ?_
      exact V_iret ok dX1_valueNamed_101 (Nat.zero_le _) (Nat.zero_le _) ⟨rfl, rfl⟩
    · refine V_iload_n ok dX1_valueNamed_0 rfl 0 rfl ?_
      refine V_tabIn (off := 99) (tgt := 100) ok dX1_valueNamed_1 (by decide) (by decide) rfl (by decide) ?_
      refine V_iconst (v := (-1)) ok dX1_valueNamed_100 rfl ?_
      exact V_iret ok dX1_valueNamed_101 (Nat.zero_le _) (Nat.zero_le _) ⟨rfl, rfl⟩
    · refine V_iload_n ok dX1_valueNamed_0 rfl 0 rfl ?_
      refine V_tabIn (off := 99) (tgt := 100) ok dX1_valueNamed_1 (by decide) (by decide) rfl (by decide) ?_
      refine V_iconst (v := (-1)) ok dX1_valueNamed_100 rfl ?_
      exact V_iret ok dX1_valueNamed_101 (Nat.zero_le _) (Nat.zero_le _) ⟨rfl, rfl⟩
    · refine V_iload_n ok dX1_valueNamed_0 rfl 0 rfl ?_
      refine V_tabIn (off := 99) (tgt := 100) ok dX1_valueNamed_1 (by decide) (by decide) rfl (by decide) ?_
      refine V_iconst (v := (-1)) ok dX1_valueNamed_100 rfl ?_
      exact V_iret ok dX1_valueNamed_101 (Nat.zero_le _) (Nat.zero_le _) ⟨rfl, rfl⟩
    · refine V_iload_n ok dX1_valueNamed_0 rfl 0 rfl ?_
      refine V_tabIn (off := 99) (tgt := 100) ok dX1_valueNamed_1 (by decide) (by decide) rfl (by decide) ?_
      refine V_iconst (v := (-1)) ok dX1_valueNamed_100 rfl ?_
      exact V_iret ok dX1_valueNamed_101 (Nat.zero_le _) (Nat.zero_le _) ⟨rfl, rfl⟩
    · refine V_iload_n ok dX1_valueNamed_0 rfl 0 rfl ?_
      refine V_tabIn (off := 89) (tgt := 90) ok dX1_valueNamed_1 (by decide) (by decide) rfl (by decide) ?_
      refine V_iconst (v := nI 1) ok dX1_valueNamed_90 rfl ?_
      exact V_iret ok dX1_valueNamed_91 (Nat.zero_le _) (Nat.zero_le _) ⟨rfl, rfl⟩
    · refine V_iload_n ok dX1_valueNamed_0 rfl 0 rfl ?_
      refine V_tabIn (off := 99) (tgt := 100) ok dX1_valueNamed_1 (by decide) (by decide) rfl (by decide) ?_
      refine V_iconst (v := (-1)) ok dX1_valueNamed_100 rfl ?_
      exact V_iret ok dX1_valueNamed_101 (Nat.zero_le _) (Nat.zero_le _) ⟨rfl, rfl⟩
    · refine V_iload_n ok dX1_valueNamed_0 rfl 0 rfl ?_
      refine V_tabIn (off := 99) (tgt := 100) ok dX1_valueNamed_1 (by decide) (by decide) rfl (by decide) ?_
      refine V_iconst (v := (-1)) ok dX1_valueNamed_100 rfl ?_
      exact V_iret ok dX1_valueNamed_101 (Nat.zero_le _) (Nat.zero_le _) ⟨rfl, rfl⟩
    · refine V_iload_n ok dX1_valueNamed_0 rfl 0 rfl ?_
      refine V_tabIn (off := 99) (tgt := 100) ok dX1_valueNamed_1 (by decide) (by decide) rfl (by decide) ?_
      refine V_iconst (v := (-1)) ok dX1_valueNamed_100 rfl ?_
      exact V_iret ok dX1_valueNamed_101 (Nat.zero_le _) (Nat.zero_le _) ⟨rfl, rfl⟩
    · refine V_iload_n ok dX1_valueNamed_0 rfl 0 rfl ?_
      refine V_tabIn (off := 95) (tgt := 96) ok dX1_valueNamed_1 (by decide) (by decide) rfl (by decide) ?_
      refine V_iconst (v := nI 4) ok dX1_valueNamed_96 rfl ?_
      exact V_iret ok dX1_valueNamed_97 (Nat.zero_le _) (Nat.zero_le _) ⟨rfl, rfl⟩
    · refine V_iload_n ok dX1_valueNamed_0 rfl 0 rfl ?_
      refine V_tabIn (off := 99) (tgt := 100) ok dX1_valueNamed_1 (by decide) (by decide) rfl (by decide) ?_
      refine V_iconst (v := (-1)) ok dX1_valueNamed_100 rfl ?_
      exact V_iret ok dX1_valueNamed_101 (Nat.zero_le _) (Nat.zero_le _) ⟨rfl, rfl⟩
    · refine V_iload_n ok dX1_valueNamed_0 rfl 0 rfl ?_
      refine V_tabIn (off := 99) (tgt := 100) ok dX1_valueNamed_1 (by decide) (by decide) rfl (by decide) ?_
      refine V_iconst (v := (-1)) ok dX1_valueNamed_100 rfl ?_
      exact V_iret ok dX1_valueNamed_101 (Nat.zero_le _) (Nat.zero_le _) ⟨rfl, rfl⟩
    · refine V_iload_n ok dX1_valueNamed_0 rfl 0 rfl ?_
      refine V_tabIn (off := 99) (tgt := 100) ok dX1_valueNamed_1 (by decide) (by decide) rfl (by decide) ?_
      refine V_iconst (v := (-1)) ok dX1_valueNamed_100 rfl ?_
      exact V_iret ok dX1_valueNamed_101 (Nat.zero_le _) (Nat.zero_le _) ⟨rfl, rfl⟩
    · refine V_iload_n ok dX1_valueNamed_0 rfl 0 rfl ?_
      refine V_tabIn (off := 87) (tgt := 88) ok dX1_valueNamed_1 (by decide) (by decide) rfl (by decide) ?_
      refine V_iconst (v := nI 0) ok dX1_valueNamed_88 rfl ?_
      exact V_iret ok dX1_valueNamed_89 (Nat.zero_le _) (Nat.zero_le _) ⟨rfl, rfl⟩
    · refine V_iload_n ok dX1_valueNamed_0 rfl 0 rfl ?_
      refine V_tabIn (off := 91) (tgt := 92) ok dX1_valueNamed_1 (by decide) (by decide) rfl (by decide) ?_
      refine V_iconst (v := nI 2) ok dX1_valueNamed_92 rfl ?_
      exact V_iret ok dX1_valueNamed_93 (Nat.zero_le _) (Nat.zero_le _) ⟨rfl, rfl⟩
    · refine V_iload_n ok dX1_valueNamed_0 rfl 0 rfl ?_
      refine V_tabIn (off := 97) (tgt := 98) ok dX1_valueNamed_1 (by decide) (by decide) rfl (by decide) ?_
      refine V_iconst (v := nI 5) ok dX1_valueNamed_98 rfl ?_
      exact V_iret ok dX1_valueNamed_99 (Nat.zero_le _) (Nat.zero_le _) ⟨rfl, rfl⟩
  · refine V_iload_n ok dX1_valueNamed_0 rfl 0 rfl ?_
    refine V_tabOut (tgt := 100) ok dX1_valueNamed_1 (by
      rcases Int.lt_or_le c.toInt 97 with h | h
      · exact Or.inl h
      · exact Or.inr (by
          rcases Int.lt_or_le 114 c.toInt with h2 | h2
          · exact h2
          · exact absurd ⟨Int32.le_iff_toInt_le.mpr (by rw [nI_toInt (by decide)]; exact h), Int32.le_iff_toInt_le.mpr (by rw [nI_toInt (by decide)]; exact h2)⟩ hc)) (by decide) ?_
    refine V_iconst (v := (-1)) ok dX1_valueNamed_100 rfl ?_
    exact V_iret ok dX1_valueNamed_101 (Nat.zero_le _) (Nat.zero_le _) ⟨by rw [valN_no hc], rfl⟩
set_option maxHeartbeats 4000000 in
set_option maxRecDepth 100000 in
theorem c_X1_rewind (g : Glob) (a : Nat → Nat) (P : PageSt) : Con g yX1_rewind cX1_rewind 1 none ({ frames := 0, cells := 0, slots := 0, locals := 0 } : Room) [.ref (a 0)] (pageW g a P) (Is none (pageW g a (setPl P 0))) := by
  refine con_of_V ypl_X1_rewind (Nat.le_of_ble_eq_true rfl) [(0, .ref (a 0))] rfl (fun Γ ok => ?_)
  refine V_aload_n ok dX1_rewind_0 rfl 0 rfl ?_
  refine V_iconst (v := nI 0) ok dX1_rewind_1 rfl ?_
  refine V_put (w2 := pageW g a (P.1, P.2.1, P.2.2.1, P.2.2.2.1, P.2.2.2.2.1, P.2.2.2.2.2.1, 0, P.2.2.2.2.2.2.2)) ok 0 6 tw_X1 tyX1 tyX1_ok nmX1 twf_X1_31 rfl rfl (by decide) rfl rfl dX1_rewind_2 rfl rfl rfl (Nat.lt_of_lt_of_eq (m := 8) (by decide) rfl) rfl ?_
  exact V_vret ok dX1_rewind_5 (Nat.zero_le _) (Nat.zero_le _) ⟨rfl, rfl⟩
def appendF (P : PageSt) (c : Int32) : PageSt := (upd P.1 P.2.1 (vp_nar .byte c.toInt8.toInt32), P.2.1 + 1, P.2.2)
set_option maxHeartbeats 4000000 in
set_option maxRecDepth 100000 in
theorem c_X1_append (g : Glob) (a : Nat → Nat) (P : PageSt) (c : Int32) (hP : PG P) : Con g yX1_append cX1_append 2 (some .boolean) ({ frames := 0, cells := 0, slots := 0, locals := 0 } : Room) [.ref (a 0), .int c] (pageW g a P) (Is (some (.int (bI (decide (pLen P < 100))))) (pageW g a (if pLen P < 100 then appendF P c else P))) := by
  refine con_of_V ypl_X1_append (Nat.le_of_ble_eq_true rfl) [(0, .ref (a 0)), (1, .int c)] rfl (fun Γ ok => ?_)
  have hP1 : P.2.1 ≤ 100 := hP.1
  refine V_aload_n ok dX1_append_0 rfl 0 rfl ?_
  refine V_get (v := .int (nI P.2.1)) ok 0 1 tw_X1 twf_X1_15 rfl rfl (by decide) dX1_append_1 rfl rfl ?_
  refine V_bipush (v := nI 100) ok dX1_append_4 rfl ?_
  refine V_icmpN_lt (tgt := 11) ok dX1_append_6 (by decide) (by omega) (by omega) (fun h6 => ?_) (fun h6 => ?_)
  · refine V_aload_n ok dX1_append_11 rfl 0 rfl ?_
    refine V_get (v := .ref (a 1)) ok 0 0 tw_X1 twf_X1_11 rfl rfl (by decide) dX1_append_12 rfl rfl ?_
    refine V_aload_n ok dX1_append_15 rfl 0 rfl ?_
    refine V_get (v := .int (nI P.2.1)) ok 0 1 tw_X1 twf_X1_15 rfl rfl (by decide) dX1_append_16 rfl rfl ?_
    refine V_iload_n ok dX1_append_19 rfl 1 rfl ?_
    refine V_i2b ok dX1_append_20 ?_
    refine V_bast (f := P.1) (N := 100) (w2 := pageW g a (upd P.1 P.2.1 (vp_nar .byte c.toInt8.toInt32), P.2.1, P.2.2.1, P.2.2.2.1, P.2.2.2.2.1, P.2.2.2.2.2.1, P.2.2.2.2.2.2.1, P.2.2.2.2.2.2.2)) ok 1 P.2.1 dX1_append_21 rfl rfl (by omega) (by decide) rfl ?_
    refine V_aload_n ok dX1_append_22 rfl 0 rfl ?_
    refine V_dup ok dX1_append_23 rfl ?_
    refine V_get (v := .int (nI P.2.1)) ok 0 1 tw_X1 twf_X1_15 rfl rfl (by decide) dX1_append_24 rfl rfl ?_
    refine V_iconst (v := nI 1) ok dX1_append_27 rfl ?_
    refine V_iaddN (a := P.2.1) (b := 1) (c := P.2.1 + 1) ok dX1_append_28 (by first | rfl | omega) ?_
    refine V_put (w2 := pageW g a (upd P.1 P.2.1 (vp_nar .byte c.toInt8.toInt32), P.2.1 + 1, P.2.2.1, P.2.2.2.1, P.2.2.2.2.1, P.2.2.2.2.2.1, P.2.2.2.2.2.2.1, P.2.2.2.2.2.2.2)) ok 0 1 tw_X1 tyX1 tyX1_ok nmX1 twf_X1_15 rfl rfl (by decide) rfl rfl dX1_append_29 rfl rfl rfl (Nat.lt_of_lt_of_eq (m := 8) (by decide) rfl) rfl ?_
    refine V_iconst (v := nI 1) ok dX1_append_32 rfl ?_
    exact V_zret ok dX1_append_33 (Nat.zero_le _) (Nat.zero_le _) rfl ⟨bI_t (by simp [h6]), by rw [if_pos h6]; rfl⟩
  · refine V_iconst (v := nI 0) ok dX1_append_9 rfl ?_
    exact V_zret ok dX1_append_10 (Nat.zero_le _) (Nat.zero_le _) rfl ⟨bI_f (by simp [h6]), by rw [if_neg h6]⟩
set_option maxHeartbeats 4000000 in
set_option maxRecDepth 100000 in
theorem c_X1_byteHere (g : Glob) (a : Nat → Nat) (P : PageSt) (hP : PG P) : Con g yX1_byteHere cX1_byteHere 1 (some .int) ({ frames := 0, cells := 0, slots := 0, locals := 0 } : Room) [.ref (a 0)] (pageW g a P) (Is (some (.int (pHere P))) (pageW g a P)) := by
  refine con_of_V ypl_X1_byteHere (Nat.le_of_ble_eq_true rfl) [(0, .ref (a 0))] rfl (fun Γ ok => ?_)
  have hP1 : P.2.1 ≤ 100 := hP.1
  have hP2 : P.2.2.2.2.2.2.1 ≤ P.2.1 := hP.2
  refine V_aload_n ok dX1_byteHere_0 rfl 0 rfl ?_
  refine V_get (v := .int (nI P.2.2.2.2.2.2.1)) ok 0 6 tw_X1 twf_X1_31 rfl rfl (by decide) dX1_byteHere_1 rfl rfl ?_
  refine V_aload_n ok dX1_byteHere_4 rfl 0 rfl ?_
  refine V_get (v := .int (nI P.2.1)) ok 0 1 tw_X1 twf_X1_15 rfl rfl (by decide) dX1_byteHere_5 rfl rfl ?_
  have J8 : V g Γ 1 0 0 24 (pageW g a (P.1, P.2.1, P.2.2.1, P.2.2.2.1, P.2.2.2.2.1, P.2.2.2.2.2.1, P.2.2.2.2.2.2.1, P.2.2.2.2.2.2.2)) [(0, .ref (a 0))] [.int (if P.2.1 ≤ P.2.2.2.2.2.2.1 then (-1) else P.1 P.2.2.2.2.2.2.1)] := by
    exact V_iret ok dX1_byteHere_24 (Nat.zero_le _) (Nat.zero_le _) ⟨rfl, rfl⟩
  refine V_icmpN_ge (tgt := 23) ok dX1_byteHere_8 (by decide) (by omega) (by omega) (fun h8 => ?_) (fun h8 => ?_)
  · refine V_iconst (v := (-1)) ok dX1_byteHere_23 rfl ?_
    simp only [if_pos h8] at J8
    exact J8
  · refine V_aload_n ok dX1_byteHere_11 rfl 0 rfl ?_
    refine V_get (v := .ref (a 1)) ok 0 0 tw_X1 twf_X1_11 rfl rfl (by decide) dX1_byteHere_12 rfl rfl ?_
    refine V_aload_n ok dX1_byteHere_15 rfl 0 rfl ?_
    refine V_get (v := .int (nI P.2.2.2.2.2.2.1)) ok 0 6 tw_X1 twf_X1_31 rfl rfl (by decide) dX1_byteHere_16 rfl rfl ?_
    refine V_bald (f := P.1) (N := 100) ok 1 P.2.2.2.2.2.2.1 dX1_byteHere_19 rfl rfl (by omega) (by decide) ?_
    refine V_goto (tgt := 24) ok dX1_byteHere_20 (by decide) ?_
    simp only [if_neg h8] at J8
    exact J8
set_option maxHeartbeats 4000000 in
set_option maxRecDepth 100000 in
theorem c_X1_skipBlanks (g : Glob) (a : Nat → Nat) (P : PageSt) (hP : PG P) : Con g yX1_skipBlanks cX1_skipBlanks 1 none ({ frames := 0, cells := 0, slots := 0, locals := 0 } : Room) [.ref (a 0)] (pageW g a P) (Is none (pageW g a (skipF P))) := by
  refine con_of_V ypl_X1_skipBlanks (Nat.le_of_ble_eq_true rfl) [(0, .ref (a 0))] rfl (fun Γ ok => ?_)
  have hP1 : P.2.1 ≤ 100 := hP.1
  have hP2 : P.2.2.2.2.2.2.1 ≤ P.2.1 := hP.2
  have HL : ∀ (n q : Nat), q ≤ P.2.1 → n = P.2.1 - q → skipP P.1 P.2.1 q = skipP P.1 P.2.1 (pPl P) → V g Γ 1 0 0 0 (pageW g a (P.1, P.2.1, P.2.2.1, P.2.2.2.1, P.2.2.2.2.1, P.2.2.2.2.2.1, q, P.2.2.2.2.2.2.2)) [(0, .ref (a 0))] [] := by
    intro n
    induction n using Nat.strongRecOn with
    | ind n ih =>
    intro q hq hn hsk
    subst hn
    refine V_aload_n ok dX1_skipBlanks_0 rfl 0 rfl ?_
    refine V_get (v := .int (nI q)) ok 0 6 tw_X1 twf_X1_31 rfl rfl (by decide) dX1_skipBlanks_1 rfl rfl ?_
    refine V_aload_n ok dX1_skipBlanks_4 rfl 0 rfl ?_
    refine V_get (v := .int (nI P.2.1)) ok 0 1 tw_X1 twf_X1_15 rfl rfl (by decide) dX1_skipBlanks_5 rfl rfl ?_
    refine V_icmpN_ge (tgt := 38) ok dX1_skipBlanks_8 (by decide) (by omega) (by omega) (fun h8 => ?_) (fun h8 => ?_)
    · exact V_vret ok dX1_skipBlanks_38 (Nat.zero_le _) (Nat.zero_le _) ⟨rfl, by unfold skipF; rw [← hsk, skipP_end h8]; rfl⟩
    · refine V_aload_n ok dX1_skipBlanks_11 rfl 0 rfl ?_
      refine V_get (v := .ref (a 1)) ok 0 0 tw_X1 twf_X1_11 rfl rfl (by decide) dX1_skipBlanks_12 rfl rfl ?_
      refine V_aload_n ok dX1_skipBlanks_15 rfl 0 rfl ?_
      refine V_get (v := .int (nI q)) ok 0 6 tw_X1 twf_X1_31 rfl rfl (by decide) dX1_skipBlanks_16 rfl rfl ?_
      refine V_bald (f := P.1) (N := 100) ok 1 q dX1_skipBlanks_19 rfl rfl (by omega) (by decide) ?_
      refine V_bipush (v := nI 32) ok dX1_skipBlanks_20 rfl ?_
      refine V_icmp_ne (tgt := 38) ok dX1_skipBlanks_22 (by decide) (fun h22 => ?_) (fun h22 => ?_)
      · exact V_vret ok dX1_skipBlanks_38 (Nat.zero_le _) (Nat.zero_le _) ⟨rfl, by unfold skipF; rw [← hsk, skipP_no h22]; rfl⟩
      · refine V_aload_n ok dX1_skipBlanks_25 rfl 0 rfl ?_
        refine V_dup ok dX1_skipBlanks_26 rfl ?_
        refine V_get (v := .int (nI q)) ok 0 6 tw_X1 twf_X1_31 rfl rfl (by decide) dX1_skipBlanks_27 rfl rfl ?_
        refine V_iconst (v := nI 1) ok dX1_skipBlanks_30 rfl ?_
        refine V_iaddN (a := q) (b := 1) (c := q + 1) ok dX1_skipBlanks_31 (by first | rfl | omega) ?_
        refine V_put (w2 := pageW g a (P.1, P.2.1, P.2.2.1, P.2.2.2.1, P.2.2.2.2.1, P.2.2.2.2.2.1, q + 1, P.2.2.2.2.2.2.2)) ok 0 6 tw_X1 tyX1 tyX1_ok nmX1 twf_X1_31 rfl rfl (by decide) rfl rfl dX1_skipBlanks_32 rfl rfl rfl (Nat.lt_of_lt_of_eq (m := 8) (by decide) rfl) rfl ?_
        refine V_goto (tgt := 0) ok dX1_skipBlanks_35 (by decide) ?_
        have hsk2 := (skipP_yes h8 h22).symm.trans hsk
        exact ih (P.2.1 - (q + 1)) (by omega) (q + 1) (by omega) rfl hsk2
  exact HL (P.2.1 - pPl P) (pPl P) hP.2 rfl rfl
set_option maxHeartbeats 4000000 in
set_option maxRecDepth 100000 in
theorem c_X1_takeNumber (g : Glob) (a : Nat → Nat) (P : PageSt) (hP : PG P) : Con g yX1_takeNumber cX1_takeNumber 2 (some .boolean) ({ frames := 1, cells := 0, slots := 0, locals := 20 } : Room) [.ref (a 0)] (pageW g a P) (Is (some (.int (bI (takeNumberF P).1))) (pageW g a (takeNumberF P).2)) := by
  refine con_of_V ypl_X1_takeNumber (Nat.le_of_ble_eq_true rfl) [(0, .ref (a 0))] rfl (fun Γ ok => ?_)
  have hP1 : P.2.1 ≤ 100 := hP.1
  have hP2 : P.2.2.2.2.2.2.1 ≤ P.2.1 := hP.2
  have HT : ∀ (q : Nat) (u : Int32) (c : Nat), (q, u, c) = numN P.1 P.2.1 4 (pPl P) (nI 0) 0 → V g Γ 2 0 0 65 (pageW g a (P.1, P.2.1, P.2.2.1, P.2.2.2.1, P.2.2.2.2.1, P.2.2.2.2.2.1, q, u)) [(1, .int (nI c)), (0, .ref (a 0))] [] := by
    intro q u c ht
    refine V_iload_n ok dX1_takeNumber_65 rfl 0 rfl ?_
    have hc4 := (numN_le P.1 P.2.1 4 (pPl P) (nI 0) 0 hP.2).2.2.1
    rw [← ht] at hc4
    have hc4 : c ≤ 0 + 4 := hc4
    refine V_ifN_le (tgt := 73) ok dX1_takeNumber_66 (by decide) (by omega) (fun h66 => ?_) (fun h66 => ?_)
    · refine V_iconst (v := nI 0) ok dX1_takeNumber_73 rfl ?_
      exact V_zret ok dX1_takeNumber_74 (Nat.zero_le _) (Nat.zero_le _) rfl ⟨bI_f (by unfold takeNumberF; simp only; rw [← ht]; simp [h66]), by unfold takeNumberF; simp only; rw [← ht]⟩
    · refine V_iconst (v := nI 1) ok dX1_takeNumber_69 rfl ?_
      refine V_goto (tgt := 74) ok dX1_takeNumber_70 (by decide) ?_
      exact V_zret ok dX1_takeNumber_74 (Nat.zero_le _) (Nat.zero_le _) rfl ⟨bI_t (by unfold takeNumberF; simp only; rw [← ht]; simp [h66]), by unfold takeNumberF; simp only; rw [← ht]⟩
  have HL : ∀ (f q c : Nat) (u : Int32), q ≤ P.2.1 → f + c = 4 → numN P.1 P.2.1 f q u c = numN P.1 P.2.1 4 (pPl P) (nI 0) 0 → V g Γ 2 0 0 7 (pageW g a (P.1, P.2.1, P.2.2.1, P.2.2.2.1, P.2.2.2.2.1, P.2.2.2.2.2.1, q, u)) [(1, .int (nI c)), (0, .ref (a 0))] [] := by
    intro f
    induction f using Nat.strongRecOn with
    | ind f ih =>
    cases f with
    | zero =>
      intro q c u hq hf hnn
      refine V_iload_n ok dX1_takeNumber_7 rfl 0 rfl ?_
      refine V_iconst (v := nI 4) ok dX1_takeNumber_8 rfl ?_
      refine V_icmpN_ge (tgt := 65) ok dX1_takeNumber_9 (by decide) (by omega) (by omega) (fun h9 => ?_) (fun h9 => absurd (by omega) h9)
      exact HT q u c (by rw [← hnn]; rfl)
    | succ f =>
      intro q c u hq hf hnn
      refine V_iload_n ok dX1_takeNumber_7 rfl 0 rfl ?_
      refine V_iconst (v := nI 4) ok dX1_takeNumber_8 rfl ?_
      refine V_icmpN_ge (tgt := 65) ok dX1_takeNumber_9 (by decide) (by omega) (by omega) (fun h9 => absurd h9 (by omega)) (fun h9 => ?_)
      refine V_aload_n ok dX1_takeNumber_12 rfl 1 rfl ?_
      refine V_cV (v2 := some (.int (hereP P.1 P.2.1 q))) (wn := pageW g a (P.1, P.2.1, P.2.2.1, P.2.2.2.1, P.2.2.2.2.1, P.2.2.2.2.2.1, q, u)) (rest := []) ok 0 1 (c_X1_byteHere g a (P.1, P.2.1, P.2.2.1, P.2.2.2.1, P.2.2.2.2.1, P.2.2.2.2.2.1, q, u) ⟨hP1, hq⟩) 0 twm_X1_49 twi_yX1_byteHere twv_yX1_byteHere twin_X1 twc_yX1_byteHere yok_X1_byteHere (by decide) ⟨rfl, rfl⟩ dX1_takeNumber_13 rfl rfl rfl rfl (Nat.le_of_ble_eq_true rfl) ⟨Nat.zero_le _, Nat.zero_le _⟩ [0, 1] rfl rfl (Nat.le_of_ble_eq_true rfl) rfl ?_
      refine V_bipush (v := nI 48) ok dX1_takeNumber_16 rfl ?_
      refine V_icmp_lt (tgt := 65) ok dX1_takeNumber_18 (by decide) (fun h18 => ?_) (fun h18 => ?_)
      · exact HT q u c (by rw [← hnn]; simp only [numN]; rw [if_pos h18])
      · refine V_aload_n ok dX1_takeNumber_21 rfl 1 rfl ?_
        refine V_cV (v2 := some (.int (hereP P.1 P.2.1 q))) (wn := pageW g a (P.1, P.2.1, P.2.2.1, P.2.2.2.1, P.2.2.2.2.1, P.2.2.2.2.2.1, q, u)) (rest := []) ok 0 1 (c_X1_byteHere g a (P.1, P.2.1, P.2.2.1, P.2.2.2.1, P.2.2.2.2.1, P.2.2.2.2.2.1, q, u) ⟨hP1, hq⟩) 0 twm_X1_49 twi_yX1_byteHere twv_yX1_byteHere twin_X1 twc_yX1_byteHere yok_X1_byteHere (by decide) ⟨rfl, rfl⟩ dX1_takeNumber_22 rfl rfl rfl rfl (Nat.le_of_ble_eq_true rfl) ⟨Nat.zero_le _, Nat.zero_le _⟩ [0, 1] rfl rfl (Nat.le_of_ble_eq_true rfl) rfl ?_
        refine V_bipush (v := nI 57) ok dX1_takeNumber_25 rfl ?_
        refine V_icmp_gt (tgt := 65) ok dX1_takeNumber_27 (by decide) (fun h27 => ?_) (fun h27 => ?_)
        · exact HT q u c (by rw [← hnn]; simp only [numN]; rw [if_neg h18, if_pos h27])
        · refine V_aload_n ok dX1_takeNumber_30 rfl 1 rfl ?_
          refine V_aload_n ok dX1_takeNumber_31 rfl 1 rfl ?_
          refine V_get (v := .int u) ok 0 7 tw_X1 twf_X1_34 rfl rfl (by decide) dX1_takeNumber_32 rfl rfl ?_
          refine V_bipush (v := nI 10) ok dX1_takeNumber_35 rfl ?_
          refine V_imul ok dX1_takeNumber_37 ?_
          refine V_aload_n ok dX1_takeNumber_38 rfl 1 rfl ?_
          refine V_cV (v2 := some (.int (hereP P.1 P.2.1 q))) (wn := pageW g a (P.1, P.2.1, P.2.2.1, P.2.2.2.1, P.2.2.2.2.1, P.2.2.2.2.2.1, q, u)) (rest := [.int (u * (nI 10)), .ref (a 0)]) ok 0 1 (c_X1_byteHere g a (P.1, P.2.1, P.2.2.1, P.2.2.2.1, P.2.2.2.2.1, P.2.2.2.2.2.1, q, u) ⟨hP1, hq⟩) 0 twm_X1_49 twi_yX1_byteHere twv_yX1_byteHere twin_X1 twc_yX1_byteHere yok_X1_byteHere (by decide) ⟨rfl, rfl⟩ dX1_takeNumber_39 rfl rfl rfl rfl (Nat.le_of_ble_eq_true rfl) ⟨Nat.zero_le _, Nat.zero_le _⟩ [0, 1] rfl rfl (Nat.le_of_ble_eq_true rfl) rfl ?_
          refine V_bipush (v := nI 48) ok dX1_takeNumber_42 rfl ?_
          refine V_isub ok dX1_takeNumber_44 ?_
          refine V_iadd ok dX1_takeNumber_45 ?_
          refine V_put (w2 := pageW g a (P.1, P.2.1, P.2.2.1, P.2.2.2.1, P.2.2.2.2.1, P.2.2.2.2.2.1, q, (u * (nI 10)) + ((hereP P.1 P.2.1 q) - (nI 48)))) ok 0 7 tw_X1 tyX1 tyX1_ok nmX1 twf_X1_34 rfl rfl (by decide) rfl rfl dX1_takeNumber_46 rfl rfl rfl (Nat.lt_of_lt_of_eq (m := 8) (by decide) rfl) rfl ?_
          refine V_aload_n ok dX1_takeNumber_49 rfl 1 rfl ?_
          refine V_dup ok dX1_takeNumber_50 rfl ?_
          refine V_get (v := .int (nI q)) ok 0 6 tw_X1 twf_X1_31 rfl rfl (by decide) dX1_takeNumber_51 rfl rfl ?_
          refine V_iconst (v := nI 1) ok dX1_takeNumber_54 rfl ?_
          refine V_iaddN (a := q) (b := 1) (c := q + 1) ok dX1_takeNumber_55 (by first | rfl | omega) ?_
          refine V_put (w2 := pageW g a (P.1, P.2.1, P.2.2.1, P.2.2.2.1, P.2.2.2.2.1, P.2.2.2.2.2.1, q + 1, (u * (nI 10)) + ((hereP P.1 P.2.1 q) - (nI 48)))) ok 0 6 tw_X1 tyX1 tyX1_ok nmX1 twf_X1_31 rfl rfl (by decide) rfl rfl dX1_takeNumber_56 rfl rfl rfl (Nat.lt_of_lt_of_eq (m := 8) (by decide) rfl) rfl ?_
          refine V_iinc (q := 0) (v := nI (c + 1)) (lv2 := [(1, .int (nI (c + 1))), (0, .ref (a 0))]) ok dX1_takeNumber_59 rfl (nI_inc c 1) (by decide) rfl ?_
          refine V_goto (tgt := 7) ok dX1_takeNumber_62 (by decide) ?_
          refine V_lv [0, 1] rfl ?_
          have hin := here_lt h18
          exact ih f (Nat.lt_succ_self f) (q + 1) (c + 1) (u * nI 10 + (hereP P.1 P.2.1 q - nI 48)) (by omega) (by omega) (by rw [← hnn]; simp only [numN]; rw [if_neg h18, if_neg h27])
  refine V_aload_n ok dX1_takeNumber_0 rfl 0 rfl ?_
  refine V_iconst (v := nI 0) ok dX1_takeNumber_1 rfl ?_
  refine V_put (w2 := pageW g a (P.1, P.2.1, P.2.2.1, P.2.2.2.1, P.2.2.2.2.1, P.2.2.2.2.2.1, P.2.2.2.2.2.2.1, nI 0)) ok 0 7 tw_X1 tyX1 tyX1_ok nmX1 twf_X1_34 rfl rfl (by decide) rfl rfl dX1_takeNumber_2 rfl rfl rfl (Nat.lt_of_lt_of_eq (m := 8) (by decide) rfl) rfl ?_
  refine V_iconst (v := nI 0) ok dX1_takeNumber_5 rfl ?_
  refine V_istore_n (lv2 := [(1, .int (nI 0)), (0, .ref (a 0))]) ok dX1_takeNumber_6 rfl (by decide) rfl ?_
  refine V_lv [0, 1] rfl ?_
  exact HL 4 (pPl P) 0 (nI 0) hP.2 rfl rfl
end
section
set_option maxHeartbeats 4000000 in
set_option maxRecDepth 100000 in
theorem c_X1_takeNumbers (g : Glob) (a : Nat → Nat) (P : PageSt) (hP : PG P) : Con g yX1_takeNumbers cX1_takeNumbers 2 (some .boolean) ({ frames := 2, cells := 0, slots := 0, locals := 41 } : Room) [.ref (a 0)] (pageW g a P) (Is (some (.int (bI (takeNumbersF P).1))) (pageW g a (takeNumbersF P).2)) := by
  refine con_of_V ypl_X1_takeNumbers (Nat.le_of_ble_eq_true rfl) [(0, .ref (a 0))] rfl (fun Γ ok => ?_)
  have K : ∀ mb : Bool, mb = minusB P → V g Γ 2 0 0 33 (pageW g a (P.1, P.2.1, P.2.2.1, P.2.2.2.1, P.2.2.2.2.1, P.2.2.2.2.2.1, P.2.2.2.2.2.2.1, P.2.2.2.2.2.2.2)) [(1, .int (bI mb)), (0, .ref (a 0))] [] := by
    intro mb hmb
    have hm1 : PG (setPl P (if mb = true then pPl P + 1 else pPl P)) := by rw [hmb]; exact (PG.minus hP).1
    refine V_iload_n ok dX1_takeNumbers_33 rfl 0 rfl ?_
    have J34 : V g Γ 2 0 0 47 (pageW g a (P.1, P.2.1, P.2.2.1, P.2.2.2.1, P.2.2.2.2.1, P.2.2.2.2.2.1, (if mb = true then P.2.2.2.2.2.2.1 + 1 else P.2.2.2.2.2.2.1), P.2.2.2.2.2.2.2)) [(1, .int (bI mb)), (0, .ref (a 0))] [] := by
      refine V_aload_n ok dX1_takeNumbers_47 rfl 1 rfl ?_
      refine V_cV (v2 := some (.int (bI ((takeNumberF (P.1, P.2.1, P.2.2.1, P.2.2.2.1, P.2.2.2.2.1, P.2.2.2.2.2.1, (if mb = true then P.2.2.2.2.2.2.1 + 1 else P.2.2.2.2.2.2.1), P.2.2.2.2.2.2.2)).1)))) (wn := pageW g a ((takeNumberF (P.1, P.2.1, P.2.2.1, P.2.2.2.1, P.2.2.2.2.1, P.2.2.2.2.2.1, (if mb = true then P.2.2.2.2.2.2.1 + 1 else P.2.2.2.2.2.2.1), P.2.2.2.2.2.2.2)).2.1, (takeNumberF (P.1, P.2.1, P.2.2.1, P.2.2.2.1, P.2.2.2.2.1, P.2.2.2.2.2.1, (if mb = true then P.2.2.2.2.2.2.1 + 1 else P.2.2.2.2.2.2.1), P.2.2.2.2.2.2.2)).2.2.1, (takeNumberF (P.1, P.2.1, P.2.2.1, P.2.2.2.1, P.2.2.2.2.1, P.2.2.2.2.2.1, (if mb = true then P.2.2.2.2.2.2.1 + 1 else P.2.2.2.2.2.2.1), P.2.2.2.2.2.2.2)).2.2.2.1, (takeNumberF (P.1, P.2.1, P.2.2.1, P.2.2.2.1, P.2.2.2.2.1, P.2.2.2.2.2.1, (if mb = true then P.2.2.2.2.2.2.1 + 1 else P.2.2.2.2.2.2.1), P.2.2.2.2.2.2.2)).2.2.2.2.1, (takeNumberF (P.1, P.2.1, P.2.2.1, P.2.2.2.1, P.2.2.2.2.1, P.2.2.2.2.2.1, (if mb = true then P.2.2.2.2.2.2.1 + 1 else P.2.2.2.2.2.2.1), P.2.2.2.2.2.2.2)).2.2.2.2.2.1, (takeNumberF (P.1, P.2.1, P.2.2.1, P.2.2.2.1, P.2.2.2.2.1, P.2.2.2.2.2.1, (if mb = true then P.2.2.2.2.2.2.1 + 1 else P.2.2.2.2.2.2.1), P.2.2.2.2.2.2.2)).2.2.2.2.2.2.1, (takeNumberF (P.1, P.2.1, P.2.2.1, P.2.2.2.1, P.2.2.2.2.1, P.2.2.2.2.2.1, (if mb = true then P.2.2.2.2.2.2.1 + 1 else P.2.2.2.2.2.2.1), P.2.2.2.2.2.2.2)).2.2.2.2.2.2.2.1, (takeNumberF (P.1, P.2.1, P.2.2.1, P.2.2.2.1, P.2.2.2.2.1, P.2.2.2.2.2.1, (if mb = true then P.2.2.2.2.2.2.1 + 1 else P.2.2.2.2.2.2.1), P.2.2.2.2.2.2.2)).2.2.2.2.2.2.2.2)) (rest := []) ok 0 1 (c_X1_takeNumber g a (P.1, P.2.1, P.2.2.1, P.2.2.2.1, P.2.2.2.2.1, P.2.2.2.2.2.1, (if mb = true then P.2.2.2.2.2.2.1 + 1 else P.2.2.2.2.2.2.1), P.2.2.2.2.2.2.2) hm1) 0 twm_X1_60 twi_yX1_takeNumber twv_yX1_takeNumber twin_X1 twc_yX1_takeNumber yok_X1_takeNumber (by decide) ⟨rfl, rfl⟩ dX1_takeNumbers_48 rfl rfl rfl rfl (Nat.le_of_ble_eq_true rfl) ⟨Nat.zero_le _, Nat.zero_le _⟩ [0, 1] rfl rfl (Nat.le_of_ble_eq_true rfl) rfl ?_
      generalize hr48 : takeNumberF (P.1, P.2.1, P.2.2.1, P.2.2.2.1, P.2.2.2.2.1, P.2.2.2.2.2.1, (if mb = true then P.2.2.2.2.2.2.1 + 1 else P.2.2.2.2.2.2.1), P.2.2.2.2.2.2.2) = r48
      have b1 : PG r48.2 := by rw [← hr48]; exact (PG.take hm1).1
      have hF : takeNumbersF P = firF mb r48 := by unfold takeNumbersF; rw [← hmb]; exact congrArg (firF mb) hr48
      refine V_ifB_ne (tgt := 56) ok dX1_takeNumbers_51 (by decide) (fun h51 => ?_) (fun h51 => ?_)
      · have hF2 : takeNumbersF P = restF (setFst r48.2 (if mb = true then -r48.2.2.2.2.2.2.2.2 else r48.2.2.2.2.2.2.2.2)) := by rw [hF]; exact if_pos h51
        refine V_aload_n ok dX1_takeNumbers_56 rfl 1 rfl ?_
        refine V_iload_n ok dX1_takeNumbers_57 rfl 0 rfl ?_
        have J58 : V g Γ 2 0 0 73 (pageW g a (r48.2.1, r48.2.2.1, r48.2.2.2.1, r48.2.2.2.2.1, r48.2.2.2.2.2.1, r48.2.2.2.2.2.2.1, r48.2.2.2.2.2.2.2.1, r48.2.2.2.2.2.2.2.2)) [(1, .int (bI mb)), (0, .ref (a 0))] [.int (if mb = true then -r48.2.2.2.2.2.2.2.2 else r48.2.2.2.2.2.2.2.2), .ref (a 0)] := by
          refine V_put (w2 := pageW g a (r48.2.1, r48.2.2.1, r48.2.2.2.1, r48.2.2.2.2.1, (if mb = true then -r48.2.2.2.2.2.2.2.2 else r48.2.2.2.2.2.2.2.2), r48.2.2.2.2.2.2.1, r48.2.2.2.2.2.2.2.1, r48.2.2.2.2.2.2.2.2)) ok 0 4 tw_X1 tyX1 tyX1_ok nmX1 twf_X1_25 rfl rfl (by decide) rfl rfl dX1_takeNumbers_73 rfl rfl rfl (Nat.lt_of_lt_of_eq (m := 8) (by decide) rfl) rfl ?_
          refine V_aload_n ok dX1_takeNumbers_76 rfl 1 rfl ?_
          refine V_get (v := .int r48.2.2.2.2.1) ok 0 3 tw_X1 twf_X1_22 rfl rfl (by decide) dX1_takeNumbers_77 rfl rfl ?_
          refine V_bipush (v := nI 119) ok dX1_takeNumbers_80 rfl ?_
          refine V_icmp_ne (tgt := 117) ok dX1_takeNumbers_82 (by decide) (fun h82 => ?_) (fun h82 => ?_)
          · refine V_aload_n ok dX1_takeNumbers_117 rfl 1 rfl ?_
            refine V_cV (v2 := none) (wn := pageW g a ((skipF (r48.2.1, r48.2.2.1, r48.2.2.2.1, r48.2.2.2.2.1, (if mb = true then -r48.2.2.2.2.2.2.2.2 else r48.2.2.2.2.2.2.2.2), r48.2.2.2.2.2.2.1, r48.2.2.2.2.2.2.2.1, r48.2.2.2.2.2.2.2.2)).1, (skipF (r48.2.1, r48.2.2.1, r48.2.2.2.1, r48.2.2.2.2.1, (if mb = true then -r48.2.2.2.2.2.2.2.2 else r48.2.2.2.2.2.2.2.2), r48.2.2.2.2.2.2.1, r48.2.2.2.2.2.2.2.1, r48.2.2.2.2.2.2.2.2)).2.1, (skipF (r48.2.1, r48.2.2.1, r48.2.2.2.1, r48.2.2.2.2.1, (if mb = true then -r48.2.2.2.2.2.2.2.2 else r48.2.2.2.2.2.2.2.2), r48.2.2.2.2.2.2.1, r48.2.2.2.2.2.2.2.1, r48.2.2.2.2.2.2.2.2)).2.2.1, (skipF (r48.2.1, r48.2.2.1, r48.2.2.2.1, r48.2.2.2.2.1, (if mb = true then -r48.2.2.2.2.2.2.2.2 else r48.2.2.2.2.2.2.2.2), r48.2.2.2.2.2.2.1, r48.2.2.2.2.2.2.2.1, r48.2.2.2.2.2.2.2.2)).2.2.2.1, (skipF (r48.2.1, r48.2.2.1, r48.2.2.2.1, r48.2.2.2.2.1, (if mb = true then -r48.2.2.2.2.2.2.2.2 else r48.2.2.2.2.2.2.2.2), r48.2.2.2.2.2.2.1, r48.2.2.2.2.2.2.2.1, r48.2.2.2.2.2.2.2.2)).2.2.2.2.1, (skipF (r48.2.1, r48.2.2.1, r48.2.2.2.1, r48.2.2.2.2.1, (if mb = true then -r48.2.2.2.2.2.2.2.2 else r48.2.2.2.2.2.2.2.2), r48.2.2.2.2.2.2.1, r48.2.2.2.2.2.2.2.1, r48.2.2.2.2.2.2.2.2)).2.2.2.2.2.1, (skipF (r48.2.1, r48.2.2.1, r48.2.2.2.1, r48.2.2.2.2.1, (if mb = true then -r48.2.2.2.2.2.2.2.2 else r48.2.2.2.2.2.2.2.2), r48.2.2.2.2.2.2.1, r48.2.2.2.2.2.2.2.1, r48.2.2.2.2.2.2.2.2)).2.2.2.2.2.2.1, (skipF (r48.2.1, r48.2.2.1, r48.2.2.2.1, r48.2.2.2.2.1, (if mb = true then -r48.2.2.2.2.2.2.2.2 else r48.2.2.2.2.2.2.2.2), r48.2.2.2.2.2.2.1, r48.2.2.2.2.2.2.2.1, r48.2.2.2.2.2.2.2.2)).2.2.2.2.2.2.2)) (rest := []) ok 0 1 (c_X1_skipBlanks g a (r48.2.1, r48.2.2.1, r48.2.2.2.1, r48.2.2.2.2.1, (if mb = true then -r48.2.2.2.2.2.2.2.2 else r48.2.2.2.2.2.2.2.2), r48.2.2.2.2.2.2.1, r48.2.2.2.2.2.2.2.1, r48.2.2.2.2.2.2.2.2) b1) 0 twm_X1_46 twi_yX1_skipBlanks twv_yX1_skipBlanks twin_X1 twc_yX1_skipBlanks yok_X1_skipBlanks (by decide) ⟨rfl, rfl⟩ dX1_takeNumbers_118 rfl rfl rfl rfl (Nat.le_of_ble_eq_true rfl) ⟨Nat.zero_le _, Nat.zero_le _⟩ [0, 1] rfl rfl (Nat.le_of_ble_eq_true rfl) rfl ?_
            generalize hr118 : skipF (r48.2.1, r48.2.2.1, r48.2.2.2.1, r48.2.2.2.2.1, (if mb = true then -r48.2.2.2.2.2.2.2.2 else r48.2.2.2.2.2.2.2.2), r48.2.2.2.2.2.2.1, r48.2.2.2.2.2.2.2.1, r48.2.2.2.2.2.2.2.2) = r118
            refine V_iconst (v := nI 1) ok dX1_takeNumbers_121 rfl ?_
            exact V_zret ok dX1_takeNumbers_122 (Nat.zero_le _) (Nat.zero_le _) rfl ⟨bI_t (by rw [hF2, show restF (setFst r48.2 (if mb = true then -r48.2.2.2.2.2.2.2.2 else r48.2.2.2.2.2.2.2.2)) = (true, skipF (setFst r48.2 (if mb = true then -r48.2.2.2.2.2.2.2.2 else r48.2.2.2.2.2.2.2.2))) from if_neg h82]), by rw [hF2, show restF (setFst r48.2 (if mb = true then -r48.2.2.2.2.2.2.2.2 else r48.2.2.2.2.2.2.2.2)) = (true, skipF (setFst r48.2 (if mb = true then -r48.2.2.2.2.2.2.2.2 else r48.2.2.2.2.2.2.2.2))) from if_neg h82]; exact congrArg (pageW g a) hr118.symm⟩
          · refine V_aload_n ok dX1_takeNumbers_85 rfl 1 rfl ?_
            refine V_cV (v2 := some (.int (hereP r48.2.1 r48.2.2.1 r48.2.2.2.2.2.2.2.1))) (wn := pageW g a (r48.2.1, r48.2.2.1, r48.2.2.2.1, r48.2.2.2.2.1, (if mb = true then -r48.2.2.2.2.2.2.2.2 else r48.2.2.2.2.2.2.2.2), r48.2.2.2.2.2.2.1, r48.2.2.2.2.2.2.2.1, r48.2.2.2.2.2.2.2.2)) (rest := []) ok 0 1 (c_X1_byteHere g a (r48.2.1, r48.2.2.1, r48.2.2.2.1, r48.2.2.2.2.1, (if mb = true then -r48.2.2.2.2.2.2.2.2 else r48.2.2.2.2.2.2.2.2), r48.2.2.2.2.2.2.1, r48.2.2.2.2.2.2.2.1, r48.2.2.2.2.2.2.2.2) b1) 0 twm_X1_49 twi_yX1_byteHere twv_yX1_byteHere twin_X1 twc_yX1_byteHere yok_X1_byteHere (by decide) ⟨rfl, rfl⟩ dX1_takeNumbers_86 rfl rfl rfl rfl (Nat.le_of_ble_eq_true rfl) ⟨Nat.zero_le _, Nat.zero_le _⟩ [0, 1] rfl rfl (Nat.le_of_ble_eq_true rfl) rfl ?_
            refine V_bipush (v := nI 32) ok dX1_takeNumbers_89 rfl ?_
            refine V_icmp_eq (tgt := 96) ok dX1_takeNumbers_91 (by decide) (fun h91 => ?_) (fun h91 => ?_)
            · refine V_aload_n ok dX1_takeNumbers_96 rfl 1 rfl ?_
              refine V_cV (v2 := none) (wn := pageW g a ((skipF (r48.2.1, r48.2.2.1, r48.2.2.2.1, r48.2.2.2.2.1, (if mb = true then -r48.2.2.2.2.2.2.2.2 else r48.2.2.2.2.2.2.2.2), r48.2.2.2.2.2.2.1, r48.2.2.2.2.2.2.2.1, r48.2.2.2.2.2.2.2.2)).1, (skipF (r48.2.1, r48.2.2.1, r48.2.2.2.1, r48.2.2.2.2.1, (if mb = true then -r48.2.2.2.2.2.2.2.2 else r48.2.2.2.2.2.2.2.2), r48.2.2.2.2.2.2.1, r48.2.2.2.2.2.2.2.1, r48.2.2.2.2.2.2.2.2)).2.1, (skipF (r48.2.1, r48.2.2.1, r48.2.2.2.1, r48.2.2.2.2.1, (if mb = true then -r48.2.2.2.2.2.2.2.2 else r48.2.2.2.2.2.2.2.2), r48.2.2.2.2.2.2.1, r48.2.2.2.2.2.2.2.1, r48.2.2.2.2.2.2.2.2)).2.2.1, (skipF (r48.2.1, r48.2.2.1, r48.2.2.2.1, r48.2.2.2.2.1, (if mb = true then -r48.2.2.2.2.2.2.2.2 else r48.2.2.2.2.2.2.2.2), r48.2.2.2.2.2.2.1, r48.2.2.2.2.2.2.2.1, r48.2.2.2.2.2.2.2.2)).2.2.2.1, (skipF (r48.2.1, r48.2.2.1, r48.2.2.2.1, r48.2.2.2.2.1, (if mb = true then -r48.2.2.2.2.2.2.2.2 else r48.2.2.2.2.2.2.2.2), r48.2.2.2.2.2.2.1, r48.2.2.2.2.2.2.2.1, r48.2.2.2.2.2.2.2.2)).2.2.2.2.1, (skipF (r48.2.1, r48.2.2.1, r48.2.2.2.1, r48.2.2.2.2.1, (if mb = true then -r48.2.2.2.2.2.2.2.2 else r48.2.2.2.2.2.2.2.2), r48.2.2.2.2.2.2.1, r48.2.2.2.2.2.2.2.1, r48.2.2.2.2.2.2.2.2)).2.2.2.2.2.1, (skipF (r48.2.1, r48.2.2.1, r48.2.2.2.1, r48.2.2.2.2.1, (if mb = true then -r48.2.2.2.2.2.2.2.2 else r48.2.2.2.2.2.2.2.2), r48.2.2.2.2.2.2.1, r48.2.2.2.2.2.2.2.1, r48.2.2.2.2.2.2.2.2)).2.2.2.2.2.2.1, (skipF (r48.2.1, r48.2.2.1, r48.2.2.2.1, r48.2.2.2.2.1, (if mb = true then -r48.2.2.2.2.2.2.2.2 else r48.2.2.2.2.2.2.2.2), r48.2.2.2.2.2.2.1, r48.2.2.2.2.2.2.2.1, r48.2.2.2.2.2.2.2.2)).2.2.2.2.2.2.2)) (rest := []) ok 0 1 (c_X1_skipBlanks g a (r48.2.1, r48.2.2.1, r48.2.2.2.1, r48.2.2.2.2.1, (if mb = true then -r48.2.2.2.2.2.2.2.2 else r48.2.2.2.2.2.2.2.2), r48.2.2.2.2.2.2.1, r48.2.2.2.2.2.2.2.1, r48.2.2.2.2.2.2.2.2) b1) 0 twm_X1_46 twi_yX1_skipBlanks twv_yX1_skipBlanks twin_X1 twc_yX1_skipBlanks yok_X1_skipBlanks (by decide) ⟨rfl, rfl⟩ dX1_takeNumbers_97 rfl rfl rfl rfl (Nat.le_of_ble_eq_true rfl) ⟨Nat.zero_le _, Nat.zero_le _⟩ [0, 1] rfl rfl (Nat.le_of_ble_eq_true rfl) rfl ?_
              generalize hr97 : skipF (r48.2.1, r48.2.2.1, r48.2.2.2.1, r48.2.2.2.2.1, (if mb = true then -r48.2.2.2.2.2.2.2.2 else r48.2.2.2.2.2.2.2.2), r48.2.2.2.2.2.2.1, r48.2.2.2.2.2.2.2.1, r48.2.2.2.2.2.2.2.2) = r97
              have s1 : PG r97 := by rw [← hr97]; exact (PG.skip (P := (setFst r48.2 (if mb = true then -r48.2.2.2.2.2.2.2.2 else r48.2.2.2.2.2.2.2.2))) b1).1
              have hF3 : takeNumbersF P = secF (takeNumberF r97) := by rw [hF2, ← hr97]; unfold restF; rw [if_pos (show pLet (setFst r48.2 (if mb = true then -r48.2.2.2.2.2.2.2.2 else r48.2.2.2.2.2.2.2.2)) = nI 119 from h82), if_pos (show pHere (setFst r48.2 (if mb = true then -r48.2.2.2.2.2.2.2.2 else r48.2.2.2.2.2.2.2.2)) = nI 32 from h91)]; rfl
              refine V_aload_n ok dX1_takeNumbers_100 rfl 1 rfl ?_
              refine V_cV (v2 := some (.int (bI ((takeNumberF (r97.1, r97.2.1, r97.2.2.1, r97.2.2.2.1, r97.2.2.2.2.1, r97.2.2.2.2.2.1, r97.2.2.2.2.2.2.1, r97.2.2.2.2.2.2.2)).1)))) (wn := pageW g a ((takeNumberF (r97.1, r97.2.1, r97.2.2.1, r97.2.2.2.1, r97.2.2.2.2.1, r97.2.2.2.2.2.1, r97.2.2.2.2.2.2.1, r97.2.2.2.2.2.2.2)).2.1, (takeNumberF (r97.1, r97.2.1, r97.2.2.1, r97.2.2.2.1, r97.2.2.2.2.1, r97.2.2.2.2.2.1, r97.2.2.2.2.2.2.1, r97.2.2.2.2.2.2.2)).2.2.1, (takeNumberF (r97.1, r97.2.1, r97.2.2.1, r97.2.2.2.1, r97.2.2.2.2.1, r97.2.2.2.2.2.1, r97.2.2.2.2.2.2.1, r97.2.2.2.2.2.2.2)).2.2.2.1, (takeNumberF (r97.1, r97.2.1, r97.2.2.1, r97.2.2.2.1, r97.2.2.2.2.1, r97.2.2.2.2.2.1, r97.2.2.2.2.2.2.1, r97.2.2.2.2.2.2.2)).2.2.2.2.1, (takeNumberF (r97.1, r97.2.1, r97.2.2.1, r97.2.2.2.1, r97.2.2.2.2.1, r97.2.2.2.2.2.1, r97.2.2.2.2.2.2.1, r97.2.2.2.2.2.2.2)).2.2.2.2.2.1, (takeNumberF (r97.1, r97.2.1, r97.2.2.1, r97.2.2.2.1, r97.2.2.2.2.1, r97.2.2.2.2.2.1, r97.2.2.2.2.2.2.1, r97.2.2.2.2.2.2.2)).2.2.2.2.2.2.1, (takeNumberF (r97.1, r97.2.1, r97.2.2.1, r97.2.2.2.1, r97.2.2.2.2.1, r97.2.2.2.2.2.1, r97.2.2.2.2.2.2.1, r97.2.2.2.2.2.2.2)).2.2.2.2.2.2.2.1, (takeNumberF (r97.1, r97.2.1, r97.2.2.1, r97.2.2.2.1, r97.2.2.2.2.1, r97.2.2.2.2.2.1, r97.2.2.2.2.2.2.1, r97.2.2.2.2.2.2.2)).2.2.2.2.2.2.2.2)) (rest := []) ok 0 1 (c_X1_takeNumber g a (r97.1, r97.2.1, r97.2.2.1, r97.2.2.2.1, r97.2.2.2.2.1, r97.2.2.2.2.2.1, r97.2.2.2.2.2.2.1, r97.2.2.2.2.2.2.2) s1) 0 twm_X1_60 twi_yX1_takeNumber twv_yX1_takeNumber twin_X1 twc_yX1_takeNumber yok_X1_takeNumber (by decide) ⟨rfl, rfl⟩ dX1_takeNumbers_101 rfl rfl rfl rfl (Nat.le_of_ble_eq_true rfl) ⟨Nat.zero_le _, Nat.zero_le _⟩ [0, 1] rfl rfl (Nat.le_of_ble_eq_true rfl) rfl ?_
              generalize hr101 : takeNumberF (r97.1, r97.2.1, r97.2.2.1, r97.2.2.2.1, r97.2.2.2.2.1, r97.2.2.2.2.2.1, r97.2.2.2.2.2.2.1, r97.2.2.2.2.2.2.2) = r101
              have b4 : PG r101.2 := by rw [← hr101]; exact (PG.take s1).1
              have hF4 : takeNumbersF P = secF r101 := by rw [hF3]; exact congrArg secF hr101
              refine V_ifB_ne (tgt := 109) ok dX1_takeNumbers_104 (by decide) (fun h104 => ?_) (fun h104 => ?_)
              · refine V_aload_n ok dX1_takeNumbers_109 rfl 1 rfl ?_
                refine V_aload_n ok dX1_takeNumbers_110 rfl 1 rfl ?_
                refine V_get (v := .int r101.2.2.2.2.2.2.2.2) ok 0 7 tw_X1 twf_X1_34 rfl rfl (by decide) dX1_takeNumbers_111 rfl rfl ?_
                refine V_put (w2 := pageW g a (r101.2.1, r101.2.2.1, r101.2.2.2.1, r101.2.2.2.2.1, r101.2.2.2.2.2.1, r101.2.2.2.2.2.2.2.2, r101.2.2.2.2.2.2.2.1, r101.2.2.2.2.2.2.2.2)) ok 0 5 tw_X1 tyX1 tyX1_ok nmX1 twf_X1_28 rfl rfl (by decide) rfl rfl dX1_takeNumbers_114 rfl rfl rfl (Nat.lt_of_lt_of_eq (m := 8) (by decide) rfl) rfl ?_
                refine V_aload_n ok dX1_takeNumbers_117 rfl 1 rfl ?_
                refine V_cV (v2 := none) (wn := pageW g a ((skipF (r101.2.1, r101.2.2.1, r101.2.2.2.1, r101.2.2.2.2.1, r101.2.2.2.2.2.1, r101.2.2.2.2.2.2.2.2, r101.2.2.2.2.2.2.2.1, r101.2.2.2.2.2.2.2.2)).1, (skipF (r101.2.1, r101.2.2.1, r101.2.2.2.1, r101.2.2.2.2.1, r101.2.2.2.2.2.1, r101.2.2.2.2.2.2.2.2, r101.2.2.2.2.2.2.2.1, r101.2.2.2.2.2.2.2.2)).2.1, (skipF (r101.2.1, r101.2.2.1, r101.2.2.2.1, r101.2.2.2.2.1, r101.2.2.2.2.2.1, r101.2.2.2.2.2.2.2.2, r101.2.2.2.2.2.2.2.1, r101.2.2.2.2.2.2.2.2)).2.2.1, (skipF (r101.2.1, r101.2.2.1, r101.2.2.2.1, r101.2.2.2.2.1, r101.2.2.2.2.2.1, r101.2.2.2.2.2.2.2.2, r101.2.2.2.2.2.2.2.1, r101.2.2.2.2.2.2.2.2)).2.2.2.1, (skipF (r101.2.1, r101.2.2.1, r101.2.2.2.1, r101.2.2.2.2.1, r101.2.2.2.2.2.1, r101.2.2.2.2.2.2.2.2, r101.2.2.2.2.2.2.2.1, r101.2.2.2.2.2.2.2.2)).2.2.2.2.1, (skipF (r101.2.1, r101.2.2.1, r101.2.2.2.1, r101.2.2.2.2.1, r101.2.2.2.2.2.1, r101.2.2.2.2.2.2.2.2, r101.2.2.2.2.2.2.2.1, r101.2.2.2.2.2.2.2.2)).2.2.2.2.2.1, (skipF (r101.2.1, r101.2.2.1, r101.2.2.2.1, r101.2.2.2.2.1, r101.2.2.2.2.2.1, r101.2.2.2.2.2.2.2.2, r101.2.2.2.2.2.2.2.1, r101.2.2.2.2.2.2.2.2)).2.2.2.2.2.2.1, (skipF (r101.2.1, r101.2.2.1, r101.2.2.2.1, r101.2.2.2.2.1, r101.2.2.2.2.2.1, r101.2.2.2.2.2.2.2.2, r101.2.2.2.2.2.2.2.1, r101.2.2.2.2.2.2.2.2)).2.2.2.2.2.2.2)) (rest := []) ok 0 1 (c_X1_skipBlanks g a (r101.2.1, r101.2.2.1, r101.2.2.2.1, r101.2.2.2.2.1, r101.2.2.2.2.2.1, r101.2.2.2.2.2.2.2.2, r101.2.2.2.2.2.2.2.1, r101.2.2.2.2.2.2.2.2) b4) 0 twm_X1_46 twi_yX1_skipBlanks twv_yX1_skipBlanks twin_X1 twc_yX1_skipBlanks yok_X1_skipBlanks (by decide) ⟨rfl, rfl⟩ dX1_takeNumbers_118 rfl rfl rfl rfl (Nat.le_of_ble_eq_true rfl) ⟨Nat.zero_le _, Nat.zero_le _⟩ [0, 1] rfl rfl (Nat.le_of_ble_eq_true rfl) rfl ?_
                generalize hr118 : skipF (r101.2.1, r101.2.2.1, r101.2.2.2.1, r101.2.2.2.2.1, r101.2.2.2.2.2.1, r101.2.2.2.2.2.2.2.2, r101.2.2.2.2.2.2.2.1, r101.2.2.2.2.2.2.2.2) = r118
                refine V_iconst (v := nI 1) ok dX1_takeNumbers_121 rfl ?_
                exact V_zret ok dX1_takeNumbers_122 (Nat.zero_le _) (Nat.zero_le _) rfl ⟨bI_t (by rw [hF4, show secF r101 = (true, skipF (setSnd r101.2 (pNum r101.2))) from if_pos h104]), by rw [hF4, show secF r101 = (true, skipF (setSnd r101.2 (pNum r101.2))) from if_pos h104]; exact congrArg (pageW g a) hr118.symm⟩
              · refine V_iconst (v := nI 0) ok dX1_takeNumbers_107 rfl ?_
                exact V_zret ok dX1_takeNumbers_108 (Nat.zero_le _) (Nat.zero_le _) rfl ⟨bI_f (by rw [hF4, show secF r101 = (false, r101.2) from if_neg h104]), by rw [hF4, show secF r101 = (false, r101.2) from if_neg h104] <;> rfl⟩
            · refine V_iconst (v := nI 0) ok dX1_takeNumbers_94 rfl ?_
              have e95 : restF (setFst r48.2 (if mb = true then -r48.2.2.2.2.2.2.2.2 else r48.2.2.2.2.2.2.2.2)) = (false, (setFst r48.2 (if mb = true then -r48.2.2.2.2.2.2.2.2 else r48.2.2.2.2.2.2.2.2))) := by unfold restF; rw [if_pos (show pLet (setFst r48.2 (if mb = true then -r48.2.2.2.2.2.2.2.2 else r48.2.2.2.2.2.2.2.2)) = nI 119 from h82), if_neg (show ¬ pHere (setFst r48.2 (if mb = true then -r48.2.2.2.2.2.2.2.2 else r48.2.2.2.2.2.2.2.2)) = nI 32 from h91)]
              exact V_zret ok dX1_takeNumbers_95 (Nat.zero_le _) (Nat.zero_le _) rfl ⟨bI_f (by rw [hF2, e95]), by rw [hF2, e95] <;> rfl⟩
        refine V_ifB_eq (tgt := 69) ok dX1_takeNumbers_58 (by decide) (fun h58 => ?_) (fun h58 => ?_)
        · refine V_aload_n ok dX1_takeNumbers_69 rfl 1 rfl ?_
          refine V_get (v := .int r48.2.2.2.2.2.2.2.2) ok 0 7 tw_X1 twf_X1_34 rfl rfl (by decide) dX1_takeNumbers_70 rfl rfl ?_
          simp only [if_neg h58] at J58
          exact J58
        · refine V_aload_n ok dX1_takeNumbers_61 rfl 1 rfl ?_
          refine V_get (v := .int r48.2.2.2.2.2.2.2.2) ok 0 7 tw_X1 twf_X1_34 rfl rfl (by decide) dX1_takeNumbers_62 rfl rfl ?_
          refine V_ineg ok dX1_takeNumbers_65 ?_
          refine V_goto (tgt := 73) ok dX1_takeNumbers_66 (by decide) ?_
          simp only [if_pos h58] at J58
          exact J58
      · refine V_iconst (v := nI 0) ok dX1_takeNumbers_54 rfl ?_
        exact V_zret ok dX1_takeNumbers_55 (Nat.zero_le _) (Nat.zero_le _) rfl ⟨bI_f (by rw [hF, show firF mb r48 = (false, r48.2) from if_neg h51]), by rw [hF, show firF mb r48 = (false, r48.2) from if_neg h51] <;> rfl⟩
    refine V_ifB_eq (tgt := 47) ok dX1_takeNumbers_34 (by decide) (fun h34 => ?_) (fun h34 => ?_)
    · simp only [if_neg h34] at J34
      exact J34
    · refine V_aload_n ok dX1_takeNumbers_37 rfl 1 rfl ?_
      refine V_dup ok dX1_takeNumbers_38 rfl ?_
      refine V_get (v := .int (nI P.2.2.2.2.2.2.1)) ok 0 6 tw_X1 twf_X1_31 rfl rfl (by decide) dX1_takeNumbers_39 rfl rfl ?_
      refine V_iconst (v := nI 1) ok dX1_takeNumbers_42 rfl ?_
      refine V_iaddN (a := P.2.2.2.2.2.2.1) (b := 1) (c := P.2.2.2.2.2.2.1 + 1) ok dX1_takeNumbers_43 (by first | rfl | omega) ?_
      refine V_put (w2 := pageW g a (P.1, P.2.1, P.2.2.1, P.2.2.2.1, P.2.2.2.2.1, P.2.2.2.2.2.1, P.2.2.2.2.2.2.1 + 1, P.2.2.2.2.2.2.2)) ok 0 6 tw_X1 tyX1 tyX1_ok nmX1 twf_X1_31 rfl rfl (by decide) rfl rfl dX1_takeNumbers_44 rfl rfl rfl (Nat.lt_of_lt_of_eq (m := 8) (by decide) rfl) rfl ?_
      simp only [if_pos h34] at J34
      exact J34
  refine V_aload_n ok dX1_takeNumbers_0 rfl 0 rfl ?_
  refine V_get (v := .int P.2.2.2.1) ok 0 3 tw_X1 twf_X1_22 rfl rfl (by decide) dX1_takeNumbers_1 rfl rfl ?_
  refine V_bipush (v := nI 104) ok dX1_takeNumbers_4 rfl ?_
  refine V_icmp_eq (tgt := 18) ok dX1_takeNumbers_6 (by decide) (fun h6 => ?_) (fun h6 => ?_)
  · refine V_aload_n ok dX1_takeNumbers_18 rfl 0 rfl ?_
    refine V_cV (v2 := some (.int (hereP P.1 P.2.1 P.2.2.2.2.2.2.1))) (wn := pageW g a (P.1, P.2.1, P.2.2.1, P.2.2.2.1, P.2.2.2.2.1, P.2.2.2.2.2.1, P.2.2.2.2.2.2.1, P.2.2.2.2.2.2.2)) (rest := []) ok 0 1 (c_X1_byteHere g a (P.1, P.2.1, P.2.2.1, P.2.2.2.1, P.2.2.2.2.1, P.2.2.2.2.2.1, P.2.2.2.2.2.2.1, P.2.2.2.2.2.2.2) hP) 0 twm_X1_49 twi_yX1_byteHere twv_yX1_byteHere twin_X1 twc_yX1_byteHere yok_X1_byteHere (by decide) ⟨rfl, rfl⟩ dX1_takeNumbers_19 rfl rfl rfl rfl (Nat.le_of_ble_eq_true rfl) ⟨Nat.zero_le _, Nat.zero_le _⟩ [0, 1] rfl rfl (Nat.le_of_ble_eq_true rfl) rfl ?_
    refine V_bipush (v := nI 45) ok dX1_takeNumbers_22 rfl ?_
    refine V_icmp_ne (tgt := 31) ok dX1_takeNumbers_24 (by decide) (fun h24 => ?_) (fun h24 => ?_)
    · refine V_iconst (v := nI 0) ok dX1_takeNumbers_31 rfl ?_
      refine V_istore_n (lv2 := [(1, .int (nI 0)), (0, .ref (a 0))]) ok dX1_takeNumbers_32 rfl (by decide) rfl ?_
      exact K false (by unfold minusB; simp only [pLet, pHere]; simp [*])
    · refine V_iconst (v := nI 1) ok dX1_takeNumbers_27 rfl ?_
      refine V_goto (tgt := 32) ok dX1_takeNumbers_28 (by decide) ?_
      refine V_istore_n (lv2 := [(1, .int (nI 1)), (0, .ref (a 0))]) ok dX1_takeNumbers_32 rfl (by decide) rfl ?_
      exact K true (by unfold minusB; simp only [pLet, pHere]; simp [*])
  · refine V_aload_n ok dX1_takeNumbers_9 rfl 0 rfl ?_
    refine V_get (v := .int P.2.2.2.1) ok 0 3 tw_X1 twf_X1_22 rfl rfl (by decide) dX1_takeNumbers_10 rfl rfl ?_
    refine V_bipush (v := nI 113) ok dX1_takeNumbers_13 rfl ?_
    refine V_icmp_ne (tgt := 31) ok dX1_takeNumbers_15 (by decide) (fun h15 => ?_) (fun h15 => ?_)
    · refine V_iconst (v := nI 0) ok dX1_takeNumbers_31 rfl ?_
      refine V_istore_n (lv2 := [(1, .int (nI 0)), (0, .ref (a 0))]) ok dX1_takeNumbers_32 rfl (by decide) rfl ?_
      exact K false (by unfold minusB; simp only [pLet, pHere]; simp [*])
    · refine V_aload_n ok dX1_takeNumbers_18 rfl 0 rfl ?_
      refine V_cV (v2 := some (.int (hereP P.1 P.2.1 P.2.2.2.2.2.2.1))) (wn := pageW g a (P.1, P.2.1, P.2.2.1, P.2.2.2.1, P.2.2.2.2.1, P.2.2.2.2.2.1, P.2.2.2.2.2.2.1, P.2.2.2.2.2.2.2)) (rest := []) ok 0 1 (c_X1_byteHere g a (P.1, P.2.1, P.2.2.1, P.2.2.2.1, P.2.2.2.2.1, P.2.2.2.2.2.1, P.2.2.2.2.2.2.1, P.2.2.2.2.2.2.2) hP) 0 twm_X1_49 twi_yX1_byteHere twv_yX1_byteHere twin_X1 twc_yX1_byteHere yok_X1_byteHere (by decide) ⟨rfl, rfl⟩ dX1_takeNumbers_19 rfl rfl rfl rfl (Nat.le_of_ble_eq_true rfl) ⟨Nat.zero_le _, Nat.zero_le _⟩ [0, 1] rfl rfl (Nat.le_of_ble_eq_true rfl) rfl ?_
      refine V_bipush (v := nI 45) ok dX1_takeNumbers_22 rfl ?_
      refine V_icmp_ne (tgt := 31) ok dX1_takeNumbers_24 (by decide) (fun h24 => ?_) (fun h24 => ?_)
      · refine V_iconst (v := nI 0) ok dX1_takeNumbers_31 rfl ?_
        refine V_istore_n (lv2 := [(1, .int (nI 0)), (0, .ref (a 0))]) ok dX1_takeNumbers_32 rfl (by decide) rfl ?_
        exact K false (by unfold minusB; simp only [pLet, pHere]; simp [*])
      · refine V_iconst (v := nI 1) ok dX1_takeNumbers_27 rfl ?_
        refine V_goto (tgt := 32) ok dX1_takeNumbers_28 (by decide) ?_
        refine V_istore_n (lv2 := [(1, .int (nI 1)), (0, .ref (a 0))]) ok dX1_takeNumbers_32 rfl (by decide) rfl ?_
        exact K true (by unfold minusB; simp only [pLet, pHere]; simp [*])
set_option maxHeartbeats 4000000 in
set_option maxRecDepth 100000 in
theorem c_X1_nextOrder (g : Glob) (a : Nat → Nat) (P : PageSt) (hP : PG P) : Con g yX1_nextOrder cX1_nextOrder 1 (some .boolean) ({ frames := 3, cells := 0, slots := 0, locals := 62 } : Room) [.ref (a 0)] (pageW g a P) (Is (some (.int (bI (nextOrderF P).1))) (pageW g a (nextOrderF P).2)) := by
  refine con_of_V ypl_X1_nextOrder (Nat.le_of_ble_eq_true rfl) [(0, .ref (a 0))] rfl (fun Γ ok => ?_)
  have K : ∀ Q : PageSt, PG (setPl Q (pPl Q + 1)) → nextOrderF P = orderF Q → V g Γ 1 0 0 43 (pageW g a (Q.1, Q.2.1, Q.2.2.1, Q.2.2.2.1, Q.2.2.2.2.1, Q.2.2.2.2.2.1, Q.2.2.2.2.2.2.1, Q.2.2.2.2.2.2.2)) [(0, .ref (a 0))] [] := by
    intro Q hQ1 hN
    refine V_aload_n ok dX1_nextOrder_43 rfl 0 rfl ?_
    refine V_dup ok dX1_nextOrder_44 rfl ?_
    refine V_get (v := .int (nI Q.2.2.2.2.2.2.1)) ok 0 6 tw_X1 twf_X1_31 rfl rfl (by decide) dX1_nextOrder_45 rfl rfl ?_
    refine V_iconst (v := nI 1) ok dX1_nextOrder_48 rfl ?_
    refine V_iaddN (a := Q.2.2.2.2.2.2.1) (b := 1) (c := Q.2.2.2.2.2.2.1 + 1) ok dX1_nextOrder_49 (by first | rfl | omega) ?_
    refine V_put (w2 := pageW g a (Q.1, Q.2.1, Q.2.2.1, Q.2.2.2.1, Q.2.2.2.2.1, Q.2.2.2.2.2.1, Q.2.2.2.2.2.2.1 + 1, Q.2.2.2.2.2.2.2)) ok 0 6 tw_X1 tyX1 tyX1_ok nmX1 twf_X1_31 rfl rfl (by decide) rfl rfl dX1_nextOrder_50 rfl rfl rfl (Nat.lt_of_lt_of_eq (m := 8) (by decide) rfl) rfl ?_
    refine V_aload_n ok dX1_nextOrder_53 rfl 0 rfl ?_
    refine V_cV (v2 := none) (wn := pageW g a ((skipF (Q.1, Q.2.1, Q.2.2.1, Q.2.2.2.1, Q.2.2.2.2.1, Q.2.2.2.2.2.1, Q.2.2.2.2.2.2.1 + 1, Q.2.2.2.2.2.2.2)).1, (skipF (Q.1, Q.2.1, Q.2.2.1, Q.2.2.2.1, Q.2.2.2.2.1, Q.2.2.2.2.2.1, Q.2.2.2.2.2.2.1 + 1, Q.2.2.2.2.2.2.2)).2.1, (skipF (Q.1, Q.2.1, Q.2.2.1, Q.2.2.2.1, Q.2.2.2.2.1, Q.2.2.2.2.2.1, Q.2.2.2.2.2.2.1 + 1, Q.2.2.2.2.2.2.2)).2.2.1, (skipF (Q.1, Q.2.1, Q.2.2.1, Q.2.2.2.1, Q.2.2.2.2.1, Q.2.2.2.2.2.1, Q.2.2.2.2.2.2.1 + 1, Q.2.2.2.2.2.2.2)).2.2.2.1, (skipF (Q.1, Q.2.1, Q.2.2.1, Q.2.2.2.1, Q.2.2.2.2.1, Q.2.2.2.2.2.1, Q.2.2.2.2.2.2.1 + 1, Q.2.2.2.2.2.2.2)).2.2.2.2.1, (skipF (Q.1, Q.2.1, Q.2.2.1, Q.2.2.2.1, Q.2.2.2.2.1, Q.2.2.2.2.2.1, Q.2.2.2.2.2.2.1 + 1, Q.2.2.2.2.2.2.2)).2.2.2.2.2.1, (skipF (Q.1, Q.2.1, Q.2.2.1, Q.2.2.2.1, Q.2.2.2.2.1, Q.2.2.2.2.2.1, Q.2.2.2.2.2.2.1 + 1, Q.2.2.2.2.2.2.2)).2.2.2.2.2.2.1, (skipF (Q.1, Q.2.1, Q.2.2.1, Q.2.2.2.1, Q.2.2.2.2.1, Q.2.2.2.2.2.1, Q.2.2.2.2.2.2.1 + 1, Q.2.2.2.2.2.2.2)).2.2.2.2.2.2.2)) (rest := []) ok 0 1 (c_X1_skipBlanks g a (Q.1, Q.2.1, Q.2.2.1, Q.2.2.2.1, Q.2.2.2.2.1, Q.2.2.2.2.2.1, Q.2.2.2.2.2.2.1 + 1, Q.2.2.2.2.2.2.2) hQ1) 0 twm_X1_46 twi_yX1_skipBlanks twv_yX1_skipBlanks twin_X1 twc_yX1_skipBlanks yok_X1_skipBlanks (by decide) ⟨rfl, rfl⟩ dX1_nextOrder_54 rfl rfl rfl rfl (Nat.le_of_ble_eq_true rfl) ⟨Nat.zero_le _, Nat.zero_le _⟩ [0, 1] rfl rfl (Nat.le_of_ble_eq_true rfl) rfl ?_
    generalize hr54 : skipF (Q.1, Q.2.1, Q.2.2.1, Q.2.2.2.1, Q.2.2.2.2.1, Q.2.2.2.2.2.1, Q.2.2.2.2.2.2.1 + 1, Q.2.2.2.2.2.2.2) = r54
    have s1 : PG r54 := by rw [← hr54]; exact (PG.skip (P := setPl Q (pPl Q + 1)) hQ1).1
    refine V_aload_n ok dX1_nextOrder_57 rfl 0 rfl ?_
    refine V_cV (v2 := some (.int (bI ((takeNumbersF (r54.1, r54.2.1, r54.2.2.1, r54.2.2.2.1, r54.2.2.2.2.1, r54.2.2.2.2.2.1, r54.2.2.2.2.2.2.1, r54.2.2.2.2.2.2.2)).1)))) (wn := pageW g a ((takeNumbersF (r54.1, r54.2.1, r54.2.2.1, r54.2.2.2.1, r54.2.2.2.2.1, r54.2.2.2.2.2.1, r54.2.2.2.2.2.2.1, r54.2.2.2.2.2.2.2)).2.1, (takeNumbersF (r54.1, r54.2.1, r54.2.2.1, r54.2.2.2.1, r54.2.2.2.2.1, r54.2.2.2.2.2.1, r54.2.2.2.2.2.2.1, r54.2.2.2.2.2.2.2)).2.2.1, (takeNumbersF (r54.1, r54.2.1, r54.2.2.1, r54.2.2.2.1, r54.2.2.2.2.1, r54.2.2.2.2.2.1, r54.2.2.2.2.2.2.1, r54.2.2.2.2.2.2.2)).2.2.2.1, (takeNumbersF (r54.1, r54.2.1, r54.2.2.1, r54.2.2.2.1, r54.2.2.2.2.1, r54.2.2.2.2.2.1, r54.2.2.2.2.2.2.1, r54.2.2.2.2.2.2.2)).2.2.2.2.1, (takeNumbersF (r54.1, r54.2.1, r54.2.2.1, r54.2.2.2.1, r54.2.2.2.2.1, r54.2.2.2.2.2.1, r54.2.2.2.2.2.2.1, r54.2.2.2.2.2.2.2)).2.2.2.2.2.1, (takeNumbersF (r54.1, r54.2.1, r54.2.2.1, r54.2.2.2.1, r54.2.2.2.2.1, r54.2.2.2.2.2.1, r54.2.2.2.2.2.2.1, r54.2.2.2.2.2.2.2)).2.2.2.2.2.2.1, (takeNumbersF (r54.1, r54.2.1, r54.2.2.1, r54.2.2.2.1, r54.2.2.2.2.1, r54.2.2.2.2.2.1, r54.2.2.2.2.2.2.1, r54.2.2.2.2.2.2.2)).2.2.2.2.2.2.2.1, (takeNumbersF (r54.1, r54.2.1, r54.2.2.1, r54.2.2.2.1, r54.2.2.2.2.1, r54.2.2.2.2.2.1, r54.2.2.2.2.2.2.1, r54.2.2.2.2.2.2.2)).2.2.2.2.2.2.2.2)) (rest := []) ok 0 1 (c_X1_takeNumbers g a (r54.1, r54.2.1, r54.2.2.1, r54.2.2.2.1, r54.2.2.2.2.1, r54.2.2.2.2.2.1, r54.2.2.2.2.2.2.1, r54.2.2.2.2.2.2.2) s1) 0 twm_X1_57 twi_yX1_takeNumbers twv_yX1_takeNumbers twin_X1 twc_yX1_takeNumbers yok_X1_takeNumbers (by decide) ⟨rfl, rfl⟩ dX1_nextOrder_58 rfl rfl rfl rfl (Nat.le_of_ble_eq_true rfl) ⟨Nat.zero_le _, Nat.zero_le _⟩ [0, 1] rfl rfl (Nat.le_of_ble_eq_true rfl) rfl ?_
    generalize hr58 : takeNumbersF (r54.1, r54.2.1, r54.2.2.1, r54.2.2.2.1, r54.2.2.2.2.1, r54.2.2.2.2.2.1, r54.2.2.2.2.2.2.1, r54.2.2.2.2.2.2.2) = r58
    have t1 : PG r58.2 := by rw [← hr58]; exact (PG.takes s1).1
    have hO : orderF Q = endF r58 := by unfold orderF; rw [← hr58, ← hr54]; rfl
    refine V_ifB_eq (tgt := 73) ok dX1_nextOrder_61 (by decide) (fun h61 => ?_) (fun h61 => ?_)
    · refine V_iconst (v := nI 0) ok dX1_nextOrder_73 rfl ?_
      exact V_zret ok dX1_nextOrder_74 (Nat.zero_le _) (Nat.zero_le _) rfl ⟨bI_f (by rw [hN, hO, show endF r58 = (false, r58.2) from if_neg h61]), by rw [hN, hO, show endF r58 = (false, r58.2) from if_neg h61] <;> rfl⟩
    · refine V_aload_n ok dX1_nextOrder_64 rfl 0 rfl ?_
      refine V_cV (v2 := some (.int (hereP r58.2.1 r58.2.2.1 r58.2.2.2.2.2.2.2.1))) (wn := pageW g a (r58.2.1, r58.2.2.1, r58.2.2.2.1, r58.2.2.2.2.1, r58.2.2.2.2.2.1, r58.2.2.2.2.2.2.1, r58.2.2.2.2.2.2.2.1, r58.2.2.2.2.2.2.2.2)) (rest := []) ok 0 1 (c_X1_byteHere g a (r58.2.1, r58.2.2.1, r58.2.2.2.1, r58.2.2.2.2.1, r58.2.2.2.2.2.1, r58.2.2.2.2.2.2.1, r58.2.2.2.2.2.2.2.1, r58.2.2.2.2.2.2.2.2) t1) 0 twm_X1_49 twi_yX1_byteHere twv_yX1_byteHere twin_X1 twc_yX1_byteHere yok_X1_byteHere (by decide) ⟨rfl, rfl⟩ dX1_nextOrder_65 rfl rfl rfl rfl (Nat.le_of_ble_eq_true rfl) ⟨Nat.zero_le _, Nat.zero_le _⟩ [0, 1] rfl rfl (Nat.le_of_ble_eq_true rfl) rfl ?_
      refine V_bipush (v := nI 59) ok dX1_nextOrder_68 rfl ?_
      refine V_icmp_eq (tgt := 75) ok dX1_nextOrder_70 (by decide) (fun h70 => ?_) (fun h70 => ?_)
      · refine V_aload_n ok dX1_nextOrder_75 rfl 0 rfl ?_
        refine V_dup ok dX1_nextOrder_76 rfl ?_
        refine V_get (v := .int (nI r58.2.2.2.2.2.2.2.1)) ok 0 6 tw_X1 twf_X1_31 rfl rfl (by decide) dX1_nextOrder_77 rfl rfl ?_
        refine V_iconst (v := nI 1) ok dX1_nextOrder_80 rfl ?_
        refine V_iaddN (a := r58.2.2.2.2.2.2.2.1) (b := 1) (c := r58.2.2.2.2.2.2.2.1 + 1) ok dX1_nextOrder_81 (by first | rfl | omega) ?_
        refine V_put (w2 := pageW g a (r58.2.1, r58.2.2.1, r58.2.2.2.1, r58.2.2.2.2.1, r58.2.2.2.2.2.1, r58.2.2.2.2.2.2.1, r58.2.2.2.2.2.2.2.1 + 1, r58.2.2.2.2.2.2.2.2)) ok 0 6 tw_X1 tyX1 tyX1_ok nmX1 twf_X1_31 rfl rfl (by decide) rfl rfl dX1_nextOrder_82 rfl rfl rfl (Nat.lt_of_lt_of_eq (m := 8) (by decide) rfl) rfl ?_
        refine V_aload_n ok dX1_nextOrder_85 rfl 0 rfl ?_
        refine V_cV (v2 := none) (wn := pageW g a ((skipF (r58.2.1, r58.2.2.1, r58.2.2.2.1, r58.2.2.2.2.1, r58.2.2.2.2.2.1, r58.2.2.2.2.2.2.1, r58.2.2.2.2.2.2.2.1 + 1, r58.2.2.2.2.2.2.2.2)).1, (skipF (r58.2.1, r58.2.2.1, r58.2.2.2.1, r58.2.2.2.2.1, r58.2.2.2.2.2.1, r58.2.2.2.2.2.2.1, r58.2.2.2.2.2.2.2.1 + 1, r58.2.2.2.2.2.2.2.2)).2.1, (skipF (r58.2.1, r58.2.2.1, r58.2.2.2.1, r58.2.2.2.2.1, r58.2.2.2.2.2.1, r58.2.2.2.2.2.2.1, r58.2.2.2.2.2.2.2.1 + 1, r58.2.2.2.2.2.2.2.2)).2.2.1, (skipF (r58.2.1, r58.2.2.1, r58.2.2.2.1, r58.2.2.2.2.1, r58.2.2.2.2.2.1, r58.2.2.2.2.2.2.1, r58.2.2.2.2.2.2.2.1 + 1, r58.2.2.2.2.2.2.2.2)).2.2.2.1, (skipF (r58.2.1, r58.2.2.1, r58.2.2.2.1, r58.2.2.2.2.1, r58.2.2.2.2.2.1, r58.2.2.2.2.2.2.1, r58.2.2.2.2.2.2.2.1 + 1, r58.2.2.2.2.2.2.2.2)).2.2.2.2.1, (skipF (r58.2.1, r58.2.2.1, r58.2.2.2.1, r58.2.2.2.2.1, r58.2.2.2.2.2.1, r58.2.2.2.2.2.2.1, r58.2.2.2.2.2.2.2.1 + 1, r58.2.2.2.2.2.2.2.2)).2.2.2.2.2.1, (skipF (r58.2.1, r58.2.2.1, r58.2.2.2.1, r58.2.2.2.2.1, r58.2.2.2.2.2.1, r58.2.2.2.2.2.2.1, r58.2.2.2.2.2.2.2.1 + 1, r58.2.2.2.2.2.2.2.2)).2.2.2.2.2.2.1, (skipF (r58.2.1, r58.2.2.1, r58.2.2.2.1, r58.2.2.2.2.1, r58.2.2.2.2.2.1, r58.2.2.2.2.2.2.1, r58.2.2.2.2.2.2.2.1 + 1, r58.2.2.2.2.2.2.2.2)).2.2.2.2.2.2.2)) (rest := []) ok 0 1 (c_X1_skipBlanks g a (r58.2.1, r58.2.2.1, r58.2.2.2.1, r58.2.2.2.2.1, r58.2.2.2.2.2.1, r58.2.2.2.2.2.2.1, r58.2.2.2.2.2.2.2.1 + 1, r58.2.2.2.2.2.2.2.2) ⟨t1.1, here_eq (tx := r58.2.1) (c := 59) (by decide) h70⟩) 0 twm_X1_46 twi_yX1_skipBlanks twv_yX1_skipBlanks twin_X1 twc_yX1_skipBlanks yok_X1_skipBlanks (by decide) ⟨rfl, rfl⟩ dX1_nextOrder_86 rfl rfl rfl rfl (Nat.le_of_ble_eq_true rfl) ⟨Nat.zero_le _, Nat.zero_le _⟩ [0, 1] rfl rfl (Nat.le_of_ble_eq_true rfl) rfl ?_
        generalize hr86 : skipF (r58.2.1, r58.2.2.1, r58.2.2.2.1, r58.2.2.2.2.1, r58.2.2.2.2.2.1, r58.2.2.2.2.2.2.1, r58.2.2.2.2.2.2.2.1 + 1, r58.2.2.2.2.2.2.2.2) = r86
        refine V_iconst (v := nI 1) ok dX1_nextOrder_89 rfl ?_
        have e90 : endF r58 = (true, skipF (setPl r58.2 (pPl r58.2 + 1))) := by unfold endF; rw [if_pos h61, if_pos h70]
        exact V_zret ok dX1_nextOrder_90 (Nat.zero_le _) (Nat.zero_le _) rfl ⟨bI_t (by rw [hN, hO, e90]), by rw [hN, hO, e90]; exact congrArg (pageW g a) hr86.symm⟩
      · have e74 : endF r58 = (false, r58.2) := by unfold endF; rw [if_pos h61, if_neg h70]
        refine V_iconst (v := nI 0) ok dX1_nextOrder_73 rfl ?_
        exact V_zret ok dX1_nextOrder_74 (Nat.zero_le _) (Nat.zero_le _) rfl ⟨bI_f (by rw [hN, hO, e74]), by rw [hN, hO, e74] <;> rfl⟩
  refine V_aload_n ok dX1_nextOrder_0 rfl 0 rfl ?_
  refine V_cV (v2 := none) (wn := pageW g a ((skipF (P.1, P.2.1, P.2.2.1, P.2.2.2.1, P.2.2.2.2.1, P.2.2.2.2.2.1, P.2.2.2.2.2.2.1, P.2.2.2.2.2.2.2)).1, (skipF (P.1, P.2.1, P.2.2.1, P.2.2.2.1, P.2.2.2.2.1, P.2.2.2.2.2.1, P.2.2.2.2.2.2.1, P.2.2.2.2.2.2.2)).2.1, (skipF (P.1, P.2.1, P.2.2.1, P.2.2.2.1, P.2.2.2.2.1, P.2.2.2.2.2.1, P.2.2.2.2.2.2.1, P.2.2.2.2.2.2.2)).2.2.1, (skipF (P.1, P.2.1, P.2.2.1, P.2.2.2.1, P.2.2.2.2.1, P.2.2.2.2.2.1, P.2.2.2.2.2.2.1, P.2.2.2.2.2.2.2)).2.2.2.1, (skipF (P.1, P.2.1, P.2.2.1, P.2.2.2.1, P.2.2.2.2.1, P.2.2.2.2.2.1, P.2.2.2.2.2.2.1, P.2.2.2.2.2.2.2)).2.2.2.2.1, (skipF (P.1, P.2.1, P.2.2.1, P.2.2.2.1, P.2.2.2.2.1, P.2.2.2.2.2.1, P.2.2.2.2.2.2.1, P.2.2.2.2.2.2.2)).2.2.2.2.2.1, (skipF (P.1, P.2.1, P.2.2.1, P.2.2.2.1, P.2.2.2.2.1, P.2.2.2.2.2.1, P.2.2.2.2.2.2.1, P.2.2.2.2.2.2.2)).2.2.2.2.2.2.1, (skipF (P.1, P.2.1, P.2.2.1, P.2.2.2.1, P.2.2.2.2.1, P.2.2.2.2.2.1, P.2.2.2.2.2.2.1, P.2.2.2.2.2.2.2)).2.2.2.2.2.2.2)) (rest := []) ok 0 1 (c_X1_skipBlanks g a (P.1, P.2.1, P.2.2.1, P.2.2.2.1, P.2.2.2.2.1, P.2.2.2.2.2.1, P.2.2.2.2.2.2.1, P.2.2.2.2.2.2.2) hP) 0 twm_X1_46 twi_yX1_skipBlanks twv_yX1_skipBlanks twin_X1 twc_yX1_skipBlanks yok_X1_skipBlanks (by decide) ⟨rfl, rfl⟩ dX1_nextOrder_1 rfl rfl rfl rfl (Nat.le_of_ble_eq_true rfl) ⟨Nat.zero_le _, Nat.zero_le _⟩ [0, 1] rfl rfl (Nat.le_of_ble_eq_true rfl) rfl ?_
  generalize hr1 : skipF (P.1, P.2.1, P.2.2.1, P.2.2.2.1, P.2.2.2.2.1, P.2.2.2.2.2.1, P.2.2.2.2.2.2.1, P.2.2.2.2.2.2.2) = r1
  have s0 : PG r1 := by rw [← hr1]; exact (PG.skip hP).1
  have hr1 : skipF P = r1 := hr1
  refine V_aload_n ok dX1_nextOrder_4 rfl 0 rfl ?_
  refine V_aload_n ok dX1_nextOrder_5 rfl 0 rfl ?_
  refine V_cV (v2 := some (.int (hereP r1.1 r1.2.1 r1.2.2.2.2.2.2.1))) (wn := pageW g a (r1.1, r1.2.1, r1.2.2.1, r1.2.2.2.1, r1.2.2.2.2.1, r1.2.2.2.2.2.1, r1.2.2.2.2.2.2.1, r1.2.2.2.2.2.2.2)) (rest := [.ref (a 0)]) ok 0 1 (c_X1_byteHere g a (r1.1, r1.2.1, r1.2.2.1, r1.2.2.2.1, r1.2.2.2.2.1, r1.2.2.2.2.2.1, r1.2.2.2.2.2.2.1, r1.2.2.2.2.2.2.2) s0) 0 twm_X1_49 twi_yX1_byteHere twv_yX1_byteHere twin_X1 twc_yX1_byteHere yok_X1_byteHere (by decide) ⟨rfl, rfl⟩ dX1_nextOrder_6 rfl rfl rfl rfl (Nat.le_of_ble_eq_true rfl) ⟨Nat.zero_le _, Nat.zero_le _⟩ [0, 1] rfl rfl (Nat.le_of_ble_eq_true rfl) rfl ?_
  refine V_put (w2 := pageW g a (r1.1, r1.2.1, r1.2.2.1, hereP r1.1 r1.2.1 r1.2.2.2.2.2.2.1, r1.2.2.2.2.1, r1.2.2.2.2.2.1, r1.2.2.2.2.2.2.1, r1.2.2.2.2.2.2.2)) ok 0 3 tw_X1 tyX1 tyX1_ok nmX1 twf_X1_22 rfl rfl (by decide) rfl rfl dX1_nextOrder_9 rfl rfl rfl (Nat.lt_of_lt_of_eq (m := 8) (by decide) rfl) rfl ?_
  refine V_aload_n ok dX1_nextOrder_12 rfl 0 rfl ?_
  refine V_get (v := .int (hereP r1.1 r1.2.1 r1.2.2.2.2.2.2.1)) ok 0 3 tw_X1 twf_X1_22 rfl rfl (by decide) dX1_nextOrder_13 rfl rfl ?_
  refine V_bipush (v := nI 119) ok dX1_nextOrder_16 rfl ?_
  refine V_icmp_eq (tgt := 43) ok dX1_nextOrder_18 (by decide) (fun h18 => ?_) (fun h18 => ?_)
  · have eL : letB (pHere r1) = true := by unfold letB; rw [if_pos h18]
    exact K (setLet r1 (pHere r1)) ⟨s0.1, letB_in eL⟩ (by unfold nextOrderF nxtF; rw [hr1, if_pos eL])
  · refine V_aload_n ok dX1_nextOrder_21 rfl 0 rfl ?_
    refine V_get (v := .int (hereP r1.1 r1.2.1 r1.2.2.2.2.2.2.1)) ok 0 3 tw_X1 twf_X1_22 rfl rfl (by decide) dX1_nextOrder_22 rfl rfl ?_
    refine V_bipush (v := nI 115) ok dX1_nextOrder_25 rfl ?_
    refine V_icmp_eq (tgt := 43) ok dX1_nextOrder_27 (by decide) (fun h27 => ?_) (fun h27 => ?_)
    · have eL : letB (pHere r1) = true := by unfold letB; rw [if_neg h18, if_pos h27]
      exact K (setLet r1 (pHere r1)) ⟨s0.1, letB_in eL⟩ (by unfold nextOrderF nxtF; rw [hr1, if_pos eL])
    · refine V_aload_n ok dX1_nextOrder_30 rfl 0 rfl ?_
      refine V_get (v := .int (hereP r1.1 r1.2.1 r1.2.2.2.2.2.2.1)) ok 0 3 tw_X1 twf_X1_22 rfl rfl (by decide) dX1_nextOrder_31 rfl rfl ?_
      refine V_cS (v2 := some (.int (valN (hereP r1.1 r1.2.1 r1.2.2.2.2.2.2.1)))) (wn := pageW g a (r1.1, r1.2.1, r1.2.2.1, hereP r1.1 r1.2.1 r1.2.2.2.2.2.2.1, r1.2.2.2.2.1, r1.2.2.2.2.2.1, r1.2.2.2.2.2.2.1, r1.2.2.2.2.2.2.2)) (rest := []) ok (c_X1_valueNamed g (hereP r1.1 r1.2.1 r1.2.2.2.2.2.2.1)) 1 twm_X1_53 tws_yX1_valueNamed twin_X1 twc_yX1_valueNamed yok_X1_valueNamed (by decide) ⟨rfl, rfl⟩ dX1_nextOrder_34 rfl rfl (Nat.le_of_ble_eq_true rfl) ⟨Nat.zero_le _, Nat.zero_le _⟩ [] rfl rfl (Nat.le_of_ble_eq_true rfl) rfl ?_
      refine V_iconst (v := (-1)) ok dX1_nextOrder_37 rfl ?_
      refine V_icmp_ne (tgt := 43) ok dX1_nextOrder_38 (by decide) (fun h38 => ?_) (fun h38 => ?_)
      · have eL : letB (pHere r1) = true := by unfold letB; rw [if_neg h18, if_neg h27, if_neg h38]
        exact K (setLet r1 (pHere r1)) ⟨s0.1, letB_in eL⟩ (by unfold nextOrderF nxtF; rw [hr1, if_pos eL])
      · have eN0 : nextOrderF P = (false, setLet r1 (pHere r1)) := by unfold nextOrderF nxtF; rw [hr1, if_neg]; rw [show letB (pHere r1) = false by unfold letB; rw [if_neg h18, if_neg h27, if_pos h38]]; decide
        refine V_iconst (v := nI 0) ok dX1_nextOrder_41 rfl ?_
        exact V_zret ok dX1_nextOrder_42 (Nat.zero_le _) (Nat.zero_le _) rfl ⟨bI_f (by rw [eN0]), by rw [eN0] <;> rfl⟩
set_option maxHeartbeats 4000000 in
set_option maxRecDepth 100000 in
theorem c_X1_findFault (g : Glob) (a : Nat → Nat) (P : PageSt) (hP : PG P) : Con g yX1_findFault cX1_findFault 1 (some .int) ({ frames := 4, cells := 0, slots := 0, locals := 82 } : Room) [.ref (a 0)] (pageW g a P) (Is (some (.int (findFaultF P).1)) (pageW g a (findFaultF P).2)) := by
  refine con_of_V ypl_X1_findFault (Nat.le_of_ble_eq_true rfl) [(0, .ref (a 0))] rfl (fun Γ ok => ?_)
  have HL : ∀ (f : Nat) (Q : PageSt), PG Q → f + Q.2.2.1 = 100 → faultN f Q = findFaultF P → V g Γ 1 0 0 9 (pageW g a (Q.1, Q.2.1, Q.2.2.1, Q.2.2.2.1, Q.2.2.2.2.1, Q.2.2.2.2.2.1, Q.2.2.2.2.2.2.1, Q.2.2.2.2.2.2.2)) [(0, .ref (a 0))] [] := by
    intro f
    induction f using Nat.strongRecOn with
    | ind f ih =>
    cases f with
    | zero =>
      intro Q hQ hf hff
      have hQ1 : Q.2.1 ≤ 100 := hQ.1
      have hQ2 : Q.2.2.2.2.2.2.1 ≤ Q.2.1 := hQ.2
      refine V_aload_n ok dX1_findFault_9 rfl 0 rfl ?_
      refine V_get (v := .int (nI Q.2.2.1)) ok 0 2 tw_X1 twf_X1_19 rfl rfl (by decide) dX1_findFault_10 rfl rfl ?_
      refine V_bipush (v := nI 100) ok dX1_findFault_13 rfl ?_
      refine V_icmpN_ge (tgt := 63) ok dX1_findFault_15 (by decide) (by omega) (by omega) (fun h15 => ?_) (fun h15 => absurd (by omega) h15)
      refine V_iconst (v := (-1)) ok dX1_findFault_63 rfl ?_
      exact V_iret ok dX1_findFault_64 (Nat.zero_le _) (Nat.zero_le _) ⟨by rw [← hff]; rfl, by rw [← hff] <;> rfl⟩
    | succ f =>
      intro Q hQ hf hff
      have hQ1 : Q.2.1 ≤ 100 := hQ.1
      have hQ2 : Q.2.2.2.2.2.2.1 ≤ Q.2.1 := hQ.2
      refine V_aload_n ok dX1_findFault_9 rfl 0 rfl ?_
      refine V_get (v := .int (nI Q.2.2.1)) ok 0 2 tw_X1 twf_X1_19 rfl rfl (by decide) dX1_findFault_10 rfl rfl ?_
      refine V_bipush (v := nI 100) ok dX1_findFault_13 rfl ?_
      refine V_icmpN_ge (tgt := 63) ok dX1_findFault_15 (by decide) (by omega) (by omega) (fun h15 => absurd h15 (by omega)) (fun h15 => ?_)
      refine V_aload_n ok dX1_findFault_18 rfl 0 rfl ?_
      refine V_get (v := .int (nI Q.2.2.1)) ok 0 2 tw_X1 twf_X1_19 rfl rfl (by decide) dX1_findFault_19 rfl rfl ?_
      refine V_ifN_le (tgt := 38) ok dX1_findFault_22 (by decide) (by omega) (fun h22 => ?_) (fun h22 => ?_)
      · have hno : ∀ {α : Type} (x z : α), (if ¬ pOrd Q = 0 ∧ pLen Q ≤ pPl Q then x else z) = z := fun x z => if_neg (fun q => q.1 h22)
        refine V_aload_n ok dX1_findFault_38 rfl 0 rfl ?_
        refine V_cV (v2 := some (.int (bI ((nextOrderF (Q.1, Q.2.1, Q.2.2.1, Q.2.2.2.1, Q.2.2.2.2.1, Q.2.2.2.2.2.1, Q.2.2.2.2.2.2.1, Q.2.2.2.2.2.2.2)).1)))) (wn := pageW g a ((nextOrderF (Q.1, Q.2.1, Q.2.2.1, Q.2.2.2.1, Q.2.2.2.2.1, Q.2.2.2.2.2.1, Q.2.2.2.2.2.2.1, Q.2.2.2.2.2.2.2)).2.1, (nextOrderF (Q.1, Q.2.1, Q.2.2.1, Q.2.2.2.1, Q.2.2.2.2.1, Q.2.2.2.2.2.1, Q.2.2.2.2.2.2.1, Q.2.2.2.2.2.2.2)).2.2.1, (nextOrderF (Q.1, Q.2.1, Q.2.2.1, Q.2.2.2.1, Q.2.2.2.2.1, Q.2.2.2.2.2.1, Q.2.2.2.2.2.2.1, Q.2.2.2.2.2.2.2)).2.2.2.1, (nextOrderF (Q.1, Q.2.1, Q.2.2.1, Q.2.2.2.1, Q.2.2.2.2.1, Q.2.2.2.2.2.1, Q.2.2.2.2.2.2.1, Q.2.2.2.2.2.2.2)).2.2.2.2.1, (nextOrderF (Q.1, Q.2.1, Q.2.2.1, Q.2.2.2.1, Q.2.2.2.2.1, Q.2.2.2.2.2.1, Q.2.2.2.2.2.2.1, Q.2.2.2.2.2.2.2)).2.2.2.2.2.1, (nextOrderF (Q.1, Q.2.1, Q.2.2.1, Q.2.2.2.1, Q.2.2.2.2.1, Q.2.2.2.2.2.1, Q.2.2.2.2.2.2.1, Q.2.2.2.2.2.2.2)).2.2.2.2.2.2.1, (nextOrderF (Q.1, Q.2.1, Q.2.2.1, Q.2.2.2.1, Q.2.2.2.2.1, Q.2.2.2.2.2.1, Q.2.2.2.2.2.2.1, Q.2.2.2.2.2.2.2)).2.2.2.2.2.2.2.1, (nextOrderF (Q.1, Q.2.1, Q.2.2.1, Q.2.2.2.1, Q.2.2.2.2.1, Q.2.2.2.2.2.1, Q.2.2.2.2.2.2.1, Q.2.2.2.2.2.2.2)).2.2.2.2.2.2.2.2)) (rest := []) ok 0 1 (c_X1_nextOrder g a (Q.1, Q.2.1, Q.2.2.1, Q.2.2.2.1, Q.2.2.2.2.1, Q.2.2.2.2.2.1, Q.2.2.2.2.2.2.1, Q.2.2.2.2.2.2.2) hQ) 0 twm_X1_42 twi_yX1_nextOrder twv_yX1_nextOrder twin_X1 twc_yX1_nextOrder yok_X1_nextOrder (by decide) ⟨rfl, rfl⟩ dX1_findFault_39 rfl rfl rfl rfl (Nat.le_of_ble_eq_true rfl) ⟨Nat.zero_le _, Nat.zero_le _⟩ [0, 1] rfl rfl (Nat.le_of_ble_eq_true rfl) rfl ?_
        generalize hr39 : nextOrderF (Q.1, Q.2.1, Q.2.2.1, Q.2.2.2.1, Q.2.2.2.2.1, Q.2.2.2.2.2.1, Q.2.2.2.2.2.2.1, Q.2.2.2.2.2.2.2) = r39
        refine V_ifB_ne (tgt := 50) ok dX1_findFault_42 (by decide) (fun h42 => ?_) (fun h42 => ?_)
        · refine V_aload_n ok dX1_findFault_50 rfl 0 rfl ?_
          refine V_dup ok dX1_findFault_51 rfl ?_
          refine V_get (v := .int (nI r39.2.2.2.1)) ok 0 2 tw_X1 twf_X1_19 rfl rfl (by decide) dX1_findFault_52 rfl rfl ?_
          refine V_iconst (v := nI 1) ok dX1_findFault_55 rfl ?_
          refine V_iaddN (a := r39.2.2.2.1) (b := 1) (c := r39.2.2.2.1 + 1) ok dX1_findFault_56 (by first | rfl | omega) ?_
          refine V_put (w2 := pageW g a (r39.2.1, r39.2.2.1, r39.2.2.2.1 + 1, r39.2.2.2.2.1, r39.2.2.2.2.2.1, r39.2.2.2.2.2.2.1, r39.2.2.2.2.2.2.2.1, r39.2.2.2.2.2.2.2.2)) ok 0 2 tw_X1 tyX1 tyX1_ok nmX1 twf_X1_19 rfl rfl (by decide) rfl rfl dX1_findFault_57 rfl rfl rfl (Nat.lt_of_lt_of_eq (m := 8) (by decide) rfl) rfl ?_
          refine V_goto (tgt := 9) ok dX1_findFault_60 (by decide) ?_
          have n2 := PG.next hQ
          rw [hr39] at n2
          exact ih f (Nat.lt_succ_self f) (setOrd r39.2 (pOrd r39.2 + 1)) n2.1 (by have e : r39.2.2.2.1 = Q.2.2.1 := n2.2.1.2.2; show f + (r39.2.2.2.1 + 1) = 100; omega) (by rw [← hff]; simp only [faultN]; rw [hno, if_pos (show (nextOrderF Q).1 = true by rw [show nextOrderF Q = r39 from hr39]; exact h42), show nextOrderF Q = r39 from hr39])
        · refine V_aload_n ok dX1_findFault_45 rfl 0 rfl ?_
          refine V_get (v := .int (nI r39.2.2.2.2.2.2.2.1)) ok 0 6 tw_X1 twf_X1_31 rfl rfl (by decide) dX1_findFault_46 rfl rfl ?_
          have e49 : faultN (f + 1) Q = (nI (pPl r39.2), r39.2) := by simp only [faultN]; rw [hno, if_neg (show ¬ (nextOrderF Q).1 = true by rw [show nextOrderF Q = r39 from hr39]; exact h42), show nextOrderF Q = r39 from hr39]
          exact V_iret ok dX1_findFault_49 (Nat.zero_le _) (Nat.zero_le _) ⟨by rw [← hff, e49], by rw [← hff, e49] <;> rfl⟩
      · refine V_aload_n ok dX1_findFault_25 rfl 0 rfl ?_
        refine V_get (v := .int (nI Q.2.2.2.2.2.2.1)) ok 0 6 tw_X1 twf_X1_31 rfl rfl (by decide) dX1_findFault_26 rfl rfl ?_
        refine V_aload_n ok dX1_findFault_29 rfl 0 rfl ?_
        refine V_get (v := .int (nI Q.2.1)) ok 0 1 tw_X1 twf_X1_15 rfl rfl (by decide) dX1_findFault_30 rfl rfl ?_
        refine V_icmpN_lt (tgt := 38) ok dX1_findFault_33 (by decide) (by omega) (by omega) (fun h33 => ?_) (fun h33 => ?_)
        · have hno : ∀ {α : Type} (x z : α), (if ¬ pOrd Q = 0 ∧ pLen Q ≤ pPl Q then x else z) = z := fun x z => if_neg (fun q => absurd q.2 (show ¬ Q.2.1 ≤ Q.2.2.2.2.2.2.1 by omega))
          refine V_aload_n ok dX1_findFault_38 rfl 0 rfl ?_
          refine V_cV (v2 := some (.int (bI ((nextOrderF (Q.1, Q.2.1, Q.2.2.1, Q.2.2.2.1, Q.2.2.2.2.1, Q.2.2.2.2.2.1, Q.2.2.2.2.2.2.1, Q.2.2.2.2.2.2.2)).1)))) (wn := pageW g a ((nextOrderF (Q.1, Q.2.1, Q.2.2.1, Q.2.2.2.1, Q.2.2.2.2.1, Q.2.2.2.2.2.1, Q.2.2.2.2.2.2.1, Q.2.2.2.2.2.2.2)).2.1, (nextOrderF (Q.1, Q.2.1, Q.2.2.1, Q.2.2.2.1, Q.2.2.2.2.1, Q.2.2.2.2.2.1, Q.2.2.2.2.2.2.1, Q.2.2.2.2.2.2.2)).2.2.1, (nextOrderF (Q.1, Q.2.1, Q.2.2.1, Q.2.2.2.1, Q.2.2.2.2.1, Q.2.2.2.2.2.1, Q.2.2.2.2.2.2.1, Q.2.2.2.2.2.2.2)).2.2.2.1, (nextOrderF (Q.1, Q.2.1, Q.2.2.1, Q.2.2.2.1, Q.2.2.2.2.1, Q.2.2.2.2.2.1, Q.2.2.2.2.2.2.1, Q.2.2.2.2.2.2.2)).2.2.2.2.1, (nextOrderF (Q.1, Q.2.1, Q.2.2.1, Q.2.2.2.1, Q.2.2.2.2.1, Q.2.2.2.2.2.1, Q.2.2.2.2.2.2.1, Q.2.2.2.2.2.2.2)).2.2.2.2.2.1, (nextOrderF (Q.1, Q.2.1, Q.2.2.1, Q.2.2.2.1, Q.2.2.2.2.1, Q.2.2.2.2.2.1, Q.2.2.2.2.2.2.1, Q.2.2.2.2.2.2.2)).2.2.2.2.2.2.1, (nextOrderF (Q.1, Q.2.1, Q.2.2.1, Q.2.2.2.1, Q.2.2.2.2.1, Q.2.2.2.2.2.1, Q.2.2.2.2.2.2.1, Q.2.2.2.2.2.2.2)).2.2.2.2.2.2.2.1, (nextOrderF (Q.1, Q.2.1, Q.2.2.1, Q.2.2.2.1, Q.2.2.2.2.1, Q.2.2.2.2.2.1, Q.2.2.2.2.2.2.1, Q.2.2.2.2.2.2.2)).2.2.2.2.2.2.2.2)) (rest := []) ok 0 1 (c_X1_nextOrder g a (Q.1, Q.2.1, Q.2.2.1, Q.2.2.2.1, Q.2.2.2.2.1, Q.2.2.2.2.2.1, Q.2.2.2.2.2.2.1, Q.2.2.2.2.2.2.2) hQ) 0 twm_X1_42 twi_yX1_nextOrder twv_yX1_nextOrder twin_X1 twc_yX1_nextOrder yok_X1_nextOrder (by decide) ⟨rfl, rfl⟩ dX1_findFault_39 rfl rfl rfl rfl (Nat.le_of_ble_eq_true rfl) ⟨Nat.zero_le _, Nat.zero_le _⟩ [0, 1] rfl rfl (Nat.le_of_ble_eq_true rfl) rfl ?_
          generalize hr39 : nextOrderF (Q.1, Q.2.1, Q.2.2.1, Q.2.2.2.1, Q.2.2.2.2.1, Q.2.2.2.2.2.1, Q.2.2.2.2.2.2.1, Q.2.2.2.2.2.2.2) = r39
          refine V_ifB_ne (tgt := 50) ok dX1_findFault_42 (by decide) (fun h42 => ?_) (fun h42 => ?_)
          · refine V_aload_n ok dX1_findFault_50 rfl 0 rfl ?_
            refine V_dup ok dX1_findFault_51 rfl ?_
            refine V_get (v := .int (nI r39.2.2.2.1)) ok 0 2 tw_X1 twf_X1_19 rfl rfl (by decide) dX1_findFault_52 rfl rfl ?_
            refine V_iconst (v := nI 1) ok dX1_findFault_55 rfl ?_
            refine V_iaddN (a := r39.2.2.2.1) (b := 1) (c := r39.2.2.2.1 + 1) ok dX1_findFault_56 (by first | rfl | omega) ?_
            refine V_put (w2 := pageW g a (r39.2.1, r39.2.2.1, r39.2.2.2.1 + 1, r39.2.2.2.2.1, r39.2.2.2.2.2.1, r39.2.2.2.2.2.2.1, r39.2.2.2.2.2.2.2.1, r39.2.2.2.2.2.2.2.2)) ok 0 2 tw_X1 tyX1 tyX1_ok nmX1 twf_X1_19 rfl rfl (by decide) rfl rfl dX1_findFault_57 rfl rfl rfl (Nat.lt_of_lt_of_eq (m := 8) (by decide) rfl) rfl ?_
            refine V_goto (tgt := 9) ok dX1_findFault_60 (by decide) ?_
            have n2 := PG.next hQ
            rw [hr39] at n2
            exact ih f (Nat.lt_succ_self f) (setOrd r39.2 (pOrd r39.2 + 1)) n2.1 (by have e : r39.2.2.2.1 = Q.2.2.1 := n2.2.1.2.2; show f + (r39.2.2.2.1 + 1) = 100; omega) (by rw [← hff]; simp only [faultN]; rw [hno, if_pos (show (nextOrderF Q).1 = true by rw [show nextOrderF Q = r39 from hr39]; exact h42), show nextOrderF Q = r39 from hr39])
          · refine V_aload_n ok dX1_findFault_45 rfl 0 rfl ?_
            refine V_get (v := .int (nI r39.2.2.2.2.2.2.2.1)) ok 0 6 tw_X1 twf_X1_31 rfl rfl (by decide) dX1_findFault_46 rfl rfl ?_
            have e49 : faultN (f + 1) Q = (nI (pPl r39.2), r39.2) := by simp only [faultN]; rw [hno, if_neg (show ¬ (nextOrderF Q).1 = true by rw [show nextOrderF Q = r39 from hr39]; exact h42), show nextOrderF Q = r39 from hr39]
            exact V_iret ok dX1_findFault_49 (Nat.zero_le _) (Nat.zero_le _) ⟨by rw [← hff, e49], by rw [← hff, e49] <;> rfl⟩
        · refine V_iconst (v := (-1)) ok dX1_findFault_36 rfl ?_
          exact V_iret ok dX1_findFault_37 (Nat.zero_le _) (Nat.zero_le _) ⟨by rw [← hff]; simp only [faultN]; rw [if_pos ⟨h22, (show Q.2.1 ≤ Q.2.2.2.2.2.2.1 by omega)⟩], by rw [← hff]; simp only [faultN]; rw [if_pos ⟨h22, (show Q.2.1 ≤ Q.2.2.2.2.2.2.1 by omega)⟩] <;> rfl⟩
  refine V_aload_n ok dX1_findFault_0 rfl 0 rfl ?_
  refine V_cV (v2 := none) (wn := pageW g a (P.1, P.2.1, P.2.2.1, P.2.2.2.1, P.2.2.2.2.1, P.2.2.2.2.2.1, 0, P.2.2.2.2.2.2.2)) (rest := []) ok 0 1 (c_X1_rewind g a (P.1, P.2.1, P.2.2.1, P.2.2.2.1, P.2.2.2.2.1, P.2.2.2.2.2.1, P.2.2.2.2.2.2.1, P.2.2.2.2.2.2.2)) 0 twm_X1_39 twi_yX1_rewind twv_yX1_rewind twin_X1 twc_yX1_rewind yok_X1_rewind (by decide) ⟨rfl, rfl⟩ dX1_findFault_1 rfl rfl rfl rfl (Nat.le_of_ble_eq_true rfl) ⟨Nat.zero_le _, Nat.zero_le _⟩ [0, 1] rfl rfl (Nat.le_of_ble_eq_true rfl) rfl ?_
  refine V_aload_n ok dX1_findFault_4 rfl 0 rfl ?_
  refine V_iconst (v := nI 0) ok dX1_findFault_5 rfl ?_
  refine V_put (w2 := pageW g a (P.1, P.2.1, 0, P.2.2.2.1, P.2.2.2.2.1, P.2.2.2.2.2.1, 0, P.2.2.2.2.2.2.2)) ok 0 2 tw_X1 tyX1 tyX1_ok nmX1 twf_X1_19 rfl rfl (by decide) rfl rfl dX1_findFault_6 rfl rfl rfl (Nat.lt_of_lt_of_eq (m := 8) (by decide) rfl) rfl ?_
  exact HL 100 (setOrd (setPl P 0) 0) ⟨hP.1, Nat.zero_le _⟩ rfl rfl
end
section
/-! the cells of a SurgeLine: now, spare, the ring of four, the counts of refusals, the page -/
def surgeW (g : Glob) (a : Nat → Nat) (now spare : LineSt) (K : Nat → LineSt) (nw sts : Nat) (rf : Nat → Int32) (pg : PageSt) : va_W :=
  (a 0, .inr (2, [.ref (a 1), .ref (a 7), .ref (a 13), .int (nI nw), .int (nI sts), .ref (a 38), .ref (a 39)])) ::
  (lineW g (fun i => a (1 + i)) now ++ (lineW g (fun i => a (7 + i)) spare ++ ((a 13, .inl (cLn g, 4, .inr (.inr (.inr (.inr (fun j => some (a (14 + 6 * j)))))))) ::
  (lineW g (fun i => a (14 + i)) (K 0) ++ (lineW g (fun i => a (20 + i)) (K 1) ++ (lineW g (fun i => a (26 + i)) (K 2) ++ (lineW g (fun i => a (32 + i)) (K 3) ++
  ((a 38, .inl (cI g, 3, .inl rf)) :: pageW g (fun i => a (39 + i)) pg))))))))
def rfJ (why : Int32) : Nat := if why = (-2) then 0 else if why = (-3) then 1 else 2
def rfU (rf : Nat → Int32) (why : Int32) : Nat → Int32 := upd rf (rfJ why) (rf (rfJ why) + nI 1)
def stepB (n : Int32) : Bool := if n < nI 1 then false else if nI 100 < n then false else true
def trialB (n : Int32) : Bool := if n < 0 then false else if nI 100 < n then false else true
def boundB (n : Int32) : Bool := if n < (-9999) then false else if nI 9999 < n then false else true
def timeB (v : Nat → Int32) (n : Int32) : Bool := if nI 999 < v 8 + n then false else true
/-- told: a thousand times, cut -/
def tf (x : UInt64) : Int64 := FP.d2l (FP.dmul 4652007308841189376 x)
theorem tf_n64 {x : UInt64} (h : FP.Core.DFin x) : vf_n64 (FP.dmul 4652007308841189376 x) := n64_isNaN (FP.Core.dmul_out (by rw [← show FP.i2d 1000 = 4652007308841189376 by decide +kernel]; exact FP.Core.i2d_fin _) h)
/-- a new state in the ring -/
def ringU (K : Nat → LineSt) (nw : Nat) (x : LineSt) : Nat → LineSt := vf_upd K ((nw + 1) % 4) x
def stsU (sts : Nat) : Nat := if 4 ≤ sts then sts else sts + 1
/-! calls over the whole world, or over parts laid side by side -/
theorem rep_nil (ws : va_W) : rep ws [] [] = ws := by simp [rep, setAll]
theorem setAll_app : ∀ (i1 : List Nat) (ws w1 : va_W) (i2 : List Nat) (w2 : va_W), i1.length = w1.length → setAll ws (i1 ++ i2) (w1 ++ w2) = setAll (setAll ws i1 w1) i2 w2
  | [], ws, [], i2, w2, _ => by simp [setAll]
  | [], ws, _ :: _, i2, w2, h => by simp at h
  | _ :: _, ws, [], i2, w2, h => by simp at h
  | i :: i1, ws, e :: w1, i2, w2, h => by
    show setAll (ws.set i e) (i1 ++ i2) (w1 ++ w2) = setAll (setAll (ws.set i e) i1 w1) i2 w2
    exact setAll_app i1 (ws.set i e) w1 i2 w2 (by simpa using h)
theorem rep_eq {ws w : va_W} {is : List Nat} (h : is.length = w.length) : rep ws is w = setAll ws is w := by
  unfold rep
  rw [List.drop_eq_nil_of_le (by omega), List.append_nil]
theorem rep_app {ws w1 w2 wa wb : va_W} {i1 i2 : List Nat} (h1 : i1.length = w1.length) (h2 : i2.length = w2.length) (e1 : rep ws i1 w1 = wa) (e2 : rep wa i2 w2 = wb) : rep ws (i1 ++ i2) (w1 ++ w2) = wb := by
  rw [rep_eq (by simp [h1, h2]), setAll_app i1 ws w1 i2 w2 h1, ← rep_eq h1, e1, ← rep_eq h2, e2]
theorem sub_app {ws w1 w2 : va_W} {i1 i2 : List Nat} (e1 : i1.map (fun i => ws[i]?) = w1.map some) (e2 : i2.map (fun i => ws[i]?) = w2.map some) : (i1 ++ i2).map (fun i => ws[i]?) = (w1 ++ w2).map some := by
  rw [List.map_append, List.map_append, e1, e2]
section VCALLW
variable {g : Glob} {Γ : Ctx} {y : MethodName} {cc : ByteArray} {nL : Nat} {ret : Option FieldType} {rm : Room} {post : Option Value → va_W → Prop} {k n pc : Nat} {ws : va_W} {lv : List (Nat × Value)} {st : List Value}
variable {y2 : MethodName} {cc2 : ByteArray} {maxL2 : Nat} {ret2 : Option FieldType} {rm2 : Room} {As : List Value} {post2 : Option Value → va_W → Prop} {index : Nat} {rest : List Value}
theorem V_afterW (ok : OK g Γ y cc nL ret rm post) {H : Heap} {locs : List Loc} {ls : Array Slot} {a : Array Value} {mc ms : Nat} (hr : va_Run (kP Γ) g.1 (kE Γ) (kR Γ) (kS Γ) (kM Γ) (kA Γ) (kB Γ) (kMe Γ) (kC Γ) H locs k n mc ms (F0 (kM Γ) pc ls st) rest (Qp g post2 (va_A ws H.size) a) (va_A ws H.size))
    (hP : va_P g.2.1 vwCl ws H) (hD : va_D (kO Γ) ws) (hS : va_S (kO Γ) (kS Γ).heap H locs) (hl : lv_has ls nL lv)
    (kk : ∀ v w, post2 v w → V g Γ nL (k + mc) (n + ms) (pc + 3) w lv (v.toList ++ rest)) : W (kP Γ) g.1 (kE Γ) (kR Γ) (kS Γ) (kM Γ) (kA Γ) (kB Γ) (kMe Γ) (kC Γ) H locs k n (kQ Γ) (F0 (kM Γ) pc ls st) := by
  intro T hT X
  obtain ⟨v, st₀, t, T', L, h0, X', hL, e1, e2, ⟨⟨r, w, hv, hp, hP1, hD1⟩, hz, hk⟩, stp⟩ := hr T hT X
  cases hv
  rw [h0] at hz hk
  have hF : ∀ q, va_A ws H.size q → kO Γ q := fun q h => by
    rcases h with ⟨c, e, h⟩ | h
    · exact hD.2 c (q, e) h
    · exact ok.hA q (Nat.le_trans hS.1 h)
  rw [← e1] at hz hk hP1
  obtain ⟨t2, a1, b1⟩ := kk v w hp T'.heap (locs ++ L) ls hP1 (hD1.weaken (fun _ q _ h => hF q.1 h)) ⟨Nat.le_trans hS.1 hz, fun q h1 h2 => by rw [hk q (Nat.lt_of_lt_of_le h1 hS.1) (fun z => h2 (hF q z))]; exact hS.2.1 q h1 h2, fun q hq => by
      rcases List.mem_append.mp hq with h | h
      · exact hS.2.2 q h
      · exact hF _ (hL q h)⟩ hl T' rfl X'
  exact ⟨t2, stp t2 a1, b1⟩
theorem Pp_startW (ok : OK g Γ y cc nL ret rm post) {H : Heap} {locs : List Loc} (hP : va_P g.2.1 vwCl ws H) (hD : va_D (kO Γ) ws) (hS : va_S (kO Γ) (kS Γ).heap H locs) (av : List Value) (U : State) (hU : U.heap = H) (hW : (kS Γ).WarmedH U.vm) : Pp g ws av H.size av.toArray U := by
  refine ⟨rfl, by rw [hU], by rw [hU]; exact hP, va_K.moved hW.alike ok.hK, hD.weaken (fun _ _ _ _ => trivial), ?_⟩
  rw [hU]
  refine SP.moved hW.alike ((SP.kept ok.hSP hS.1 hS.2.1).narrow (fun q h => ?_))
  rcases h with ⟨c, e, h⟩ | h
  · exact hD.2 c (q, e) h
  · exact ok.hA q (Nat.le_trans hS.1 h)
theorem V_cW (ok : OK g Γ y cc nL ret rm post) {b : Nat} {fs : List Value} {TT : u_T} {NN : Nat} {v2 : Option Value} {w2 : va_W} (q0 ci : Nat) (hM : Con g y2 cc2 maxL2 ret2 rm2 (.ref b :: As) ws (Is v2 w2)) (nA : Nat) (hlink : Cond.methodLink y.cls index y2 ∈ Tw) (hin : Cond.instanceMethod y2 ∈ Tw) (hsel : Cond.selects y2.cls y2 y2 ∈ Tw) (hini : Cond.initialized y2.cls ∈ Tw) (hcode : Cond.code y2 cc2 maxL2 ret2 ∈ Tw) (hy : yOK y2 nA) (hR : rm2.frames + 1 ≤ rm.frames ∧ 8 + (maxL2 + 11) + rm2.locals ≤ rm.locals) (hz : rm2.cells = 0 ∧ rm2.slots = 0) (hd : decode cc pc = .ok (.invokevirtual index, 3)) (hcl : vwCl[ci]? = some (y2.cls, TT, NN)) (he : ws[q0]? = some (b, .inr (ci, fs))) (hn : As.length = nA) (hst : st = As.reverse ++ .ref b :: rest) (hcat : (rest.map fun v => v.category).sum ≤ 8) (hf : k ≤ rm.cells ∧ n ≤ rm.slots)
    (kk : V g Γ nL k n (pc + 3) w2 lv (v2.toList ++ rest)) : V g Γ nL k n pc ws lv st := fun H locs ls hP hD hS hl => by
  refine V_afterW ok (va_runV (C := y2.cls) (b := b) (As := As) (rest := rest) ⟨ok.hx, ok.hb, ok.hml, ok.hown, ok.hts⟩ (hM H.size) ⟨callB_of nA ok.hts (tw_gi hcode) rfl rfl rfl (ok.hts _ hini) (ok.hts _ hlink) hy (by rw [ok.hR]; exact hR), ok.hts _ hin, ok.hts _ hsel⟩ ⟨Pp_blind, va_recv ok.hK hP hcl he, fun U hU hW => Pp_startW ok hP hD hS (.ref b :: As) U hU hW⟩ rfl hn hl.1 hst (lv_room hcat) hd (by rw [ok.hR, hz.1, hz.2]; exact hf)) hP hD hS hl (fun v w h => ?_)
  obtain ⟨rfl, rfl⟩ := h
  rw [hz.1, hz.2]
  exact kk
end VCALLW
/-! the cells of a SurgeLine by their places -/
def slN (b : Nat) : List Nat := [b, b + 1, b + 2, b + 3, b + 4, b + 5]
section SG
variable {g : Glob} {a : Nat → Nat} {now spare : LineSt} {K : Nat → LineSt} {nw sts : Nat} {rf : Nat → Int32} {pg : PageSt}
theorem sg_at0 : (surgeW g a now spare K nw sts rf pg)[0]? = some (a 0, .inr (2, [.ref (a 1), .ref (a 7), .ref (a 13), .int (nI nw), .int (nI sts), .ref (a 38), .ref (a 39)])) := rfl
theorem sg_at1 : (surgeW g a now spare K nw sts rf pg)[1]? = some (a 1, .inr (0, [.ref (a 2), .ref (a 3), .ref (a 4), .ref (a 5), .ref (a 6), .double now.2.2.2.2.2.1, .double now.2.2.2.2.2.2.1, .double now.2.2.2.2.2.2.2])) := rfl
theorem sg_at2 : (surgeW g a now spare K nw sts rf pg)[2]? = some (a 2, .inl (cI g, 9, .inl now.1)) := rfl
theorem sg_at3 : (surgeW g a now spare K nw sts rf pg)[3]? = some (a 3, .inl (cD g, 11, .inr (.inr (.inr (.inl now.2.1))))) := rfl
theorem sg_at4 : (surgeW g a now spare K nw sts rf pg)[4]? = some (a 4, .inl (cD g, 11, .inr (.inr (.inr (.inl now.2.2.1))))) := rfl
theorem sg_at5 : (surgeW g a now spare K nw sts rf pg)[5]? = some (a 5, .inl (cD g, 11, .inr (.inr (.inr (.inl now.2.2.2.1))))) := rfl
theorem sg_at6 : (surgeW g a now spare K nw sts rf pg)[6]? = some (a 6, .inl (cD g, 11, .inr (.inr (.inr (.inl now.2.2.2.2.1))))) := rfl
theorem sg_at7 : (surgeW g a now spare K nw sts rf pg)[7]? = some (a 7, .inr (0, [.ref (a 8), .ref (a 9), .ref (a 10), .ref (a 11), .ref (a 12), .double spare.2.2.2.2.2.1, .double spare.2.2.2.2.2.2.1, .double spare.2.2.2.2.2.2.2])) := rfl
theorem sg_at8 : (surgeW g a now spare K nw sts rf pg)[8]? = some (a 8, .inl (cI g, 9, .inl spare.1)) := rfl
theorem sg_at9 : (surgeW g a now spare K nw sts rf pg)[9]? = some (a 9, .inl (cD g, 11, .inr (.inr (.inr (.inl spare.2.1))))) := rfl
theorem sg_at10 : (surgeW g a now spare K nw sts rf pg)[10]? = some (a 10, .inl (cD g, 11, .inr (.inr (.inr (.inl spare.2.2.1))))) := rfl
theorem sg_at11 : (surgeW g a now spare K nw sts rf pg)[11]? = some (a 11, .inl (cD g, 11, .inr (.inr (.inr (.inl spare.2.2.2.1))))) := rfl
theorem sg_at12 : (surgeW g a now spare K nw sts rf pg)[12]? = some (a 12, .inl (cD g, 11, .inr (.inr (.inr (.inl spare.2.2.2.2.1))))) := rfl
theorem sg_at13 : (surgeW g a now spare K nw sts rf pg)[13]? = some (a 13, .inl (cLn g, 4, .inr (.inr (.inr (.inr (fun j => some (a (14 + 6 * j)))))))) := rfl
theorem sg_at14 : (surgeW g a now spare K nw sts rf pg)[14]? = some (a 14, .inr (0, [.ref (a 15), .ref (a 16), .ref (a 17), .ref (a 18), .ref (a 19), .double (K 0).2.2.2.2.2.1, .double (K 0).2.2.2.2.2.2.1, .double (K 0).2.2.2.2.2.2.2])) := rfl
theorem sg_at15 : (surgeW g a now spare K nw sts rf pg)[15]? = some (a 15, .inl (cI g, 9, .inl (K 0).1)) := rfl
theorem sg_at16 : (surgeW g a now spare K nw sts rf pg)[16]? = some (a 16, .inl (cD g, 11, .inr (.inr (.inr (.inl (K 0).2.1))))) := rfl
theorem sg_at17 : (surgeW g a now spare K nw sts rf pg)[17]? = some (a 17, .inl (cD g, 11, .inr (.inr (.inr (.inl (K 0).2.2.1))))) := rfl
theorem sg_at18 : (surgeW g a now spare K nw sts rf pg)[18]? = some (a 18, .inl (cD g, 11, .inr (.inr (.inr (.inl (K 0).2.2.2.1))))) := rfl
theorem sg_at19 : (surgeW g a now spare K nw sts rf pg)[19]? = some (a 19, .inl (cD g, 11, .inr (.inr (.inr (.inl (K 0).2.2.2.2.1))))) := rfl
theorem sg_at20 : (surgeW g a now spare K nw sts rf pg)[20]? = some (a 20, .inr (0, [.ref (a 21), .ref (a 22), .ref (a 23), .ref (a 24), .ref (a 25), .double (K 1).2.2.2.2.2.1, .double (K 1).2.2.2.2.2.2.1, .double (K 1).2.2.2.2.2.2.2])) := rfl
theorem sg_at21 : (surgeW g a now spare K nw sts rf pg)[21]? = some (a 21, .inl (cI g, 9, .inl (K 1).1)) := rfl
theorem sg_at22 : (surgeW g a now spare K nw sts rf pg)[22]? = some (a 22, .inl (cD g, 11, .inr (.inr (.inr (.inl (K 1).2.1))))) := rfl
theorem sg_at23 : (surgeW g a now spare K nw sts rf pg)[23]? = some (a 23, .inl (cD g, 11, .inr (.inr (.inr (.inl (K 1).2.2.1))))) := rfl
theorem sg_at24 : (surgeW g a now spare K nw sts rf pg)[24]? = some (a 24, .inl (cD g, 11, .inr (.inr (.inr (.inl (K 1).2.2.2.1))))) := rfl
theorem sg_at25 : (surgeW g a now spare K nw sts rf pg)[25]? = some (a 25, .inl (cD g, 11, .inr (.inr (.inr (.inl (K 1).2.2.2.2.1))))) := rfl
theorem sg_at26 : (surgeW g a now spare K nw sts rf pg)[26]? = some (a 26, .inr (0, [.ref (a 27), .ref (a 28), .ref (a 29), .ref (a 30), .ref (a 31), .double (K 2).2.2.2.2.2.1, .double (K 2).2.2.2.2.2.2.1, .double (K 2).2.2.2.2.2.2.2])) := rfl
theorem sg_at27 : (surgeW g a now spare K nw sts rf pg)[27]? = some (a 27, .inl (cI g, 9, .inl (K 2).1)) := rfl
theorem sg_at28 : (surgeW g a now spare K nw sts rf pg)[28]? = some (a 28, .inl (cD g, 11, .inr (.inr (.inr (.inl (K 2).2.1))))) := rfl
theorem sg_at29 : (surgeW g a now spare K nw sts rf pg)[29]? = some (a 29, .inl (cD g, 11, .inr (.inr (.inr (.inl (K 2).2.2.1))))) := rfl
theorem sg_at30 : (surgeW g a now spare K nw sts rf pg)[30]? = some (a 30, .inl (cD g, 11, .inr (.inr (.inr (.inl (K 2).2.2.2.1))))) := rfl
theorem sg_at31 : (surgeW g a now spare K nw sts rf pg)[31]? = some (a 31, .inl (cD g, 11, .inr (.inr (.inr (.inl (K 2).2.2.2.2.1))))) := rfl
theorem sg_at32 : (surgeW g a now spare K nw sts rf pg)[32]? = some (a 32, .inr (0, [.ref (a 33), .ref (a 34), .ref (a 35), .ref (a 36), .ref (a 37), .double (K 3).2.2.2.2.2.1, .double (K 3).2.2.2.2.2.2.1, .double (K 3).2.2.2.2.2.2.2])) := rfl
theorem sg_at33 : (surgeW g a now spare K nw sts rf pg)[33]? = some (a 33, .inl (cI g, 9, .inl (K 3).1)) := rfl
theorem sg_at34 : (surgeW g a now spare K nw sts rf pg)[34]? = some (a 34, .inl (cD g, 11, .inr (.inr (.inr (.inl (K 3).2.1))))) := rfl
theorem sg_at35 : (surgeW g a now spare K nw sts rf pg)[35]? = some (a 35, .inl (cD g, 11, .inr (.inr (.inr (.inl (K 3).2.2.1))))) := rfl
theorem sg_at36 : (surgeW g a now spare K nw sts rf pg)[36]? = some (a 36, .inl (cD g, 11, .inr (.inr (.inr (.inl (K 3).2.2.2.1))))) := rfl
theorem sg_at37 : (surgeW g a now spare K nw sts rf pg)[37]? = some (a 37, .inl (cD g, 11, .inr (.inr (.inr (.inl (K 3).2.2.2.2.1))))) := rfl
theorem sg_at38 : (surgeW g a now spare K nw sts rf pg)[38]? = some (a 38, .inl (cI g, 3, .inl rf)) := rfl
theorem sg_at39 : (surgeW g a now spare K nw sts rf pg)[39]? = some (a 39, .inr (1, [.ref (a 40), .int (nI pg.2.1), .int (nI pg.2.2.1), .int pg.2.2.2.1, .int pg.2.2.2.2.1, .int pg.2.2.2.2.2.1, .int (nI pg.2.2.2.2.2.2.1), .int pg.2.2.2.2.2.2.2])) := rfl
theorem sg_at40 : (surgeW g a now spare K nw sts rf pg)[40]? = some (a 40, .inl (cB g, 100, .inl pg.1)) := rfl
theorem sg_sub_1 : (slN 1).map (fun i => (surgeW g a now spare K nw sts rf pg)[i]?) = (lineW g (fun i => a (1 + i)) now).map some := rfl
theorem sg_rep_1 {x : LineSt} : rep (surgeW g a now spare K nw sts rf pg) (slN 1) (lineW g (fun i => a (1 + i)) x) = surgeW g a x spare K nw sts rf pg := rfl
theorem sg_sub_7 : (slN 7).map (fun i => (surgeW g a now spare K nw sts rf pg)[i]?) = (lineW g (fun i => a (7 + i)) spare).map some := rfl
theorem sg_rep_7 {x : LineSt} : rep (surgeW g a now spare K nw sts rf pg) (slN 7) (lineW g (fun i => a (7 + i)) x) = surgeW g a now x K nw sts rf pg := rfl
theorem sg_sub_14 : (slN 14).map (fun i => (surgeW g a now spare K nw sts rf pg)[i]?) = (lineW g (fun i => a (14 + i)) (K 0)).map some := rfl
theorem sg_rep_14 {x : LineSt} : rep (surgeW g a now spare K nw sts rf pg) (slN 14) (lineW g (fun i => a (14 + i)) x) = surgeW g a now spare (vf_upd K 0 x) nw sts rf pg := rfl
theorem sg_rep_14_id : rep (surgeW g a now spare K nw sts rf pg) (slN 14) (lineW g (fun i => a (14 + i)) (K 0)) = surgeW g a now spare K nw sts rf pg := rfl
theorem sg_sub_20 : (slN 20).map (fun i => (surgeW g a now spare K nw sts rf pg)[i]?) = (lineW g (fun i => a (20 + i)) (K 1)).map some := rfl
theorem sg_rep_20 {x : LineSt} : rep (surgeW g a now spare K nw sts rf pg) (slN 20) (lineW g (fun i => a (20 + i)) x) = surgeW g a now spare (vf_upd K 1 x) nw sts rf pg := rfl
theorem sg_rep_20_id : rep (surgeW g a now spare K nw sts rf pg) (slN 20) (lineW g (fun i => a (20 + i)) (K 1)) = surgeW g a now spare K nw sts rf pg := rfl
theorem sg_sub_26 : (slN 26).map (fun i => (surgeW g a now spare K nw sts rf pg)[i]?) = (lineW g (fun i => a (26 + i)) (K 2)).map some := rfl
theorem sg_rep_26 {x : LineSt} : rep (surgeW g a now spare K nw sts rf pg) (slN 26) (lineW g (fun i => a (26 + i)) x) = surgeW g a now spare (vf_upd K 2 x) nw sts rf pg := rfl
theorem sg_rep_26_id : rep (surgeW g a now spare K nw sts rf pg) (slN 26) (lineW g (fun i => a (26 + i)) (K 2)) = surgeW g a now spare K nw sts rf pg := rfl
theorem sg_sub_32 : (slN 32).map (fun i => (surgeW g a now spare K nw sts rf pg)[i]?) = (lineW g (fun i => a (32 + i)) (K 3)).map some := rfl
theorem sg_rep_32 {x : LineSt} : rep (surgeW g a now spare K nw sts rf pg) (slN 32) (lineW g (fun i => a (32 + i)) x) = surgeW g a now spare (vf_upd K 3 x) nw sts rf pg := rfl
theorem sg_rep_32_id : rep (surgeW g a now spare K nw sts rf pg) (slN 32) (lineW g (fun i => a (32 + i)) (K 3)) = surgeW g a now spare K nw sts rf pg := rfl
theorem sg_sub_39 : [39, 40].map (fun i => (surgeW g a now spare K nw sts rf pg)[i]?) = (pageW g (fun i => a (39 + i)) pg).map some := rfl
theorem sg_rep_39 {q : PageSt} : rep (surgeW g a now spare K nw sts rf pg) [39, 40] (pageW g (fun i => a (39 + i)) q) = surgeW g a now spare K nw sts rf q := rfl
theorem sg_set_nw {m : Nat} : (surgeW g a now spare K nw sts rf pg).set 0 (a 0, .inr (2, ([.ref (a 1), .ref (a 7), .ref (a 13), .int (nI nw), .int (nI sts), .ref (a 38), .ref (a 39)] : List Value).set 3 (.int (nI m)))) = surgeW g a now spare K m sts rf pg := rfl
theorem sg_set_sts {m : Nat} : (surgeW g a now spare K nw sts rf pg).set 0 (a 0, .inr (2, ([.ref (a 1), .ref (a 7), .ref (a 13), .int (nI nw), .int (nI sts), .ref (a 38), .ref (a 39)] : List Value).set 4 (.int (nI m)))) = surgeW g a now spare K nw m rf pg := rfl
theorem sg_set_rf {f : Nat → Int32} : (surgeW g a now spare K nw sts rf pg).set 38 (a 38, .inl (cI g, 3, .inl f)) = surgeW g a now spare K nw sts f pg := rfl
theorem sg_set_len {m : Nat} : (surgeW g a now spare K nw sts rf pg).set 39 (a 39, .inr (1, ([.ref (a 40), .int (nI pg.2.1), .int (nI pg.2.2.1), .int pg.2.2.2.1, .int pg.2.2.2.2.1, .int pg.2.2.2.2.2.1, .int (nI pg.2.2.2.2.2.2.1), .int pg.2.2.2.2.2.2.2] : List Value).set 1 (.int (nI m)))) = surgeW g a now spare K nw sts rf (pg.1, m, pg.2.2) := rfl
end SG
end
section
theorem k_X0_hasNode (g : Glob) (a : Nat → Nat) (x : LineSt) (i : Int32) : Con g yX0_hasNode cX0_hasNode 2 (some .boolean) ({ frames := 0, cells := 0, slots := 0, locals := 0 } : Room) [.ref (a 0), .int i] (lineW g a x) (Is (some (.int (bI (nodeB x.1 i)))) (lineW g a x)) := c_X0_hasNode g a x.1 x.2.1 x.2.2.1 x.2.2.2.1 x.2.2.2.2.1 x.2.2.2.2.2.1 x.2.2.2.2.2.2.1 x.2.2.2.2.2.2.2 i
theorem k_X0_pressure (g : Glob) (a : Nat → Nat) (x : LineSt) (i : Nat) (hi10 : i ≤ 10) (hp : vf_n64 (FP.dadd (x.2.1 i) (x.2.2.1 i))) : Con g yX0_pressure cX0_pressure 2 (some .double) ({ frames := 0, cells := 0, slots := 0, locals := 0 } : Room) [.ref (a 0), .int (nI i)] (lineW g a x) (Is (some (.double (FP.dadd (x.2.1 i) (x.2.2.1 i)))) (lineW g a x)) := c_X0_pressure g a x.1 x.2.1 x.2.2.1 x.2.2.2.1 x.2.2.2.2.1 x.2.2.2.2.2.1 x.2.2.2.2.2.2.1 x.2.2.2.2.2.2.2 i hi10 hp
theorem k_X0_govern (g : Glob) (a : Nat → Nat) (x : LineSt) (k t : Int32) : Con g yX0_govern cX0_govern 3 none ({ frames := 0, cells := 0, slots := 0, locals := 0 } : Room) [.ref (a 0), .int k, .int t] (lineW g a x) (Is none (lineW g a (upd (upd x.1 6 k) 7 t, x.2))) := c_X0_govern g a x.1 x.2.1 x.2.2.1 x.2.2.2.1 x.2.2.2.2.1 x.2.2.2.2.2.1 x.2.2.2.2.2.2.1 x.2.2.2.2.2.2.2 k t
theorem k_X0_settle (g : Glob) (a : Nat → Nat) (x : LineSt) (hv : VG x.1) : Con g yX0_settle cX0_settle 6 none ({ frames := 1, cells := 0, slots := 0, locals := 21 } : Room) [.ref (a 0)] (lineW g a x) (Is none (lineW g a (settleL x))) := c_X0_settle g a x.1 x.2.1 x.2.2.1 x.2.2.2.1 x.2.2.2.2.1 x.2.2.2.2.2.1 x.2.2.2.2.2.2.1 x.2.2.2.2.2.2.2 hv
theorem k_X0_put (g : Glob) (a : Nat → Nat) (x : LineSt) (w : Nat) (u : Int32) (hw : w < 9) (hv : VG (upd x.1 w u)) : Con g yX0_put cX0_put 3 none ({ frames := 2, cells := 0, slots := 0, locals := 46 } : Room) [.ref (a 0), .int (nI w), .int u] (lineW g a x) (Is none (lineW g a (settleL (upd x.1 w u, x.2)))) := c_X0_put g a x.1 x.2.1 x.2.2.1 x.2.2.2.1 x.2.2.2.2.1 x.2.2.2.2.2.1 x.2.2.2.2.2.2.1 x.2.2.2.2.2.2.2 w u hw hv
theorem k_X0_sumOfSquares (g : Glob) (a : Nat → Nat) (x : LineSt) (hv : VG x.1) (hk : ∀ i, i ≤ nv x.1 0 → vf_n64 (FP.dmul (x.2.1 i) (x.2.1 i)) ∧ vf_n64 (FP.dmul (x.2.2.1 i) (x.2.2.1 i)) ∧ vf_n64 (FP.dadd (FP.dmul (x.2.1 i) (x.2.1 i)) (FP.dmul (x.2.2.1 i) (x.2.2.1 i))) ∧ vf_n64 (kept0 x.2.1 x.2.2.1 (i + 1))) : Con g yX0_sumOfSquares cX0_sumOfSquares 4 (some .double) ({ frames := 0, cells := 0, slots := 0, locals := 0 } : Room) [.ref (a 0)] (lineW g a x) (Is (some (.double (kept0 x.2.1 x.2.2.1 (nv x.1 0 + 1)))) (lineW g a x)) := c_X0_sumOfSquares g a x.1 x.2.1 x.2.2.1 x.2.2.2.1 x.2.2.2.2.1 x.2.2.2.2.2.1 x.2.2.2.2.2.2.1 x.2.2.2.2.2.2.2 hv hk
set_option maxHeartbeats 4000000 in
set_option maxRecDepth 100000 in
theorem c_X2_isStepCount (g : Glob) (n : Int32) : Con g yX2_isStepCount cX2_isStepCount 1 (some .boolean) ({ frames := 0, cells := 0, slots := 0, locals := 0 } : Room) [.int n] ([]) (Is (some (.int (bI (stepB n)))) []) := by
  refine con_of_V ypl_X2_isStepCount (Nat.le_of_ble_eq_true rfl) [(0, .int n)] rfl (fun Γ ok => ?_)
  refine V_iload_n ok dX2_isStepCount_0 rfl 0 rfl ?_
  refine V_iconst (v := nI 1) ok dX2_isStepCount_1 rfl ?_
  refine V_icmp_lt (tgt := 15) ok dX2_isStepCount_2 (by decide) (fun h2 => ?_) (fun h2 => ?_)
  · refine V_iconst (v := nI 0) ok dX2_isStepCount_15 rfl ?_
    exact V_zret ok dX2_isStepCount_16 (Nat.zero_le _) (Nat.zero_le _) rfl ⟨bI_f (by unfold stepB; rw [if_pos h2]), rfl⟩
  · refine V_iload_n ok dX2_isStepCount_5 rfl 0 rfl ?_
    refine V_bipush (v := nI 100) ok dX2_isStepCount_6 rfl ?_
    refine V_icmp_gt (tgt := 15) ok dX2_isStepCount_8 (by decide) (fun h8 => ?_) (fun h8 => ?_)
    · refine V_iconst (v := nI 0) ok dX2_isStepCount_15 rfl ?_
      exact V_zret ok dX2_isStepCount_16 (Nat.zero_le _) (Nat.zero_le _) rfl ⟨bI_f (by unfold stepB; rw [if_neg h2, if_pos h8]), rfl⟩
    · refine V_iconst (v := nI 1) ok dX2_isStepCount_11 rfl ?_
      refine V_goto (tgt := 16) ok dX2_isStepCount_12 (by decide) ?_
      exact V_zret ok dX2_isStepCount_16 (Nat.zero_le _) (Nat.zero_le _) rfl ⟨bI_t (by unfold stepB; rw [if_neg h2, if_neg h8]), rfl⟩
set_option maxHeartbeats 4000000 in
set_option maxRecDepth 100000 in
theorem c_X2_isTrialLength (g : Glob) (n : Int32) : Con g yX2_isTrialLength cX2_isTrialLength 1 (some .boolean) ({ frames := 0, cells := 0, slots := 0, locals := 0 } : Room) [.int n] ([]) (Is (some (.int (bI (trialB n)))) []) := by
  refine con_of_V ypl_X2_isTrialLength (Nat.le_of_ble_eq_true rfl) [(0, .int n)] rfl (fun Γ ok => ?_)
  refine V_iload_n ok dX2_isTrialLength_0 rfl 0 rfl ?_
  refine V_if_lt (tgt := 14) ok dX2_isTrialLength_1 (by decide) (fun h1 => ?_) (fun h1 => ?_)
  · refine V_iconst (v := nI 0) ok dX2_isTrialLength_14 rfl ?_
    exact V_zret ok dX2_isTrialLength_15 (Nat.zero_le _) (Nat.zero_le _) rfl ⟨bI_f (by unfold trialB; rw [if_pos h1]), rfl⟩
  · refine V_iload_n ok dX2_isTrialLength_4 rfl 0 rfl ?_
    refine V_bipush (v := nI 100) ok dX2_isTrialLength_5 rfl ?_
    refine V_icmp_gt (tgt := 14) ok dX2_isTrialLength_7 (by decide) (fun h7 => ?_) (fun h7 => ?_)
    · refine V_iconst (v := nI 0) ok dX2_isTrialLength_14 rfl ?_
      exact V_zret ok dX2_isTrialLength_15 (Nat.zero_le _) (Nat.zero_le _) rfl ⟨bI_f (by unfold trialB; rw [if_neg h1, if_pos h7]), rfl⟩
    · refine V_iconst (v := nI 1) ok dX2_isTrialLength_10 rfl ?_
      refine V_goto (tgt := 15) ok dX2_isTrialLength_11 (by decide) ?_
      exact V_zret ok dX2_isTrialLength_15 (Nat.zero_le _) (Nat.zero_le _) rfl ⟨bI_t (by unfold trialB; rw [if_neg h1, if_neg h7]), rfl⟩
set_option maxHeartbeats 4000000 in
set_option maxRecDepth 100000 in
theorem c_X2_isBound (g : Glob) (n : Int32) : Con g yX2_isBound cX2_isBound 1 (some .boolean) ({ frames := 0, cells := 0, slots := 0, locals := 0 } : Room) [.int n] ([]) (Is (some (.int (bI (boundB n)))) []) := by
  refine con_of_V ypl_X2_isBound (Nat.le_of_ble_eq_true rfl) [(0, .int n)] rfl (fun Γ ok => ?_)
  refine V_iload_n ok dX2_isBound_0 rfl 0 rfl ?_
  refine V_sipush (v := (-9999)) ok dX2_isBound_1 rfl ?_
  refine V_icmp_lt (tgt := 18) ok dX2_isBound_4 (by decide) (fun h4 => ?_) (fun h4 => ?_)
  · refine V_iconst (v := nI 0) ok dX2_isBound_18 rfl ?_
    exact V_zret ok dX2_isBound_19 (Nat.zero_le _) (Nat.zero_le _) rfl ⟨bI_f (by unfold boundB; rw [if_pos h4]), rfl⟩
  · refine V_iload_n ok dX2_isBound_7 rfl 0 rfl ?_
    refine V_sipush (v := nI 9999) ok dX2_isBound_8 rfl ?_
    refine V_icmp_gt (tgt := 18) ok dX2_isBound_11 (by decide) (fun h11 => ?_) (fun h11 => ?_)
    · refine V_iconst (v := nI 0) ok dX2_isBound_18 rfl ?_
      exact V_zret ok dX2_isBound_19 (Nat.zero_le _) (Nat.zero_le _) rfl ⟨bI_f (by unfold boundB; rw [if_neg h4, if_pos h11]), rfl⟩
    · refine V_iconst (v := nI 1) ok dX2_isBound_14 rfl ?_
      refine V_goto (tgt := 19) ok dX2_isBound_15 (by decide) ?_
      exact V_zret ok dX2_isBound_19 (Nat.zero_le _) (Nat.zero_le _) rfl ⟨bI_t (by unfold boundB; rw [if_neg h4, if_neg h11]), rfl⟩
set_option maxHeartbeats 4000000 in
set_option maxRecDepth 100000 in
theorem c_X2_thousandfold (g : Glob) (x : UInt64) (hx : FP.Core.DFin x) : Con g yX2_thousandfold cX2_thousandfold 2 (some .long) ({ frames := 0, cells := 0, slots := 0, locals := 0 } : Room) [.double x] ([]) (Is (some (.long (tf x))) []) := by
  refine con_of_V ypl_X2_thousandfold (Nat.le_of_ble_eq_true rfl) [(0, .double x)] rfl (fun Γ ok => ?_)
  refine V_ldc2d ok twd_X2_210 dX2_thousandfold_0 ?_
  refine V_dload_n ok dX2_thousandfold_3 rfl 0 rfl ?_
  refine V_dmul ok dX2_thousandfold_4 (tf_n64 hx) ?_
  refine V_d2l ok dX2_thousandfold_5 ?_
  exact V_lret ok dX2_thousandfold_6 (Nat.zero_le _) (Nat.zero_le _) ⟨rfl, rfl⟩
set_option maxHeartbeats 4000000 in
set_option maxRecDepth 100000 in
theorem c_X2_refuse_m2 (g : Glob) (a : Nat → Nat) (now spare : LineSt) (K : Nat → LineSt) (nw sts : Nat) (rf : Nat → Int32) (pg : PageSt)  : Con g yX2_refuse cX2_refuse 2 (some .int) ({ frames := 0, cells := 0, slots := 0, locals := 0 } : Room) [.ref (a 0), .int (-2)] (surgeW g a now spare K nw sts rf pg) (Is (some (.int (-2))) (surgeW g a now spare K nw sts (rfU rf (-2)) pg)) := by
  refine con_of_V ypl_X2_refuse (Nat.le_of_ble_eq_true rfl) [(0, .ref (a 0)), (1, .int (-2))] rfl (fun Γ ok => ?_)
  refine V_aload_n ok dX2_refuse_0 rfl 0 rfl ?_
  refine V_get (v := .ref (a 38)) ok 0 5 tw_X2 twf_X2_30 rfl rfl (by decide) dX2_refuse_1 sg_at0 rfl ?_
  refine V_iload_n ok dX2_refuse_4 rfl 1 rfl ?_
  refine V_bipush (v := (-2)) ok dX2_refuse_5 rfl ?_
  refine V_icmp_ne (tgt := 14) ok dX2_refuse_7 (by decide) (fun h7 => absurd rfl h7) (fun h7 => ?_)
  refine V_iconst (v := nI 0) ok dX2_refuse_10 rfl ?_
  refine V_goto (tgt := 25) ok dX2_refuse_11 (by decide) ?_
  refine V_dup2_11 ok dX2_refuse_25 rfl rfl ?_
  refine V_iald (f := rf) (N := 3) ok 38 0 dX2_refuse_26 sg_at38 rfl (by decide) (by decide) ?_
  refine V_iconst (v := nI 1) ok dX2_refuse_27 rfl ?_
  refine V_iadd ok dX2_refuse_28 ?_
  refine V_iast (f := rf) (N := 3) (w2 := surgeW g a now spare K nw sts (upd rf 0 ((rf 0) + (nI 1))) pg) ok 38 0 dX2_refuse_29 sg_at38 rfl (by decide) (by decide) sg_set_rf ?_
  refine V_iload_n ok dX2_refuse_30 rfl 1 rfl ?_
  exact V_iret ok dX2_refuse_31 (Nat.zero_le _) (Nat.zero_le _) ⟨rfl, rfl⟩
set_option maxHeartbeats 4000000 in
set_option maxRecDepth 100000 in
theorem c_X2_refuse_m3 (g : Glob) (a : Nat → Nat) (now spare : LineSt) (K : Nat → LineSt) (nw sts : Nat) (rf : Nat → Int32) (pg : PageSt)  : Con g yX2_refuse cX2_refuse 2 (some .int) ({ frames := 0, cells := 0, slots := 0, locals := 0 } : Room) [.ref (a 0), .int (-3)] (surgeW g a now spare K nw sts rf pg) (Is (some (.int (-3))) (surgeW g a now spare K nw sts (rfU rf (-3)) pg)) := by
  refine con_of_V ypl_X2_refuse (Nat.le_of_ble_eq_true rfl) [(0, .ref (a 0)), (1, .int (-3))] rfl (fun Γ ok => ?_)
  refine V_aload_n ok dX2_refuse_0 rfl 0 rfl ?_
  refine V_get (v := .ref (a 38)) ok 0 5 tw_X2 twf_X2_30 rfl rfl (by decide) dX2_refuse_1 sg_at0 rfl ?_
  refine V_iload_n ok dX2_refuse_4 rfl 1 rfl ?_
  refine V_bipush (v := (-2)) ok dX2_refuse_5 rfl ?_
  refine V_icmp_ne (tgt := 14) ok dX2_refuse_7 (by decide) (fun h7 => ?_) (fun h7 => absurd h7 (by decide))
  refine V_iload_n ok dX2_refuse_14 rfl 1 rfl ?_
  refine V_bipush (v := (-3)) ok dX2_refuse_15 rfl ?_
  refine V_icmp_ne (tgt := 24) ok dX2_refuse_17 (by decide) (fun h17 => absurd rfl h17) (fun h17 => ?_)
  refine V_iconst (v := nI 1) ok dX2_refuse_20 rfl ?_
  refine V_goto (tgt := 25) ok dX2_refuse_21 (by decide) ?_
  refine V_dup2_11 ok dX2_refuse_25 rfl rfl ?_
  refine V_iald (f := rf) (N := 3) ok 38 1 dX2_refuse_26 sg_at38 rfl (by decide) (by decide) ?_
  refine V_iconst (v := nI 1) ok dX2_refuse_27 rfl ?_
  refine V_iadd ok dX2_refuse_28 ?_
  refine V_iast (f := rf) (N := 3) (w2 := surgeW g a now spare K nw sts (upd rf 1 ((rf 1) + (nI 1))) pg) ok 38 1 dX2_refuse_29 sg_at38 rfl (by decide) (by decide) sg_set_rf ?_
  refine V_iload_n ok dX2_refuse_30 rfl 1 rfl ?_
  exact V_iret ok dX2_refuse_31 (Nat.zero_le _) (Nat.zero_le _) ⟨rfl, rfl⟩
set_option maxHeartbeats 4000000 in
set_option maxRecDepth 100000 in
theorem c_X2_refuse_m4 (g : Glob) (a : Nat → Nat) (now spare : LineSt) (K : Nat → LineSt) (nw sts : Nat) (rf : Nat → Int32) (pg : PageSt)  : Con g yX2_refuse cX2_refuse 2 (some .int) ({ frames := 0, cells := 0, slots := 0, locals := 0 } : Room) [.ref (a 0), .int (-4)] (surgeW g a now spare K nw sts rf pg) (Is (some (.int (-4))) (surgeW g a now spare K nw sts (rfU rf (-4)) pg)) := by
  refine con_of_V ypl_X2_refuse (Nat.le_of_ble_eq_true rfl) [(0, .ref (a 0)), (1, .int (-4))] rfl (fun Γ ok => ?_)
  refine V_aload_n ok dX2_refuse_0 rfl 0 rfl ?_
  refine V_get (v := .ref (a 38)) ok 0 5 tw_X2 twf_X2_30 rfl rfl (by decide) dX2_refuse_1 sg_at0 rfl ?_
  refine V_iload_n ok dX2_refuse_4 rfl 1 rfl ?_
  refine V_bipush (v := (-2)) ok dX2_refuse_5 rfl ?_
  refine V_icmp_ne (tgt := 14) ok dX2_refuse_7 (by decide) (fun h7 => ?_) (fun h7 => absurd h7 (by decide))
  refine V_iload_n ok dX2_refuse_14 rfl 1 rfl ?_
  refine V_bipush (v := (-3)) ok dX2_refuse_15 rfl ?_
  refine V_icmp_ne (tgt := 24) ok dX2_refuse_17 (by decide) (fun h17 => ?_) (fun h17 => absurd h17 (by decide))
  refine V_iconst (v := nI 2) ok dX2_refuse_24 rfl ?_
  refine V_dup2_11 ok dX2_refuse_25 rfl rfl ?_
  refine V_iald (f := rf) (N := 3) ok 38 2 dX2_refuse_26 sg_at38 rfl (by decide) (by decide) ?_
  refine V_iconst (v := nI 1) ok dX2_refuse_27 rfl ?_
  refine V_iadd ok dX2_refuse_28 ?_
  refine V_iast (f := rf) (N := 3) (w2 := surgeW g a now spare K nw sts (upd rf 2 ((rf 2) + (nI 1))) pg) ok 38 2 dX2_refuse_29 sg_at38 rfl (by decide) (by decide) sg_set_rf ?_
  refine V_iload_n ok dX2_refuse_30 rfl 1 rfl ?_
  exact V_iret ok dX2_refuse_31 (Nat.zero_le _) (Nat.zero_le _) ⟨rfl, rfl⟩
set_option maxHeartbeats 4000000 in
set_option maxRecDepth 100000 in
theorem c_X2_refuseLong (g : Glob) (a : Nat → Nat) (now spare : LineSt) (K : Nat → LineSt) (nw sts : Nat) (rf : Nat → Int32) (pg : PageSt)  : Con g yX2_refuseLong cX2_refuseLong 1 (some .long) ({ frames := 1, cells := 0, slots := 0, locals := 21 } : Room) [.ref (a 0)] (surgeW g a now spare K nw sts rf pg) (Is (some (.long (-9000000000000000))) (surgeW g a now spare K nw sts (rfU rf (-2)) pg)) := by
  refine con_of_V ypl_X2_refuseLong (Nat.le_of_ble_eq_true rfl) [(0, .ref (a 0))] rfl (fun Γ ok => ?_)
  refine V_aload_n ok dX2_refuseLong_0 rfl 0 rfl ?_
  refine V_bipush (v := (-2)) ok dX2_refuseLong_1 rfl ?_
  refine V_cW (v2 := some (.int (-2))) (w2 := surgeW g a now spare K nw sts (rfU rf (-2)) pg) (rest := []) ok 0 2 (c_X2_refuse_m2 g a now spare K nw sts rf pg) 1 twm_X2_45 twi_yX2_refuse twv_yX2_refuse twin_X2 twc_yX2_refuse yok_X2_refuse (by decide) ⟨rfl, rfl⟩ dX2_refuseLong_3 rfl sg_at0 rfl rfl (Nat.le_of_ble_eq_true rfl) ⟨Nat.zero_le _, Nat.zero_le _⟩ ?_
  refine V_pop ok dX2_refuseLong_6 rfl ?_
  refine V_ldc2l ok twl_X2_202 dX2_refuseLong_7 ?_
  exact V_lret ok dX2_refuseLong_10 (Nat.zero_le _) (Nat.zero_le _) ⟨rfl, rfl⟩
set_option maxHeartbeats 4000000 in
set_option maxRecDepth 100000 in
theorem c_X2_hasTimeFor (g : Glob) (a : Nat → Nat) (now spare : LineSt) (K : Nat → LineSt) (nw sts : Nat) (rf : Nat → Int32) (pg : PageSt) (n : Int32) : Con g yX2_hasTimeFor cX2_hasTimeFor 2 (some .boolean) ({ frames := 0, cells := 0, slots := 0, locals := 0 } : Room) [.ref (a 0), .int n] (surgeW g a now spare K nw sts rf pg) (Is (some (.int (bI (timeB now.1 n)))) (surgeW g a now spare K nw sts rf pg)) := by
  refine con_of_V ypl_X2_hasTimeFor (Nat.le_of_ble_eq_true rfl) [(0, .ref (a 0)), (1, .int n)] rfl (fun Γ ok => ?_)
  refine V_aload_n ok dX2_hasTimeFor_0 rfl 0 rfl ?_
  refine V_get (v := .ref (a 1)) ok 0 0 tw_X2 twf_X2_10 rfl rfl (by decide) dX2_hasTimeFor_1 sg_at0 rfl ?_
  refine V_get (v := .ref (a 2)) ok 1 0 tw_X0 twf_X2_57 rfl rfl (by decide) dX2_hasTimeFor_4 sg_at1 rfl ?_
  refine V_bipush (v := nI 8) ok dX2_hasTimeFor_7 rfl ?_
  refine V_iald (f := now.1) (N := 9) ok 2 8 dX2_hasTimeFor_9 sg_at2 rfl (by decide) (by decide) ?_
  refine V_iload_n ok dX2_hasTimeFor_10 rfl 1 rfl ?_
  refine V_iadd ok dX2_hasTimeFor_11 ?_
  refine V_sipush (v := nI 999) ok dX2_hasTimeFor_12 rfl ?_
  refine V_icmp_gt (tgt := 22) ok dX2_hasTimeFor_15 (by decide) (fun h15 => ?_) (fun h15 => ?_)
  · refine V_iconst (v := nI 0) ok dX2_hasTimeFor_22 rfl ?_
    exact V_zret ok dX2_hasTimeFor_23 (Nat.zero_le _) (Nat.zero_le _) rfl ⟨bI_f (by unfold timeB; rw [if_pos h15]), rfl⟩
  · refine V_iconst (v := nI 1) ok dX2_hasTimeFor_18 rfl ?_
    refine V_goto (tgt := 23) ok dX2_hasTimeFor_19 (by decide) ?_
    exact V_zret ok dX2_hasTimeFor_23 (Nat.zero_le _) (Nat.zero_le _) rfl ⟨bI_t (by unfold timeB; rw [if_neg h15]), rfl⟩
set_option maxHeartbeats 4000000 in
set_option maxRecDepth 100000 in
theorem c_X2_keep_now (g : Glob) (a : Nat → Nat) (now spare : LineSt) (K : Nat → LineSt) (nw sts : Nat) (rf : Nat → Int32) (pg : PageSt) (hnw : nw < 4) (hst : sts ≤ 4) : Con g yX2_keep cX2_keep 2 none ({ frames := 2, cells := 0, slots := 0, locals := 51 } : Room) [.ref (a 0), .ref (a 1)] (surgeW g a now spare K nw sts rf pg) (Is none (surgeW g a now spare (ringU K nw now) ((nw + 1) % 4) (stsU sts) rf pg)) := by
  refine con_of_V ypl_X2_keep (Nat.le_of_ble_eq_true rfl) [(0, .ref (a 0)), (1, .ref (a 1))] rfl (fun Γ ok => ?_)
  rcases (show nw = 0 ∨ nw = 1 ∨ nw = 2 ∨ nw = 3 by omega) with rfl | rfl | rfl | rfl
  · refine V_aload_n ok dX2_keep_0 rfl 0 rfl ?_
    refine V_aload_n ok dX2_keep_1 rfl 0 rfl ?_
    refine V_get (v := .int (nI 0)) ok 0 3 tw_X2 twf_X2_23 rfl rfl (by decide) dX2_keep_2 sg_at0 rfl ?_
    refine V_iconst (v := nI 1) ok dX2_keep_5 rfl ?_
    refine V_iaddN (a := 0) (b := 1) (c := 1) ok dX2_keep_6 (by first | rfl | omega) ?_
    refine V_iconst (v := nI 4) ok dX2_keep_7 rfl ?_
    refine V_irem ok dX2_keep_8 (by decide) ?_
    refine V_top_int (b := nI 1) (rfl) ?_
    refine V_put (w2 := surgeW g a now spare K 1 sts rf pg) ok 0 3 tw_X2 tyX2 tyX2_ok nmX2 twf_X2_23 rfl rfl (by decide) rfl rfl dX2_keep_9 sg_at0 rfl rfl (Nat.lt_of_lt_of_eq (m := 7) (by decide) rfl) sg_set_nw ?_
    refine V_aload_n ok dX2_keep_12 rfl 0 rfl ?_
    refine V_get (v := .ref (a 13)) ok 0 2 tw_X2 twf_X2_19 rfl rfl (by decide) dX2_keep_13 sg_at0 rfl ?_
    refine V_aload_n ok dX2_keep_16 rfl 0 rfl ?_
    refine V_get (v := .int (nI 1)) ok 0 3 tw_X2 twf_X2_23 rfl rfl (by decide) dX2_keep_17 sg_at0 rfl ?_
    refine V_aald (f := (fun j => some (a (14 + 6 * j)))) (N := 4) (z := a 20) ok 13 1 dX2_keep_20 sg_at13 rfl (by decide) (by decide) rfl ?_
    refine V_aload_n ok dX2_keep_21 rfl 1 rfl ?_
    refine V_cV (v2 := none) (wn := surgeW g a now spare (vf_upd K 1 now) 1 sts rf pg) (rest := []) ok 20 0 (c_X0_copyFrom g (fun i => a (20 + i)) (fun i => a (1 + i)) (K 1) now) 1 twm_X2_154 twi_yX0_copyFrom twv_yX0_copyFrom twin_X0 twc_yX0_copyFrom yok_X0_copyFrom (by decide) ⟨rfl, rfl⟩ dX2_keep_22 rfl sg_at20 rfl rfl (Nat.le_of_ble_eq_true rfl) ⟨Nat.zero_le _, Nat.zero_le _⟩ (slN 20 ++ slN 1) rfl (sub_app sg_sub_20 sg_sub_1) (Nat.le_of_ble_eq_true rfl) (rep_app rfl rfl sg_rep_20 sg_rep_1) ?_
    refine V_aload_n ok dX2_keep_25 rfl 0 rfl ?_
    refine V_get (v := .int (nI sts)) ok 0 4 tw_X2 twf_X2_27 rfl rfl (by decide) dX2_keep_26 sg_at0 rfl ?_
    refine V_iconst (v := nI 4) ok dX2_keep_29 rfl ?_
    have J30 : V g Γ 2 0 0 43 (surgeW g a now spare (vf_upd K 1 now) 1 (if 4 ≤ sts then sts else sts + 1) rf pg) [(0, .ref (a 0)), (1, .ref (a 1))] [] := by
      exact V_vret ok dX2_keep_43 (Nat.zero_le _) (Nat.zero_le _) ⟨rfl, rfl⟩
    refine V_icmpN_ge (tgt := 43) ok dX2_keep_30 (by decide) (by omega) (by omega) (fun h30 => ?_) (fun h30 => ?_)
    · simp only [if_pos h30] at J30
      exact J30
    · refine V_aload_n ok dX2_keep_33 rfl 0 rfl ?_
      refine V_dup ok dX2_keep_34 rfl ?_
      refine V_get (v := .int (nI sts)) ok 0 4 tw_X2 twf_X2_27 rfl rfl (by decide) dX2_keep_35 sg_at0 rfl ?_
      refine V_iconst (v := nI 1) ok dX2_keep_38 rfl ?_
      refine V_iaddN (a := sts) (b := 1) (c := sts + 1) ok dX2_keep_39 (by first | rfl | omega) ?_
      refine V_put (w2 := surgeW g a now spare (vf_upd K 1 now) 1 (sts + 1) rf pg) ok 0 4 tw_X2 tyX2 tyX2_ok nmX2 twf_X2_27 rfl rfl (by decide) rfl rfl dX2_keep_40 sg_at0 rfl rfl (Nat.lt_of_lt_of_eq (m := 7) (by decide) rfl) sg_set_sts ?_
      simp only [if_neg h30] at J30
      exact J30
  · refine V_aload_n ok dX2_keep_0 rfl 0 rfl ?_
    refine V_aload_n ok dX2_keep_1 rfl 0 rfl ?_
    refine V_get (v := .int (nI 1)) ok 0 3 tw_X2 twf_X2_23 rfl rfl (by decide) dX2_keep_2 sg_at0 rfl ?_
    refine V_iconst (v := nI 1) ok dX2_keep_5 rfl ?_
    refine V_iaddN (a := 1) (b := 1) (c := 2) ok dX2_keep_6 (by first | rfl | omega) ?_
    refine V_iconst (v := nI 4) ok dX2_keep_7 rfl ?_
    refine V_irem ok dX2_keep_8 (by decide) ?_
    refine V_top_int (b := nI 2) (rfl) ?_
    refine V_put (w2 := surgeW g a now spare K 2 sts rf pg) ok 0 3 tw_X2 tyX2 tyX2_ok nmX2 twf_X2_23 rfl rfl (by decide) rfl rfl dX2_keep_9 sg_at0 rfl rfl (Nat.lt_of_lt_of_eq (m := 7) (by decide) rfl) sg_set_nw ?_
    refine V_aload_n ok dX2_keep_12 rfl 0 rfl ?_
    refine V_get (v := .ref (a 13)) ok 0 2 tw_X2 twf_X2_19 rfl rfl (by decide) dX2_keep_13 sg_at0 rfl ?_
    refine V_aload_n ok dX2_keep_16 rfl 0 rfl ?_
    refine V_get (v := .int (nI 2)) ok 0 3 tw_X2 twf_X2_23 rfl rfl (by decide) dX2_keep_17 sg_at0 rfl ?_
    refine V_aald (f := (fun j => some (a (14 + 6 * j)))) (N := 4) (z := a 26) ok 13 2 dX2_keep_20 sg_at13 rfl (by decide) (by decide) rfl ?_
    refine V_aload_n ok dX2_keep_21 rfl 1 rfl ?_
    refine V_cV (v2 := none) (wn := surgeW g a now spare (vf_upd K 2 now) 2 sts rf pg) (rest := []) ok 26 0 (c_X0_copyFrom g (fun i => a (26 + i)) (fun i => a (1 + i)) (K 2) now) 1 twm_X2_154 twi_yX0_copyFrom twv_yX0_copyFrom twin_X0 twc_yX0_copyFrom yok_X0_copyFrom (by decide) ⟨rfl, rfl⟩ dX2_keep_22 rfl sg_at26 rfl rfl (Nat.le_of_ble_eq_true rfl) ⟨Nat.zero_le _, Nat.zero_le _⟩ (slN 26 ++ slN 1) rfl (sub_app sg_sub_26 sg_sub_1) (Nat.le_of_ble_eq_true rfl) (rep_app rfl rfl sg_rep_26 sg_rep_1) ?_
    refine V_aload_n ok dX2_keep_25 rfl 0 rfl ?_
    refine V_get (v := .int (nI sts)) ok 0 4 tw_X2 twf_X2_27 rfl rfl (by decide) dX2_keep_26 sg_at0 rfl ?_
    refine V_iconst (v := nI 4) ok dX2_keep_29 rfl ?_
    have J30 : V g Γ 2 0 0 43 (surgeW g a now spare (vf_upd K 2 now) 2 (if 4 ≤ sts then sts else sts + 1) rf pg) [(0, .ref (a 0)), (1, .ref (a 1))] [] := by
      exact V_vret ok dX2_keep_43 (Nat.zero_le _) (Nat.zero_le _) ⟨rfl, rfl⟩
    refine V_icmpN_ge (tgt := 43) ok dX2_keep_30 (by decide) (by omega) (by omega) (fun h30 => ?_) (fun h30 => ?_)
    · simp only [if_pos h30] at J30
      exact J30
    · refine V_aload_n ok dX2_keep_33 rfl 0 rfl ?_
      refine V_dup ok dX2_keep_34 rfl ?_
      refine V_get (v := .int (nI sts)) ok 0 4 tw_X2 twf_X2_27 rfl rfl (by decide) dX2_keep_35 sg_at0 rfl ?_
      refine V_iconst (v := nI 1) ok dX2_keep_38 rfl ?_
      refine V_iaddN (a := sts) (b := 1) (c := sts + 1) ok dX2_keep_39 (by first | rfl | omega) ?_
      refine V_put (w2 := surgeW g a now spare (vf_upd K 2 now) 2 (sts + 1) rf pg) ok 0 4 tw_X2 tyX2 tyX2_ok nmX2 twf_X2_27 rfl rfl (by decide) rfl rfl dX2_keep_40 sg_at0 rfl rfl (Nat.lt_of_lt_of_eq (m := 7) (by decide) rfl) sg_set_sts ?_
      simp only [if_neg h30] at J30
      exact J30
  · refine V_aload_n ok dX2_keep_0 rfl 0 rfl ?_
    refine V_aload_n ok dX2_keep_1 rfl 0 rfl ?_
    refine V_get (v := .int (nI 2)) ok 0 3 tw_X2 twf_X2_23 rfl rfl (by decide) dX2_keep_2 sg_at0 rfl ?_
    refine V_iconst (v := nI 1) ok dX2_keep_5 rfl ?_
    refine V_iaddN (a := 2) (b := 1) (c := 3) ok dX2_keep_6 (by first | rfl | omega) ?_
    refine V_iconst (v := nI 4) ok dX2_keep_7 rfl ?_
    refine V_irem ok dX2_keep_8 (by decide) ?_
    refine V_top_int (b := nI 3) (rfl) ?_
    refine V_put (w2 := surgeW g a now spare K 3 sts rf pg) ok 0 3 tw_X2 tyX2 tyX2_ok nmX2 twf_X2_23 rfl rfl (by decide) rfl rfl dX2_keep_9 sg_at0 rfl rfl (Nat.lt_of_lt_of_eq (m := 7) (by decide) rfl) sg_set_nw ?_
    refine V_aload_n ok dX2_keep_12 rfl 0 rfl ?_
    refine V_get (v := .ref (a 13)) ok 0 2 tw_X2 twf_X2_19 rfl rfl (by decide) dX2_keep_13 sg_at0 rfl ?_
    refine V_aload_n ok dX2_keep_16 rfl 0 rfl ?_
    refine V_get (v := .int (nI 3)) ok 0 3 tw_X2 twf_X2_23 rfl rfl (by decide) dX2_keep_17 sg_at0 rfl ?_
    refine V_aald (f := (fun j => some (a (14 + 6 * j)))) (N := 4) (z := a 32) ok 13 3 dX2_keep_20 sg_at13 rfl (by decide) (by decide) rfl ?_
    refine V_aload_n ok dX2_keep_21 rfl 1 rfl ?_
    refine V_cV (v2 := none) (wn := surgeW g a now spare (vf_upd K 3 now) 3 sts rf pg) (rest := []) ok 32 0 (c_X0_copyFrom g (fun i => a (32 + i)) (fun i => a (1 + i)) (K 3) now) 1 twm_X2_154 twi_yX0_copyFrom twv_yX0_copyFrom twin_X0 twc_yX0_copyFrom yok_X0_copyFrom (by decide) ⟨rfl, rfl⟩ dX2_keep_22 rfl sg_at32 rfl rfl (Nat.le_of_ble_eq_true rfl) ⟨Nat.zero_le _, Nat.zero_le _⟩ (slN 32 ++ slN 1) rfl (sub_app sg_sub_32 sg_sub_1) (Nat.le_of_ble_eq_true rfl) (rep_app rfl rfl sg_rep_32 sg_rep_1) ?_
    refine V_aload_n ok dX2_keep_25 rfl 0 rfl ?_
    refine V_get (v := .int (nI sts)) ok 0 4 tw_X2 twf_X2_27 rfl rfl (by decide) dX2_keep_26 sg_at0 rfl ?_
    refine V_iconst (v := nI 4) ok dX2_keep_29 rfl ?_
    have J30 : V g Γ 2 0 0 43 (surgeW g a now spare (vf_upd K 3 now) 3 (if 4 ≤ sts then sts else sts + 1) rf pg) [(0, .ref (a 0)), (1, .ref (a 1))] [] := by
      exact V_vret ok dX2_keep_43 (Nat.zero_le _) (Nat.zero_le _) ⟨rfl, rfl⟩
    refine V_icmpN_ge (tgt := 43) ok dX2_keep_30 (by decide) (by omega) (by omega) (fun h30 => ?_) (fun h30 => ?_)
    · simp only [if_pos h30] at J30
      exact J30
    · refine V_aload_n ok dX2_keep_33 rfl 0 rfl ?_
      refine V_dup ok dX2_keep_34 rfl ?_
      refine V_get (v := .int (nI sts)) ok 0 4 tw_X2 twf_X2_27 rfl rfl (by decide) dX2_keep_35 sg_at0 rfl ?_
      refine V_iconst (v := nI 1) ok dX2_keep_38 rfl ?_
      refine V_iaddN (a := sts) (b := 1) (c := sts + 1) ok dX2_keep_39 (by first | rfl | omega) ?_
      refine V_put (w2 := surgeW g a now spare (vf_upd K 3 now) 3 (sts + 1) rf pg) ok 0 4 tw_X2 tyX2 tyX2_ok nmX2 twf_X2_27 rfl rfl (by decide) rfl rfl dX2_keep_40 sg_at0 rfl rfl (Nat.lt_of_lt_of_eq (m := 7) (by decide) rfl) sg_set_sts ?_
      simp only [if_neg h30] at J30
      exact J30
  · refine V_aload_n ok dX2_keep_0 rfl 0 rfl ?_
    refine V_aload_n ok dX2_keep_1 rfl 0 rfl ?_
    refine V_get (v := .int (nI 3)) ok 0 3 tw_X2 twf_X2_23 rfl rfl (by decide) dX2_keep_2 sg_at0 rfl ?_
    refine V_iconst (v := nI 1) ok dX2_keep_5 rfl ?_
    refine V_iaddN (a := 3) (b := 1) (c := 4) ok dX2_keep_6 (by first | rfl | omega) ?_
    refine V_iconst (v := nI 4) ok dX2_keep_7 rfl ?_
    refine V_irem ok dX2_keep_8 (by decide) ?_
    refine V_top_int (b := nI 0) (rfl) ?_
    refine V_put (w2 := surgeW g a now spare K 0 sts rf pg) ok 0 3 tw_X2 tyX2 tyX2_ok nmX2 twf_X2_23 rfl rfl (by decide) rfl rfl dX2_keep_9 sg_at0 rfl rfl (Nat.lt_of_lt_of_eq (m := 7) (by decide) rfl) sg_set_nw ?_
    refine V_aload_n ok dX2_keep_12 rfl 0 rfl ?_
    refine V_get (v := .ref (a 13)) ok 0 2 tw_X2 twf_X2_19 rfl rfl (by decide) dX2_keep_13 sg_at0 rfl ?_
    refine V_aload_n ok dX2_keep_16 rfl 0 rfl ?_
    refine V_get (v := .int (nI 0)) ok 0 3 tw_X2 twf_X2_23 rfl rfl (by decide) dX2_keep_17 sg_at0 rfl ?_
    refine V_aald (f := (fun j => some (a (14 + 6 * j)))) (N := 4) (z := a 14) ok 13 0 dX2_keep_20 sg_at13 rfl (by decide) (by decide) rfl ?_
    refine V_aload_n ok dX2_keep_21 rfl 1 rfl ?_
    refine V_cV (v2 := none) (wn := surgeW g a now spare (vf_upd K 0 now) 0 sts rf pg) (rest := []) ok 14 0 (c_X0_copyFrom g (fun i => a (14 + i)) (fun i => a (1 + i)) (K 0) now) 1 twm_X2_154 twi_yX0_copyFrom twv_yX0_copyFrom twin_X0 twc_yX0_copyFrom yok_X0_copyFrom (by decide) ⟨rfl, rfl⟩ dX2_keep_22 rfl sg_at14 rfl rfl (Nat.le_of_ble_eq_true rfl) ⟨Nat.zero_le _, Nat.zero_le _⟩ (slN 14 ++ slN 1) rfl (sub_app sg_sub_14 sg_sub_1) (Nat.le_of_ble_eq_true rfl) (rep_app rfl rfl sg_rep_14 sg_rep_1) ?_
    refine V_aload_n ok dX2_keep_25 rfl 0 rfl ?_
    refine V_get (v := .int (nI sts)) ok 0 4 tw_X2 twf_X2_27 rfl rfl (by decide) dX2_keep_26 sg_at0 rfl ?_
    refine V_iconst (v := nI 4) ok dX2_keep_29 rfl ?_
    have J30 : V g Γ 2 0 0 43 (surgeW g a now spare (vf_upd K 0 now) 0 (if 4 ≤ sts then sts else sts + 1) rf pg) [(0, .ref (a 0)), (1, .ref (a 1))] [] := by
      exact V_vret ok dX2_keep_43 (Nat.zero_le _) (Nat.zero_le _) ⟨rfl, rfl⟩
    refine V_icmpN_ge (tgt := 43) ok dX2_keep_30 (by decide) (by omega) (by omega) (fun h30 => ?_) (fun h30 => ?_)
    · simp only [if_pos h30] at J30
      exact J30
    · refine V_aload_n ok dX2_keep_33 rfl 0 rfl ?_
      refine V_dup ok dX2_keep_34 rfl ?_
      refine V_get (v := .int (nI sts)) ok 0 4 tw_X2 twf_X2_27 rfl rfl (by decide) dX2_keep_35 sg_at0 rfl ?_
      refine V_iconst (v := nI 1) ok dX2_keep_38 rfl ?_
      refine V_iaddN (a := sts) (b := 1) (c := sts + 1) ok dX2_keep_39 (by first | rfl | omega) ?_
      refine V_put (w2 := surgeW g a now spare (vf_upd K 0 now) 0 (sts + 1) rf pg) ok 0 4 tw_X2 tyX2 tyX2_ok nmX2 twf_X2_27 rfl rfl (by decide) rfl rfl dX2_keep_40 sg_at0 rfl rfl (Nat.lt_of_lt_of_eq (m := 7) (by decide) rfl) sg_set_sts ?_
      simp only [if_neg h30] at J30
      exact J30
set_option maxHeartbeats 4000000 in
set_option maxRecDepth 100000 in
theorem c_X2_keep_spare (g : Glob) (a : Nat → Nat) (now spare : LineSt) (K : Nat → LineSt) (nw sts : Nat) (rf : Nat → Int32) (pg : PageSt) (hnw : nw < 4) (hst : sts ≤ 4) : Con g yX2_keep cX2_keep 2 none ({ frames := 2, cells := 0, slots := 0, locals := 51 } : Room) [.ref (a 0), .ref (a 7)] (surgeW g a now spare K nw sts rf pg) (Is none (surgeW g a now spare (ringU K nw spare) ((nw + 1) % 4) (stsU sts) rf pg)) := by
  refine con_of_V ypl_X2_keep (Nat.le_of_ble_eq_true rfl) [(0, .ref (a 0)), (1, .ref (a 7))] rfl (fun Γ ok => ?_)
  rcases (show nw = 0 ∨ nw = 1 ∨ nw = 2 ∨ nw = 3 by omega) with rfl | rfl | rfl | rfl
  · refine V_aload_n ok dX2_keep_0 rfl 0 rfl ?_
    refine V_aload_n ok dX2_keep_1 rfl 0 rfl ?_
    refine V_get (v := .int (nI 0)) ok 0 3 tw_X2 twf_X2_23 rfl rfl (by decide) dX2_keep_2 sg_at0 rfl ?_
    refine V_iconst (v := nI 1) ok dX2_keep_5 rfl ?_
    refine V_iaddN (a := 0) (b := 1) (c := 1) ok dX2_keep_6 (by first | rfl | omega) ?_
    refine V_iconst (v := nI 4) ok dX2_keep_7 rfl ?_
    refine V_irem ok dX2_keep_8 (by decide) ?_
    refine V_top_int (b := nI 1) (rfl) ?_
    refine V_put (w2 := surgeW g a now spare K 1 sts rf pg) ok 0 3 tw_X2 tyX2 tyX2_ok nmX2 twf_X2_23 rfl rfl (by decide) rfl rfl dX2_keep_9 sg_at0 rfl rfl (Nat.lt_of_lt_of_eq (m := 7) (by decide) rfl) sg_set_nw ?_
    refine V_aload_n ok dX2_keep_12 rfl 0 rfl ?_
    refine V_get (v := .ref (a 13)) ok 0 2 tw_X2 twf_X2_19 rfl rfl (by decide) dX2_keep_13 sg_at0 rfl ?_
    refine V_aload_n ok dX2_keep_16 rfl 0 rfl ?_
    refine V_get (v := .int (nI 1)) ok 0 3 tw_X2 twf_X2_23 rfl rfl (by decide) dX2_keep_17 sg_at0 rfl ?_
    refine V_aald (f := (fun j => some (a (14 + 6 * j)))) (N := 4) (z := a 20) ok 13 1 dX2_keep_20 sg_at13 rfl (by decide) (by decide) rfl ?_
    refine V_aload_n ok dX2_keep_21 rfl 1 rfl ?_
    refine V_cV (v2 := none) (wn := surgeW g a now spare (vf_upd K 1 spare) 1 sts rf pg) (rest := []) ok 20 0 (c_X0_copyFrom g (fun i => a (20 + i)) (fun i => a (7 + i)) (K 1) spare) 1 twm_X2_154 twi_yX0_copyFrom twv_yX0_copyFrom twin_X0 twc_yX0_copyFrom yok_X0_copyFrom (by decide) ⟨rfl, rfl⟩ dX2_keep_22 rfl sg_at20 rfl rfl (Nat.le_of_ble_eq_true rfl) ⟨Nat.zero_le _, Nat.zero_le _⟩ (slN 20 ++ slN 7) rfl (sub_app sg_sub_20 sg_sub_7) (Nat.le_of_ble_eq_true rfl) (rep_app rfl rfl sg_rep_20 sg_rep_7) ?_
    refine V_aload_n ok dX2_keep_25 rfl 0 rfl ?_
    refine V_get (v := .int (nI sts)) ok 0 4 tw_X2 twf_X2_27 rfl rfl (by decide) dX2_keep_26 sg_at0 rfl ?_
    refine V_iconst (v := nI 4) ok dX2_keep_29 rfl ?_
    have J30 : V g Γ 2 0 0 43 (surgeW g a now spare (vf_upd K 1 spare) 1 (if 4 ≤ sts then sts else sts + 1) rf pg) [(0, .ref (a 0)), (1, .ref (a 7))] [] := by
      exact V_vret ok dX2_keep_43 (Nat.zero_le _) (Nat.zero_le _) ⟨rfl, rfl⟩
    refine V_icmpN_ge (tgt := 43) ok dX2_keep_30 (by decide) (by omega) (by omega) (fun h30 => ?_) (fun h30 => ?_)
    · simp only [if_pos h30] at J30
      exact J30
    · refine V_aload_n ok dX2_keep_33 rfl 0 rfl ?_
      refine V_dup ok dX2_keep_34 rfl ?_
      refine V_get (v := .int (nI sts)) ok 0 4 tw_X2 twf_X2_27 rfl rfl (by decide) dX2_keep_35 sg_at0 rfl ?_
      refine V_iconst (v := nI 1) ok dX2_keep_38 rfl ?_
      refine V_iaddN (a := sts) (b := 1) (c := sts + 1) ok dX2_keep_39 (by first | rfl | omega) ?_
      refine V_put (w2 := surgeW g a now spare (vf_upd K 1 spare) 1 (sts + 1) rf pg) ok 0 4 tw_X2 tyX2 tyX2_ok nmX2 twf_X2_27 rfl rfl (by decide) rfl rfl dX2_keep_40 sg_at0 rfl rfl (Nat.lt_of_lt_of_eq (m := 7) (by decide) rfl) sg_set_sts ?_
      simp only [if_neg h30] at J30
      exact J30
  · refine V_aload_n ok dX2_keep_0 rfl 0 rfl ?_
    refine V_aload_n ok dX2_keep_1 rfl 0 rfl ?_
    refine V_get (v := .int (nI 1)) ok 0 3 tw_X2 twf_X2_23 rfl rfl (by decide) dX2_keep_2 sg_at0 rfl ?_
    refine V_iconst (v := nI 1) ok dX2_keep_5 rfl ?_
    refine V_iaddN (a := 1) (b := 1) (c := 2) ok dX2_keep_6 (by first | rfl | omega) ?_
    refine V_iconst (v := nI 4) ok dX2_keep_7 rfl ?_
    refine V_irem ok dX2_keep_8 (by decide) ?_
    refine V_top_int (b := nI 2) (rfl) ?_
    refine V_put (w2 := surgeW g a now spare K 2 sts rf pg) ok 0 3 tw_X2 tyX2 tyX2_ok nmX2 twf_X2_23 rfl rfl (by decide) rfl rfl dX2_keep_9 sg_at0 rfl rfl (Nat.lt_of_lt_of_eq (m := 7) (by decide) rfl) sg_set_nw ?_
    refine V_aload_n ok dX2_keep_12 rfl 0 rfl ?_
    refine V_get (v := .ref (a 13)) ok 0 2 tw_X2 twf_X2_19 rfl rfl (by decide) dX2_keep_13 sg_at0 rfl ?_
    refine V_aload_n ok dX2_keep_16 rfl 0 rfl ?_
    refine V_get (v := .int (nI 2)) ok 0 3 tw_X2 twf_X2_23 rfl rfl (by decide) dX2_keep_17 sg_at0 rfl ?_
    refine V_aald (f := (fun j => some (a (14 + 6 * j)))) (N := 4) (z := a 26) ok 13 2 dX2_keep_20 sg_at13 rfl (by decide) (by decide) rfl ?_
    refine V_aload_n ok dX2_keep_21 rfl 1 rfl ?_
    refine V_cV (v2 := none) (wn := surgeW g a now spare (vf_upd K 2 spare) 2 sts rf pg) (rest := []) ok 26 0 (c_X0_copyFrom g (fun i => a (26 + i)) (fun i => a (7 + i)) (K 2) spare) 1 twm_X2_154 twi_yX0_copyFrom twv_yX0_copyFrom twin_X0 twc_yX0_copyFrom yok_X0_copyFrom (by decide) ⟨rfl, rfl⟩ dX2_keep_22 rfl sg_at26 rfl rfl (Nat.le_of_ble_eq_true rfl) ⟨Nat.zero_le _, Nat.zero_le _⟩ (slN 26 ++ slN 7) rfl (sub_app sg_sub_26 sg_sub_7) (Nat.le_of_ble_eq_true rfl) (rep_app rfl rfl sg_rep_26 sg_rep_7) ?_
    refine V_aload_n ok dX2_keep_25 rfl 0 rfl ?_
    refine V_get (v := .int (nI sts)) ok 0 4 tw_X2 twf_X2_27 rfl rfl (by decide) dX2_keep_26 sg_at0 rfl ?_
    refine V_iconst (v := nI 4) ok dX2_keep_29 rfl ?_
    have J30 : V g Γ 2 0 0 43 (surgeW g a now spare (vf_upd K 2 spare) 2 (if 4 ≤ sts then sts else sts + 1) rf pg) [(0, .ref (a 0)), (1, .ref (a 7))] [] := by
      exact V_vret ok dX2_keep_43 (Nat.zero_le _) (Nat.zero_le _) ⟨rfl, rfl⟩
    refine V_icmpN_ge (tgt := 43) ok dX2_keep_30 (by decide) (by omega) (by omega) (fun h30 => ?_) (fun h30 => ?_)
    · simp only [if_pos h30] at J30
      exact J30
    · refine V_aload_n ok dX2_keep_33 rfl 0 rfl ?_
      refine V_dup ok dX2_keep_34 rfl ?_
      refine V_get (v := .int (nI sts)) ok 0 4 tw_X2 twf_X2_27 rfl rfl (by decide) dX2_keep_35 sg_at0 rfl ?_
      refine V_iconst (v := nI 1) ok dX2_keep_38 rfl ?_
      refine V_iaddN (a := sts) (b := 1) (c := sts + 1) ok dX2_keep_39 (by first | rfl | omega) ?_
      refine V_put (w2 := surgeW g a now spare (vf_upd K 2 spare) 2 (sts + 1) rf pg) ok 0 4 tw_X2 tyX2 tyX2_ok nmX2 twf_X2_27 rfl rfl (by decide) rfl rfl dX2_keep_40 sg_at0 rfl rfl (Nat.lt_of_lt_of_eq (m := 7) (by decide) rfl) sg_set_sts ?_
      simp only [if_neg h30] at J30
      exact J30
  · refine V_aload_n ok dX2_keep_0 rfl 0 rfl ?_
    refine V_aload_n ok dX2_keep_1 rfl 0 rfl ?_
    refine V_get (v := .int (nI 2)) ok 0 3 tw_X2 twf_X2_23 rfl rfl (by decide) dX2_keep_2 sg_at0 rfl ?_
    refine V_iconst (v := nI 1) ok dX2_keep_5 rfl ?_
    refine V_iaddN (a := 2) (b := 1) (c := 3) ok dX2_keep_6 (by first | rfl | omega) ?_
    refine V_iconst (v := nI 4) ok dX2_keep_7 rfl ?_
    refine V_irem ok dX2_keep_8 (by decide) ?_
    refine V_top_int (b := nI 3) (rfl) ?_
    refine V_put (w2 := surgeW g a now spare K 3 sts rf pg) ok 0 3 tw_X2 tyX2 tyX2_ok nmX2 twf_X2_23 rfl rfl (by decide) rfl rfl dX2_keep_9 sg_at0 rfl rfl (Nat.lt_of_lt_of_eq (m := 7) (by decide) rfl) sg_set_nw ?_
    refine V_aload_n ok dX2_keep_12 rfl 0 rfl ?_
    refine V_get (v := .ref (a 13)) ok 0 2 tw_X2 twf_X2_19 rfl rfl (by decide) dX2_keep_13 sg_at0 rfl ?_
    refine V_aload_n ok dX2_keep_16 rfl 0 rfl ?_
    refine V_get (v := .int (nI 3)) ok 0 3 tw_X2 twf_X2_23 rfl rfl (by decide) dX2_keep_17 sg_at0 rfl ?_
    refine V_aald (f := (fun j => some (a (14 + 6 * j)))) (N := 4) (z := a 32) ok 13 3 dX2_keep_20 sg_at13 rfl (by decide) (by decide) rfl ?_
    refine V_aload_n ok dX2_keep_21 rfl 1 rfl ?_
    refine V_cV (v2 := none) (wn := surgeW g a now spare (vf_upd K 3 spare) 3 sts rf pg) (rest := []) ok 32 0 (c_X0_copyFrom g (fun i => a (32 + i)) (fun i => a (7 + i)) (K 3) spare) 1 twm_X2_154 twi_yX0_copyFrom twv_yX0_copyFrom twin_X0 twc_yX0_copyFrom yok_X0_copyFrom (by decide) ⟨rfl, rfl⟩ dX2_keep_22 rfl sg_at32 rfl rfl (Nat.le_of_ble_eq_true rfl) ⟨Nat.zero_le _, Nat.zero_le _⟩ (slN 32 ++ slN 7) rfl (sub_app sg_sub_32 sg_sub_7) (Nat.le_of_ble_eq_true rfl) (rep_app rfl rfl sg_rep_32 sg_rep_7) ?_
    refine V_aload_n ok dX2_keep_25 rfl 0 rfl ?_
    refine V_get (v := .int (nI sts)) ok 0 4 tw_X2 twf_X2_27 rfl rfl (by decide) dX2_keep_26 sg_at0 rfl ?_
    refine V_iconst (v := nI 4) ok dX2_keep_29 rfl ?_
    have J30 : V g Γ 2 0 0 43 (surgeW g a now spare (vf_upd K 3 spare) 3 (if 4 ≤ sts then sts else sts + 1) rf pg) [(0, .ref (a 0)), (1, .ref (a 7))] [] := by
      exact V_vret ok dX2_keep_43 (Nat.zero_le _) (Nat.zero_le _) ⟨rfl, rfl⟩
    refine V_icmpN_ge (tgt := 43) ok dX2_keep_30 (by decide) (by omega) (by omega) (fun h30 => ?_) (fun h30 => ?_)
    · simp only [if_pos h30] at J30
      exact J30
    · refine V_aload_n ok dX2_keep_33 rfl 0 rfl ?_
      refine V_dup ok dX2_keep_34 rfl ?_
      refine V_get (v := .int (nI sts)) ok 0 4 tw_X2 twf_X2_27 rfl rfl (by decide) dX2_keep_35 sg_at0 rfl ?_
      refine V_iconst (v := nI 1) ok dX2_keep_38 rfl ?_
      refine V_iaddN (a := sts) (b := 1) (c := sts + 1) ok dX2_keep_39 (by first | rfl | omega) ?_
      refine V_put (w2 := surgeW g a now spare (vf_upd K 3 spare) 3 (sts + 1) rf pg) ok 0 4 tw_X2 tyX2 tyX2_ok nmX2 twf_X2_27 rfl rfl (by decide) rfl rfl dX2_keep_40 sg_at0 rfl rfl (Nat.lt_of_lt_of_eq (m := 7) (by decide) rfl) sg_set_sts ?_
      simp only [if_neg h30] at J30
      exact J30
  · refine V_aload_n ok dX2_keep_0 rfl 0 rfl ?_
    refine V_aload_n ok dX2_keep_1 rfl 0 rfl ?_
    refine V_get (v := .int (nI 3)) ok 0 3 tw_X2 twf_X2_23 rfl rfl (by decide) dX2_keep_2 sg_at0 rfl ?_
    refine V_iconst (v := nI 1) ok dX2_keep_5 rfl ?_
    refine V_iaddN (a := 3) (b := 1) (c := 4) ok dX2_keep_6 (by first | rfl | omega) ?_
    refine V_iconst (v := nI 4) ok dX2_keep_7 rfl ?_
    refine V_irem ok dX2_keep_8 (by decide) ?_
    refine V_top_int (b := nI 0) (rfl) ?_
    refine V_put (w2 := surgeW g a now spare K 0 sts rf pg) ok 0 3 tw_X2 tyX2 tyX2_ok nmX2 twf_X2_23 rfl rfl (by decide) rfl rfl dX2_keep_9 sg_at0 rfl rfl (Nat.lt_of_lt_of_eq (m := 7) (by decide) rfl) sg_set_nw ?_
    refine V_aload_n ok dX2_keep_12 rfl 0 rfl ?_
    refine V_get (v := .ref (a 13)) ok 0 2 tw_X2 twf_X2_19 rfl rfl (by decide) dX2_keep_13 sg_at0 rfl ?_
    refine V_aload_n ok dX2_keep_16 rfl 0 rfl ?_
    refine V_get (v := .int (nI 0)) ok 0 3 tw_X2 twf_X2_23 rfl rfl (by decide) dX2_keep_17 sg_at0 rfl ?_
    refine V_aald (f := (fun j => some (a (14 + 6 * j)))) (N := 4) (z := a 14) ok 13 0 dX2_keep_20 sg_at13 rfl (by decide) (by decide) rfl ?_
    refine V_aload_n ok dX2_keep_21 rfl 1 rfl ?_
    refine V_cV (v2 := none) (wn := surgeW g a now spare (vf_upd K 0 spare) 0 sts rf pg) (rest := []) ok 14 0 (c_X0_copyFrom g (fun i => a (14 + i)) (fun i => a (7 + i)) (K 0) spare) 1 twm_X2_154 twi_yX0_copyFrom twv_yX0_copyFrom twin_X0 twc_yX0_copyFrom yok_X0_copyFrom (by decide) ⟨rfl, rfl⟩ dX2_keep_22 rfl sg_at14 rfl rfl (Nat.le_of_ble_eq_true rfl) ⟨Nat.zero_le _, Nat.zero_le _⟩ (slN 14 ++ slN 7) rfl (sub_app sg_sub_14 sg_sub_7) (Nat.le_of_ble_eq_true rfl) (rep_app rfl rfl sg_rep_14 sg_rep_7) ?_
    refine V_aload_n ok dX2_keep_25 rfl 0 rfl ?_
    refine V_get (v := .int (nI sts)) ok 0 4 tw_X2 twf_X2_27 rfl rfl (by decide) dX2_keep_26 sg_at0 rfl ?_
    refine V_iconst (v := nI 4) ok dX2_keep_29 rfl ?_
    have J30 : V g Γ 2 0 0 43 (surgeW g a now spare (vf_upd K 0 spare) 0 (if 4 ≤ sts then sts else sts + 1) rf pg) [(0, .ref (a 0)), (1, .ref (a 7))] [] := by
      exact V_vret ok dX2_keep_43 (Nat.zero_le _) (Nat.zero_le _) ⟨rfl, rfl⟩
    refine V_icmpN_ge (tgt := 43) ok dX2_keep_30 (by decide) (by omega) (by omega) (fun h30 => ?_) (fun h30 => ?_)
    · simp only [if_pos h30] at J30
      exact J30
    · refine V_aload_n ok dX2_keep_33 rfl 0 rfl ?_
      refine V_dup ok dX2_keep_34 rfl ?_
      refine V_get (v := .int (nI sts)) ok 0 4 tw_X2 twf_X2_27 rfl rfl (by decide) dX2_keep_35 sg_at0 rfl ?_
      refine V_iconst (v := nI 1) ok dX2_keep_38 rfl ?_
      refine V_iaddN (a := sts) (b := 1) (c := sts + 1) ok dX2_keep_39 (by first | rfl | omega) ?_
      refine V_put (w2 := surgeW g a now spare (vf_upd K 0 spare) 0 (sts + 1) rf pg) ok 0 4 tw_X2 tyX2 tyX2_ok nmX2 twf_X2_27 rfl rfl (by decide) rfl rfl dX2_keep_40 sg_at0 rfl rfl (Nat.lt_of_lt_of_eq (m := 7) (by decide) rfl) sg_set_sts ?_
      simp only [if_neg h30] at J30
      exact J30
end
section
/-! numbers that fit keep a Line as it should be -/
def okI : Nat → Int32 → Prop
  | 0, x => x = nI x.toNatClampNeg ∧ 1 ≤ x.toNatClampNeg ∧ x.toNatClampNeg ≤ 10
  | 1, x => x = nI x.toNatClampNeg ∧ x.toNatClampNeg ≤ 1000
  | 2, x => -100 ≤ x.toInt ∧ x.toInt ≤ 100
  | 3, x => x = nI x.toNatClampNeg ∧ 1 ≤ x.toNatClampNeg ∧ x.toNatClampNeg ≤ 99
  | 4, x => x = nI x.toNatClampNeg ∧ x.toNatClampNeg ≤ 1
  | 5, x => x = nI x.toNatClampNeg ∧ x.toNatClampNeg ≤ 3
  | 6, x => x = nI x.toNatClampNeg ∧ x.toNatClampNeg ≤ 5
  | 7, x => x = nI x.toNatClampNeg ∧ 1 ≤ x.toNatClampNeg ∧ x.toNatClampNeg ≤ 60
  | 8, x => x = nI x.toNatClampNeg ∧ x.toNatClampNeg ≤ 999
  | _, _ => True
theorem VG_iff {v : Nat → Int32} : VG v ↔ ∀ i, i < 9 → okI i (v i) := by
  constructor
  · intro h i hi
    rcases (show i = 0 ∨ i = 1 ∨ i = 2 ∨ i = 3 ∨ i = 4 ∨ i = 5 ∨ i = 6 ∨ i = 7 ∨ i = 8 by omega) with rfl | rfl | rfl | rfl | rfl | rfl | rfl | rfl | rfl
    · exact h.n
    · exact h.h
    · exact h.q
    · exact h.a
    · exact h.lf
    · exact h.rt
    · exact h.k
    · exact h.t
    · exact h.tm
  · intro h
    exact ⟨h 0 (by decide), h 1 (by decide), h 2 (by decide), h 3 (by decide), h 4 (by decide), h 5 (by decide), h 6 (by decide), h 7 (by decide), h 8 (by decide)⟩
theorem VG.put1 {v : Nat → Int32} (h : VG v) {w : Nat} {u : Int32} (hu : okI w u) : VG (upd v w u) := VG_iff.mpr fun i hi => by
  by_cases e : i = w
  · subst e; rw [upd_eq]; exact hu
  · rw [upd_ne e]; exact VG_iff.mp h i hi
theorem rng {u : Int32} {lo hi : Nat} (h1 : nI lo ≤ u) (h2 : u ≤ nI hi) (hh : hi < 2 ^ 31) (hl : lo < 2 ^ 31) : u = nI u.toNatClampNeg ∧ lo ≤ u.toNatClampNeg ∧ u.toNatClampNeg ≤ hi := by
  have a := Int32.le_iff_toInt_le.mp h1
  have b := Int32.le_iff_toInt_le.mp h2
  rw [nI_toInt hl] at a
  rw [nI_toInt hh] at b
  have e : u = nI u.toInt.toNat := Int32.toInt_inj.mp (by rw [nI_toInt (by omega)]; omega)
  have c : u.toNatClampNeg = u.toInt.toNat := by rw [e]; rw [nI_clamp (by omega), nI_toInt (by omega)]; omega
  rw [c]
  exact ⟨e, by omega, by omega⟩
theorem fitsB_iff {w : Nat} {u : Int32} (hw : w < 8) : fitsB (nI w) u = true ↔ ¬ u < sLO w ∧ ¬ sHI w < u := by
  unfold fitsB
  rw [if_neg (nI_pos (by omega)), if_neg (nI_ge hw (by decide)), nI_clamp (by omega)]
  constructor
  · intro h
    split at h
    · cases h
    · split at h
      · cases h
      · exact ⟨‹_›, ‹_›⟩
  · intro ⟨h1, h2⟩
    rw [if_neg h1, if_neg h2]
theorem nlt_le {a b : Int32} (h : ¬ a < b) : b ≤ a := Int32.not_lt.mp h
theorem fits_ok {w : Nat} {u : Int32} (hw : w < 8) (h : fitsB (nI w) u = true) : okI w u := by
  obtain ⟨h1, h2⟩ := (fitsB_iff hw).mp h
  have h1 := nlt_le h1
  have h2 := nlt_le h2
  rcases (show w = 0 ∨ w = 1 ∨ w = 2 ∨ w = 3 ∨ w = 4 ∨ w = 5 ∨ w = 6 ∨ w = 7 by omega) with rfl | rfl | rfl | rfl | rfl | rfl | rfl | rfl
  · exact rng (lo := 1) (hi := 10) h1 h2 (by decide) (by decide)
  · have r := rng (lo := 0) (hi := 1000) h1 h2 (by decide) (by decide); exact ⟨r.1, r.2.2⟩
  · exact ⟨Int32.le_iff_toInt_le.mp h1, Int32.le_iff_toInt_le.mp h2⟩
  · exact rng (lo := 1) (hi := 99) h1 h2 (by decide) (by decide)
  · have r := rng (lo := 0) (hi := 1) h1 h2 (by decide) (by decide); exact ⟨r.1, r.2.2⟩
  · have r := rng (lo := 0) (hi := 3) h1 h2 (by decide) (by decide); exact ⟨r.1, r.2.2⟩
  · have r := rng (lo := 0) (hi := 5) h1 h2 (by decide) (by decide); exact ⟨r.1, r.2.2⟩
  · exact rng (lo := 1) (hi := 60) h1 h2 (by decide) (by decide)
theorem isLaw_ok {k t : Int32} (h : isLawB k t = true) : okI 6 k ∧ okI 7 t := by
  unfold isLawB at h
  split at h
  · split at h
    · exact ⟨fits_ok (by decide) ‹_›, fits_ok (by decide) ‹_›⟩
    · cases h
  · cases h
theorem VG.law {v : Nat → Int32} (h : VG v) {k t : Int32} (hk : okI 6 k) (ht : okI 7 t) : VG (upd (upd v 6 k) 7 t) := VG.put1 (w := 7) (VG.put1 (w := 6) h hk) ht
theorem VG.try {v : Nat → Int32} (h : VG v) {k t : Int32} (hk : okI 6 k) (ht : okI 7 t) : VG (tryV v k t) := VG.law (VG.put1 (w := 5) (u := nI 0) h ⟨rfl, by decide⟩) hk ht
theorem LG.law {x : LineSt} (h : LG x) {k t : Int32} (hk : okI 6 k) (ht : okI 7 t) : LG (upd (upd x.1 6 k) 7 t, x.2) := by
  have e0 : nv (upd (upd x.1 6 k) 7 t) 0 = nv x.1 0 := by rw [nv_upd_ne (by decide), nv_upd_ne (by decide)]
  have e8 : nv (upd (upd x.1 6 k) 7 t) 8 = nv x.1 8 := by rw [nv_upd_ne (by decide), nv_upd_ne (by decide)]
  have e5 : nv (upd (upd x.1 6 k) 7 t) 5 = nv x.1 5 := by rw [nv_upd_ne (by decide), nv_upd_ne (by decide)]
  have e1 : upd (upd x.1 6 k) 7 t 1 = x.1 1 := by rw [upd_ne (by decide), upd_ne (by decide)]
  obtain ⟨h1, h2⟩ := h
  unfold LG
  simp only
  rw [e0, e8, e5, e1]
  exact ⟨h1.law hk ht, h2⟩
theorem stepB_iff {n : Int32} : stepB n = true → n = nI n.toNatClampNeg ∧ 1 ≤ n.toNatClampNeg ∧ n.toNatClampNeg ≤ 100 := by
  intro h
  unfold stepB at h
  split at h
  · cases h
  · split at h
    · cases h
    · exact rng (nlt_le ‹_›) (nlt_le ‹_›) (by decide) (by decide)
theorem trialB_iff {n : Int32} : trialB n = true → n = nI n.toNatClampNeg ∧ n.toNatClampNeg ≤ 100 := by
  intro h
  unfold trialB at h
  split at h
  · cases h
  · split at h
    · cases h
    · have r := rng (lo := 0) (hi := 100) (u := n) (nlt_le ‹_›) (nlt_le ‹_›) (by decide) (by decide)
      exact ⟨r.1, r.2.2⟩
theorem timeB_iff {v : Nat → Int32} (hv : VG v) {n : Nat} (hn : n ≤ 100) : timeB v (nI n) = true ↔ nv v 8 + n ≤ 999 := by
  have h := hv.tm
  unfold timeB
  rw [h.1, nI_add]
  constructor
  · intro q
    split at q
    · cases q
    · rename_i z
      rcases Nat.lt_or_ge 999 (nv v 8 + n) with w | w
      · exact absurd (nI_lt w (by omega)) z
      · exact w
  · intro q
    rw [if_neg (nI_nlt q (by decide))]
theorem nodeB_iff {v : Nat → Int32} (hv : VG v) {i : Int32} : nodeB v i = true → i = nI i.toNatClampNeg ∧ i.toNatClampNeg ≤ nv v 0 := by
  intro h
  unfold nodeB at h
  split at h
  · cases h
  · split at h
    · cases h
    · have r := rng (lo := 0) (hi := nv v 0) (u := i) (nlt_le ‹_›) (by rw [← hv.n.1]; exact nlt_le ‹_›) (by have := hv.n; omega) (by decide)
      exact ⟨r.1, r.2.2⟩
theorem LG.press {x : LineSt} (h : LG x) {i : Nat} (hi : i ≤ nv x.1 0) : bz 2000000000 (FP.dadd (x.2.1 i) (x.2.2.1 i)) := by
  have hb := wb_le h.1.tm.2
  exact (h.2.1.press (by omega) i hi).mono (by omega)
/-- what is kept is finite -/
theorem kept_ok {x : LineSt} (h : LG x) : ∀ i, i ≤ nv x.1 0 → vf_n64 (FP.dmul (x.2.1 i) (x.2.1 i)) ∧ vf_n64 (FP.dmul (x.2.2.1 i) (x.2.2.1 i)) ∧ vf_n64 (FP.dadd (FP.dmul (x.2.1 i) (x.2.1 i)) (FP.dmul (x.2.2.1 i) (x.2.2.1 i))) ∧ vf_n64 (kept0 x.2.1 x.2.2.1 (i + 1)) ∧ Bd ((i + 1) * 2 ^ 61) (kept0 x.2.1 x.2.2.1 (i + 1)) := by
  have hb := wb_le h.1.tm.2
  have hN := h.1.n
  have sq : ∀ {z : UInt64}, Bd 1000000000 z → Bd (2 ^ 60) (FP.dmul z z) := fun {z} hz => by
    have e : Bd (2 ^ 30 * 2 ^ 30) (FP.dmul z z) := bd_mul (hz.mono (by decide)) (hz.mono (by decide)) ⟨1, 60, by decide, by decide, by decide⟩
    exact e
  have two : ∀ i, i ≤ nv x.1 0 → Bd (2 ^ 61) (FP.dadd (FP.dmul (x.2.1 i) (x.2.1 i)) (FP.dmul (x.2.2.1 i) (x.2.2.1 i))) := fun i hi => by
    have e : Bd (2 ^ 60 + 2 ^ 60) _ := bd_add (sq ((h.2.1 i hi).1.1.mono (by omega))) (sq ((h.2.1 i hi).2.1.mono (by omega))) ⟨1, 61, by decide, by decide, by decide⟩
    exact e
  intro i
  induction i with
  | zero =>
    intro hi
    have e : Bd (0 + 2 ^ 61) (kept0 x.2.1 x.2.2.1 (0 + 1)) := bd_add (zero_bd 0) (two 0 hi) ⟨1, 61, by decide, by decide, by decide⟩
    exact ⟨(sq ((h.2.1 0 hi).1.1.mono (by omega))).n64, (sq ((h.2.1 0 hi).2.1.mono (by omega))).n64, (two 0 hi).n64, e.n64, e.mono (by decide)⟩
  | succ i ih =>
    intro hi
    have q := (ih (by omega)).2.2.2.2
    have r : Rp ((i + 1) * 2 ^ 61 + 2 ^ 61) := ⟨i + 2, 61, by rw [← Nat.succ_mul], by omega, by decide⟩
    have e : Bd ((i + 1) * 2 ^ 61 + 2 ^ 61) (kept0 x.2.1 x.2.2.1 (i + 1 + 1)) := bd_add q (two (i + 1) hi) r
    exact ⟨(sq ((h.2.1 (i + 1) hi).1.1.mono (by omega))).n64, (sq ((h.2.1 (i + 1) hi).2.1.mono (by omega))).n64, (two (i + 1) hi).n64, e.n64, e.mono (by rw [← Nat.succ_mul]; exact Nat.le_refl _)⟩
theorem LG.hiF {x : LineSt} (h : LG x) : FP.Core.DFin x.2.2.2.2.2.1 := by
  rw [h.2.2.2.2.2.1]; obtain ⟨j, a, b⟩ := maxU_mem x.2.2.2.1 (nv x.1 0); rw [b]; exact (h.2.2.1 j a).1.1.fin
theorem LG.loF {x : LineSt} (h : LG x) : FP.Core.DFin x.2.2.2.2.2.2.1 := by
  rw [h.2.2.2.2.2.2]; obtain ⟨j, a, b⟩ := minU_mem x.2.2.2.2.1 (nv x.1 0); rw [b]; exact (h.2.2.1 j a).2.1.fin
end
section
def nodeV (x : LineSt) (i w : Nat) : UInt64 := if w = 0 then FP.dadd (x.2.1 i) (x.2.2.1 i) else if w = 1 then FP.dsub (x.2.1 i) (x.2.2.1 i) else if w = 2 then x.2.1 i else if w = 3 then x.2.2.1 i else if w = 4 then x.2.2.2.1 i else x.2.2.2.2.1 i
theorem LG.nodeF {x : LineSt} (h : LG x) {i : Nat} (hi : i ≤ nv x.1 0) : FP.Core.DFin (x.2.1 i) ∧ FP.Core.DFin (x.2.2.1 i) ∧ FP.Core.DFin (x.2.2.2.1 i) ∧ FP.Core.DFin (x.2.2.2.2.1 i) ∧ Bd 2000000000 (FP.dsub (x.2.1 i) (x.2.2.1 i)) := by
  have hb := wb_le h.1.tm.2
  exact ⟨(h.2.1 i hi).1.1.fin, (h.2.1 i hi).2.1.fin, (h.2.2.1 i hi).1.1.fin, (h.2.2.1 i hi).2.1.fin, bdS ((h.2.1 i hi).1.1.mono hb) ((h.2.1 i hi).2.1.mono hb) (by decide) (by decide)⟩
def allV (x : LineSt) (w : Nat) : UInt64 := if w = 0 then kept0 x.2.1 x.2.2.1 (nv x.1 0 + 1) else if w = 1 then x.2.2.2.2.2.1 else if w = 2 then x.2.2.2.2.2.2.1 else x.2.2.2.2.2.2.2
def toldV (v : Nat → Int32) (rf : Nat → Int32) (len sts w : Nat) : Int32 := if w < 3 then rf w else if w = 3 then nI len else if w = 13 then nI sts else v (w - 4)
set_option maxHeartbeats 4000000 in
set_option maxRecDepth 100000 in
theorem c_X2_change_ok (g : Glob) (a : Nat → Nat) (now spare : LineSt) (K : Nat → LineSt) (nw sts : Nat) (rf : Nat → Int32) (pg : PageSt) (w : Nat) (u : Int32) (hw : w < 6) (hf : fitsB (nI w) u = true) (hx : LG now) (hnw : nw < 4) (hst : sts ≤ 4) : Con g yX2_change cX2_change 4 (some .int) ({ frames := 3, cells := 0, slots := 0, locals := 72 } : Room) [.ref (a 0), .int (nI w), .int u] (surgeW g a now spare K nw sts rf pg) (Is (some (.int (now.1 w))) (surgeW g a (settleL (upd now.1 w u, now.2)) spare (ringU K nw now) ((nw + 1) % 4) (stsU sts) rf pg)) := by
  refine con_of_V ypl_X2_change (Nat.le_of_ble_eq_true rfl) [(0, .ref (a 0)), (1, .int (nI w)), (2, .int u)] rfl (fun Γ ok => ?_)
  refine V_iload_n ok dX2_change_0 rfl 1 rfl ?_
  refine V_iload_n ok dX2_change_1 rfl 2 rfl ?_
  refine V_cS (v2 := some (.int (bI (fitsB (nI w) u)))) (wn := surgeW g a now spare K nw sts rf pg) (rest := []) ok (c_X0_fits g (nI w) u) 2 twm_X2_134 tws_yX0_fits twin_X0 twc_yX0_fits yok_X0_fits (by decide) ⟨rfl, rfl⟩ dX2_change_2 rfl rfl (Nat.le_of_ble_eq_true rfl) ⟨Nat.zero_le _, Nat.zero_le _⟩ [] rfl rfl (Nat.le_of_ble_eq_true rfl) (rep_nil _) ?_
  refine V_ifB_ne (tgt := 15) ok dX2_change_5 (by decide) (fun h5 => ?_) (fun h5 => absurd hf h5)
  refine V_aload_n ok dX2_change_15 rfl 0 rfl ?_
  refine V_aload_n ok dX2_change_16 rfl 0 rfl ?_
  refine V_get (v := .ref (a 1)) ok 0 0 tw_X2 twf_X2_10 rfl rfl (by decide) dX2_change_17 sg_at0 rfl ?_
  refine V_cW (v2 := none) (w2 := surgeW g a now spare (ringU K nw now) ((nw + 1) % 4) (stsU sts) rf pg) (rest := []) ok 0 2 (c_X2_keep_now g a now spare K nw sts rf pg hnw hst) 1 twm_X2_53 twi_yX2_keep twv_yX2_keep twin_X2 twc_yX2_keep yok_X2_keep (by decide) ⟨rfl, rfl⟩ dX2_change_20 rfl sg_at0 rfl rfl (Nat.le_of_ble_eq_true rfl) ⟨Nat.zero_le _, Nat.zero_le _⟩ ?_
  refine V_aload_n ok dX2_change_23 rfl 0 rfl ?_
  refine V_get (v := .ref (a 1)) ok 0 0 tw_X2 twf_X2_10 rfl rfl (by decide) dX2_change_24 sg_at0 rfl ?_
  refine V_get (v := .ref (a 2)) ok 1 0 tw_X0 twf_X2_57 rfl rfl (by decide) dX2_change_27 sg_at1 rfl ?_
  refine V_iload_n ok dX2_change_30 rfl 1 rfl ?_
  refine V_iald (f := now.1) (N := 9) ok 2 w dX2_change_31 sg_at2 rfl (by omega) (by decide) ?_
  refine V_istore_n (lv2 := [(3, .int (now.1 w)), (0, .ref (a 0)), (1, .int (nI w)), (2, .int u)]) ok dX2_change_32 rfl (by decide) rfl ?_
  refine V_aload_n ok dX2_change_33 rfl 1 rfl ?_
  refine V_get (v := .ref (a 1)) ok 0 0 tw_X2 twf_X2_10 rfl rfl (by decide) dX2_change_34 sg_at0 rfl ?_
  refine V_iload_n ok dX2_change_37 rfl 2 rfl ?_
  refine V_iload_n ok dX2_change_38 rfl 3 rfl ?_
  refine V_cV (v2 := none) (wn := surgeW g a (settleL (upd now.1 w u, now.2)) spare (ringU K nw now) ((nw + 1) % 4) (stsU sts) rf pg) (rest := []) ok 1 0 (k_X0_put g (fun i => a (1 + i)) now w u (by omega) (hx.1.put1 (fits_ok (by omega) hf))) 2 twm_X2_204 twi_yX0_put twv_yX0_put twin_X0 twc_yX0_put yok_X0_put (by decide) ⟨rfl, rfl⟩ dX2_change_39 rfl sg_at1 rfl rfl (Nat.le_of_ble_eq_true rfl) ⟨Nat.zero_le _, Nat.zero_le _⟩ (slN 1) rfl sg_sub_1 (Nat.le_of_ble_eq_true rfl) sg_rep_1 ?_
  refine V_iload_n ok dX2_change_42 rfl 0 rfl ?_
  exact V_iret ok dX2_change_43 (Nat.zero_le _) (Nat.zero_le _) ⟨rfl, rfl⟩
set_option maxHeartbeats 4000000 in
set_option maxRecDepth 100000 in
theorem c_X2_change_bad (g : Glob) (a : Nat → Nat) (now spare : LineSt) (K : Nat → LineSt) (nw sts : Nat) (rf : Nat → Int32) (pg : PageSt) (w : Nat) (u : Int32) (hf : ¬ fitsB (nI w) u = true) : Con g yX2_change cX2_change 4 (some .int) ({ frames := 3, cells := 0, slots := 0, locals := 72 } : Room) [.ref (a 0), .int (nI w), .int u] (surgeW g a now spare K nw sts rf pg) (Is (some (.int (-2))) (surgeW g a now spare K nw sts (rfU rf (-2)) pg)) := by
  refine con_of_V ypl_X2_change (Nat.le_of_ble_eq_true rfl) [(0, .ref (a 0)), (1, .int (nI w)), (2, .int u)] rfl (fun Γ ok => ?_)
  refine V_iload_n ok dX2_change_0 rfl 1 rfl ?_
  refine V_iload_n ok dX2_change_1 rfl 2 rfl ?_
  refine V_cS (v2 := some (.int (bI (fitsB (nI w) u)))) (wn := surgeW g a now spare K nw sts rf pg) (rest := []) ok (c_X0_fits g (nI w) u) 2 twm_X2_134 tws_yX0_fits twin_X0 twc_yX0_fits yok_X0_fits (by decide) ⟨rfl, rfl⟩ dX2_change_2 rfl rfl (Nat.le_of_ble_eq_true rfl) ⟨Nat.zero_le _, Nat.zero_le _⟩ [] rfl rfl (Nat.le_of_ble_eq_true rfl) (rep_nil _) ?_
  refine V_ifB_ne (tgt := 15) ok dX2_change_5 (by decide) (fun h5 => absurd h5 hf) (fun h5 => ?_)
  refine V_aload_n ok dX2_change_8 rfl 0 rfl ?_
  refine V_bipush (v := (-2)) ok dX2_change_9 rfl ?_
  refine V_cW (v2 := some (.int (-2))) (w2 := surgeW g a now spare K nw sts (rfU rf (-2)) pg) (rest := []) ok 0 2 (c_X2_refuse_m2 g a now spare K nw sts rf pg) 1 twm_X2_45 twi_yX2_refuse twv_yX2_refuse twin_X2 twc_yX2_refuse yok_X2_refuse (by decide) ⟨rfl, rfl⟩ dX2_change_11 rfl sg_at0 rfl rfl (Nat.le_of_ble_eq_true rfl) ⟨Nat.zero_le _, Nat.zero_le _⟩ ?_
  exact V_iret ok dX2_change_14 (Nat.zero_le _) (Nat.zero_le _) ⟨rfl, rfl⟩
set_option maxHeartbeats 4000000 in
set_option maxRecDepth 100000 in
theorem c_X2_pipe_ok (g : Glob) (a : Nat → Nat) (now spare : LineSt) (K : Nat → LineSt) (nw sts : Nat) (rf : Nat → Int32) (pg : PageSt) (u : Int32) (hf : fitsB (nI 0) u = true) (hx : LG now) (hnw : nw < 4) (hst : sts ≤ 4) : Con g yX2_pipe cX2_pipe 2 (some .int) ({ frames := 4, cells := 0, slots := 0, locals := 95 } : Room) [.ref (a 0), .int u] (surgeW g a now spare K nw sts rf pg) (Is (some (.int (now.1 0))) (surgeW g a (settleL (upd now.1 0 u, now.2)) spare (ringU K nw now) ((nw + 1) % 4) (stsU sts) rf pg)) := by
  refine con_of_V ypl_X2_pipe (Nat.le_of_ble_eq_true rfl) [(0, .ref (a 0)), (1, .int u)] rfl (fun Γ ok => ?_)
  refine V_aload_n ok dX2_pipe_0 rfl 0 rfl ?_
  refine V_iconst (v := nI 0) ok dX2_pipe_1 rfl ?_
  refine V_iload_n ok dX2_pipe_2 rfl 1 rfl ?_
  refine V_cW (v2 := some (.int (now.1 0))) (w2 := surgeW g a (settleL (upd now.1 0 u, now.2)) spare (ringU K nw now) ((nw + 1) % 4) (stsU sts) rf pg) (rest := []) ok 0 2 (c_X2_change_ok g a now spare K nw sts rf pg 0 u (by decide) hf hx hnw hst) 2 twm_X2_41 twi_yX2_change twv_yX2_change twin_X2 twc_yX2_change yok_X2_change (by decide) ⟨rfl, rfl⟩ dX2_pipe_3 rfl sg_at0 rfl rfl (Nat.le_of_ble_eq_true rfl) ⟨Nat.zero_le _, Nat.zero_le _⟩ ?_
  exact V_iret ok dX2_pipe_6 (Nat.zero_le _) (Nat.zero_le _) ⟨rfl, rfl⟩
set_option maxHeartbeats 4000000 in
set_option maxRecDepth 100000 in
theorem c_X2_pipe_bad (g : Glob) (a : Nat → Nat) (now spare : LineSt) (K : Nat → LineSt) (nw sts : Nat) (rf : Nat → Int32) (pg : PageSt) (u : Int32) (hf : ¬ fitsB (nI 0) u = true) : Con g yX2_pipe cX2_pipe 2 (some .int) ({ frames := 4, cells := 0, slots := 0, locals := 95 } : Room) [.ref (a 0), .int u] (surgeW g a now spare K nw sts rf pg) (Is (some (.int (-2))) (surgeW g a now spare K nw sts (rfU rf (-2)) pg)) := by
  refine con_of_V ypl_X2_pipe (Nat.le_of_ble_eq_true rfl) [(0, .ref (a 0)), (1, .int u)] rfl (fun Γ ok => ?_)
  refine V_aload_n ok dX2_pipe_0 rfl 0 rfl ?_
  refine V_iconst (v := nI 0) ok dX2_pipe_1 rfl ?_
  refine V_iload_n ok dX2_pipe_2 rfl 1 rfl ?_
  refine V_cW (v2 := some (.int (-2))) (w2 := surgeW g a now spare K nw sts (rfU rf (-2)) pg) (rest := []) ok 0 2 (c_X2_change_bad g a now spare K nw sts rf pg 0 u hf) 2 twm_X2_41 twi_yX2_change twv_yX2_change twin_X2 twc_yX2_change yok_X2_change (by decide) ⟨rfl, rfl⟩ dX2_pipe_3 rfl sg_at0 rfl rfl (Nat.le_of_ble_eq_true rfl) ⟨Nat.zero_le _, Nat.zero_le _⟩ ?_
  exact V_iret ok dX2_pipe_6 (Nat.zero_le _) (Nat.zero_le _) ⟨rfl, rfl⟩
set_option maxHeartbeats 4000000 in
set_option maxRecDepth 100000 in
theorem c_X2_sets_ok (g : Glob) (a : Nat → Nat) (now spare : LineSt) (K : Nat → LineSt) (nw sts : Nat) (rf : Nat → Int32) (pg : PageSt) (j : Nat) (u : Int32) (hj : j ≤ 2) (hf : fitsB (nI (1 + j)) u = true) (hx : LG now) (hnw : nw < 4) (hst : sts ≤ 4) : Con g yX2_sets cX2_sets 3 (some .int) ({ frames := 4, cells := 0, slots := 0, locals := 95 } : Room) [.ref (a 0), .int (nI j), .int u] (surgeW g a now spare K nw sts rf pg) (Is (some (.int (now.1 (1 + j)))) (surgeW g a (settleL (upd now.1 (1 + j) u, now.2)) spare (ringU K nw now) ((nw + 1) % 4) (stsU sts) rf pg)) := by
  refine con_of_V ypl_X2_sets (Nat.le_of_ble_eq_true rfl) [(0, .ref (a 0)), (1, .int (nI j)), (2, .int u)] rfl (fun Γ ok => ?_)
  refine V_iload_n ok dX2_sets_0 rfl 1 rfl ?_
  refine V_ifN_lt (tgt := 9) ok dX2_sets_1 (by decide) (by omega) ?_
  refine V_iload_n ok dX2_sets_4 rfl 1 rfl ?_
  refine V_iconst (v := nI 2) ok dX2_sets_5 rfl ?_
  refine V_icmpN_le (tgt := 16) ok dX2_sets_6 (by decide) (by omega) (by omega) (fun h6 => ?_) (fun h6 => absurd (by omega) h6)
  refine V_aload_n ok dX2_sets_16 rfl 0 rfl ?_
  refine V_iconst (v := nI 1) ok dX2_sets_17 rfl ?_
  refine V_iload_n ok dX2_sets_18 rfl 1 rfl ?_
  refine V_iaddN (a := 1) (b := j) (c := 1 + j) ok dX2_sets_19 (by first | rfl | omega) ?_
  refine V_iload_n ok dX2_sets_20 rfl 2 rfl ?_
  refine V_cW (v2 := some (.int (now.1 (1 + j)))) (w2 := surgeW g a (settleL (upd now.1 (1 + j) u, now.2)) spare (ringU K nw now) ((nw + 1) % 4) (stsU sts) rf pg) (rest := []) ok 0 2 (c_X2_change_ok g a now spare K nw sts rf pg (1 + j) u (by omega) hf hx hnw hst) 2 twm_X2_41 twi_yX2_change twv_yX2_change twin_X2 twc_yX2_change yok_X2_change (by decide) ⟨rfl, rfl⟩ dX2_sets_21 rfl sg_at0 rfl rfl (Nat.le_of_ble_eq_true rfl) ⟨Nat.zero_le _, Nat.zero_le _⟩ ?_
  exact V_iret ok dX2_sets_24 (Nat.zero_le _) (Nat.zero_le _) ⟨rfl, rfl⟩
set_option maxHeartbeats 4000000 in
set_option maxRecDepth 100000 in
theorem c_X2_sets_bad (g : Glob) (a : Nat → Nat) (now spare : LineSt) (K : Nat → LineSt) (nw sts : Nat) (rf : Nat → Int32) (pg : PageSt) (j : Nat) (u : Int32) (hj : j ≤ 2) (hf : ¬ fitsB (nI (1 + j)) u = true) : Con g yX2_sets cX2_sets 3 (some .int) ({ frames := 4, cells := 0, slots := 0, locals := 95 } : Room) [.ref (a 0), .int (nI j), .int u] (surgeW g a now spare K nw sts rf pg) (Is (some (.int (-2))) (surgeW g a now spare K nw sts (rfU rf (-2)) pg)) := by
  refine con_of_V ypl_X2_sets (Nat.le_of_ble_eq_true rfl) [(0, .ref (a 0)), (1, .int (nI j)), (2, .int u)] rfl (fun Γ ok => ?_)
  refine V_iload_n ok dX2_sets_0 rfl 1 rfl ?_
  refine V_ifN_lt (tgt := 9) ok dX2_sets_1 (by decide) (by omega) ?_
  refine V_iload_n ok dX2_sets_4 rfl 1 rfl ?_
  refine V_iconst (v := nI 2) ok dX2_sets_5 rfl ?_
  refine V_icmpN_le (tgt := 16) ok dX2_sets_6 (by decide) (by omega) (by omega) (fun h6 => ?_) (fun h6 => absurd (by omega) h6)
  refine V_aload_n ok dX2_sets_16 rfl 0 rfl ?_
  refine V_iconst (v := nI 1) ok dX2_sets_17 rfl ?_
  refine V_iload_n ok dX2_sets_18 rfl 1 rfl ?_
  refine V_iaddN (a := 1) (b := j) (c := 1 + j) ok dX2_sets_19 (by first | rfl | omega) ?_
  refine V_iload_n ok dX2_sets_20 rfl 2 rfl ?_
  refine V_cW (v2 := some (.int (-2))) (w2 := surgeW g a now spare K nw sts (rfU rf (-2)) pg) (rest := []) ok 0 2 (c_X2_change_bad g a now spare K nw sts rf pg (1 + j) u hf) 2 twm_X2_41 twi_yX2_change twv_yX2_change twin_X2 twc_yX2_change yok_X2_change (by decide) ⟨rfl, rfl⟩ dX2_sets_21 rfl sg_at0 rfl rfl (Nat.le_of_ble_eq_true rfl) ⟨Nat.zero_le _, Nat.zero_le _⟩ ?_
  exact V_iret ok dX2_sets_24 (Nat.zero_le _) (Nat.zero_le _) ⟨rfl, rfl⟩
set_option maxHeartbeats 4000000 in
set_option maxRecDepth 100000 in
theorem c_X2_sets_out (g : Glob) (a : Nat → Nat) (now spare : LineSt) (K : Nat → LineSt) (nw sts : Nat) (rf : Nat → Int32) (pg : PageSt) (q u : Int32) (ho : q < 0 ∨ nI 2 < q) : Con g yX2_sets cX2_sets 3 (some .int) ({ frames := 4, cells := 0, slots := 0, locals := 95 } : Room) [.ref (a 0), .int q, .int u] (surgeW g a now spare K nw sts rf pg) (Is (some (.int (-2))) (surgeW g a now spare K nw sts (rfU rf (-2)) pg)) := by
  refine con_of_V ypl_X2_sets (Nat.le_of_ble_eq_true rfl) [(0, .ref (a 0)), (1, .int q), (2, .int u)] rfl (fun Γ ok => ?_)
  refine V_iload_n ok dX2_sets_0 rfl 1 rfl ?_
  refine V_if_lt (tgt := 9) ok dX2_sets_1 (by decide) (fun h1 => ?_) (fun h1 => ?_)
  · refine V_aload_n ok dX2_sets_9 rfl 0 rfl ?_
    refine V_bipush (v := (-2)) ok dX2_sets_10 rfl ?_
    refine V_cW (v2 := some (.int (-2))) (w2 := surgeW g a now spare K nw sts (rfU rf (-2)) pg) (rest := []) ok 0 2 (c_X2_refuse_m2 g a now spare K nw sts rf pg) 1 twm_X2_45 twi_yX2_refuse twv_yX2_refuse twin_X2 twc_yX2_refuse yok_X2_refuse (by decide) ⟨rfl, rfl⟩ dX2_sets_12 rfl sg_at0 rfl rfl (Nat.le_of_ble_eq_true rfl) ⟨Nat.zero_le _, Nat.zero_le _⟩ ?_
    exact V_iret ok dX2_sets_15 (Nat.zero_le _) (Nat.zero_le _) ⟨rfl, rfl⟩
  · refine V_iload_n ok dX2_sets_4 rfl 1 rfl ?_
    refine V_iconst (v := nI 2) ok dX2_sets_5 rfl ?_
    refine V_icmp_le (tgt := 16) ok dX2_sets_6 (by decide) (fun h6 => absurd h6 (Int32.not_le.mpr (ho.resolve_left h1))) (fun h6 => ?_)
    refine V_aload_n ok dX2_sets_9 rfl 0 rfl ?_
    refine V_bipush (v := (-2)) ok dX2_sets_10 rfl ?_
    refine V_cW (v2 := some (.int (-2))) (w2 := surgeW g a now spare K nw sts (rfU rf (-2)) pg) (rest := []) ok 0 2 (c_X2_refuse_m2 g a now spare K nw sts rf pg) 1 twm_X2_45 twi_yX2_refuse twv_yX2_refuse twin_X2 twc_yX2_refuse yok_X2_refuse (by decide) ⟨rfl, rfl⟩ dX2_sets_12 rfl sg_at0 rfl rfl (Nat.le_of_ble_eq_true rfl) ⟨Nat.zero_le _, Nat.zero_le _⟩ ?_
    exact V_iret ok dX2_sets_15 (Nat.zero_le _) (Nat.zero_le _) ⟨rfl, rfl⟩
set_option maxHeartbeats 4000000 in
set_option maxRecDepth 100000 in
theorem c_X2_ends_ok (g : Glob) (a : Nat → Nat) (now spare : LineSt) (K : Nat → LineSt) (nw sts : Nat) (rf : Nat → Int32) (pg : PageSt) (j : Nat) (u : Int32) (hj : j ≤ 1) (hf : fitsB (nI (4 + j)) u = true) (hx : LG now) (hnw : nw < 4) (hst : sts ≤ 4) : Con g yX2_ends cX2_ends 3 (some .int) ({ frames := 4, cells := 0, slots := 0, locals := 95 } : Room) [.ref (a 0), .int (nI j), .int u] (surgeW g a now spare K nw sts rf pg) (Is (some (.int (now.1 (4 + j)))) (surgeW g a (settleL (upd now.1 (4 + j) u, now.2)) spare (ringU K nw now) ((nw + 1) % 4) (stsU sts) rf pg)) := by
  refine con_of_V ypl_X2_ends (Nat.le_of_ble_eq_true rfl) [(0, .ref (a 0)), (1, .int (nI j)), (2, .int u)] rfl (fun Γ ok => ?_)
  refine V_iload_n ok dX2_ends_0 rfl 1 rfl ?_
  refine V_ifN_lt (tgt := 9) ok dX2_ends_1 (by decide) (by omega) ?_
  refine V_iload_n ok dX2_ends_4 rfl 1 rfl ?_
  refine V_iconst (v := nI 1) ok dX2_ends_5 rfl ?_
  refine V_icmpN_le (tgt := 16) ok dX2_ends_6 (by decide) (by omega) (by omega) (fun h6 => ?_) (fun h6 => absurd (by omega) h6)
  refine V_aload_n ok dX2_ends_16 rfl 0 rfl ?_
  refine V_iconst (v := nI 4) ok dX2_ends_17 rfl ?_
  refine V_iload_n ok dX2_ends_18 rfl 1 rfl ?_
  refine V_iaddN (a := 4) (b := j) (c := 4 + j) ok dX2_ends_19 (by first | rfl | omega) ?_
  refine V_iload_n ok dX2_ends_20 rfl 2 rfl ?_
  refine V_cW (v2 := some (.int (now.1 (4 + j)))) (w2 := surgeW g a (settleL (upd now.1 (4 + j) u, now.2)) spare (ringU K nw now) ((nw + 1) % 4) (stsU sts) rf pg) (rest := []) ok 0 2 (c_X2_change_ok g a now spare K nw sts rf pg (4 + j) u (by omega) hf hx hnw hst) 2 twm_X2_41 twi_yX2_change twv_yX2_change twin_X2 twc_yX2_change yok_X2_change (by decide) ⟨rfl, rfl⟩ dX2_ends_21 rfl sg_at0 rfl rfl (Nat.le_of_ble_eq_true rfl) ⟨Nat.zero_le _, Nat.zero_le _⟩ ?_
  exact V_iret ok dX2_ends_24 (Nat.zero_le _) (Nat.zero_le _) ⟨rfl, rfl⟩
set_option maxHeartbeats 4000000 in
set_option maxRecDepth 100000 in
theorem c_X2_ends_bad (g : Glob) (a : Nat → Nat) (now spare : LineSt) (K : Nat → LineSt) (nw sts : Nat) (rf : Nat → Int32) (pg : PageSt) (j : Nat) (u : Int32) (hj : j ≤ 1) (hf : ¬ fitsB (nI (4 + j)) u = true) : Con g yX2_ends cX2_ends 3 (some .int) ({ frames := 4, cells := 0, slots := 0, locals := 95 } : Room) [.ref (a 0), .int (nI j), .int u] (surgeW g a now spare K nw sts rf pg) (Is (some (.int (-2))) (surgeW g a now spare K nw sts (rfU rf (-2)) pg)) := by
  refine con_of_V ypl_X2_ends (Nat.le_of_ble_eq_true rfl) [(0, .ref (a 0)), (1, .int (nI j)), (2, .int u)] rfl (fun Γ ok => ?_)
  refine V_iload_n ok dX2_ends_0 rfl 1 rfl ?_
  refine V_ifN_lt (tgt := 9) ok dX2_ends_1 (by decide) (by omega) ?_
  refine V_iload_n ok dX2_ends_4 rfl 1 rfl ?_
  refine V_iconst (v := nI 1) ok dX2_ends_5 rfl ?_
  refine V_icmpN_le (tgt := 16) ok dX2_ends_6 (by decide) (by omega) (by omega) (fun h6 => ?_) (fun h6 => absurd (by omega) h6)
  refine V_aload_n ok dX2_ends_16 rfl 0 rfl ?_
  refine V_iconst (v := nI 4) ok dX2_ends_17 rfl ?_
  refine V_iload_n ok dX2_ends_18 rfl 1 rfl ?_
  refine V_iaddN (a := 4) (b := j) (c := 4 + j) ok dX2_ends_19 (by first | rfl | omega) ?_
  refine V_iload_n ok dX2_ends_20 rfl 2 rfl ?_
  refine V_cW (v2 := some (.int (-2))) (w2 := surgeW g a now spare K nw sts (rfU rf (-2)) pg) (rest := []) ok 0 2 (c_X2_change_bad g a now spare K nw sts rf pg (4 + j) u hf) 2 twm_X2_41 twi_yX2_change twv_yX2_change twin_X2 twc_yX2_change yok_X2_change (by decide) ⟨rfl, rfl⟩ dX2_ends_21 rfl sg_at0 rfl rfl (Nat.le_of_ble_eq_true rfl) ⟨Nat.zero_le _, Nat.zero_le _⟩ ?_
  exact V_iret ok dX2_ends_24 (Nat.zero_le _) (Nat.zero_le _) ⟨rfl, rfl⟩
set_option maxHeartbeats 4000000 in
set_option maxRecDepth 100000 in
theorem c_X2_ends_out (g : Glob) (a : Nat → Nat) (now spare : LineSt) (K : Nat → LineSt) (nw sts : Nat) (rf : Nat → Int32) (pg : PageSt) (q u : Int32) (ho : q < 0 ∨ nI 1 < q) : Con g yX2_ends cX2_ends 3 (some .int) ({ frames := 4, cells := 0, slots := 0, locals := 95 } : Room) [.ref (a 0), .int q, .int u] (surgeW g a now spare K nw sts rf pg) (Is (some (.int (-2))) (surgeW g a now spare K nw sts (rfU rf (-2)) pg)) := by
  refine con_of_V ypl_X2_ends (Nat.le_of_ble_eq_true rfl) [(0, .ref (a 0)), (1, .int q), (2, .int u)] rfl (fun Γ ok => ?_)
  refine V_iload_n ok dX2_ends_0 rfl 1 rfl ?_
  refine V_if_lt (tgt := 9) ok dX2_ends_1 (by decide) (fun h1 => ?_) (fun h1 => ?_)
  · refine V_aload_n ok dX2_ends_9 rfl 0 rfl ?_
    refine V_bipush (v := (-2)) ok dX2_ends_10 rfl ?_
    refine V_cW (v2 := some (.int (-2))) (w2 := surgeW g a now spare K nw sts (rfU rf (-2)) pg) (rest := []) ok 0 2 (c_X2_refuse_m2 g a now spare K nw sts rf pg) 1 twm_X2_45 twi_yX2_refuse twv_yX2_refuse twin_X2 twc_yX2_refuse yok_X2_refuse (by decide) ⟨rfl, rfl⟩ dX2_ends_12 rfl sg_at0 rfl rfl (Nat.le_of_ble_eq_true rfl) ⟨Nat.zero_le _, Nat.zero_le _⟩ ?_
    exact V_iret ok dX2_ends_15 (Nat.zero_le _) (Nat.zero_le _) ⟨rfl, rfl⟩
  · refine V_iload_n ok dX2_ends_4 rfl 1 rfl ?_
    refine V_iconst (v := nI 1) ok dX2_ends_5 rfl ?_
    refine V_icmp_le (tgt := 16) ok dX2_ends_6 (by decide) (fun h6 => absurd h6 (Int32.not_le.mpr (ho.resolve_left h1))) (fun h6 => ?_)
    refine V_aload_n ok dX2_ends_9 rfl 0 rfl ?_
    refine V_bipush (v := (-2)) ok dX2_ends_10 rfl ?_
    refine V_cW (v2 := some (.int (-2))) (w2 := surgeW g a now spare K nw sts (rfU rf (-2)) pg) (rest := []) ok 0 2 (c_X2_refuse_m2 g a now spare K nw sts rf pg) 1 twm_X2_45 twi_yX2_refuse twv_yX2_refuse twin_X2 twc_yX2_refuse yok_X2_refuse (by decide) ⟨rfl, rfl⟩ dX2_ends_12 rfl sg_at0 rfl rfl (Nat.le_of_ble_eq_true rfl) ⟨Nat.zero_le _, Nat.zero_le _⟩ ?_
    exact V_iret ok dX2_ends_15 (Nat.zero_le _) (Nat.zero_le _) ⟨rfl, rfl⟩
set_option maxHeartbeats 4000000 in
set_option maxRecDepth 100000 in
theorem c_X2_law_ok (g : Glob) (a : Nat → Nat) (now spare : LineSt) (K : Nat → LineSt) (nw sts : Nat) (rf : Nat → Int32) (pg : PageSt) (k t : Int32) (hl : isLawB k t = true) (hnw : nw < 4) (hst : sts ≤ 4) : Con g yX2_law cX2_law 4 (some .int) ({ frames := 3, cells := 0, slots := 0, locals := 72 } : Room) [.ref (a 0), .int k, .int t] (surgeW g a now spare K nw sts rf pg) (Is (some (.int (now.1 6))) (surgeW g a (upd (upd now.1 6 k) 7 t, now.2) spare (ringU K nw now) ((nw + 1) % 4) (stsU sts) rf pg)) := by
  refine con_of_V ypl_X2_law (Nat.le_of_ble_eq_true rfl) [(0, .ref (a 0)), (1, .int k), (2, .int t)] rfl (fun Γ ok => ?_)
  refine V_iload_n ok dX2_law_0 rfl 1 rfl ?_
  refine V_iload_n ok dX2_law_1 rfl 2 rfl ?_
  refine V_cS (v2 := some (.int (bI (isLawB k t)))) (wn := surgeW g a now spare K nw sts rf pg) (rest := []) ok (c_X0_isLaw g k t) 2 twm_X2_49 tws_yX0_isLaw twin_X0 twc_yX0_isLaw yok_X0_isLaw (by decide) ⟨rfl, rfl⟩ dX2_law_2 rfl rfl (Nat.le_of_ble_eq_true rfl) ⟨Nat.zero_le _, Nat.zero_le _⟩ [] rfl rfl (Nat.le_of_ble_eq_true rfl) (rep_nil _) ?_
  refine V_ifB_ne (tgt := 15) ok dX2_law_5 (by decide) (fun h5 => ?_) (fun h5 => absurd hl h5)
  refine V_aload_n ok dX2_law_15 rfl 0 rfl ?_
  refine V_aload_n ok dX2_law_16 rfl 0 rfl ?_
  refine V_get (v := .ref (a 1)) ok 0 0 tw_X2 twf_X2_10 rfl rfl (by decide) dX2_law_17 sg_at0 rfl ?_
  refine V_cW (v2 := none) (w2 := surgeW g a now spare (ringU K nw now) ((nw + 1) % 4) (stsU sts) rf pg) (rest := []) ok 0 2 (c_X2_keep_now g a now spare K nw sts rf pg hnw hst) 1 twm_X2_53 twi_yX2_keep twv_yX2_keep twin_X2 twc_yX2_keep yok_X2_keep (by decide) ⟨rfl, rfl⟩ dX2_law_20 rfl sg_at0 rfl rfl (Nat.le_of_ble_eq_true rfl) ⟨Nat.zero_le _, Nat.zero_le _⟩ ?_
  refine V_aload_n ok dX2_law_23 rfl 0 rfl ?_
  refine V_get (v := .ref (a 1)) ok 0 0 tw_X2 twf_X2_10 rfl rfl (by decide) dX2_law_24 sg_at0 rfl ?_
  refine V_get (v := .ref (a 2)) ok 1 0 tw_X0 twf_X2_57 rfl rfl (by decide) dX2_law_27 sg_at1 rfl ?_
  refine V_bipush (v := nI 6) ok dX2_law_30 rfl ?_
  refine V_iald (f := now.1) (N := 9) ok 2 6 dX2_law_32 sg_at2 rfl (by decide) (by decide) ?_
  refine V_istore_n (lv2 := [(3, .int (now.1 6)), (0, .ref (a 0)), (1, .int k), (2, .int t)]) ok dX2_law_33 rfl (by decide) rfl ?_
  refine V_aload_n ok dX2_law_34 rfl 1 rfl ?_
  refine V_get (v := .ref (a 1)) ok 0 0 tw_X2 twf_X2_10 rfl rfl (by decide) dX2_law_35 sg_at0 rfl ?_
  refine V_iload_n ok dX2_law_38 rfl 2 rfl ?_
  refine V_iload_n ok dX2_law_39 rfl 3 rfl ?_
  refine V_cV (v2 := none) (wn := surgeW g a (upd (upd now.1 6 k) 7 t, now.2) spare (ringU K nw now) ((nw + 1) % 4) (stsU sts) rf pg) (rest := []) ok 1 0 (k_X0_govern g (fun i => a (1 + i)) now k t) 2 twm_X2_60 twi_yX0_govern twv_yX0_govern twin_X0 twc_yX0_govern yok_X0_govern (by decide) ⟨rfl, rfl⟩ dX2_law_40 rfl sg_at1 rfl rfl (Nat.le_of_ble_eq_true rfl) ⟨Nat.zero_le _, Nat.zero_le _⟩ (slN 1) rfl sg_sub_1 (Nat.le_of_ble_eq_true rfl) sg_rep_1 ?_
  refine V_iload_n ok dX2_law_43 rfl 0 rfl ?_
  exact V_iret ok dX2_law_44 (Nat.zero_le _) (Nat.zero_le _) ⟨rfl, rfl⟩
set_option maxHeartbeats 4000000 in
set_option maxRecDepth 100000 in
theorem c_X2_law_bad (g : Glob) (a : Nat → Nat) (now spare : LineSt) (K : Nat → LineSt) (nw sts : Nat) (rf : Nat → Int32) (pg : PageSt) (k t : Int32) (hl : ¬ isLawB k t = true) : Con g yX2_law cX2_law 4 (some .int) ({ frames := 3, cells := 0, slots := 0, locals := 72 } : Room) [.ref (a 0), .int k, .int t] (surgeW g a now spare K nw sts rf pg) (Is (some (.int (-2))) (surgeW g a now spare K nw sts (rfU rf (-2)) pg)) := by
  refine con_of_V ypl_X2_law (Nat.le_of_ble_eq_true rfl) [(0, .ref (a 0)), (1, .int k), (2, .int t)] rfl (fun Γ ok => ?_)
  refine V_iload_n ok dX2_law_0 rfl 1 rfl ?_
  refine V_iload_n ok dX2_law_1 rfl 2 rfl ?_
  refine V_cS (v2 := some (.int (bI (isLawB k t)))) (wn := surgeW g a now spare K nw sts rf pg) (rest := []) ok (c_X0_isLaw g k t) 2 twm_X2_49 tws_yX0_isLaw twin_X0 twc_yX0_isLaw yok_X0_isLaw (by decide) ⟨rfl, rfl⟩ dX2_law_2 rfl rfl (Nat.le_of_ble_eq_true rfl) ⟨Nat.zero_le _, Nat.zero_le _⟩ [] rfl rfl (Nat.le_of_ble_eq_true rfl) (rep_nil _) ?_
  refine V_ifB_ne (tgt := 15) ok dX2_law_5 (by decide) (fun h5 => absurd h5 hl) (fun h5 => ?_)
  refine V_aload_n ok dX2_law_8 rfl 0 rfl ?_
  refine V_bipush (v := (-2)) ok dX2_law_9 rfl ?_
  refine V_cW (v2 := some (.int (-2))) (w2 := surgeW g a now spare K nw sts (rfU rf (-2)) pg) (rest := []) ok 0 2 (c_X2_refuse_m2 g a now spare K nw sts rf pg) 1 twm_X2_45 twi_yX2_refuse twv_yX2_refuse twin_X2 twc_yX2_refuse yok_X2_refuse (by decide) ⟨rfl, rfl⟩ dX2_law_11 rfl sg_at0 rfl rfl (Nat.le_of_ble_eq_true rfl) ⟨Nat.zero_le _, Nat.zero_le _⟩ ?_
  exact V_iret ok dX2_law_14 (Nat.zero_le _) (Nat.zero_le _) ⟨rfl, rfl⟩
set_option maxHeartbeats 4000000 in
set_option maxRecDepth 100000 in
theorem c_X2_steady (g : Glob) (a : Nat → Nat) (now spare : LineSt) (K : Nat → LineSt) (nw sts : Nat) (rf : Nat → Int32) (pg : PageSt) (hx : LG now) (hnw : nw < 4) (hst : sts ≤ 4) : Con g yX2_steady cX2_steady 2 (some .int) ({ frames := 3, cells := 0, slots := 0, locals := 72 } : Room) [.ref (a 0)] (surgeW g a now spare K nw sts rf pg) (Is (some (.int (now.1 8))) (surgeW g a (settleL now) spare (ringU K nw now) ((nw + 1) % 4) (stsU sts) rf pg)) := by
  refine con_of_V ypl_X2_steady (Nat.le_of_ble_eq_true rfl) [(0, .ref (a 0))] rfl (fun Γ ok => ?_)
  refine V_aload_n ok dX2_steady_0 rfl 0 rfl ?_
  refine V_aload_n ok dX2_steady_1 rfl 0 rfl ?_
  refine V_get (v := .ref (a 1)) ok 0 0 tw_X2 twf_X2_10 rfl rfl (by decide) dX2_steady_2 sg_at0 rfl ?_
  refine V_cW (v2 := none) (w2 := surgeW g a now spare (ringU K nw now) ((nw + 1) % 4) (stsU sts) rf pg) (rest := []) ok 0 2 (c_X2_keep_now g a now spare K nw sts rf pg hnw hst) 1 twm_X2_53 twi_yX2_keep twv_yX2_keep twin_X2 twc_yX2_keep yok_X2_keep (by decide) ⟨rfl, rfl⟩ dX2_steady_5 rfl sg_at0 rfl rfl (Nat.le_of_ble_eq_true rfl) ⟨Nat.zero_le _, Nat.zero_le _⟩ ?_
  refine V_aload_n ok dX2_steady_8 rfl 0 rfl ?_
  refine V_get (v := .ref (a 1)) ok 0 0 tw_X2 twf_X2_10 rfl rfl (by decide) dX2_steady_9 sg_at0 rfl ?_
  refine V_get (v := .ref (a 2)) ok 1 0 tw_X0 twf_X2_57 rfl rfl (by decide) dX2_steady_12 sg_at1 rfl ?_
  refine V_bipush (v := nI 8) ok dX2_steady_15 rfl ?_
  refine V_iald (f := now.1) (N := 9) ok 2 8 dX2_steady_17 sg_at2 rfl (by decide) (by decide) ?_
  refine V_istore_n (lv2 := [(1, .int (now.1 8)), (0, .ref (a 0))]) ok dX2_steady_18 rfl (by decide) rfl ?_
  refine V_aload_n ok dX2_steady_19 rfl 1 rfl ?_
  refine V_get (v := .ref (a 1)) ok 0 0 tw_X2 twf_X2_10 rfl rfl (by decide) dX2_steady_20 sg_at0 rfl ?_
  refine V_cV (v2 := none) (wn := surgeW g a (settleL now) spare (ringU K nw now) ((nw + 1) % 4) (stsU sts) rf pg) (rest := []) ok 1 0 (k_X0_settle g (fun i => a (1 + i)) now hx.1) 0 twm_X2_64 twi_yX0_settle twv_yX0_settle twin_X0 twc_yX0_settle yok_X0_settle (by decide) ⟨rfl, rfl⟩ dX2_steady_23 rfl sg_at1 rfl rfl (Nat.le_of_ble_eq_true rfl) ⟨Nat.zero_le _, Nat.zero_le _⟩ (slN 1) rfl sg_sub_1 (Nat.le_of_ble_eq_true rfl) sg_rep_1 ?_
  refine V_iload_n ok dX2_steady_26 rfl 0 rfl ?_
  exact V_iret ok dX2_steady_27 (Nat.zero_le _) (Nat.zero_le _) ⟨rfl, rfl⟩
set_option maxHeartbeats 4000000 in
set_option maxRecDepth 100000 in
theorem c_X2_steps_bad (g : Glob) (a : Nat → Nat) (now spare : LineSt) (K : Nat → LineSt) (nw sts : Nat) (rf : Nat → Int32) (pg : PageSt) (n : Int32) (hs : ¬ stepB n = true) : Con g yX2_steps cX2_steps 2 (some .int) ({ frames := 3, cells := 0, slots := 0, locals := 75 } : Room) [.ref (a 0), .int n] (surgeW g a now spare K nw sts rf pg) (Is (some (.int (-2))) (surgeW g a now spare K nw sts (rfU rf (-2)) pg)) := by
  refine con_of_V ypl_X2_steps (Nat.le_of_ble_eq_true rfl) [(0, .ref (a 0)), (1, .int n)] rfl (fun Γ ok => ?_)
  refine V_iload_n ok dX2_steps_0 rfl 1 rfl ?_
  refine V_cS (v2 := some (.int (bI (stepB n)))) (wn := surgeW g a now spare K nw sts rf pg) (rest := []) ok (c_X2_isStepCount g n) 1 twm_X2_67 tws_yX2_isStepCount twin_X2 twc_yX2_isStepCount yok_X2_isStepCount (by decide) ⟨rfl, rfl⟩ dX2_steps_1 rfl rfl (Nat.le_of_ble_eq_true rfl) ⟨Nat.zero_le _, Nat.zero_le _⟩ [] rfl rfl (Nat.le_of_ble_eq_true rfl) (rep_nil _) ?_
  refine V_ifB_ne (tgt := 14) ok dX2_steps_4 (by decide) (fun h4 => absurd h4 hs) (fun h4 => ?_)
  refine V_aload_n ok dX2_steps_7 rfl 0 rfl ?_
  refine V_bipush (v := (-2)) ok dX2_steps_8 rfl ?_
  refine V_cW (v2 := some (.int (-2))) (w2 := surgeW g a now spare K nw sts (rfU rf (-2)) pg) (rest := []) ok 0 2 (c_X2_refuse_m2 g a now spare K nw sts rf pg) 1 twm_X2_45 twi_yX2_refuse twv_yX2_refuse twin_X2 twc_yX2_refuse yok_X2_refuse (by decide) ⟨rfl, rfl⟩ dX2_steps_10 rfl sg_at0 rfl rfl (Nat.le_of_ble_eq_true rfl) ⟨Nat.zero_le _, Nat.zero_le _⟩ ?_
  exact V_iret ok dX2_steps_13 (Nat.zero_le _) (Nat.zero_le _) ⟨rfl, rfl⟩
set_option maxHeartbeats 4000000 in
set_option maxRecDepth 100000 in
theorem c_X2_steps_full (g : Glob) (a : Nat → Nat) (now spare : LineSt) (K : Nat → LineSt) (nw sts : Nat) (rf : Nat → Int32) (pg : PageSt) (n : Nat) (hs : stepB (nI n) = true) (ht : ¬ timeB now.1 (nI n) = true) : Con g yX2_steps cX2_steps 2 (some .int) ({ frames := 3, cells := 0, slots := 0, locals := 75 } : Room) [.ref (a 0), .int (nI n)] (surgeW g a now spare K nw sts rf pg) (Is (some (.int (-4))) (surgeW g a now spare K nw sts (rfU rf (-4)) pg)) := by
  refine con_of_V ypl_X2_steps (Nat.le_of_ble_eq_true rfl) [(0, .ref (a 0)), (1, .int (nI n))] rfl (fun Γ ok => ?_)
  refine V_iload_n ok dX2_steps_0 rfl 1 rfl ?_
  refine V_cS (v2 := some (.int (bI (stepB (nI n))))) (wn := surgeW g a now spare K nw sts rf pg) (rest := []) ok (c_X2_isStepCount g (nI n)) 1 twm_X2_67 tws_yX2_isStepCount twin_X2 twc_yX2_isStepCount yok_X2_isStepCount (by decide) ⟨rfl, rfl⟩ dX2_steps_1 rfl rfl (Nat.le_of_ble_eq_true rfl) ⟨Nat.zero_le _, Nat.zero_le _⟩ [] rfl rfl (Nat.le_of_ble_eq_true rfl) (rep_nil _) ?_
  refine V_ifB_ne (tgt := 14) ok dX2_steps_4 (by decide) (fun h4 => ?_) (fun h4 => absurd hs h4)
  refine V_aload_n ok dX2_steps_14 rfl 0 rfl ?_
  refine V_iload_n ok dX2_steps_15 rfl 1 rfl ?_
  refine V_cW (v2 := some (.int (bI (timeB now.1 (nI n))))) (w2 := surgeW g a now spare K nw sts rf pg) (rest := []) ok 0 2 (c_X2_hasTimeFor g a now spare K nw sts rf pg (nI n)) 1 twm_X2_71 twi_yX2_hasTimeFor twv_yX2_hasTimeFor twin_X2 twc_yX2_hasTimeFor yok_X2_hasTimeFor (by decide) ⟨rfl, rfl⟩ dX2_steps_16 rfl sg_at0 rfl rfl (Nat.le_of_ble_eq_true rfl) ⟨Nat.zero_le _, Nat.zero_le _⟩ ?_
  refine V_ifB_ne (tgt := 29) ok dX2_steps_19 (by decide) (fun h19 => absurd h19 ht) (fun h19 => ?_)
  refine V_aload_n ok dX2_steps_22 rfl 0 rfl ?_
  refine V_bipush (v := (-4)) ok dX2_steps_23 rfl ?_
  refine V_cW (v2 := some (.int (-4))) (w2 := surgeW g a now spare K nw sts (rfU rf (-4)) pg) (rest := []) ok 0 2 (c_X2_refuse_m4 g a now spare K nw sts rf pg) 1 twm_X2_45 twi_yX2_refuse twv_yX2_refuse twin_X2 twc_yX2_refuse yok_X2_refuse (by decide) ⟨rfl, rfl⟩ dX2_steps_25 rfl sg_at0 rfl rfl (Nat.le_of_ble_eq_true rfl) ⟨Nat.zero_le _, Nat.zero_le _⟩ ?_
  exact V_iret ok dX2_steps_28 (Nat.zero_le _) (Nat.zero_le _) ⟨rfl, rfl⟩
set_option maxHeartbeats 4000000 in
set_option maxRecDepth 100000 in
theorem c_X2_steps_ok (g : Glob) (a : Nat → Nat) (now spare : LineSt) (K : Nat → LineSt) (nw sts : Nat) (rf : Nat → Int32) (pg : PageSt) (n : Nat) (hs : stepB (nI n) = true) (ht : timeB now.1 (nI n) = true) (hx : LG now) (hn : nv now.1 8 + n ≤ 999) (hnw : nw < 4) (hst : sts ≤ 4) : Con g yX2_steps cX2_steps 2 (some .int) ({ frames := 3, cells := 0, slots := 0, locals := 75 } : Room) [.ref (a 0), .int (nI n)] (surgeW g a now spare K nw sts rf pg) (Is (some (.int ((advL n now).1 8))) (surgeW g a (advL n now) spare (ringU K nw now) ((nw + 1) % 4) (stsU sts) rf pg)) := by
  refine con_of_V ypl_X2_steps (Nat.le_of_ble_eq_true rfl) [(0, .ref (a 0)), (1, .int (nI n))] rfl (fun Γ ok => ?_)
  refine V_iload_n ok dX2_steps_0 rfl 1 rfl ?_
  refine V_cS (v2 := some (.int (bI (stepB (nI n))))) (wn := surgeW g a now spare K nw sts rf pg) (rest := []) ok (c_X2_isStepCount g (nI n)) 1 twm_X2_67 tws_yX2_isStepCount twin_X2 twc_yX2_isStepCount yok_X2_isStepCount (by decide) ⟨rfl, rfl⟩ dX2_steps_1 rfl rfl (Nat.le_of_ble_eq_true rfl) ⟨Nat.zero_le _, Nat.zero_le _⟩ [] rfl rfl (Nat.le_of_ble_eq_true rfl) (rep_nil _) ?_
  refine V_ifB_ne (tgt := 14) ok dX2_steps_4 (by decide) (fun h4 => ?_) (fun h4 => absurd hs h4)
  refine V_aload_n ok dX2_steps_14 rfl 0 rfl ?_
  refine V_iload_n ok dX2_steps_15 rfl 1 rfl ?_
  refine V_cW (v2 := some (.int (bI (timeB now.1 (nI n))))) (w2 := surgeW g a now spare K nw sts rf pg) (rest := []) ok 0 2 (c_X2_hasTimeFor g a now spare K nw sts rf pg (nI n)) 1 twm_X2_71 twi_yX2_hasTimeFor twv_yX2_hasTimeFor twin_X2 twc_yX2_hasTimeFor yok_X2_hasTimeFor (by decide) ⟨rfl, rfl⟩ dX2_steps_16 rfl sg_at0 rfl rfl (Nat.le_of_ble_eq_true rfl) ⟨Nat.zero_le _, Nat.zero_le _⟩ ?_
  refine V_ifB_ne (tgt := 29) ok dX2_steps_19 (by decide) (fun h19 => ?_) (fun h19 => absurd ht h19)
  refine V_aload_n ok dX2_steps_29 rfl 0 rfl ?_
  refine V_aload_n ok dX2_steps_30 rfl 0 rfl ?_
  refine V_get (v := .ref (a 1)) ok 0 0 tw_X2 twf_X2_10 rfl rfl (by decide) dX2_steps_31 sg_at0 rfl ?_
  refine V_cW (v2 := none) (w2 := surgeW g a now spare (ringU K nw now) ((nw + 1) % 4) (stsU sts) rf pg) (rest := []) ok 0 2 (c_X2_keep_now g a now spare K nw sts rf pg hnw hst) 1 twm_X2_53 twi_yX2_keep twv_yX2_keep twin_X2 twc_yX2_keep yok_X2_keep (by decide) ⟨rfl, rfl⟩ dX2_steps_34 rfl sg_at0 rfl rfl (Nat.le_of_ble_eq_true rfl) ⟨Nat.zero_le _, Nat.zero_le _⟩ ?_
  refine V_aload_n ok dX2_steps_37 rfl 0 rfl ?_
  refine V_get (v := .ref (a 1)) ok 0 0 tw_X2 twf_X2_10 rfl rfl (by decide) dX2_steps_38 sg_at0 rfl ?_
  refine V_iload_n ok dX2_steps_41 rfl 1 rfl ?_
  refine V_cV (v2 := none) (wn := surgeW g a (advL n now) spare (ringU K nw now) ((nw + 1) % 4) (stsU sts) rf pg) (rest := []) ok 1 0 (c_X0_advance g (fun i => a (1 + i)) now n hx hn) 1 twm_X2_74 twi_yX0_advance twv_yX0_advance twin_X0 twc_yX0_advance yok_X0_advance (by decide) ⟨rfl, rfl⟩ dX2_steps_42 rfl sg_at1 rfl rfl (Nat.le_of_ble_eq_true rfl) ⟨Nat.zero_le _, Nat.zero_le _⟩ (slN 1) rfl sg_sub_1 (Nat.le_of_ble_eq_true rfl) sg_rep_1 ?_
  refine V_aload_n ok dX2_steps_45 rfl 0 rfl ?_
  refine V_get (v := .ref (a 1)) ok 0 0 tw_X2 twf_X2_10 rfl rfl (by decide) dX2_steps_46 sg_at0 rfl ?_
  refine V_get (v := .ref (a 2)) ok 1 0 tw_X0 twf_X2_57 rfl rfl (by decide) dX2_steps_49 sg_at1 rfl ?_
  refine V_bipush (v := nI 8) ok dX2_steps_52 rfl ?_
  refine V_iald (f := (advL n now).1) (N := 9) ok 2 8 dX2_steps_54 sg_at2 rfl (by decide) (by decide) ?_
  exact V_iret ok dX2_steps_55 (Nat.zero_le _) (Nat.zero_le _) ⟨rfl, rfl⟩
set_option maxHeartbeats 4000000 in
set_option maxRecDepth 100000 in
theorem c_X2_node_ok (g : Glob) (a : Nat → Nat) (now spare : LineSt) (K : Nat → LineSt) (nw sts : Nat) (rf : Nat → Int32) (pg : PageSt) (i w : Nat) (hx : LG now) (hi : i ≤ nv now.1 0) (hw : w ≤ 5) : Con g yX2_node cX2_node 3 (some .long) ({ frames := 2, cells := 0, slots := 0, locals := 41 } : Room) [.ref (a 0), .int (nI i), .int (nI w)] (surgeW g a now spare K nw sts rf pg) (Is (some (.long (tf (nodeV now i w)))) (surgeW g a now spare K nw sts rf pg)) := by
  refine con_of_V ypl_X2_node (Nat.le_of_ble_eq_true rfl) [(0, .ref (a 0)), (1, .int (nI i)), (2, .int (nI w))] rfl (fun Γ ok => ?_)
  have hN := hx.1.n
  obtain ⟨f1, f2, f3, f4, f5⟩ := hx.nodeF hi
  have hp := hx.press hi
  have hb : nodeB now.1 (nI i) = true := by unfold nodeB; rw [if_neg (nI_pos (by omega)), hN.1, if_neg (nI_nlt hi (by omega))]
  rcases (show w = 0 ∨ w = 1 ∨ w = 2 ∨ w = 3 ∨ w = 4 ∨ w = 5 by omega) with rfl | rfl | rfl | rfl | rfl | rfl
  · refine V_aload_n ok dX2_node_0 rfl 0 rfl ?_
    refine V_get (v := .ref (a 1)) ok 0 0 tw_X2 twf_X2_10 rfl rfl (by decide) dX2_node_1 sg_at0 rfl ?_
    refine V_iload_n ok dX2_node_4 rfl 1 rfl ?_
    refine V_cV (v2 := some (.int (bI (nodeB now.1 (nI i))))) (wn := surgeW g a now spare K nw sts rf pg) (rest := []) ok 1 0 (k_X0_hasNode g (fun i => a (1 + i)) now (nI i)) 1 twm_X2_78 twi_yX0_hasNode twv_yX0_hasNode twin_X0 twc_yX0_hasNode yok_X0_hasNode (by decide) ⟨rfl, rfl⟩ dX2_node_5 rfl sg_at1 rfl rfl (Nat.le_of_ble_eq_true rfl) ⟨Nat.zero_le _, Nat.zero_le _⟩ (slN 1) rfl sg_sub_1 (Nat.le_of_ble_eq_true rfl) sg_rep_1 ?_
    refine V_ifB_eq (tgt := 20) ok dX2_node_8 (by decide) (fun h8 => absurd hb h8) (fun h8 => ?_)
    refine V_iload_n ok dX2_node_11 rfl 2 rfl ?_
    refine V_ifN_lt (tgt := 20) ok dX2_node_12 (by decide) (by omega) ?_
    refine V_iload_n ok dX2_node_15 rfl 2 rfl ?_
    refine V_iconst (v := nI 5) ok dX2_node_16 rfl ?_
    refine V_icmpN_le (tgt := 25) ok dX2_node_17 (by decide) (by omega) (by omega) (fun h17 => ?_) (fun h17 => absurd (by decide) h17)
    refine V_iload_n ok dX2_node_25 rfl 2 rfl ?_
    refine V_tabIn (off := 34) (tgt := 60) ok dX2_node_26 (by decide) (by decide) rfl (by decide) ?_
    refine V_aload_n ok dX2_node_60 rfl 0 rfl ?_
    refine V_get (v := .ref (a 1)) ok 0 0 tw_X2 twf_X2_10 rfl rfl (by decide) dX2_node_61 sg_at0 rfl ?_
    refine V_iload_n ok dX2_node_64 rfl 1 rfl ?_
    refine V_cV (v2 := some (.double (FP.dadd (now.2.1 i) (now.2.2.1 i)))) (wn := surgeW g a now spare K nw sts rf pg) (rest := []) ok 1 0 (k_X0_pressure g (fun i => a (1 + i)) now i (by omega) hp.1.n64) 1 twm_X2_85 twi_yX0_pressure twv_yX0_pressure twin_X0 twc_yX0_pressure yok_X0_pressure (by decide) ⟨rfl, rfl⟩ dX2_node_65 rfl sg_at1 rfl rfl (Nat.le_of_ble_eq_true rfl) ⟨Nat.zero_le _, Nat.zero_le _⟩ (slN 1) rfl sg_sub_1 (Nat.le_of_ble_eq_true rfl) sg_rep_1 ?_
    refine V_cS (v2 := some (.long (tf (FP.dadd (now.2.1 i) (now.2.2.1 i))))) (wn := surgeW g a now spare K nw sts rf pg) (rest := []) ok (c_X2_thousandfold g (FP.dadd (now.2.1 i) (now.2.2.1 i)) hp.1.fin) 1 twm_X2_89 tws_yX2_thousandfold twin_X2 twc_yX2_thousandfold yok_X2_thousandfold (by decide) ⟨rfl, rfl⟩ dX2_node_68 rfl rfl (Nat.le_of_ble_eq_true rfl) ⟨Nat.zero_le _, Nat.zero_le _⟩ [] rfl rfl (Nat.le_of_ble_eq_true rfl) (rep_nil _) ?_
    exact V_lret ok dX2_node_71 (Nat.zero_le _) (Nat.zero_le _) ⟨rfl, rfl⟩
  · refine V_aload_n ok dX2_node_0 rfl 0 rfl ?_
    refine V_get (v := .ref (a 1)) ok 0 0 tw_X2 twf_X2_10 rfl rfl (by decide) dX2_node_1 sg_at0 rfl ?_
    refine V_iload_n ok dX2_node_4 rfl 1 rfl ?_
    refine V_cV (v2 := some (.int (bI (nodeB now.1 (nI i))))) (wn := surgeW g a now spare K nw sts rf pg) (rest := []) ok 1 0 (k_X0_hasNode g (fun i => a (1 + i)) now (nI i)) 1 twm_X2_78 twi_yX0_hasNode twv_yX0_hasNode twin_X0 twc_yX0_hasNode yok_X0_hasNode (by decide) ⟨rfl, rfl⟩ dX2_node_5 rfl sg_at1 rfl rfl (Nat.le_of_ble_eq_true rfl) ⟨Nat.zero_le _, Nat.zero_le _⟩ (slN 1) rfl sg_sub_1 (Nat.le_of_ble_eq_true rfl) sg_rep_1 ?_
    refine V_ifB_eq (tgt := 20) ok dX2_node_8 (by decide) (fun h8 => absurd hb h8) (fun h8 => ?_)
    refine V_iload_n ok dX2_node_11 rfl 2 rfl ?_
    refine V_ifN_lt (tgt := 20) ok dX2_node_12 (by decide) (by omega) ?_
    refine V_iload_n ok dX2_node_15 rfl 2 rfl ?_
    refine V_iconst (v := nI 5) ok dX2_node_16 rfl ?_
    refine V_icmpN_le (tgt := 25) ok dX2_node_17 (by decide) (by omega) (by omega) (fun h17 => ?_) (fun h17 => absurd (by decide) h17)
    refine V_iload_n ok dX2_node_25 rfl 2 rfl ?_
    refine V_tabIn (off := 46) (tgt := 72) ok dX2_node_26 (by decide) (by decide) rfl (by decide) ?_
    refine V_aload_n ok dX2_node_72 rfl 0 rfl ?_
    refine V_get (v := .ref (a 1)) ok 0 0 tw_X2 twf_X2_10 rfl rfl (by decide) dX2_node_73 sg_at0 rfl ?_
    refine V_get (v := .ref (a 3)) ok 1 1 tw_X0 twf_X2_93 rfl rfl (by decide) dX2_node_76 sg_at1 rfl ?_
    refine V_iload_n ok dX2_node_79 rfl 1 rfl ?_
    refine V_dald (f := now.2.1) (N := 11) ok 3 i dX2_node_80 sg_at3 rfl (by omega) (by decide) ?_
    refine V_aload_n ok dX2_node_81 rfl 0 rfl ?_
    refine V_get (v := .ref (a 1)) ok 0 0 tw_X2 twf_X2_10 rfl rfl (by decide) dX2_node_82 sg_at0 rfl ?_
    refine V_get (v := .ref (a 4)) ok 1 2 tw_X0 twf_X2_97 rfl rfl (by decide) dX2_node_85 sg_at1 rfl ?_
    refine V_iload_n ok dX2_node_88 rfl 1 rfl ?_
    refine V_dald (f := now.2.2.1) (N := 11) ok 4 i dX2_node_89 sg_at4 rfl (by omega) (by decide) ?_
    refine V_dsub ok dX2_node_90 f5.n64 ?_
    refine V_cS (v2 := some (.long (tf (FP.dsub (now.2.1 i) (now.2.2.1 i))))) (wn := surgeW g a now spare K nw sts rf pg) (rest := []) ok (c_X2_thousandfold g (FP.dsub (now.2.1 i) (now.2.2.1 i)) f5.fin) 1 twm_X2_89 tws_yX2_thousandfold twin_X2 twc_yX2_thousandfold yok_X2_thousandfold (by decide) ⟨rfl, rfl⟩ dX2_node_91 rfl rfl (Nat.le_of_ble_eq_true rfl) ⟨Nat.zero_le _, Nat.zero_le _⟩ [] rfl rfl (Nat.le_of_ble_eq_true rfl) (rep_nil _) ?_
    exact V_lret ok dX2_node_94 (Nat.zero_le _) (Nat.zero_le _) ⟨rfl, rfl⟩
  · refine V_aload_n ok dX2_node_0 rfl 0 rfl ?_
    refine V_get (v := .ref (a 1)) ok 0 0 tw_X2 twf_X2_10 rfl rfl (by decide) dX2_node_1 sg_at0 rfl ?_
    refine V_iload_n ok dX2_node_4 rfl 1 rfl ?_
    refine V_cV (v2 := some (.int (bI (nodeB now.1 (nI i))))) (wn := surgeW g a now spare K nw sts rf pg) (rest := []) ok 1 0 (k_X0_hasNode g (fun i => a (1 + i)) now (nI i)) 1 twm_X2_78 twi_yX0_hasNode twv_yX0_hasNode twin_X0 twc_yX0_hasNode yok_X0_hasNode (by decide) ⟨rfl, rfl⟩ dX2_node_5 rfl sg_at1 rfl rfl (Nat.le_of_ble_eq_true rfl) ⟨Nat.zero_le _, Nat.zero_le _⟩ (slN 1) rfl sg_sub_1 (Nat.le_of_ble_eq_true rfl) sg_rep_1 ?_
    refine V_ifB_eq (tgt := 20) ok dX2_node_8 (by decide) (fun h8 => absurd hb h8) (fun h8 => ?_)
    refine V_iload_n ok dX2_node_11 rfl 2 rfl ?_
    refine V_ifN_lt (tgt := 20) ok dX2_node_12 (by decide) (by omega) ?_
    refine V_iload_n ok dX2_node_15 rfl 2 rfl ?_
    refine V_iconst (v := nI 5) ok dX2_node_16 rfl ?_
    refine V_icmpN_le (tgt := 25) ok dX2_node_17 (by decide) (by omega) (by omega) (fun h17 => ?_) (fun h17 => absurd (by decide) h17)
    refine V_iload_n ok dX2_node_25 rfl 2 rfl ?_
    refine V_tabIn (off := 69) (tgt := 95) ok dX2_node_26 (by decide) (by decide) rfl (by decide) ?_
    refine V_aload_n ok dX2_node_95 rfl 0 rfl ?_
    refine V_get (v := .ref (a 1)) ok 0 0 tw_X2 twf_X2_10 rfl rfl (by decide) dX2_node_96 sg_at0 rfl ?_
    refine V_get (v := .ref (a 3)) ok 1 1 tw_X0 twf_X2_93 rfl rfl (by decide) dX2_node_99 sg_at1 rfl ?_
    refine V_iload_n ok dX2_node_102 rfl 1 rfl ?_
    refine V_dald (f := now.2.1) (N := 11) ok 3 i dX2_node_103 sg_at3 rfl (by omega) (by decide) ?_
    refine V_cS (v2 := some (.long (tf (now.2.1 i)))) (wn := surgeW g a now spare K nw sts rf pg) (rest := []) ok (c_X2_thousandfold g (now.2.1 i) f1) 1 twm_X2_89 tws_yX2_thousandfold twin_X2 twc_yX2_thousandfold yok_X2_thousandfold (by decide) ⟨rfl, rfl⟩ dX2_node_104 rfl rfl (Nat.le_of_ble_eq_true rfl) ⟨Nat.zero_le _, Nat.zero_le _⟩ [] rfl rfl (Nat.le_of_ble_eq_true rfl) (rep_nil _) ?_
    exact V_lret ok dX2_node_107 (Nat.zero_le _) (Nat.zero_le _) ⟨rfl, rfl⟩
  · refine V_aload_n ok dX2_node_0 rfl 0 rfl ?_
    refine V_get (v := .ref (a 1)) ok 0 0 tw_X2 twf_X2_10 rfl rfl (by decide) dX2_node_1 sg_at0 rfl ?_
    refine V_iload_n ok dX2_node_4 rfl 1 rfl ?_
    refine V_cV (v2 := some (.int (bI (nodeB now.1 (nI i))))) (wn := surgeW g a now spare K nw sts rf pg) (rest := []) ok 1 0 (k_X0_hasNode g (fun i => a (1 + i)) now (nI i)) 1 twm_X2_78 twi_yX0_hasNode twv_yX0_hasNode twin_X0 twc_yX0_hasNode yok_X0_hasNode (by decide) ⟨rfl, rfl⟩ dX2_node_5 rfl sg_at1 rfl rfl (Nat.le_of_ble_eq_true rfl) ⟨Nat.zero_le _, Nat.zero_le _⟩ (slN 1) rfl sg_sub_1 (Nat.le_of_ble_eq_true rfl) sg_rep_1 ?_
    refine V_ifB_eq (tgt := 20) ok dX2_node_8 (by decide) (fun h8 => absurd hb h8) (fun h8 => ?_)
    refine V_iload_n ok dX2_node_11 rfl 2 rfl ?_
    refine V_ifN_lt (tgt := 20) ok dX2_node_12 (by decide) (by omega) ?_
    refine V_iload_n ok dX2_node_15 rfl 2 rfl ?_
    refine V_iconst (v := nI 5) ok dX2_node_16 rfl ?_
    refine V_icmpN_le (tgt := 25) ok dX2_node_17 (by decide) (by omega) (by omega) (fun h17 => ?_) (fun h17 => absurd (by decide) h17)
    refine V_iload_n ok dX2_node_25 rfl 2 rfl ?_
    refine V_tabIn (off := 82) (tgt := 108) ok dX2_node_26 (by decide) (by decide) rfl (by decide) ?_
    refine V_aload_n ok dX2_node_108 rfl 0 rfl ?_
    refine V_get (v := .ref (a 1)) ok 0 0 tw_X2 twf_X2_10 rfl rfl (by decide) dX2_node_109 sg_at0 rfl ?_
    refine V_get (v := .ref (a 4)) ok 1 2 tw_X0 twf_X2_97 rfl rfl (by decide) dX2_node_112 sg_at1 rfl ?_
    refine V_iload_n ok dX2_node_115 rfl 1 rfl ?_
    refine V_dald (f := now.2.2.1) (N := 11) ok 4 i dX2_node_116 sg_at4 rfl (by omega) (by decide) ?_
    refine V_cS (v2 := some (.long (tf (now.2.2.1 i)))) (wn := surgeW g a now spare K nw sts rf pg) (rest := []) ok (c_X2_thousandfold g (now.2.2.1 i) f2) 1 twm_X2_89 tws_yX2_thousandfold twin_X2 twc_yX2_thousandfold yok_X2_thousandfold (by decide) ⟨rfl, rfl⟩ dX2_node_117 rfl rfl (Nat.le_of_ble_eq_true rfl) ⟨Nat.zero_le _, Nat.zero_le _⟩ [] rfl rfl (Nat.le_of_ble_eq_true rfl) (rep_nil _) ?_
    exact V_lret ok dX2_node_120 (Nat.zero_le _) (Nat.zero_le _) ⟨rfl, rfl⟩
  · refine V_aload_n ok dX2_node_0 rfl 0 rfl ?_
    refine V_get (v := .ref (a 1)) ok 0 0 tw_X2 twf_X2_10 rfl rfl (by decide) dX2_node_1 sg_at0 rfl ?_
    refine V_iload_n ok dX2_node_4 rfl 1 rfl ?_
    refine V_cV (v2 := some (.int (bI (nodeB now.1 (nI i))))) (wn := surgeW g a now spare K nw sts rf pg) (rest := []) ok 1 0 (k_X0_hasNode g (fun i => a (1 + i)) now (nI i)) 1 twm_X2_78 twi_yX0_hasNode twv_yX0_hasNode twin_X0 twc_yX0_hasNode yok_X0_hasNode (by decide) ⟨rfl, rfl⟩ dX2_node_5 rfl sg_at1 rfl rfl (Nat.le_of_ble_eq_true rfl) ⟨Nat.zero_le _, Nat.zero_le _⟩ (slN 1) rfl sg_sub_1 (Nat.le_of_ble_eq_true rfl) sg_rep_1 ?_
    refine V_ifB_eq (tgt := 20) ok dX2_node_8 (by decide) (fun h8 => absurd hb h8) (fun h8 => ?_)
    refine V_iload_n ok dX2_node_11 rfl 2 rfl ?_
    refine V_ifN_lt (tgt := 20) ok dX2_node_12 (by decide) (by omega) ?_
    refine V_iload_n ok dX2_node_15 rfl 2 rfl ?_
    refine V_iconst (v := nI 5) ok dX2_node_16 rfl ?_
    refine V_icmpN_le (tgt := 25) ok dX2_node_17 (by decide) (by omega) (by omega) (fun h17 => ?_) (fun h17 => absurd (by decide) h17)
    refine V_iload_n ok dX2_node_25 rfl 2 rfl ?_
    refine V_tabIn (off := 95) (tgt := 121) ok dX2_node_26 (by decide) (by decide) rfl (by decide) ?_
    refine V_aload_n ok dX2_node_121 rfl 0 rfl ?_
    refine V_get (v := .ref (a 1)) ok 0 0 tw_X2 twf_X2_10 rfl rfl (by decide) dX2_node_122 sg_at0 rfl ?_
    refine V_get (v := .ref (a 5)) ok 1 3 tw_X0 twf_X2_100 rfl rfl (by decide) dX2_node_125 sg_at1 rfl ?_
    refine V_iload_n ok dX2_node_128 rfl 1 rfl ?_
    refine V_dald (f := now.2.2.2.1) (N := 11) ok 5 i dX2_node_129 sg_at5 rfl (by omega) (by decide) ?_
    refine V_cS (v2 := some (.long (tf (now.2.2.2.1 i)))) (wn := surgeW g a now spare K nw sts rf pg) (rest := []) ok (c_X2_thousandfold g (now.2.2.2.1 i) f3) 1 twm_X2_89 tws_yX2_thousandfold twin_X2 twc_yX2_thousandfold yok_X2_thousandfold (by decide) ⟨rfl, rfl⟩ dX2_node_130 rfl rfl (Nat.le_of_ble_eq_true rfl) ⟨Nat.zero_le _, Nat.zero_le _⟩ [] rfl rfl (Nat.le_of_ble_eq_true rfl) (rep_nil _) ?_
    exact V_lret ok dX2_node_133 (Nat.zero_le _) (Nat.zero_le _) ⟨rfl, rfl⟩
  · refine V_aload_n ok dX2_node_0 rfl 0 rfl ?_
    refine V_get (v := .ref (a 1)) ok 0 0 tw_X2 twf_X2_10 rfl rfl (by decide) dX2_node_1 sg_at0 rfl ?_
    refine V_iload_n ok dX2_node_4 rfl 1 rfl ?_
    refine V_cV (v2 := some (.int (bI (nodeB now.1 (nI i))))) (wn := surgeW g a now spare K nw sts rf pg) (rest := []) ok 1 0 (k_X0_hasNode g (fun i => a (1 + i)) now (nI i)) 1 twm_X2_78 twi_yX0_hasNode twv_yX0_hasNode twin_X0 twc_yX0_hasNode yok_X0_hasNode (by decide) ⟨rfl, rfl⟩ dX2_node_5 rfl sg_at1 rfl rfl (Nat.le_of_ble_eq_true rfl) ⟨Nat.zero_le _, Nat.zero_le _⟩ (slN 1) rfl sg_sub_1 (Nat.le_of_ble_eq_true rfl) sg_rep_1 ?_
    refine V_ifB_eq (tgt := 20) ok dX2_node_8 (by decide) (fun h8 => absurd hb h8) (fun h8 => ?_)
    refine V_iload_n ok dX2_node_11 rfl 2 rfl ?_
    refine V_ifN_lt (tgt := 20) ok dX2_node_12 (by decide) (by omega) ?_
    refine V_iload_n ok dX2_node_15 rfl 2 rfl ?_
    refine V_iconst (v := nI 5) ok dX2_node_16 rfl ?_
    refine V_icmpN_le (tgt := 25) ok dX2_node_17 (by decide) (by omega) (by omega) (fun h17 => ?_) (fun h17 => absurd (by decide) h17)
    refine V_iload_n ok dX2_node_25 rfl 2 rfl ?_
    refine V_tabOut (tgt := 134) ok dX2_node_26 (by decide) (by decide) ?_
    refine V_aload_n ok dX2_node_134 rfl 0 rfl ?_
    refine V_get (v := .ref (a 1)) ok 0 0 tw_X2 twf_X2_10 rfl rfl (by decide) dX2_node_135 sg_at0 rfl ?_
    refine V_get (v := .ref (a 6)) ok 1 4 tw_X0 twf_X2_103 rfl rfl (by decide) dX2_node_138 sg_at1 rfl ?_
    refine V_iload_n ok dX2_node_141 rfl 1 rfl ?_
    refine V_dald (f := now.2.2.2.2.1) (N := 11) ok 6 i dX2_node_142 sg_at6 rfl (by omega) (by decide) ?_
    refine V_cS (v2 := some (.long (tf (now.2.2.2.2.1 i)))) (wn := surgeW g a now spare K nw sts rf pg) (rest := []) ok (c_X2_thousandfold g (now.2.2.2.2.1 i) f4) 1 twm_X2_89 tws_yX2_thousandfold twin_X2 twc_yX2_thousandfold yok_X2_thousandfold (by decide) ⟨rfl, rfl⟩ dX2_node_143 rfl rfl (Nat.le_of_ble_eq_true rfl) ⟨Nat.zero_le _, Nat.zero_le _⟩ [] rfl rfl (Nat.le_of_ble_eq_true rfl) (rep_nil _) ?_
    exact V_lret ok dX2_node_146 (Nat.zero_le _) (Nat.zero_le _) ⟨rfl, rfl⟩
set_option maxHeartbeats 4000000 in
set_option maxRecDepth 100000 in
theorem c_X2_node_bad (g : Glob) (a : Nat → Nat) (now spare : LineSt) (K : Nat → LineSt) (nw sts : Nat) (rf : Nat → Int32) (pg : PageSt) (i q : Int32) (ho : ¬ nodeB now.1 i = true ∨ q < 0 ∨ nI 5 < q) : Con g yX2_node cX2_node 3 (some .long) ({ frames := 2, cells := 0, slots := 0, locals := 41 } : Room) [.ref (a 0), .int i, .int q] (surgeW g a now spare K nw sts rf pg) (Is (some (.long (-9000000000000000))) (surgeW g a now spare K nw sts (rfU rf (-2)) pg)) := by
  refine con_of_V ypl_X2_node (Nat.le_of_ble_eq_true rfl) [(0, .ref (a 0)), (1, .int i), (2, .int q)] rfl (fun Γ ok => ?_)
  refine V_aload_n ok dX2_node_0 rfl 0 rfl ?_
  refine V_get (v := .ref (a 1)) ok 0 0 tw_X2 twf_X2_10 rfl rfl (by decide) dX2_node_1 sg_at0 rfl ?_
  refine V_iload_n ok dX2_node_4 rfl 1 rfl ?_
  refine V_cV (v2 := some (.int (bI (nodeB now.1 i)))) (wn := surgeW g a now spare K nw sts rf pg) (rest := []) ok 1 0 (k_X0_hasNode g (fun i => a (1 + i)) now i) 1 twm_X2_78 twi_yX0_hasNode twv_yX0_hasNode twin_X0 twc_yX0_hasNode yok_X0_hasNode (by decide) ⟨rfl, rfl⟩ dX2_node_5 rfl sg_at1 rfl rfl (Nat.le_of_ble_eq_true rfl) ⟨Nat.zero_le _, Nat.zero_le _⟩ (slN 1) rfl sg_sub_1 (Nat.le_of_ble_eq_true rfl) sg_rep_1 ?_
  refine V_ifB_eq (tgt := 20) ok dX2_node_8 (by decide) (fun h8 => ?_) (fun h8 => ?_)
  · refine V_aload_n ok dX2_node_20 rfl 0 rfl ?_
    refine V_cW (v2 := some (.long (-9000000000000000))) (w2 := surgeW g a now spare K nw sts (rfU rf (-2)) pg) (rest := []) ok 0 2 (c_X2_refuseLong g a now spare K nw sts rf pg) 0 twm_X2_81 twi_yX2_refuseLong twv_yX2_refuseLong twin_X2 twc_yX2_refuseLong yok_X2_refuseLong (by decide) ⟨rfl, rfl⟩ dX2_node_21 rfl sg_at0 rfl rfl (Nat.le_of_ble_eq_true rfl) ⟨Nat.zero_le _, Nat.zero_le _⟩ ?_
    exact V_lret ok dX2_node_24 (Nat.zero_le _) (Nat.zero_le _) ⟨rfl, rfl⟩
  · refine V_iload_n ok dX2_node_11 rfl 2 rfl ?_
    refine V_if_lt (tgt := 20) ok dX2_node_12 (by decide) (fun h12 => ?_) (fun h12 => ?_)
    · refine V_aload_n ok dX2_node_20 rfl 0 rfl ?_
      refine V_cW (v2 := some (.long (-9000000000000000))) (w2 := surgeW g a now spare K nw sts (rfU rf (-2)) pg) (rest := []) ok 0 2 (c_X2_refuseLong g a now spare K nw sts rf pg) 0 twm_X2_81 twi_yX2_refuseLong twv_yX2_refuseLong twin_X2 twc_yX2_refuseLong yok_X2_refuseLong (by decide) ⟨rfl, rfl⟩ dX2_node_21 rfl sg_at0 rfl rfl (Nat.le_of_ble_eq_true rfl) ⟨Nat.zero_le _, Nat.zero_le _⟩ ?_
      exact V_lret ok dX2_node_24 (Nat.zero_le _) (Nat.zero_le _) ⟨rfl, rfl⟩
    · refine V_iload_n ok dX2_node_15 rfl 2 rfl ?_
      refine V_iconst (v := nI 5) ok dX2_node_16 rfl ?_
      refine V_icmp_le (tgt := 25) ok dX2_node_17 (by decide) (fun h17 => absurd h17 (Int32.not_le.mpr ((ho.resolve_left (fun z => z h8)).resolve_left h12))) (fun h17 => ?_)
      refine V_aload_n ok dX2_node_20 rfl 0 rfl ?_
      refine V_cW (v2 := some (.long (-9000000000000000))) (w2 := surgeW g a now spare K nw sts (rfU rf (-2)) pg) (rest := []) ok 0 2 (c_X2_refuseLong g a now spare K nw sts rf pg) 0 twm_X2_81 twi_yX2_refuseLong twv_yX2_refuseLong twin_X2 twc_yX2_refuseLong yok_X2_refuseLong (by decide) ⟨rfl, rfl⟩ dX2_node_21 rfl sg_at0 rfl rfl (Nat.le_of_ble_eq_true rfl) ⟨Nat.zero_le _, Nat.zero_le _⟩ ?_
      exact V_lret ok dX2_node_24 (Nat.zero_le _) (Nat.zero_le _) ⟨rfl, rfl⟩
set_option maxHeartbeats 4000000 in
set_option maxRecDepth 100000 in
theorem c_X2_all_ok (g : Glob) (a : Nat → Nat) (now spare : LineSt) (K : Nat → LineSt) (nw sts : Nat) (rf : Nat → Int32) (pg : PageSt) (w : Nat) (hx : LG now) (hw : w ≤ 3) : Con g yX2_all cX2_all 2 (some .long) ({ frames := 2, cells := 0, slots := 0, locals := 41 } : Room) [.ref (a 0), .int (nI w)] (surgeW g a now spare K nw sts rf pg) (Is (some (.long (tf (allV now w)))) (surgeW g a now spare K nw sts rf pg)) := by
  refine con_of_V ypl_X2_all (Nat.le_of_ble_eq_true rfl) [(0, .ref (a 0)), (1, .int (nI w))] rfl (fun Γ ok => ?_)
  rcases (show w = 0 ∨ w = 1 ∨ w = 2 ∨ w = 3 by omega) with rfl | rfl | rfl | rfl
  · refine V_iload_n ok dX2_all_0 rfl 1 rfl ?_
    refine V_tabIn (off := 31) (tgt := 32) ok dX2_all_1 (by decide) (by decide) rfl (by decide) ?_
    refine V_aload_n ok dX2_all_32 rfl 0 rfl ?_
    refine V_get (v := .ref (a 1)) ok 0 0 tw_X2 twf_X2_10 rfl rfl (by decide) dX2_all_33 sg_at0 rfl ?_
    refine V_cV (v2 := some (.double (kept0 now.2.1 now.2.2.1 (nv now.1 0 + 1)))) (wn := surgeW g a now spare K nw sts rf pg) (rest := []) ok 1 0 (k_X0_sumOfSquares g (fun i => a (1 + i)) now hx.1 (fun i hi => ⟨(kept_ok hx i hi).1, (kept_ok hx i hi).2.1, (kept_ok hx i hi).2.2.1, (kept_ok hx i hi).2.2.2.1⟩)) 0 twm_X2_106 twi_yX0_sumOfSquares twv_yX0_sumOfSquares twin_X0 twc_yX0_sumOfSquares yok_X0_sumOfSquares (by decide) ⟨rfl, rfl⟩ dX2_all_36 rfl sg_at1 rfl rfl (Nat.le_of_ble_eq_true rfl) ⟨Nat.zero_le _, Nat.zero_le _⟩ (slN 1) rfl sg_sub_1 (Nat.le_of_ble_eq_true rfl) sg_rep_1 ?_
    refine V_cS (v2 := some (.long (tf (kept0 now.2.1 now.2.2.1 (nv now.1 0 + 1))))) (wn := surgeW g a now spare K nw sts rf pg) (rest := []) ok (c_X2_thousandfold g (kept0 now.2.1 now.2.2.1 (nv now.1 0 + 1)) ((kept_ok hx _ (Nat.le_refl _)).2.2.2.2).fin) 1 twm_X2_89 tws_yX2_thousandfold twin_X2 twc_yX2_thousandfold yok_X2_thousandfold (by decide) ⟨rfl, rfl⟩ dX2_all_39 rfl rfl (Nat.le_of_ble_eq_true rfl) ⟨Nat.zero_le _, Nat.zero_le _⟩ [] rfl rfl (Nat.le_of_ble_eq_true rfl) (rep_nil _) ?_
    exact V_lret ok dX2_all_42 (Nat.zero_le _) (Nat.zero_le _) ⟨rfl, rfl⟩
  · refine V_iload_n ok dX2_all_0 rfl 1 rfl ?_
    refine V_tabIn (off := 42) (tgt := 43) ok dX2_all_1 (by decide) (by decide) rfl (by decide) ?_
    refine V_aload_n ok dX2_all_43 rfl 0 rfl ?_
    refine V_get (v := .ref (a 1)) ok 0 0 tw_X2 twf_X2_10 rfl rfl (by decide) dX2_all_44 sg_at0 rfl ?_
    refine V_get (v := .double now.2.2.2.2.2.1) ok 1 5 tw_X0 twf_X2_110 rfl rfl (by decide) dX2_all_47 sg_at1 rfl ?_
    refine V_cS (v2 := some (.long (tf now.2.2.2.2.2.1))) (wn := surgeW g a now spare K nw sts rf pg) (rest := []) ok (c_X2_thousandfold g now.2.2.2.2.2.1 hx.hiF) 1 twm_X2_89 tws_yX2_thousandfold twin_X2 twc_yX2_thousandfold yok_X2_thousandfold (by decide) ⟨rfl, rfl⟩ dX2_all_50 rfl rfl (Nat.le_of_ble_eq_true rfl) ⟨Nat.zero_le _, Nat.zero_le _⟩ [] rfl rfl (Nat.le_of_ble_eq_true rfl) (rep_nil _) ?_
    exact V_lret ok dX2_all_53 (Nat.zero_le _) (Nat.zero_le _) ⟨rfl, rfl⟩
  · refine V_iload_n ok dX2_all_0 rfl 1 rfl ?_
    refine V_tabIn (off := 53) (tgt := 54) ok dX2_all_1 (by decide) (by decide) rfl (by decide) ?_
    refine V_aload_n ok dX2_all_54 rfl 0 rfl ?_
    refine V_get (v := .ref (a 1)) ok 0 0 tw_X2 twf_X2_10 rfl rfl (by decide) dX2_all_55 sg_at0 rfl ?_
    refine V_get (v := .double now.2.2.2.2.2.2.1) ok 1 6 tw_X0 twf_X2_114 rfl rfl (by decide) dX2_all_58 sg_at1 rfl ?_
    refine V_cS (v2 := some (.long (tf now.2.2.2.2.2.2.1))) (wn := surgeW g a now spare K nw sts rf pg) (rest := []) ok (c_X2_thousandfold g now.2.2.2.2.2.2.1 hx.loF) 1 twm_X2_89 tws_yX2_thousandfold twin_X2 twc_yX2_thousandfold yok_X2_thousandfold (by decide) ⟨rfl, rfl⟩ dX2_all_61 rfl rfl (Nat.le_of_ble_eq_true rfl) ⟨Nat.zero_le _, Nat.zero_le _⟩ [] rfl rfl (Nat.le_of_ble_eq_true rfl) (rep_nil _) ?_
    exact V_lret ok dX2_all_64 (Nat.zero_le _) (Nat.zero_le _) ⟨rfl, rfl⟩
  · refine V_iload_n ok dX2_all_0 rfl 1 rfl ?_
    refine V_tabIn (off := 64) (tgt := 65) ok dX2_all_1 (by decide) (by decide) rfl (by decide) ?_
    refine V_aload_n ok dX2_all_65 rfl 0 rfl ?_
    refine V_get (v := .ref (a 1)) ok 0 0 tw_X2 twf_X2_10 rfl rfl (by decide) dX2_all_66 sg_at0 rfl ?_
    refine V_get (v := .double now.2.2.2.2.2.2.2) ok 1 7 tw_X0 twf_X2_117 rfl rfl (by decide) dX2_all_69 sg_at1 rfl ?_
    refine V_cS (v2 := some (.long (tf now.2.2.2.2.2.2.2))) (wn := surgeW g a now spare K nw sts rf pg) (rest := []) ok (c_X2_thousandfold g now.2.2.2.2.2.2.2 hx.2.2.2.1.1.fin) 1 twm_X2_89 tws_yX2_thousandfold twin_X2 twc_yX2_thousandfold yok_X2_thousandfold (by decide) ⟨rfl, rfl⟩ dX2_all_72 rfl rfl (Nat.le_of_ble_eq_true rfl) ⟨Nat.zero_le _, Nat.zero_le _⟩ [] rfl rfl (Nat.le_of_ble_eq_true rfl) (rep_nil _) ?_
    exact V_lret ok dX2_all_75 (Nat.zero_le _) (Nat.zero_le _) ⟨rfl, rfl⟩
set_option maxHeartbeats 4000000 in
set_option maxRecDepth 100000 in
theorem c_X2_all_bad (g : Glob) (a : Nat → Nat) (now spare : LineSt) (K : Nat → LineSt) (nw sts : Nat) (rf : Nat → Int32) (pg : PageSt) (q : Int32) (ho : q.toInt < 0 ∨ 3 < q.toInt) : Con g yX2_all cX2_all 2 (some .long) ({ frames := 2, cells := 0, slots := 0, locals := 41 } : Room) [.ref (a 0), .int q] (surgeW g a now spare K nw sts rf pg) (Is (some (.long (-9000000000000000))) (surgeW g a now spare K nw sts (rfU rf (-2)) pg)) := by
  refine con_of_V ypl_X2_all (Nat.le_of_ble_eq_true rfl) [(0, .ref (a 0)), (1, .int q)] rfl (fun Γ ok => ?_)
  refine V_iload_n ok dX2_all_0 rfl 1 rfl ?_
  refine V_tabOut (tgt := 76) ok dX2_all_1 (ho) (by decide) ?_
  refine V_aload_n ok dX2_all_76 rfl 0 rfl ?_
  refine V_cW (v2 := some (.long (-9000000000000000))) (w2 := surgeW g a now spare K nw sts (rfU rf (-2)) pg) (rest := []) ok 0 2 (c_X2_refuseLong g a now spare K nw sts rf pg) 0 twm_X2_81 twi_yX2_refuseLong twv_yX2_refuseLong twin_X2 twc_yX2_refuseLong yok_X2_refuseLong (by decide) ⟨rfl, rfl⟩ dX2_all_77 rfl sg_at0 rfl rfl (Nat.le_of_ble_eq_true rfl) ⟨Nat.zero_le _, Nat.zero_le _⟩ ?_
  exact V_lret ok dX2_all_80 (Nat.zero_le _) (Nat.zero_le _) ⟨rfl, rfl⟩
set_option maxHeartbeats 4000000 in
set_option maxRecDepth 100000 in
theorem c_X2_lets_ok (g : Glob) (a : Nat → Nat) (now spare : LineSt) (K : Nat → LineSt) (nw sts : Nat) (rf : Nat → Int32) (pg : PageSt) (k T t : Nat) (hl : isLawB (nI k) (nI T) = true) (hk : k ≤ 5) (hT1 : 1 ≤ T) (hT2 : T ≤ 60) (ht : t ≤ 9999) (hx : LG now) : Con g yX2_lets cX2_lets 4 (some .long) ({ frames := 2, cells := 0, slots := 0, locals := 42 } : Room) [.ref (a 0), .int (nI k), .int (nI T), .int (nI t)] (surgeW g a now spare K nw sts rf pg) (Is (some (.long (tf (letF k T t (now.1 2))))) (surgeW g a now spare K nw sts rf pg)) := by
  refine con_of_V ypl_X2_lets (Nat.le_of_ble_eq_true rfl) [(0, .ref (a 0)), (1, .int (nI k)), (2, .int (nI T)), (3, .int (nI t))] rfl (fun Γ ok => ?_)
  refine V_iload_n ok dX2_lets_0 rfl 1 rfl ?_
  refine V_iload_n ok dX2_lets_1 rfl 2 rfl ?_
  refine V_cS (v2 := some (.int (bI (isLawB (nI k) (nI T))))) (wn := surgeW g a now spare K nw sts rf pg) (rest := []) ok (c_X0_isLaw g (nI k) (nI T)) 2 twm_X2_49 tws_yX0_isLaw twin_X0 twc_yX0_isLaw yok_X0_isLaw (by decide) ⟨rfl, rfl⟩ dX2_lets_2 rfl rfl (Nat.le_of_ble_eq_true rfl) ⟨Nat.zero_le _, Nat.zero_le _⟩ [] rfl rfl (Nat.le_of_ble_eq_true rfl) (rep_nil _) ?_
  refine V_ifB_eq (tgt := 19) ok dX2_lets_5 (by decide) (fun h5 => absurd hl h5) (fun h5 => ?_)
  refine V_iload_n ok dX2_lets_8 rfl 3 rfl ?_
  refine V_ifN_lt (tgt := 19) ok dX2_lets_9 (by decide) (by omega) ?_
  refine V_iload_n ok dX2_lets_12 rfl 3 rfl ?_
  refine V_sipush (v := nI 9999) ok dX2_lets_13 rfl ?_
  refine V_icmpN_le (tgt := 24) ok dX2_lets_16 (by decide) (by omega) (by omega) (fun h16 => ?_) (fun h16 => absurd (by omega) h16)
  refine V_iload_n ok dX2_lets_24 rfl 1 rfl ?_
  refine V_aload_n ok dX2_lets_25 rfl 0 rfl ?_
  refine V_get (v := .ref (a 1)) ok 0 0 tw_X2 twf_X2_10 rfl rfl (by decide) dX2_lets_26 sg_at0 rfl ?_
  refine V_get (v := .ref (a 2)) ok 1 0 tw_X0 twf_X2_57 rfl rfl (by decide) dX2_lets_29 sg_at1 rfl ?_
  refine V_iconst (v := nI 2) ok dX2_lets_32 rfl ?_
  refine V_iald (f := now.1) (N := 9) ok 2 2 dX2_lets_33 sg_at2 rfl (by decide) (by decide) ?_
  refine V_iload_n ok dX2_lets_34 rfl 2 rfl ?_
  refine V_iload_n ok dX2_lets_35 rfl 3 rfl ?_
  refine V_cS (v2 := some (.double (letF k T t (now.1 2)))) (wn := surgeW g a now spare K nw sts rf pg) (rest := []) ok (c_X0_letBy g k (now.1 2) T t hk hx.1.bq hT1 hT2 ht) 4 twm_X2_123 tws_yX0_letBy twin_X0 twc_yX0_letBy yok_X0_letBy (by decide) ⟨rfl, rfl⟩ dX2_lets_36 rfl rfl (Nat.le_of_ble_eq_true rfl) ⟨Nat.zero_le _, Nat.zero_le _⟩ [] rfl rfl (Nat.le_of_ble_eq_true rfl) (rep_nil _) ?_
  refine V_cS (v2 := some (.long (tf (letF k T t (now.1 2))))) (wn := surgeW g a now spare K nw sts rf pg) (rest := []) ok (c_X2_thousandfold g (letF k T t (now.1 2)) (letF_bd hx.1.bq hT2).fin) 1 twm_X2_89 tws_yX2_thousandfold twin_X2 twc_yX2_thousandfold yok_X2_thousandfold (by decide) ⟨rfl, rfl⟩ dX2_lets_39 rfl rfl (Nat.le_of_ble_eq_true rfl) ⟨Nat.zero_le _, Nat.zero_le _⟩ [] rfl rfl (Nat.le_of_ble_eq_true rfl) (rep_nil _) ?_
  exact V_lret ok dX2_lets_42 (Nat.zero_le _) (Nat.zero_le _) ⟨rfl, rfl⟩
set_option maxHeartbeats 4000000 in
set_option maxRecDepth 100000 in
theorem c_X2_lets_bad (g : Glob) (a : Nat → Nat) (now spare : LineSt) (K : Nat → LineSt) (nw sts : Nat) (rf : Nat → Int32) (pg : PageSt) (k T t : Int32) (ho : ¬ isLawB k T = true ∨ t < 0 ∨ nI 9999 < t) : Con g yX2_lets cX2_lets 4 (some .long) ({ frames := 2, cells := 0, slots := 0, locals := 42 } : Room) [.ref (a 0), .int k, .int T, .int t] (surgeW g a now spare K nw sts rf pg) (Is (some (.long (-9000000000000000))) (surgeW g a now spare K nw sts (rfU rf (-2)) pg)) := by
  refine con_of_V ypl_X2_lets (Nat.le_of_ble_eq_true rfl) [(0, .ref (a 0)), (1, .int k), (2, .int T), (3, .int t)] rfl (fun Γ ok => ?_)
  refine V_iload_n ok dX2_lets_0 rfl 1 rfl ?_
  refine V_iload_n ok dX2_lets_1 rfl 2 rfl ?_
  refine V_cS (v2 := some (.int (bI (isLawB k T)))) (wn := surgeW g a now spare K nw sts rf pg) (rest := []) ok (c_X0_isLaw g k T) 2 twm_X2_49 tws_yX0_isLaw twin_X0 twc_yX0_isLaw yok_X0_isLaw (by decide) ⟨rfl, rfl⟩ dX2_lets_2 rfl rfl (Nat.le_of_ble_eq_true rfl) ⟨Nat.zero_le _, Nat.zero_le _⟩ [] rfl rfl (Nat.le_of_ble_eq_true rfl) (rep_nil _) ?_
  refine V_ifB_eq (tgt := 19) ok dX2_lets_5 (by decide) (fun h5 => ?_) (fun h5 => ?_)
  · refine V_aload_n ok dX2_lets_19 rfl 0 rfl ?_
    refine V_cW (v2 := some (.long (-9000000000000000))) (w2 := surgeW g a now spare K nw sts (rfU rf (-2)) pg) (rest := []) ok 0 2 (c_X2_refuseLong g a now spare K nw sts rf pg) 0 twm_X2_81 twi_yX2_refuseLong twv_yX2_refuseLong twin_X2 twc_yX2_refuseLong yok_X2_refuseLong (by decide) ⟨rfl, rfl⟩ dX2_lets_20 rfl sg_at0 rfl rfl (Nat.le_of_ble_eq_true rfl) ⟨Nat.zero_le _, Nat.zero_le _⟩ ?_
    exact V_lret ok dX2_lets_23 (Nat.zero_le _) (Nat.zero_le _) ⟨rfl, rfl⟩
  · refine V_iload_n ok dX2_lets_8 rfl 3 rfl ?_
    refine V_if_lt (tgt := 19) ok dX2_lets_9 (by decide) (fun h9 => ?_) (fun h9 => ?_)
    · refine V_aload_n ok dX2_lets_19 rfl 0 rfl ?_
      refine V_cW (v2 := some (.long (-9000000000000000))) (w2 := surgeW g a now spare K nw sts (rfU rf (-2)) pg) (rest := []) ok 0 2 (c_X2_refuseLong g a now spare K nw sts rf pg) 0 twm_X2_81 twi_yX2_refuseLong twv_yX2_refuseLong twin_X2 twc_yX2_refuseLong yok_X2_refuseLong (by decide) ⟨rfl, rfl⟩ dX2_lets_20 rfl sg_at0 rfl rfl (Nat.le_of_ble_eq_true rfl) ⟨Nat.zero_le _, Nat.zero_le _⟩ ?_
      exact V_lret ok dX2_lets_23 (Nat.zero_le _) (Nat.zero_le _) ⟨rfl, rfl⟩
    · refine V_iload_n ok dX2_lets_12 rfl 3 rfl ?_
      refine V_sipush (v := nI 9999) ok dX2_lets_13 rfl ?_
      refine V_icmp_le (tgt := 24) ok dX2_lets_16 (by decide) (fun h16 => absurd h16 (Int32.not_le.mpr ((ho.resolve_left (fun z => z h5)).resolve_left h9))) (fun h16 => ?_)
      refine V_aload_n ok dX2_lets_19 rfl 0 rfl ?_
      refine V_cW (v2 := some (.long (-9000000000000000))) (w2 := surgeW g a now spare K nw sts (rfU rf (-2)) pg) (rest := []) ok 0 2 (c_X2_refuseLong g a now spare K nw sts rf pg) 0 twm_X2_81 twi_yX2_refuseLong twv_yX2_refuseLong twin_X2 twc_yX2_refuseLong yok_X2_refuseLong (by decide) ⟨rfl, rfl⟩ dX2_lets_20 rfl sg_at0 rfl rfl (Nat.le_of_ble_eq_true rfl) ⟨Nat.zero_le _, Nat.zero_le _⟩ ?_
      exact V_lret ok dX2_lets_23 (Nat.zero_le _) (Nat.zero_le _) ⟨rfl, rfl⟩
set_option maxHeartbeats 4000000 in
set_option maxRecDepth 100000 in
theorem c_X2_trial_ok (g : Glob) (a : Nat → Nat) (now spare : LineSt) (K : Nat → LineSt) (nw sts : Nat) (rf : Nat → Int32) (pg : PageSt) (k t : Int32) (m : Nat) (hl : isLawB k t = true) (hm : m ≤ 100) (hx : LG now) : Con g yX2_trial cX2_trial 4 (some .long) ({ frames := 3, cells := 0, slots := 0, locals := 75 } : Room) [.ref (a 0), .int k, .int t, .int (nI m)] (surgeW g a now spare K nw sts rf pg) (Is (some (.long (tf (advL m (settleL (tryV now.1 k t, spare.2))).2.2.2.2.2.1))) (surgeW g a now (advL m (settleL (tryV now.1 k t, spare.2))) K nw sts rf pg)) := by
  refine con_of_V ypl_X2_trial (Nat.le_of_ble_eq_true rfl) [(0, .ref (a 0)), (1, .int k), (2, .int t), (3, .int (nI m))] rfl (fun Γ ok => ?_)
  have htr : trialB (nI m) = true := by unfold trialB; rw [if_neg (nI_pos (by omega)), if_neg (nI_nlt hm (by decide))]
  have hvt := hx.1.try (isLaw_ok hl).1 (isLaw_ok hl).2
  have hy : LG (settleL (tryV now.1 k t, spare.2)) := LG.settle hvt
  have h8 : nv (settleL (tryV now.1 k t, spare.2)).1 8 = 0 := hvt.steady.2.1
  refine V_iload_n ok dX2_trial_0 rfl 1 rfl ?_
  refine V_iload_n ok dX2_trial_1 rfl 2 rfl ?_
  refine V_cS (v2 := some (.int (bI (isLawB k t)))) (wn := surgeW g a now spare K nw sts rf pg) (rest := []) ok (c_X0_isLaw g k t) 2 twm_X2_49 tws_yX0_isLaw twin_X0 twc_yX0_isLaw yok_X0_isLaw (by decide) ⟨rfl, rfl⟩ dX2_trial_2 rfl rfl (Nat.le_of_ble_eq_true rfl) ⟨Nat.zero_le _, Nat.zero_le _⟩ [] rfl rfl (Nat.le_of_ble_eq_true rfl) (rep_nil _) ?_
  refine V_ifB_eq (tgt := 15) ok dX2_trial_5 (by decide) (fun h5 => absurd hl h5) (fun h5 => ?_)
  refine V_iload_n ok dX2_trial_8 rfl 3 rfl ?_
  refine V_cS (v2 := some (.int (bI (trialB (nI m))))) (wn := surgeW g a now spare K nw sts rf pg) (rest := []) ok (c_X2_isTrialLength g (nI m)) 1 twm_X2_127 tws_yX2_isTrialLength twin_X2 twc_yX2_isTrialLength yok_X2_isTrialLength (by decide) ⟨rfl, rfl⟩ dX2_trial_9 rfl rfl (Nat.le_of_ble_eq_true rfl) ⟨Nat.zero_le _, Nat.zero_le _⟩ [] rfl rfl (Nat.le_of_ble_eq_true rfl) (rep_nil _) ?_
  refine V_ifB_ne (tgt := 20) ok dX2_trial_12 (by decide) (fun h12 => ?_) (fun h12 => absurd htr h12)
  refine V_aload_n ok dX2_trial_20 rfl 0 rfl ?_
  refine V_get (v := .ref (a 7)) ok 0 1 tw_X2 twf_X2_16 rfl rfl (by decide) dX2_trial_21 sg_at0 rfl ?_
  refine V_aload_n ok dX2_trial_24 rfl 0 rfl ?_
  refine V_get (v := .ref (a 1)) ok 0 0 tw_X2 twf_X2_10 rfl rfl (by decide) dX2_trial_25 sg_at0 rfl ?_
  refine V_iload_n ok dX2_trial_28 rfl 1 rfl ?_
  refine V_iload_n ok dX2_trial_29 rfl 2 rfl ?_
  refine V_cV (v2 := none) (wn := surgeW g a now (settleL (tryV now.1 k t, spare.2)) K nw sts rf pg) (rest := []) ok 7 0 (c_X0_tryOut g (fun i => a (7 + i)) (fun i => a (1 + i)) spare now k t hvt) 3 twm_X2_130 twi_yX0_tryOut twv_yX0_tryOut twin_X0 twc_yX0_tryOut yok_X0_tryOut (by decide) ⟨rfl, rfl⟩ dX2_trial_30 rfl sg_at7 rfl rfl (Nat.le_of_ble_eq_true rfl) ⟨Nat.zero_le _, Nat.zero_le _⟩ (slN 7 ++ slN 1) rfl (sub_app sg_sub_7 sg_sub_1) (Nat.le_of_ble_eq_true rfl) (rep_app rfl rfl sg_rep_7 sg_rep_1) ?_
  refine V_aload_n ok dX2_trial_33 rfl 0 rfl ?_
  refine V_get (v := .ref (a 7)) ok 0 1 tw_X2 twf_X2_16 rfl rfl (by decide) dX2_trial_34 sg_at0 rfl ?_
  refine V_iload_n ok dX2_trial_37 rfl 3 rfl ?_
  refine V_cV (v2 := none) (wn := surgeW g a now (advL m (settleL (tryV now.1 k t, spare.2))) K nw sts rf pg) (rest := []) ok 7 0 (c_X0_advance g (fun i => a (7 + i)) (settleL (tryV now.1 k t, spare.2)) m hy (by omega)) 1 twm_X2_74 twi_yX0_advance twv_yX0_advance twin_X0 twc_yX0_advance yok_X0_advance (by decide) ⟨rfl, rfl⟩ dX2_trial_38 rfl sg_at7 rfl rfl (Nat.le_of_ble_eq_true rfl) ⟨Nat.zero_le _, Nat.zero_le _⟩ (slN 7) rfl sg_sub_7 (Nat.le_of_ble_eq_true rfl) sg_rep_7 ?_
  refine V_aload_n ok dX2_trial_41 rfl 0 rfl ?_
  refine V_get (v := .ref (a 7)) ok 0 1 tw_X2 twf_X2_16 rfl rfl (by decide) dX2_trial_42 sg_at0 rfl ?_
  refine V_get (v := .double ((advL m (settleL (tryV now.1 k t, spare.2))).2.2.2.2.2.1)) ok 7 5 tw_X0 twf_X2_110 rfl rfl (by decide) dX2_trial_45 sg_at7 rfl ?_
  refine V_cS (v2 := some (.long (tf ((advL m (settleL (tryV now.1 k t, spare.2))).2.2.2.2.2.1)))) (wn := surgeW g a now (advL m (settleL (tryV now.1 k t, spare.2))) K nw sts rf pg) (rest := []) ok (c_X2_thousandfold g ((advL m (settleL (tryV now.1 k t, spare.2))).2.2.2.2.2.1) (LG.adv hy m (by omega)).1.hiF) 1 twm_X2_89 tws_yX2_thousandfold twin_X2 twc_yX2_thousandfold yok_X2_thousandfold (by decide) ⟨rfl, rfl⟩ dX2_trial_48 rfl rfl (Nat.le_of_ble_eq_true rfl) ⟨Nat.zero_le _, Nat.zero_le _⟩ [] rfl rfl (Nat.le_of_ble_eq_true rfl) (rep_nil _) ?_
  exact V_lret ok dX2_trial_51 (Nat.zero_le _) (Nat.zero_le _) ⟨rfl, rfl⟩
set_option maxHeartbeats 4000000 in
set_option maxRecDepth 100000 in
theorem c_X2_trial_bad (g : Glob) (a : Nat → Nat) (now spare : LineSt) (K : Nat → LineSt) (nw sts : Nat) (rf : Nat → Int32) (pg : PageSt) (k t m : Int32) (ho : ¬ isLawB k t = true ∨ ¬ trialB m = true) : Con g yX2_trial cX2_trial 4 (some .long) ({ frames := 3, cells := 0, slots := 0, locals := 75 } : Room) [.ref (a 0), .int k, .int t, .int m] (surgeW g a now spare K nw sts rf pg) (Is (some (.long (-9000000000000000))) (surgeW g a now spare K nw sts (rfU rf (-2)) pg)) := by
  refine con_of_V ypl_X2_trial (Nat.le_of_ble_eq_true rfl) [(0, .ref (a 0)), (1, .int k), (2, .int t), (3, .int m)] rfl (fun Γ ok => ?_)
  refine V_iload_n ok dX2_trial_0 rfl 1 rfl ?_
  refine V_iload_n ok dX2_trial_1 rfl 2 rfl ?_
  refine V_cS (v2 := some (.int (bI (isLawB k t)))) (wn := surgeW g a now spare K nw sts rf pg) (rest := []) ok (c_X0_isLaw g k t) 2 twm_X2_49 tws_yX0_isLaw twin_X0 twc_yX0_isLaw yok_X0_isLaw (by decide) ⟨rfl, rfl⟩ dX2_trial_2 rfl rfl (Nat.le_of_ble_eq_true rfl) ⟨Nat.zero_le _, Nat.zero_le _⟩ [] rfl rfl (Nat.le_of_ble_eq_true rfl) (rep_nil _) ?_
  refine V_ifB_eq (tgt := 15) ok dX2_trial_5 (by decide) (fun h5 => ?_) (fun h5 => ?_)
  · refine V_aload_n ok dX2_trial_15 rfl 0 rfl ?_
    refine V_cW (v2 := some (.long (-9000000000000000))) (w2 := surgeW g a now spare K nw sts (rfU rf (-2)) pg) (rest := []) ok 0 2 (c_X2_refuseLong g a now spare K nw sts rf pg) 0 twm_X2_81 twi_yX2_refuseLong twv_yX2_refuseLong twin_X2 twc_yX2_refuseLong yok_X2_refuseLong (by decide) ⟨rfl, rfl⟩ dX2_trial_16 rfl sg_at0 rfl rfl (Nat.le_of_ble_eq_true rfl) ⟨Nat.zero_le _, Nat.zero_le _⟩ ?_
    exact V_lret ok dX2_trial_19 (Nat.zero_le _) (Nat.zero_le _) ⟨rfl, rfl⟩
  · refine V_iload_n ok dX2_trial_8 rfl 3 rfl ?_
    refine V_cS (v2 := some (.int (bI (trialB m)))) (wn := surgeW g a now spare K nw sts rf pg) (rest := []) ok (c_X2_isTrialLength g m) 1 twm_X2_127 tws_yX2_isTrialLength twin_X2 twc_yX2_isTrialLength yok_X2_isTrialLength (by decide) ⟨rfl, rfl⟩ dX2_trial_9 rfl rfl (Nat.le_of_ble_eq_true rfl) ⟨Nat.zero_le _, Nat.zero_le _⟩ [] rfl rfl (Nat.le_of_ble_eq_true rfl) (rep_nil _) ?_
    refine V_ifB_ne (tgt := 20) ok dX2_trial_12 (by decide) (fun h12 => absurd h12 (ho.resolve_left (fun z => z h5))) (fun h12 => ?_)
    refine V_aload_n ok dX2_trial_15 rfl 0 rfl ?_
    refine V_cW (v2 := some (.long (-9000000000000000))) (w2 := surgeW g a now spare K nw sts (rfU rf (-2)) pg) (rest := []) ok 0 2 (c_X2_refuseLong g a now spare K nw sts rf pg) 0 twm_X2_81 twi_yX2_refuseLong twv_yX2_refuseLong twin_X2 twc_yX2_refuseLong yok_X2_refuseLong (by decide) ⟨rfl, rfl⟩ dX2_trial_16 rfl sg_at0 rfl rfl (Nat.le_of_ble_eq_true rfl) ⟨Nat.zero_le _, Nat.zero_le _⟩ ?_
    exact V_lret ok dX2_trial_19 (Nat.zero_le _) (Nat.zero_le _) ⟨rfl, rfl⟩
set_option maxHeartbeats 4000000 in
set_option maxRecDepth 100000 in
theorem c_X2_type_bad (g : Glob) (a : Nat → Nat) (now spare : LineSt) (K : Nat → LineSt) (nw sts : Nat) (rf : Nat → Int32) (pg : PageSt) (c : Int32) (ho : c < 0 ∨ nI 127 < c) : Con g yX2_type cX2_type 2 (some .int) ({ frames := 1, cells := 0, slots := 0, locals := 21 } : Room) [.ref (a 0), .int c] (surgeW g a now spare K nw sts rf pg) (Is (some (.int (-2))) (surgeW g a now spare K nw sts (rfU rf (-2)) pg)) := by
  refine con_of_V ypl_X2_type (Nat.le_of_ble_eq_true rfl) [(0, .ref (a 0)), (1, .int c)] rfl (fun Γ ok => ?_)
  refine V_iload_n ok dX2_type_0 rfl 1 rfl ?_
  refine V_if_lt (tgt := 10) ok dX2_type_1 (by decide) (fun h1 => ?_) (fun h1 => ?_)
  · refine V_aload_n ok dX2_type_10 rfl 0 rfl ?_
    refine V_bipush (v := (-2)) ok dX2_type_11 rfl ?_
    refine V_cW (v2 := some (.int (-2))) (w2 := surgeW g a now spare K nw sts (rfU rf (-2)) pg) (rest := []) ok 0 2 (c_X2_refuse_m2 g a now spare K nw sts rf pg) 1 twm_X2_45 twi_yX2_refuse twv_yX2_refuse twin_X2 twc_yX2_refuse yok_X2_refuse (by decide) ⟨rfl, rfl⟩ dX2_type_13 rfl sg_at0 rfl rfl (Nat.le_of_ble_eq_true rfl) ⟨Nat.zero_le _, Nat.zero_le _⟩ ?_
    exact V_iret ok dX2_type_16 (Nat.zero_le _) (Nat.zero_le _) ⟨rfl, rfl⟩
  · refine V_iload_n ok dX2_type_4 rfl 1 rfl ?_
    refine V_bipush (v := nI 127) ok dX2_type_5 rfl ?_
    refine V_icmp_le (tgt := 17) ok dX2_type_7 (by decide) (fun h7 => absurd h7 (Int32.not_le.mpr (ho.resolve_left h1))) (fun h7 => ?_)
    refine V_aload_n ok dX2_type_10 rfl 0 rfl ?_
    refine V_bipush (v := (-2)) ok dX2_type_11 rfl ?_
    refine V_cW (v2 := some (.int (-2))) (w2 := surgeW g a now spare K nw sts (rfU rf (-2)) pg) (rest := []) ok 0 2 (c_X2_refuse_m2 g a now spare K nw sts rf pg) 1 twm_X2_45 twi_yX2_refuse twv_yX2_refuse twin_X2 twc_yX2_refuse yok_X2_refuse (by decide) ⟨rfl, rfl⟩ dX2_type_13 rfl sg_at0 rfl rfl (Nat.le_of_ble_eq_true rfl) ⟨Nat.zero_le _, Nat.zero_le _⟩ ?_
    exact V_iret ok dX2_type_16 (Nat.zero_le _) (Nat.zero_le _) ⟨rfl, rfl⟩
set_option maxHeartbeats 4000000 in
set_option maxRecDepth 100000 in
theorem c_X2_type_full (g : Glob) (a : Nat → Nat) (now spare : LineSt) (K : Nat → LineSt) (nw sts : Nat) (rf : Nat → Int32) (pg : PageSt) (c : Nat) (hc : c ≤ 127) (hp : PG pg) (hl : ¬ pLen pg < 100) : Con g yX2_type cX2_type 2 (some .int) ({ frames := 1, cells := 0, slots := 0, locals := 21 } : Room) [.ref (a 0), .int (nI c)] (surgeW g a now spare K nw sts rf pg) (Is (some (.int (-4))) (surgeW g a now spare K nw sts (rfU rf (-4)) pg)) := by
  refine con_of_V ypl_X2_type (Nat.le_of_ble_eq_true rfl) [(0, .ref (a 0)), (1, .int (nI c))] rfl (fun Γ ok => ?_)
  refine V_iload_n ok dX2_type_0 rfl 1 rfl ?_
  refine V_ifN_lt (tgt := 10) ok dX2_type_1 (by decide) (by omega) ?_
  refine V_iload_n ok dX2_type_4 rfl 1 rfl ?_
  refine V_bipush (v := nI 127) ok dX2_type_5 rfl ?_
  refine V_icmpN_le (tgt := 17) ok dX2_type_7 (by decide) (by omega) (by omega) (fun h7 => ?_) (fun h7 => absurd (by omega) h7)
  refine V_aload_n ok dX2_type_17 rfl 0 rfl ?_
  refine V_get (v := .ref (a 39)) ok 0 6 tw_X2 twf_X2_37 rfl rfl (by decide) dX2_type_18 sg_at0 rfl ?_
  refine V_iload_n ok dX2_type_21 rfl 1 rfl ?_
  refine V_cV (v2 := some (.int (bI (decide (pLen pg < 100))))) (wn := surgeW g a now spare K nw sts rf (if pLen pg < 100 then appendF pg (nI c) else pg)) (rest := []) ok 39 1 (c_X1_append g (fun i => a (39 + i)) pg (nI c) hp) 1 twm_X2_144 twi_yX1_append twv_yX1_append twin_X1 twc_yX1_append yok_X1_append (by decide) ⟨rfl, rfl⟩ dX2_type_22 rfl sg_at39 rfl rfl (Nat.le_of_ble_eq_true rfl) ⟨Nat.zero_le _, Nat.zero_le _⟩ [39, 40] rfl sg_sub_39 (Nat.le_of_ble_eq_true rfl) sg_rep_39 ?_
  refine V_ifB_ne (tgt := 35) ok dX2_type_25 (by decide) (fun h25 => absurd (of_decide_eq_true h25) hl) (fun h25 => ?_)
  refine V_aload_n ok dX2_type_28 rfl 0 rfl ?_
  refine V_bipush (v := (-4)) ok dX2_type_29 rfl ?_
  refine V_cW (v2 := some (.int (-4))) (w2 := surgeW g a now spare K nw sts (rfU rf (-4)) (if pLen pg < 100 then appendF pg (nI c) else pg)) (rest := []) ok 0 2 (c_X2_refuse_m4 g a now spare K nw sts rf (if pLen pg < 100 then appendF pg (nI c) else pg)) 1 twm_X2_45 twi_yX2_refuse twv_yX2_refuse twin_X2 twc_yX2_refuse yok_X2_refuse (by decide) ⟨rfl, rfl⟩ dX2_type_31 rfl sg_at0 rfl rfl (Nat.le_of_ble_eq_true rfl) ⟨Nat.zero_le _, Nat.zero_le _⟩ ?_
  exact V_iret ok dX2_type_34 (Nat.zero_le _) (Nat.zero_le _) ⟨rfl, by rw [if_neg hl]⟩
set_option maxHeartbeats 4000000 in
set_option maxRecDepth 100000 in
theorem c_X2_type_ok (g : Glob) (a : Nat → Nat) (now spare : LineSt) (K : Nat → LineSt) (nw sts : Nat) (rf : Nat → Int32) (pg : PageSt) (c : Nat) (hc : c ≤ 127) (hp : PG pg) (hl : pLen pg < 100) : Con g yX2_type cX2_type 2 (some .int) ({ frames := 1, cells := 0, slots := 0, locals := 21 } : Room) [.ref (a 0), .int (nI c)] (surgeW g a now spare K nw sts rf pg) (Is (some (.int (nI (pLen pg + 1)))) (surgeW g a now spare K nw sts rf (appendF pg (nI c)))) := by
  refine con_of_V ypl_X2_type (Nat.le_of_ble_eq_true rfl) [(0, .ref (a 0)), (1, .int (nI c))] rfl (fun Γ ok => ?_)
  refine V_iload_n ok dX2_type_0 rfl 1 rfl ?_
  refine V_ifN_lt (tgt := 10) ok dX2_type_1 (by decide) (by omega) ?_
  refine V_iload_n ok dX2_type_4 rfl 1 rfl ?_
  refine V_bipush (v := nI 127) ok dX2_type_5 rfl ?_
  refine V_icmpN_le (tgt := 17) ok dX2_type_7 (by decide) (by omega) (by omega) (fun h7 => ?_) (fun h7 => absurd (by omega) h7)
  refine V_aload_n ok dX2_type_17 rfl 0 rfl ?_
  refine V_get (v := .ref (a 39)) ok 0 6 tw_X2 twf_X2_37 rfl rfl (by decide) dX2_type_18 sg_at0 rfl ?_
  refine V_iload_n ok dX2_type_21 rfl 1 rfl ?_
  refine V_cV (v2 := some (.int (bI (decide (pLen pg < 100))))) (wn := surgeW g a now spare K nw sts rf (if pLen pg < 100 then appendF pg (nI c) else pg)) (rest := []) ok 39 1 (c_X1_append g (fun i => a (39 + i)) pg (nI c) hp) 1 twm_X2_144 twi_yX1_append twv_yX1_append twin_X1 twc_yX1_append yok_X1_append (by decide) ⟨rfl, rfl⟩ dX2_type_22 rfl sg_at39 rfl rfl (Nat.le_of_ble_eq_true rfl) ⟨Nat.zero_le _, Nat.zero_le _⟩ [39, 40] rfl sg_sub_39 (Nat.le_of_ble_eq_true rfl) sg_rep_39 ?_
  refine V_ifB_ne (tgt := 35) ok dX2_type_25 (by decide) (fun h25 => ?_) (fun h25 => absurd (decide_eq_true hl) h25)
  refine V_aload_n ok dX2_type_35 rfl 0 rfl ?_
  refine V_get (v := .ref (a 39)) ok 0 6 tw_X2 twf_X2_37 rfl rfl (by decide) dX2_type_36 sg_at0 rfl ?_
  refine V_get (v := .int (nI (if pLen pg < 100 then appendF pg (nI c) else pg).2.1)) ok 39 1 tw_X1 twf_X2_147 rfl rfl (by decide) dX2_type_39 sg_at39 rfl ?_
  exact V_iret ok dX2_type_42 (Nat.zero_le _) (Nat.zero_le _) ⟨by rw [if_pos hl]; rfl, by rw [if_pos hl]⟩
set_option maxHeartbeats 4000000 in
set_option maxRecDepth 100000 in
theorem c_X2_clear (g : Glob) (a : Nat → Nat) (now spare : LineSt) (K : Nat → LineSt) (nw sts : Nat) (rf : Nat → Int32) (pg : PageSt)  : Con g yX2_clear cX2_clear 2 (some .int) ({ frames := 0, cells := 0, slots := 0, locals := 0 } : Room) [.ref (a 0)] (surgeW g a now spare K nw sts rf pg) (Is (some (.int (nI (pLen pg)))) (surgeW g a now spare K nw sts rf (pg.1, 0, pg.2.2))) := by
  refine con_of_V ypl_X2_clear (Nat.le_of_ble_eq_true rfl) [(0, .ref (a 0))] rfl (fun Γ ok => ?_)
  refine V_aload_n ok dX2_clear_0 rfl 0 rfl ?_
  refine V_get (v := .ref (a 39)) ok 0 6 tw_X2 twf_X2_37 rfl rfl (by decide) dX2_clear_1 sg_at0 rfl ?_
  refine V_get (v := .int (nI pg.2.1)) ok 39 1 tw_X1 twf_X2_147 rfl rfl (by decide) dX2_clear_4 sg_at39 rfl ?_
  refine V_istore_n (lv2 := [(1, .int (nI pg.2.1)), (0, .ref (a 0))]) ok dX2_clear_7 rfl (by decide) rfl ?_
  refine V_aload_n ok dX2_clear_8 rfl 1 rfl ?_
  refine V_get (v := .ref (a 39)) ok 0 6 tw_X2 twf_X2_37 rfl rfl (by decide) dX2_clear_9 sg_at0 rfl ?_
  refine V_iconst (v := nI 0) ok dX2_clear_12 rfl ?_
  refine V_put (w2 := surgeW g a now spare K nw sts rf (pg.1, 0, pg.2.2)) ok 39 1 tw_X1 tyX1 tyX1_ok nmX1 twf_X2_147 rfl rfl (by decide) rfl rfl dX2_clear_13 sg_at39 rfl rfl (Nat.lt_of_lt_of_eq (m := 8) (by decide) rfl) sg_set_len ?_
  refine V_iload_n ok dX2_clear_16 rfl 0 rfl ?_
  exact V_iret ok dX2_clear_17 (Nat.zero_le _) (Nat.zero_le _) ⟨rfl, rfl⟩
set_option maxHeartbeats 4000000 in
set_option maxRecDepth 100000 in
theorem c_X2_back_none (g : Glob) (a : Nat → Nat) (now spare : LineSt) (K : Nat → LineSt) (nw : Nat) (rf : Nat → Int32) (pg : PageSt) : Con g yX2_back cX2_back 1 (some .int) ({ frames := 2, cells := 0, slots := 0, locals := 51 } : Room) [.ref (a 0)] (surgeW g a now spare K nw 0 rf pg) (Is (some (.int (-3))) (surgeW g a now spare K nw 0 (rfU rf (-3)) pg)) := by
  refine con_of_V ypl_X2_back (Nat.le_of_ble_eq_true rfl) [(0, .ref (a 0))] rfl (fun Γ ok => ?_)
  refine V_aload_n ok dX2_back_0 rfl 0 rfl ?_
  refine V_get (v := .int (nI 0)) ok 0 4 tw_X2 twf_X2_27 rfl rfl (by decide) dX2_back_1 sg_at0 rfl ?_
  refine V_ifN_ne (tgt := 14) ok dX2_back_4 (by decide) (by omega) (fun h4 => absurd rfl h4) (fun h4 => ?_)
  refine V_aload_n ok dX2_back_7 rfl 0 rfl ?_
  refine V_bipush (v := (-3)) ok dX2_back_8 rfl ?_
  refine V_cW (v2 := some (.int (-3))) (w2 := surgeW g a now spare K nw 0 (rfU rf (-3)) pg) (rest := []) ok 0 2 (c_X2_refuse_m3 g a now spare K nw 0 rf pg) 1 twm_X2_45 twi_yX2_refuse twv_yX2_refuse twin_X2 twc_yX2_refuse yok_X2_refuse (by decide) ⟨rfl, rfl⟩ dX2_back_10 rfl sg_at0 rfl rfl (Nat.le_of_ble_eq_true rfl) ⟨Nat.zero_le _, Nat.zero_le _⟩ ?_
  exact V_iret ok dX2_back_13 (Nat.zero_le _) (Nat.zero_le _) ⟨rfl, rfl⟩
set_option maxHeartbeats 4000000 in
set_option maxRecDepth 100000 in
theorem c_X2_back_ok (g : Glob) (a : Nat → Nat) (now spare : LineSt) (K : Nat → LineSt) (nw s : Nat) (rf : Nat → Int32) (pg : PageSt) (hnw : nw < 4) (hs : s < 4) : Con g yX2_back cX2_back 1 (some .int) ({ frames := 2, cells := 0, slots := 0, locals := 51 } : Room) [.ref (a 0)] (surgeW g a now spare K nw (s + 1) rf pg) (Is (some (.int (nI s))) (surgeW g a (K nw) spare K ((nw + 3) % 4) s rf pg)) := by
  refine con_of_V ypl_X2_back (Nat.le_of_ble_eq_true rfl) [(0, .ref (a 0))] rfl (fun Γ ok => ?_)
  rcases (show nw = 0 ∨ nw = 1 ∨ nw = 2 ∨ nw = 3 by omega) with rfl | rfl | rfl | rfl
  · refine V_aload_n ok dX2_back_0 rfl 0 rfl ?_
    refine V_get (v := .int (nI (s + 1))) ok 0 4 tw_X2 twf_X2_27 rfl rfl (by decide) dX2_back_1 sg_at0 rfl ?_
    refine V_ifN_ne (tgt := 14) ok dX2_back_4 (by decide) (by omega) (fun h4 => ?_) (fun h4 => absurd h4 (by omega))
    refine V_aload_n ok dX2_back_14 rfl 0 rfl ?_
    refine V_get (v := .ref (a 1)) ok 0 0 tw_X2 twf_X2_10 rfl rfl (by decide) dX2_back_15 sg_at0 rfl ?_
    refine V_aload_n ok dX2_back_18 rfl 0 rfl ?_
    refine V_get (v := .ref (a 13)) ok 0 2 tw_X2 twf_X2_19 rfl rfl (by decide) dX2_back_19 sg_at0 rfl ?_
    refine V_aload_n ok dX2_back_22 rfl 0 rfl ?_
    refine V_get (v := .int (nI 0)) ok 0 3 tw_X2 twf_X2_23 rfl rfl (by decide) dX2_back_23 sg_at0 rfl ?_
    refine V_aald (f := (fun j => some (a (14 + 6 * j)))) (N := 4) (z := a 14) ok 13 0 dX2_back_26 sg_at13 rfl (by decide) (by decide) rfl ?_
    refine V_cV (v2 := none) (wn := surgeW g a (K 0) spare K 0 (s + 1) rf pg) (rest := []) ok 1 0 (c_X0_copyFrom g (fun i => a (1 + i)) (fun i => a (14 + i)) now (K 0)) 1 twm_X2_154 twi_yX0_copyFrom twv_yX0_copyFrom twin_X0 twc_yX0_copyFrom yok_X0_copyFrom (by decide) ⟨rfl, rfl⟩ dX2_back_27 rfl sg_at1 rfl rfl (Nat.le_of_ble_eq_true rfl) ⟨Nat.zero_le _, Nat.zero_le _⟩ (slN 1 ++ slN 14) rfl (sub_app sg_sub_1 sg_sub_14) (Nat.le_of_ble_eq_true rfl) (rep_app rfl rfl sg_rep_1 sg_rep_14_id) ?_
    refine V_aload_n ok dX2_back_30 rfl 0 rfl ?_
    refine V_aload_n ok dX2_back_31 rfl 0 rfl ?_
    refine V_get (v := .int (nI 0)) ok 0 3 tw_X2 twf_X2_23 rfl rfl (by decide) dX2_back_32 sg_at0 rfl ?_
    refine V_iconst (v := nI 4) ok dX2_back_35 rfl ?_
    refine V_iaddN (a := 0) (b := 4) (c := 4) ok dX2_back_36 (by first | rfl | omega) ?_
    refine V_iconst (v := nI 1) ok dX2_back_37 rfl ?_
    refine V_isubN (a := 4) (b := 1) (c := 3) ok dX2_back_38 (by omega) (by omega) ?_
    refine V_iconst (v := nI 4) ok dX2_back_39 rfl ?_
    refine V_irem ok dX2_back_40 (by decide) ?_
    refine V_top_int (b := nI 3) (rfl) ?_
    refine V_put (w2 := surgeW g a (K 0) spare K 3 (s + 1) rf pg) ok 0 3 tw_X2 tyX2 tyX2_ok nmX2 twf_X2_23 rfl rfl (by decide) rfl rfl dX2_back_41 sg_at0 rfl rfl (Nat.lt_of_lt_of_eq (m := 7) (by decide) rfl) sg_set_nw ?_
    refine V_aload_n ok dX2_back_44 rfl 0 rfl ?_
    refine V_dup ok dX2_back_45 rfl ?_
    refine V_get (v := .int (nI (s + 1))) ok 0 4 tw_X2 twf_X2_27 rfl rfl (by decide) dX2_back_46 sg_at0 rfl ?_
    refine V_iconst (v := nI 1) ok dX2_back_49 rfl ?_
    refine V_isubN (a := s + 1) (b := 1) (c := s) ok dX2_back_50 (by omega) (by omega) ?_
    refine V_put (w2 := surgeW g a (K 0) spare K 3 s rf pg) ok 0 4 tw_X2 tyX2 tyX2_ok nmX2 twf_X2_27 rfl rfl (by decide) rfl rfl dX2_back_51 sg_at0 rfl rfl (Nat.lt_of_lt_of_eq (m := 7) (by decide) rfl) sg_set_sts ?_
    refine V_aload_n ok dX2_back_54 rfl 0 rfl ?_
    refine V_get (v := .int (nI s)) ok 0 4 tw_X2 twf_X2_27 rfl rfl (by decide) dX2_back_55 sg_at0 rfl ?_
    exact V_iret ok dX2_back_58 (Nat.zero_le _) (Nat.zero_le _) ⟨rfl, rfl⟩
  · refine V_aload_n ok dX2_back_0 rfl 0 rfl ?_
    refine V_get (v := .int (nI (s + 1))) ok 0 4 tw_X2 twf_X2_27 rfl rfl (by decide) dX2_back_1 sg_at0 rfl ?_
    refine V_ifN_ne (tgt := 14) ok dX2_back_4 (by decide) (by omega) (fun h4 => ?_) (fun h4 => absurd h4 (by omega))
    refine V_aload_n ok dX2_back_14 rfl 0 rfl ?_
    refine V_get (v := .ref (a 1)) ok 0 0 tw_X2 twf_X2_10 rfl rfl (by decide) dX2_back_15 sg_at0 rfl ?_
    refine V_aload_n ok dX2_back_18 rfl 0 rfl ?_
    refine V_get (v := .ref (a 13)) ok 0 2 tw_X2 twf_X2_19 rfl rfl (by decide) dX2_back_19 sg_at0 rfl ?_
    refine V_aload_n ok dX2_back_22 rfl 0 rfl ?_
    refine V_get (v := .int (nI 1)) ok 0 3 tw_X2 twf_X2_23 rfl rfl (by decide) dX2_back_23 sg_at0 rfl ?_
    refine V_aald (f := (fun j => some (a (14 + 6 * j)))) (N := 4) (z := a 20) ok 13 1 dX2_back_26 sg_at13 rfl (by decide) (by decide) rfl ?_
    refine V_cV (v2 := none) (wn := surgeW g a (K 1) spare K 1 (s + 1) rf pg) (rest := []) ok 1 0 (c_X0_copyFrom g (fun i => a (1 + i)) (fun i => a (20 + i)) now (K 1)) 1 twm_X2_154 twi_yX0_copyFrom twv_yX0_copyFrom twin_X0 twc_yX0_copyFrom yok_X0_copyFrom (by decide) ⟨rfl, rfl⟩ dX2_back_27 rfl sg_at1 rfl rfl (Nat.le_of_ble_eq_true rfl) ⟨Nat.zero_le _, Nat.zero_le _⟩ (slN 1 ++ slN 20) rfl (sub_app sg_sub_1 sg_sub_20) (Nat.le_of_ble_eq_true rfl) (rep_app rfl rfl sg_rep_1 sg_rep_20_id) ?_
    refine V_aload_n ok dX2_back_30 rfl 0 rfl ?_
    refine V_aload_n ok dX2_back_31 rfl 0 rfl ?_
    refine V_get (v := .int (nI 1)) ok 0 3 tw_X2 twf_X2_23 rfl rfl (by decide) dX2_back_32 sg_at0 rfl ?_
    refine V_iconst (v := nI 4) ok dX2_back_35 rfl ?_
    refine V_iaddN (a := 1) (b := 4) (c := 5) ok dX2_back_36 (by first | rfl | omega) ?_
    refine V_iconst (v := nI 1) ok dX2_back_37 rfl ?_
    refine V_isubN (a := 5) (b := 1) (c := 4) ok dX2_back_38 (by omega) (by omega) ?_
    refine V_iconst (v := nI 4) ok dX2_back_39 rfl ?_
    refine V_irem ok dX2_back_40 (by decide) ?_
    refine V_top_int (b := nI 0) (rfl) ?_
    refine V_put (w2 := surgeW g a (K 1) spare K 0 (s + 1) rf pg) ok 0 3 tw_X2 tyX2 tyX2_ok nmX2 twf_X2_23 rfl rfl (by decide) rfl rfl dX2_back_41 sg_at0 rfl rfl (Nat.lt_of_lt_of_eq (m := 7) (by decide) rfl) sg_set_nw ?_
    refine V_aload_n ok dX2_back_44 rfl 0 rfl ?_
    refine V_dup ok dX2_back_45 rfl ?_
    refine V_get (v := .int (nI (s + 1))) ok 0 4 tw_X2 twf_X2_27 rfl rfl (by decide) dX2_back_46 sg_at0 rfl ?_
    refine V_iconst (v := nI 1) ok dX2_back_49 rfl ?_
    refine V_isubN (a := s + 1) (b := 1) (c := s) ok dX2_back_50 (by omega) (by omega) ?_
    refine V_put (w2 := surgeW g a (K 1) spare K 0 s rf pg) ok 0 4 tw_X2 tyX2 tyX2_ok nmX2 twf_X2_27 rfl rfl (by decide) rfl rfl dX2_back_51 sg_at0 rfl rfl (Nat.lt_of_lt_of_eq (m := 7) (by decide) rfl) sg_set_sts ?_
    refine V_aload_n ok dX2_back_54 rfl 0 rfl ?_
    refine V_get (v := .int (nI s)) ok 0 4 tw_X2 twf_X2_27 rfl rfl (by decide) dX2_back_55 sg_at0 rfl ?_
    exact V_iret ok dX2_back_58 (Nat.zero_le _) (Nat.zero_le _) ⟨rfl, rfl⟩
  · refine V_aload_n ok dX2_back_0 rfl 0 rfl ?_
    refine V_get (v := .int (nI (s + 1))) ok 0 4 tw_X2 twf_X2_27 rfl rfl (by decide) dX2_back_1 sg_at0 rfl ?_
    refine V_ifN_ne (tgt := 14) ok dX2_back_4 (by decide) (by omega) (fun h4 => ?_) (fun h4 => absurd h4 (by omega))
    refine V_aload_n ok dX2_back_14 rfl 0 rfl ?_
    refine V_get (v := .ref (a 1)) ok 0 0 tw_X2 twf_X2_10 rfl rfl (by decide) dX2_back_15 sg_at0 rfl ?_
    refine V_aload_n ok dX2_back_18 rfl 0 rfl ?_
    refine V_get (v := .ref (a 13)) ok 0 2 tw_X2 twf_X2_19 rfl rfl (by decide) dX2_back_19 sg_at0 rfl ?_
    refine V_aload_n ok dX2_back_22 rfl 0 rfl ?_
    refine V_get (v := .int (nI 2)) ok 0 3 tw_X2 twf_X2_23 rfl rfl (by decide) dX2_back_23 sg_at0 rfl ?_
    refine V_aald (f := (fun j => some (a (14 + 6 * j)))) (N := 4) (z := a 26) ok 13 2 dX2_back_26 sg_at13 rfl (by decide) (by decide) rfl ?_
    refine V_cV (v2 := none) (wn := surgeW g a (K 2) spare K 2 (s + 1) rf pg) (rest := []) ok 1 0 (c_X0_copyFrom g (fun i => a (1 + i)) (fun i => a (26 + i)) now (K 2)) 1 twm_X2_154 twi_yX0_copyFrom twv_yX0_copyFrom twin_X0 twc_yX0_copyFrom yok_X0_copyFrom (by decide) ⟨rfl, rfl⟩ dX2_back_27 rfl sg_at1 rfl rfl (Nat.le_of_ble_eq_true rfl) ⟨Nat.zero_le _, Nat.zero_le _⟩ (slN 1 ++ slN 26) rfl (sub_app sg_sub_1 sg_sub_26) (Nat.le_of_ble_eq_true rfl) (rep_app rfl rfl sg_rep_1 sg_rep_26_id) ?_
    refine V_aload_n ok dX2_back_30 rfl 0 rfl ?_
    refine V_aload_n ok dX2_back_31 rfl 0 rfl ?_
    refine V_get (v := .int (nI 2)) ok 0 3 tw_X2 twf_X2_23 rfl rfl (by decide) dX2_back_32 sg_at0 rfl ?_
    refine V_iconst (v := nI 4) ok dX2_back_35 rfl ?_
    refine V_iaddN (a := 2) (b := 4) (c := 6) ok dX2_back_36 (by first | rfl | omega) ?_
    refine V_iconst (v := nI 1) ok dX2_back_37 rfl ?_
    refine V_isubN (a := 6) (b := 1) (c := 5) ok dX2_back_38 (by omega) (by omega) ?_
    refine V_iconst (v := nI 4) ok dX2_back_39 rfl ?_
    refine V_irem ok dX2_back_40 (by decide) ?_
    refine V_top_int (b := nI 1) (rfl) ?_
    refine V_put (w2 := surgeW g a (K 2) spare K 1 (s + 1) rf pg) ok 0 3 tw_X2 tyX2 tyX2_ok nmX2 twf_X2_23 rfl rfl (by decide) rfl rfl dX2_back_41 sg_at0 rfl rfl (Nat.lt_of_lt_of_eq (m := 7) (by decide) rfl) sg_set_nw ?_
    refine V_aload_n ok dX2_back_44 rfl 0 rfl ?_
    refine V_dup ok dX2_back_45 rfl ?_
    refine V_get (v := .int (nI (s + 1))) ok 0 4 tw_X2 twf_X2_27 rfl rfl (by decide) dX2_back_46 sg_at0 rfl ?_
    refine V_iconst (v := nI 1) ok dX2_back_49 rfl ?_
    refine V_isubN (a := s + 1) (b := 1) (c := s) ok dX2_back_50 (by omega) (by omega) ?_
    refine V_put (w2 := surgeW g a (K 2) spare K 1 s rf pg) ok 0 4 tw_X2 tyX2 tyX2_ok nmX2 twf_X2_27 rfl rfl (by decide) rfl rfl dX2_back_51 sg_at0 rfl rfl (Nat.lt_of_lt_of_eq (m := 7) (by decide) rfl) sg_set_sts ?_
    refine V_aload_n ok dX2_back_54 rfl 0 rfl ?_
    refine V_get (v := .int (nI s)) ok 0 4 tw_X2 twf_X2_27 rfl rfl (by decide) dX2_back_55 sg_at0 rfl ?_
    exact V_iret ok dX2_back_58 (Nat.zero_le _) (Nat.zero_le _) ⟨rfl, rfl⟩
  · refine V_aload_n ok dX2_back_0 rfl 0 rfl ?_
    refine V_get (v := .int (nI (s + 1))) ok 0 4 tw_X2 twf_X2_27 rfl rfl (by decide) dX2_back_1 sg_at0 rfl ?_
    refine V_ifN_ne (tgt := 14) ok dX2_back_4 (by decide) (by omega) (fun h4 => ?_) (fun h4 => absurd h4 (by omega))
    refine V_aload_n ok dX2_back_14 rfl 0 rfl ?_
    refine V_get (v := .ref (a 1)) ok 0 0 tw_X2 twf_X2_10 rfl rfl (by decide) dX2_back_15 sg_at0 rfl ?_
    refine V_aload_n ok dX2_back_18 rfl 0 rfl ?_
    refine V_get (v := .ref (a 13)) ok 0 2 tw_X2 twf_X2_19 rfl rfl (by decide) dX2_back_19 sg_at0 rfl ?_
    refine V_aload_n ok dX2_back_22 rfl 0 rfl ?_
    refine V_get (v := .int (nI 3)) ok 0 3 tw_X2 twf_X2_23 rfl rfl (by decide) dX2_back_23 sg_at0 rfl ?_
    refine V_aald (f := (fun j => some (a (14 + 6 * j)))) (N := 4) (z := a 32) ok 13 3 dX2_back_26 sg_at13 rfl (by decide) (by decide) rfl ?_
    refine V_cV (v2 := none) (wn := surgeW g a (K 3) spare K 3 (s + 1) rf pg) (rest := []) ok 1 0 (c_X0_copyFrom g (fun i => a (1 + i)) (fun i => a (32 + i)) now (K 3)) 1 twm_X2_154 twi_yX0_copyFrom twv_yX0_copyFrom twin_X0 twc_yX0_copyFrom yok_X0_copyFrom (by decide) ⟨rfl, rfl⟩ dX2_back_27 rfl sg_at1 rfl rfl (Nat.le_of_ble_eq_true rfl) ⟨Nat.zero_le _, Nat.zero_le _⟩ (slN 1 ++ slN 32) rfl (sub_app sg_sub_1 sg_sub_32) (Nat.le_of_ble_eq_true rfl) (rep_app rfl rfl sg_rep_1 sg_rep_32_id) ?_
    refine V_aload_n ok dX2_back_30 rfl 0 rfl ?_
    refine V_aload_n ok dX2_back_31 rfl 0 rfl ?_
    refine V_get (v := .int (nI 3)) ok 0 3 tw_X2 twf_X2_23 rfl rfl (by decide) dX2_back_32 sg_at0 rfl ?_
    refine V_iconst (v := nI 4) ok dX2_back_35 rfl ?_
    refine V_iaddN (a := 3) (b := 4) (c := 7) ok dX2_back_36 (by first | rfl | omega) ?_
    refine V_iconst (v := nI 1) ok dX2_back_37 rfl ?_
    refine V_isubN (a := 7) (b := 1) (c := 6) ok dX2_back_38 (by omega) (by omega) ?_
    refine V_iconst (v := nI 4) ok dX2_back_39 rfl ?_
    refine V_irem ok dX2_back_40 (by decide) ?_
    refine V_top_int (b := nI 2) (rfl) ?_
    refine V_put (w2 := surgeW g a (K 3) spare K 2 (s + 1) rf pg) ok 0 3 tw_X2 tyX2 tyX2_ok nmX2 twf_X2_23 rfl rfl (by decide) rfl rfl dX2_back_41 sg_at0 rfl rfl (Nat.lt_of_lt_of_eq (m := 7) (by decide) rfl) sg_set_nw ?_
    refine V_aload_n ok dX2_back_44 rfl 0 rfl ?_
    refine V_dup ok dX2_back_45 rfl ?_
    refine V_get (v := .int (nI (s + 1))) ok 0 4 tw_X2 twf_X2_27 rfl rfl (by decide) dX2_back_46 sg_at0 rfl ?_
    refine V_iconst (v := nI 1) ok dX2_back_49 rfl ?_
    refine V_isubN (a := s + 1) (b := 1) (c := s) ok dX2_back_50 (by omega) (by omega) ?_
    refine V_put (w2 := surgeW g a (K 3) spare K 2 s rf pg) ok 0 4 tw_X2 tyX2 tyX2_ok nmX2 twf_X2_27 rfl rfl (by decide) rfl rfl dX2_back_51 sg_at0 rfl rfl (Nat.lt_of_lt_of_eq (m := 7) (by decide) rfl) sg_set_sts ?_
    refine V_aload_n ok dX2_back_54 rfl 0 rfl ?_
    refine V_get (v := .int (nI s)) ok 0 4 tw_X2 twf_X2_27 rfl rfl (by decide) dX2_back_55 sg_at0 rfl ?_
    exact V_iret ok dX2_back_58 (Nat.zero_le _) (Nat.zero_le _) ⟨rfl, rfl⟩
set_option maxHeartbeats 4000000 in
set_option maxRecDepth 100000 in
theorem c_X2_told_bad (g : Glob) (a : Nat → Nat) (now spare : LineSt) (K : Nat → LineSt) (nw sts : Nat) (rf : Nat → Int32) (pg : PageSt) (q : Int32) (ho : q < 0 ∨ nI 13 < q) : Con g yX2_told cX2_told 2 (some .int) ({ frames := 1, cells := 0, slots := 0, locals := 21 } : Room) [.ref (a 0), .int q] (surgeW g a now spare K nw sts rf pg) (Is (some (.int (-2))) (surgeW g a now spare K nw sts (rfU rf (-2)) pg)) := by
  refine con_of_V ypl_X2_told (Nat.le_of_ble_eq_true rfl) [(0, .ref (a 0)), (1, .int q)] rfl (fun Γ ok => ?_)
  refine V_iload_n ok dX2_told_0 rfl 1 rfl ?_
  refine V_if_lt (tgt := 10) ok dX2_told_1 (by decide) (fun h1 => ?_) (fun h1 => ?_)
  · refine V_aload_n ok dX2_told_10 rfl 0 rfl ?_
    refine V_bipush (v := (-2)) ok dX2_told_11 rfl ?_
    refine V_cW (v2 := some (.int (-2))) (w2 := surgeW g a now spare K nw sts (rfU rf (-2)) pg) (rest := []) ok 0 2 (c_X2_refuse_m2 g a now spare K nw sts rf pg) 1 twm_X2_45 twi_yX2_refuse twv_yX2_refuse twin_X2 twc_yX2_refuse yok_X2_refuse (by decide) ⟨rfl, rfl⟩ dX2_told_13 rfl sg_at0 rfl rfl (Nat.le_of_ble_eq_true rfl) ⟨Nat.zero_le _, Nat.zero_le _⟩ ?_
    exact V_iret ok dX2_told_16 (Nat.zero_le _) (Nat.zero_le _) ⟨rfl, rfl⟩
  · refine V_iload_n ok dX2_told_4 rfl 1 rfl ?_
    refine V_bipush (v := nI 13) ok dX2_told_5 rfl ?_
    refine V_icmp_le (tgt := 17) ok dX2_told_7 (by decide) (fun h7 => absurd h7 (Int32.not_le.mpr (ho.resolve_left h1))) (fun h7 => ?_)
    refine V_aload_n ok dX2_told_10 rfl 0 rfl ?_
    refine V_bipush (v := (-2)) ok dX2_told_11 rfl ?_
    refine V_cW (v2 := some (.int (-2))) (w2 := surgeW g a now spare K nw sts (rfU rf (-2)) pg) (rest := []) ok 0 2 (c_X2_refuse_m2 g a now spare K nw sts rf pg) 1 twm_X2_45 twi_yX2_refuse twv_yX2_refuse twin_X2 twc_yX2_refuse yok_X2_refuse (by decide) ⟨rfl, rfl⟩ dX2_told_13 rfl sg_at0 rfl rfl (Nat.le_of_ble_eq_true rfl) ⟨Nat.zero_le _, Nat.zero_le _⟩ ?_
    exact V_iret ok dX2_told_16 (Nat.zero_le _) (Nat.zero_le _) ⟨rfl, rfl⟩
set_option maxHeartbeats 4000000 in
set_option maxRecDepth 100000 in
theorem c_X2_told_ok (g : Glob) (a : Nat → Nat) (now spare : LineSt) (K : Nat → LineSt) (nw sts : Nat) (rf : Nat → Int32) (pg : PageSt) (w : Nat) (hw : w ≤ 13) : Con g yX2_told cX2_told 2 (some .int) ({ frames := 1, cells := 0, slots := 0, locals := 21 } : Room) [.ref (a 0), .int (nI w)] (surgeW g a now spare K nw sts rf pg) (Is (some (.int (toldV now.1 rf pg.2.1 sts w))) (surgeW g a now spare K nw sts rf pg)) := by
  refine con_of_V ypl_X2_told (Nat.le_of_ble_eq_true rfl) [(0, .ref (a 0)), (1, .int (nI w))] rfl (fun Γ ok => ?_)
  refine V_iload_n ok dX2_told_0 rfl 1 rfl ?_
  refine V_ifN_lt (tgt := 10) ok dX2_told_1 (by decide) (by omega) ?_
  refine V_iload_n ok dX2_told_4 rfl 1 rfl ?_
  refine V_bipush (v := nI 13) ok dX2_told_5 rfl ?_
  refine V_icmpN_le (tgt := 17) ok dX2_told_7 (by decide) (by omega) (by omega) (fun h7 => ?_) (fun h7 => absurd (by omega) h7)
  refine V_iload_n ok dX2_told_17 rfl 1 rfl ?_
  refine V_iconst (v := nI 3) ok dX2_told_18 rfl ?_
  refine V_icmpN_ge (tgt := 29) ok dX2_told_19 (by decide) (by omega) (by omega) (fun h19 => ?_) (fun h19 => ?_)
  · refine V_iload_n ok dX2_told_29 rfl 1 rfl ?_
    refine V_iconst (v := nI 3) ok dX2_told_30 rfl ?_
    refine V_icmpN_ne (tgt := 42) ok dX2_told_31 (by decide) (by omega) (by omega) (fun h31 => ?_) (fun h31 => ?_)
    · refine V_iload_n ok dX2_told_42 rfl 1 rfl ?_
      refine V_bipush (v := nI 13) ok dX2_told_43 rfl ?_
      refine V_icmpN_ne (tgt := 55) ok dX2_told_45 (by decide) (by omega) (by omega) (fun h45 => ?_) (fun h45 => ?_)
      · refine V_aload_n ok dX2_told_55 rfl 0 rfl ?_
        refine V_get (v := .ref (a 1)) ok 0 0 tw_X2 twf_X2_10 rfl rfl (by decide) dX2_told_56 sg_at0 rfl ?_
        refine V_get (v := .ref (a 2)) ok 1 0 tw_X0 twf_X2_57 rfl rfl (by decide) dX2_told_59 sg_at1 rfl ?_
        refine V_iload_n ok dX2_told_62 rfl 1 rfl ?_
        refine V_iconst (v := nI 4) ok dX2_told_63 rfl ?_
        refine V_isubN (a := w) (b := 4) (c := w - 4) ok dX2_told_64 (by omega) (by omega) ?_
        refine V_iald (f := now.1) (N := 9) ok 2 (w - 4) dX2_told_65 sg_at2 rfl (by omega) (by decide) ?_
        exact V_iret ok dX2_told_66 (Nat.zero_le _) (Nat.zero_le _) ⟨by unfold toldV; rw [if_neg (by omega), if_neg (by omega), if_neg (by omega)], rfl⟩
      · refine V_aload_n ok dX2_told_48 rfl 0 rfl ?_
        refine V_get (v := .int (nI sts)) ok 0 4 tw_X2 twf_X2_27 rfl rfl (by decide) dX2_told_49 sg_at0 rfl ?_
        refine V_goto (tgt := 66) ok dX2_told_52 (by decide) ?_
        exact V_iret ok dX2_told_66 (Nat.zero_le _) (Nat.zero_le _) ⟨by unfold toldV; rw [if_neg (by omega), if_neg (by omega), if_pos (by omega)], rfl⟩
    · refine V_aload_n ok dX2_told_34 rfl 0 rfl ?_
      refine V_get (v := .ref (a 39)) ok 0 6 tw_X2 twf_X2_37 rfl rfl (by decide) dX2_told_35 sg_at0 rfl ?_
      refine V_get (v := .int (nI pg.2.1)) ok 39 1 tw_X1 twf_X2_147 rfl rfl (by decide) dX2_told_38 sg_at39 rfl ?_
      exact V_iret ok dX2_told_41 (Nat.zero_le _) (Nat.zero_le _) ⟨by unfold toldV; rw [if_neg (by omega), if_pos (by omega)], rfl⟩
  · refine V_aload_n ok dX2_told_22 rfl 0 rfl ?_
    refine V_get (v := .ref (a 38)) ok 0 5 tw_X2 twf_X2_30 rfl rfl (by decide) dX2_told_23 sg_at0 rfl ?_
    refine V_iload_n ok dX2_told_26 rfl 1 rfl ?_
    refine V_iald (f := rf) (N := 3) ok 38 w dX2_told_27 sg_at38 rfl (by omega) (by decide) ?_
    exact V_iret ok dX2_told_28 (Nat.zero_le _) (Nat.zero_le _) ⟨by unfold toldV; rw [if_pos (by omega)], rfl⟩
end
