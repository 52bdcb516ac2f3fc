section
-- ===== PART A: goes FIRST, ahead of the names: the tables' words, and 'selects' of the private methods out of them =====
/-- a private method of a class that the tables say can be made, by its rows of tables_1 -/
def lw_okq (q : MethodName × Nat) : Prop := (q.1.cls ≠ "java/lang/invoke/MethodHandle" ∧ q.1.cls ≠ "java/lang/invoke/VarHandle") ∧ Cond.instantiable q.1.cls q.2 ∈ tables_1 ∧ Cond.privateMethod q.1 ∈ tables_1 ∧ Cond.instanceMethod q.1 ∈ tables_1
theorem lw_p0 : lw_okq (⟨"GaugeBounds", "settled", "(I)I"⟩, 6) := ⟨⟨by decide +kernel, by decide +kernel⟩, List.mem_of_getElem? (i := 11) (by decide +kernel), List.mem_of_getElem? (i := 207) (by decide +kernel), List.mem_of_getElem? (i := 208) (by decide +kernel)⟩
theorem lw_p1 : lw_okq (⟨"GaugeBounds", "counted", "(I)I"⟩, 6) := ⟨⟨by decide +kernel, by decide +kernel⟩, List.mem_of_getElem? (i := 11) (by decide +kernel), List.mem_of_getElem? (i := 224) (by decide +kernel), List.mem_of_getElem? (i := 225) (by decide +kernel)⟩
theorem lw_p2 : lw_okq (⟨"GaugeBounds$Battery", "showPassing", "(II)V"⟩, 15) := ⟨⟨by decide +kernel, by decide +kernel⟩, List.mem_of_getElem? (i := 19) (by decide +kernel), List.mem_of_getElem? (i := 280) (by decide +kernel), List.mem_of_getElem? (i := 281) (by decide +kernel)⟩
theorem lw_p3 : lw_okq (⟨"GaugeBounds$Battery", "middle", "()I"⟩, 15) := ⟨⟨by decide +kernel, by decide +kernel⟩, List.mem_of_getElem? (i := 19) (by decide +kernel), List.mem_of_getElem? (i := 284) (by decide +kernel), List.mem_of_getElem? (i := 285) (by decide +kernel)⟩
theorem lw_p4 : lw_okq (⟨"GaugeBounds$Battery", "showEmpty", "()V"⟩, 15) := ⟨⟨by decide +kernel, by decide +kernel⟩, List.mem_of_getElem? (i := 19) (by decide +kernel), List.mem_of_getElem? (i := 288) (by decide +kernel), List.mem_of_getElem? (i := 289) (by decide +kernel)⟩
theorem lw_p5 : lw_okq (⟨"GaugeBounds$Curve", "placesBelow", "(I)I"⟩, 1) := ⟨⟨by decide +kernel, by decide +kernel⟩, List.mem_of_getElem? (i := 25) (by decide +kernel), List.mem_of_getElem? (i := 311) (by decide +kernel), List.mem_of_getElem? (i := 312) (by decide +kernel)⟩
theorem lw_p6 : lw_okq (⟨"GaugeBounds$Battery", "learnCapacity", "(II)V"⟩, 15) := ⟨⟨by decide +kernel, by decide +kernel⟩, List.mem_of_getElem? (i := 19) (by decide +kernel), List.mem_of_getElem? (i := 324) (by decide +kernel), List.mem_of_getElem? (i := 325) (by decide +kernel)⟩
theorem lw_p7 : lw_okq (⟨"GaugeBounds$Battery", "narrowCharge", "(II)V"⟩, 15) := ⟨⟨by decide +kernel, by decide +kernel⟩, List.mem_of_getElem? (i := 19) (by decide +kernel), List.mem_of_getElem? (i := 335) (by decide +kernel), List.mem_of_getElem? (i := 336) (by decide +kernel)⟩
theorem lw_p8 : lw_okq (⟨"GaugeBounds$Text", "skipBlanks", "()V"⟩, 8) := ⟨⟨by decide +kernel, by decide +kernel⟩, List.mem_of_getElem? (i := 116) (by decide +kernel), List.mem_of_getElem? (i := 472) (by decide +kernel), List.mem_of_getElem? (i := 473) (by decide +kernel)⟩
theorem lw_p9 : lw_okq (⟨"GaugeBounds$Text", "here", "()I"⟩, 8) := ⟨⟨by decide +kernel, by decide +kernel⟩, List.mem_of_getElem? (i := 116) (by decide +kernel), List.mem_of_getElem? (i := 476) (by decide +kernel), List.mem_of_getElem? (i := 477) (by decide +kernel)⟩
theorem lw_p10 : lw_okq (⟨"GaugeBounds$Text", "readOrder", "()Z"⟩, 8) := ⟨⟨by decide +kernel, by decide +kernel⟩, List.mem_of_getElem? (i := 116) (by decide +kernel), List.mem_of_getElem? (i := 480) (by decide +kernel), List.mem_of_getElem? (i := 481) (by decide +kernel)⟩
theorem lw_p11 : lw_okq (⟨"GaugeBounds$Text", "readNumber", "(Z)Z"⟩, 8) := ⟨⟨by decide +kernel, by decide +kernel⟩, List.mem_of_getElem? (i := 116) (by decide +kernel), List.mem_of_getElem? (i := 490) (by decide +kernel), List.mem_of_getElem? (i := 491) (by decide +kernel)⟩
theorem lw_p12 : lw_okq (⟨"GaugeBounds", "obey", "(I)I"⟩, 6) := ⟨⟨by decide +kernel, by decide +kernel⟩, List.mem_of_getElem? (i := 11) (by decide +kernel), List.mem_of_getElem? (i := 505) (by decide +kernel), List.mem_of_getElem? (i := 506) (by decide +kernel)⟩
theorem lw_p13 : lw_okq (⟨"GaugeBoundsModel", "refuses", "(I)I"⟩, 15) := ⟨⟨by decide +kernel, by decide +kernel⟩, List.mem_of_getElem? (i := 558) (by decide +kernel), List.mem_of_getElem? (i := 621) (by decide +kernel), List.mem_of_getElem? (i := 622) (by decide +kernel)⟩
theorem lw_p14 : lw_okq (⟨"GaugeBoundsModel", "laysAside", "()V"⟩, 15) := ⟨⟨by decide +kernel, by decide +kernel⟩, List.mem_of_getElem? (i := 558) (by decide +kernel), List.mem_of_getElem? (i := 630) (by decide +kernel), List.mem_of_getElem? (i := 631) (by decide +kernel)⟩
theorem lw_p15 : lw_okq (⟨"GaugeBoundsModel", "putCapacity", "(II)I"⟩, 15) := ⟨⟨by decide +kernel, by decide +kernel⟩, List.mem_of_getElem? (i := 558) (by decide +kernel), List.mem_of_getElem? (i := 634) (by decide +kernel), List.mem_of_getElem? (i := 635) (by decide +kernel)⟩
def lw_privs_1 : List (MethodName × Nat) := [(⟨"GaugeBounds", "settled", "(I)I"⟩, 6), (⟨"GaugeBounds", "counted", "(I)I"⟩, 6), (⟨"GaugeBounds$Battery", "showPassing", "(II)V"⟩, 15), (⟨"GaugeBounds$Battery", "middle", "()I"⟩, 15), (⟨"GaugeBounds$Battery", "showEmpty", "()V"⟩, 15), (⟨"GaugeBounds$Curve", "placesBelow", "(I)I"⟩, 1), (⟨"GaugeBounds$Battery", "learnCapacity", "(II)V"⟩, 15), (⟨"GaugeBounds$Battery", "narrowCharge", "(II)V"⟩, 15), (⟨"GaugeBounds$Text", "skipBlanks", "()V"⟩, 8), (⟨"GaugeBounds$Text", "here", "()I"⟩, 8), (⟨"GaugeBounds$Text", "readOrder", "()Z"⟩, 8), (⟨"GaugeBounds$Text", "readNumber", "(Z)Z"⟩, 8), (⟨"GaugeBounds", "obey", "(I)I"⟩, 6), (⟨"GaugeBoundsModel", "refuses", "(I)I"⟩, 15), (⟨"GaugeBoundsModel", "laysAside", "()V"⟩, 15), (⟨"GaugeBoundsModel", "putCapacity", "(II)I"⟩, 15)]
theorem lw_r1 : ∀ q ∈ lw_privs_1, lw_okq q := List.forall_mem_cons.mpr ⟨lw_p0, List.forall_mem_cons.mpr ⟨lw_p1, List.forall_mem_cons.mpr ⟨lw_p2, List.forall_mem_cons.mpr ⟨lw_p3, List.forall_mem_cons.mpr ⟨lw_p4, List.forall_mem_cons.mpr ⟨lw_p5, List.forall_mem_cons.mpr ⟨lw_p6, List.forall_mem_cons.mpr ⟨lw_p7, List.forall_mem_cons.mpr ⟨lw_p8, List.forall_mem_cons.mpr ⟨lw_p9, List.forall_mem_cons.mpr ⟨lw_p10, List.forall_mem_cons.mpr ⟨lw_p11, List.forall_mem_cons.mpr ⟨lw_p12, List.forall_mem_cons.mpr ⟨lw_p13, List.forall_mem_cons.mpr ⟨lw_p14, List.forall_mem_cons.mpr ⟨lw_p15, fun _ h => absurd h List.not_mem_nil⟩⟩⟩⟩⟩⟩⟩⟩⟩⟩⟩⟩⟩⟩⟩⟩
theorem lw_p16 : lw_okq (⟨"GaugeBoundsModel", "finished", "(I)I"⟩, 15) := ⟨⟨by decide +kernel, by decide +kernel⟩, List.mem_of_getElem? (i := 558) (by decide +kernel), List.mem_of_getElem? (i := 642) (by decide +kernel), List.mem_of_getElem? (i := 643) (by decide +kernel)⟩
theorem lw_p17 : lw_okq (⟨"GaugeBoundsModel", "remembers", "()V"⟩, 15) := ⟨⟨by decide +kernel, by decide +kernel⟩, List.mem_of_getElem? (i := 558) (by decide +kernel), List.mem_of_getElem? (i := 646) (by decide +kernel), List.mem_of_getElem? (i := 647) (by decide +kernel)⟩
theorem lw_p18 : lw_okq (⟨"GaugeBoundsModel", "putCharge", "(II)I"⟩, 15) := ⟨⟨by decide +kernel, by decide +kernel⟩, List.mem_of_getElem? (i := 558) (by decide +kernel), List.mem_of_getElem? (i := 654) (by decide +kernel), List.mem_of_getElem? (i := 655) (by decide +kernel)⟩
theorem lw_p19 : lw_okq (⟨"GaugeBoundsModel", "putSetting", "(III)I"⟩, 15) := ⟨⟨by decide +kernel, by decide +kernel⟩, List.mem_of_getElem? (i := 558) (by decide +kernel), List.mem_of_getElem? (i := 662) (by decide +kernel), List.mem_of_getElem? (i := 663) (by decide +kernel)⟩
theorem lw_p20 : lw_okq (⟨"GaugeBoundsModel", "putPoint", "(II)I"⟩, 15) := ⟨⟨by decide +kernel, by decide +kernel⟩, List.mem_of_getElem? (i := 558) (by decide +kernel), List.mem_of_getElem? (i := 674) (by decide +kernel), List.mem_of_getElem? (i := 675) (by decide +kernel)⟩
theorem lw_p21 : lw_okq (⟨"GaugeBoundsModel", "putPassing", "(II)I"⟩, 15) := ⟨⟨by decide +kernel, by decide +kernel⟩, List.mem_of_getElem? (i := 558) (by decide +kernel), List.mem_of_getElem? (i := 683) (by decide +kernel), List.mem_of_getElem? (i := 684) (by decide +kernel)⟩
theorem lw_p22 : lw_okq (⟨"GaugeBoundsModel", "shows", "(II)V"⟩, 15) := ⟨⟨by decide +kernel, by decide +kernel⟩, List.mem_of_getElem? (i := 558) (by decide +kernel), List.mem_of_getElem? (i := 690) (by decide +kernel), List.mem_of_getElem? (i := 691) (by decide +kernel)⟩
theorem lw_p23 : lw_okq (⟨"GaugeBoundsModel", "middle", "()I"⟩, 15) := ⟨⟨by decide +kernel, by decide +kernel⟩, List.mem_of_getElem? (i := 558) (by decide +kernel), List.mem_of_getElem? (i := 694) (by decide +kernel), List.mem_of_getElem? (i := 695) (by decide +kernel)⟩
theorem lw_p24 : lw_okq (⟨"GaugeBoundsModel", "putRest", "(I)I"⟩, 15) := ⟨⟨by decide +kernel, by decide +kernel⟩, List.mem_of_getElem? (i := 558) (by decide +kernel), List.mem_of_getElem? (i := 702) (by decide +kernel), List.mem_of_getElem? (i := 703) (by decide +kernel)⟩
theorem lw_p25 : lw_okq (⟨"GaugeBoundsModel", "turns", "(I)V"⟩, 15) := ⟨⟨by decide +kernel, by decide +kernel⟩, List.mem_of_getElem? (i := 558) (by decide +kernel), List.mem_of_getElem? (i := 706) (by decide +kernel), List.mem_of_getElem? (i := 707) (by decide +kernel)⟩
theorem lw_p26 : lw_okq (⟨"GaugeBoundsModel", "voltsAt", "(I)I"⟩, 15) := ⟨⟨by decide +kernel, by decide +kernel⟩, List.mem_of_getElem? (i := 558) (by decide +kernel), List.mem_of_getElem? (i := 711) (by decide +kernel), List.mem_of_getElem? (i := 712) (by decide +kernel)⟩
theorem lw_p27 : lw_okq (⟨"GaugeBoundsModel", "learnsCapacity", "(JJ)V"⟩, 15) := ⟨⟨by decide +kernel, by decide +kernel⟩, List.mem_of_getElem? (i := 558) (by decide +kernel), List.mem_of_getElem? (i := 715) (by decide +kernel), List.mem_of_getElem? (i := 716) (by decide +kernel)⟩
theorem lw_p28 : lw_okq (⟨"GaugeBoundsModel", "putLoad", "(II)I"⟩, 15) := ⟨⟨by decide +kernel, by decide +kernel⟩, List.mem_of_getElem? (i := 558) (by decide +kernel), List.mem_of_getElem? (i := 723) (by decide +kernel), List.mem_of_getElem? (i := 724) (by decide +kernel)⟩
theorem lw_p29 : lw_okq (⟨"GaugeBoundsModel", "bandNow", "(I)I"⟩, 15) := ⟨⟨by decide +kernel, by decide +kernel⟩, List.mem_of_getElem? (i := 558) (by decide +kernel), List.mem_of_getElem? (i := 727) (by decide +kernel), List.mem_of_getElem? (i := 728) (by decide +kernel)⟩
theorem lw_p30 : lw_okq (⟨"GaugeBoundsModel", "toldOf", "(I)I"⟩, 15) := ⟨⟨by decide +kernel, by decide +kernel⟩, List.mem_of_getElem? (i := 558) (by decide +kernel), List.mem_of_getElem? (i := 736) (by decide +kernel), List.mem_of_getElem? (i := 737) (by decide +kernel)⟩
theorem lw_p31 : lw_okq (⟨"GaugeBoundsModel", "bandOf", "(II)I"⟩, 15) := ⟨⟨by decide +kernel, by decide +kernel⟩, List.mem_of_getElem? (i := 558) (by decide +kernel), List.mem_of_getElem? (i := 752) (by decide +kernel), List.mem_of_getElem? (i := 753) (by decide +kernel)⟩
def lw_privs_2 : List (MethodName × Nat) := [(⟨"GaugeBoundsModel", "finished", "(I)I"⟩, 15), (⟨"GaugeBoundsModel", "remembers", "()V"⟩, 15), (⟨"GaugeBoundsModel", "putCharge", "(II)I"⟩, 15), (⟨"GaugeBoundsModel", "putSetting", "(III)I"⟩, 15), (⟨"GaugeBoundsModel", "putPoint", "(II)I"⟩, 15), (⟨"GaugeBoundsModel", "putPassing", "(II)I"⟩, 15), (⟨"GaugeBoundsModel", "shows", "(II)V"⟩, 15), (⟨"GaugeBoundsModel", "middle", "()I"⟩, 15), (⟨"GaugeBoundsModel", "putRest", "(I)I"⟩, 15), (⟨"GaugeBoundsModel", "turns", "(I)V"⟩, 15), (⟨"GaugeBoundsModel", "voltsAt", "(I)I"⟩, 15), (⟨"GaugeBoundsModel", "learnsCapacity", "(JJ)V"⟩, 15), (⟨"GaugeBoundsModel", "putLoad", "(II)I"⟩, 15), (⟨"GaugeBoundsModel", "bandNow", "(I)I"⟩, 15), (⟨"GaugeBoundsModel", "toldOf", "(I)I"⟩, 15), (⟨"GaugeBoundsModel", "bandOf", "(II)I"⟩, 15)]
theorem lw_r2 : ∀ q ∈ lw_privs_2, lw_okq q := List.forall_mem_cons.mpr ⟨lw_p16, List.forall_mem_cons.mpr ⟨lw_p17, List.forall_mem_cons.mpr ⟨lw_p18, List.forall_mem_cons.mpr ⟨lw_p19, List.forall_mem_cons.mpr ⟨lw_p20, List.forall_mem_cons.mpr ⟨lw_p21, List.forall_mem_cons.mpr ⟨lw_p22, List.forall_mem_cons.mpr ⟨lw_p23, List.forall_mem_cons.mpr ⟨lw_p24, List.forall_mem_cons.mpr ⟨lw_p25, List.forall_mem_cons.mpr ⟨lw_p26, List.forall_mem_cons.mpr ⟨lw_p27, List.forall_mem_cons.mpr ⟨lw_p28, List.forall_mem_cons.mpr ⟨lw_p29, List.forall_mem_cons.mpr ⟨lw_p30, List.forall_mem_cons.mpr ⟨lw_p31, fun _ h => absurd h List.not_mem_nil⟩⟩⟩⟩⟩⟩⟩⟩⟩⟩⟩⟩⟩⟩⟩⟩
theorem lw_p32 : lw_okq (⟨"GaugeBoundsModel", "lastsBy", "(II)I"⟩, 15) := ⟨⟨by decide +kernel, by decide +kernel⟩, List.mem_of_getElem? (i := 558) (by decide +kernel), List.mem_of_getElem? (i := 764) (by decide +kernel), List.mem_of_getElem? (i := 765) (by decide +kernel)⟩
theorem lw_p33 : lw_okq (⟨"GaugeBoundsModel", "isRead", "()Z"⟩, 15) := ⟨⟨by decide +kernel, by decide +kernel⟩, List.mem_of_getElem? (i := 558) (by decide +kernel), List.mem_of_getElem? (i := 791) (by decide +kernel), List.mem_of_getElem? (i := 792) (by decide +kernel)⟩
theorem lw_p34 : lw_okq (⟨"GaugeBoundsModel", "blanks", "()V"⟩, 15) := ⟨⟨by decide +kernel, by decide +kernel⟩, List.mem_of_getElem? (i := 558) (by decide +kernel), List.mem_of_getElem? (i := 795) (by decide +kernel), List.mem_of_getElem? (i := 796) (by decide +kernel)⟩
theorem lw_p35 : lw_okq (⟨"GaugeBoundsModel", "isAt", "(II)Z"⟩, 15) := ⟨⟨by decide +kernel, by decide +kernel⟩, List.mem_of_getElem? (i := 558) (by decide +kernel), List.mem_of_getElem? (i := 799) (by decide +kernel), List.mem_of_getElem? (i := 800) (by decide +kernel)⟩
theorem lw_p36 : lw_okq (⟨"GaugeBoundsModel", "takesOrder", "()Z"⟩, 15) := ⟨⟨by decide +kernel, by decide +kernel⟩, List.mem_of_getElem? (i := 558) (by decide +kernel), List.mem_of_getElem? (i := 803) (by decide +kernel), List.mem_of_getElem? (i := 804) (by decide +kernel)⟩
theorem lw_p37 : lw_okq (⟨"GaugeBoundsModel", "fails", "()Z"⟩, 15) := ⟨⟨by decide +kernel, by decide +kernel⟩, List.mem_of_getElem? (i := 558) (by decide +kernel), List.mem_of_getElem? (i := 810) (by decide +kernel), List.mem_of_getElem? (i := 811) (by decide +kernel)⟩
theorem lw_p38 : lw_okq (⟨"GaugeBoundsModel", "takesNumber", "(IZ)Z"⟩, 15) := ⟨⟨by decide +kernel, by decide +kernel⟩, List.mem_of_getElem? (i := 558) (by decide +kernel), List.mem_of_getElem? (i := 814) (by decide +kernel), List.mem_of_getElem? (i := 815) (by decide +kernel)⟩
theorem lw_p39 : lw_okq (⟨"GaugeBoundsModel", "doneOne", "(I)I"⟩, 15) := ⟨⟨by decide +kernel, by decide +kernel⟩, List.mem_of_getElem? (i := 558) (by decide +kernel), List.mem_of_getElem? (i := 818) (by decide +kernel), List.mem_of_getElem? (i := 819) (by decide +kernel)⟩
theorem lw_p40 : lw_okq (⟨"GaugeBoundsModel", "refusedOf", "(I)I"⟩, 15) := ⟨⟨by decide +kernel, by decide +kernel⟩, List.mem_of_getElem? (i := 558) (by decide +kernel), List.mem_of_getElem? (i := 827) (by decide +kernel), List.mem_of_getElem? (i := 828) (by decide +kernel)⟩
theorem lw_p41 : lw_okq (⟨"GaugeBoundsModel", "mix", "(J)V"⟩, 15) := ⟨⟨by decide +kernel, by decide +kernel⟩, List.mem_of_getElem? (i := 558) (by decide +kernel), List.mem_of_getElem? (i := 836) (by decide +kernel), List.mem_of_getElem? (i := 837) (by decide +kernel)⟩
def lw_privs_3 : List (MethodName × Nat) := [(⟨"GaugeBoundsModel", "lastsBy", "(II)I"⟩, 15), (⟨"GaugeBoundsModel", "isRead", "()Z"⟩, 15), (⟨"GaugeBoundsModel", "blanks", "()V"⟩, 15), (⟨"GaugeBoundsModel", "isAt", "(II)Z"⟩, 15), (⟨"GaugeBoundsModel", "takesOrder", "()Z"⟩, 15), (⟨"GaugeBoundsModel", "fails", "()Z"⟩, 15), (⟨"GaugeBoundsModel", "takesNumber", "(IZ)Z"⟩, 15), (⟨"GaugeBoundsModel", "doneOne", "(I)I"⟩, 15), (⟨"GaugeBoundsModel", "refusedOf", "(I)I"⟩, 15), (⟨"GaugeBoundsModel", "mix", "(J)V"⟩, 15)]
theorem lw_r3 : ∀ q ∈ lw_privs_3, lw_okq q := List.forall_mem_cons.mpr ⟨lw_p32, List.forall_mem_cons.mpr ⟨lw_p33, List.forall_mem_cons.mpr ⟨lw_p34, List.forall_mem_cons.mpr ⟨lw_p35, List.forall_mem_cons.mpr ⟨lw_p36, List.forall_mem_cons.mpr ⟨lw_p37, List.forall_mem_cons.mpr ⟨lw_p38, List.forall_mem_cons.mpr ⟨lw_p39, List.forall_mem_cons.mpr ⟨lw_p40, List.forall_mem_cons.mpr ⟨lw_p41, fun _ h => absurd h List.not_mem_nil⟩⟩⟩⟩⟩⟩⟩⟩⟩⟩
def lw_privs : List (MethodName × Nat) := lw_privs_1 ++ (lw_privs_2 ++ (lw_privs_3))
def lw_tbl : List Cond := k2_sels lw_privs ++ tables_1
theorem lw_privs_ok : ∀ q ∈ lw_privs, lw_okq q := by
  show ∀ q ∈ lw_privs_1 ++ (lw_privs_2 ++ (lw_privs_3)), lw_okq q
  exact List.forall_mem_append.mpr ⟨lw_r1, List.forall_mem_append.mpr ⟨lw_r2, lw_r3⟩⟩
-- ===== end of PART A; then your names; then what follows =====
end
section
/-! ===== BEGIN words of one list among another's, by their places ===== -/
theorem goodIn_r {big : List Cond} (ws : List Cond) (ps : List Nat) (hp : ws = ps.filterMap (fun i => big[i]?)) (h : ws.all goodWord = true) : GoodIn big ws := by
  intro w hw
  have h1 := List.all_eq_true.mp h w hw
  rw [hp] at hw
  obtain ⟨i, -, hi⟩ := List.mem_filterMap.mp hw
  have hm : w ∈ big := by first | exact List.mem_of_getElem? hi | exact List.getElem?_mem hi
  exact ⟨hm, good_of_word h1⟩
theorem goodIn_app {big a b : List Cond} (ha : GoodIn big a) (hb : GoodIn big b) : GoodIn big (a ++ b) := fun w h => (List.mem_append.mp h).elim (ha w) (hb w)
theorem goodIn_ca {big a b : List Cond} {c : Cond} (ha : GoodIn big (c :: a)) (hb : GoodIn big b) : GoodIn big (c :: (a ++ b)) := fun w h => (List.mem_cons.mp h).elim (fun e => ha w (List.mem_cons.mpr (Or.inl e))) (fun h => (List.mem_append.mp h).elim (fun h => ha w (List.mem_cons.mpr (Or.inr h))) (hb w))
theorem goodIn_sub {big ws : List Cond} (hm : ∀ w ∈ ws, w ∈ big) (h : ws.all goodWord = true) : GoodIn big ws := fun w hw => ⟨hm w hw, good_of_word (List.all_eq_true.mp h w hw)⟩
/-! ===== END ===== -/

/-! ===== BEGIN printed: names, fields, word lists, decode rows ===== -/
def RX0 : String := "GaugeBounds$Bands"
def TX0 : u_T := fun k => match k with
  | 0 => ("GaugeBounds$Bands", "sums", "[J", true)
  | _ => ("GaugeBounds$Bands", "counts", "[I", true)
def tyX0 : Nat → FieldType := fun k => match k with
  | 0 => .array .long
  | _ => .array .int
abbrev wsX00 : List Cond := u_ws RX0 TX0 2
theorem nmX0 : ∀ a, a < 2 → ∀ b, b < 2 → a ≠ b → (TX0 a).2.1 ≠ (TX0 b).2.1 := by decide +kernel
theorem tyX0_ok : ∀ k, k < 2 → parseFieldDescriptor (TX0 k).2.2.1 = some (tyX0 k) := by decide +kernel
abbrev cX0_init : ByteArray := prog_2_method_1_code
def yX0_init : MethodName := ⟨RX0, "<init>", "()V"⟩
abbrev cX0_copyFrom : ByteArray := prog_2_method_2_code
def yX0_copyFrom : MethodName := ⟨RX0, "copyFrom", "(LGaugeBounds$Bands;)V"⟩
abbrev cX0_forget : ByteArray := prog_2_method_3_code
def yX0_forget : MethodName := ⟨RX0, "forget", "()V"⟩
abbrev cX0_add : ByteArray := prog_2_method_4_code
def yX0_add : MethodName := ⟨RX0, "add", "(III)V"⟩
abbrev cX0_resistance : ByteArray := prog_2_method_5_code
def yX0_resistance : MethodName := ⟨RX0, "resistance", "(II)I"⟩
abbrev cX0_howMany : ByteArray := prog_2_method_6_code
def yX0_howMany : MethodName := ⟨RX0, "howMany", "(II)I"⟩
abbrev cX0_used : ByteArray := prog_2_method_7_code
def yX0_used : MethodName := ⟨RX0, "used", "()I"⟩
abbrev cX0_isBand : ByteArray := prog_2_method_8_code
def yX0_isBand : MethodName := ⟨RX0, "isBand", "(II)Z"⟩
def RX1 : String := "GaugeBounds$Battery"
def TX1 : u_T := fun k => match k with
  | 0 => ("GaugeBounds$Battery", "curve", "LGaugeBounds$Curve;", true)
  | 1 => ("GaugeBounds$Battery", "bands", "LGaugeBounds$Bands;", true)
  | 2 => ("GaugeBounds$Battery", "low", "I", false)
  | 3 => ("GaugeBounds$Battery", "high", "I", false)
  | 4 => ("GaugeBounds$Battery", "leastCapacity", "I", false)
  | 5 => ("GaugeBounds$Battery", "mostCapacity", "I", false)
  | 6 => ("GaugeBounds$Battery", "offset", "I", false)
  | 7 => ("GaugeBounds$Battery", "cling", "I", false)
  | 8 => ("GaugeBounds$Battery", "drawn", "I", false)
  | 9 => ("GaugeBounds$Battery", "steps", "I", false)
  | 10 => ("GaugeBounds$Battery", "rests", "I", false)
  | 11 => ("GaugeBounds$Battery", "lastA", "I", false)
  | 12 => ("GaugeBounds$Battery", "lastB", "I", false)
  | 13 => ("GaugeBounds$Battery", "clashes", "I", false)
  | _ => ("GaugeBounds$Battery", "shown", "I", false)
def tyX1 : Nat → FieldType := fun k => match k with
  | 0 => .object "GaugeBounds$Curve"
  | 1 => .object "GaugeBounds$Bands"
  | 2 => .int
  | 3 => .int
  | 4 => .int
  | 5 => .int
  | 6 => .int
  | 7 => .int
  | 8 => .int
  | 9 => .int
  | 10 => .int
  | 11 => .int
  | 12 => .int
  | 13 => .int
  | _ => .int
abbrev wsX10 : List Cond := u_ws RX1 TX1 15
theorem nmX1 : ∀ a, a < 15 → ∀ b, b < 15 → a ≠ b → (TX1 a).2.1 ≠ (TX1 b).2.1 := by decide +kernel
theorem tyX1_ok : ∀ k, k < 15 → parseFieldDescriptor (TX1 k).2.2.1 = some (tyX1 k) := by decide +kernel
abbrev cX1_init : ByteArray := prog_3_method_1_code
def yX1_init : MethodName := ⟨RX1, "<init>", "()V"⟩
abbrev cX1_copyFrom : ByteArray := prog_3_method_2_code
def yX1_copyFrom : MethodName := ⟨RX1, "copyFrom", "(LGaugeBounds$Battery;)V"⟩
abbrev cX1_begin : ByteArray := prog_3_method_3_code
def yX1_begin : MethodName := ⟨RX1, "begin", "(II)I"⟩
abbrev cX1_hold : ByteArray := prog_3_method_4_code
def yX1_hold : MethodName := ⟨RX1, "hold", "(II)I"⟩
abbrev cX1_putOffset : ByteArray := prog_3_method_5_code
def yX1_putOffset : MethodName := ⟨RX1, "putOffset", "(I)I"⟩
abbrev cX1_putCling : ByteArray := prog_3_method_6_code
def yX1_putCling : MethodName := ⟨RX1, "putCling", "(I)I"⟩
abbrev cX1_putPoint : ByteArray := prog_3_method_7_code
def yX1_putPoint : MethodName := ⟨RX1, "putPoint", "(II)I"⟩
abbrev cX1_pass : ByteArray := prog_3_method_8_code
def yX1_pass : MethodName := ⟨RX1, "pass", "(II)I"⟩
abbrev cX1_showPassing : ByteArray := prog_3_method_9_code
def yX1_showPassing : MethodName := ⟨RX1, "showPassing", "(II)V"⟩
abbrev cX1_showEmpty : ByteArray := prog_3_method_10_code
def yX1_showEmpty : MethodName := ⟨RX1, "showEmpty", "()V"⟩
abbrev cX1_rest : ByteArray := prog_3_method_11_code
def yX1_rest : MethodName := ⟨RX1, "rest", "(I)I"⟩
abbrev cX1_learnCapacity : ByteArray := prog_3_method_12_code
def yX1_learnCapacity : MethodName := ⟨RX1, "learnCapacity", "(II)V"⟩
abbrev cX1_narrowCharge : ByteArray := prog_3_method_13_code
def yX1_narrowCharge : MethodName := ⟨RX1, "narrowCharge", "(II)V"⟩
abbrev cX1_load : ByteArray := prog_3_method_14_code
def yX1_load : MethodName := ⟨RX1, "load", "(II)I"⟩
abbrev cX1_tell : ByteArray := prog_3_method_15_code
def yX1_tell : MethodName := ⟨RX1, "tell", "(I)I"⟩
abbrev cX1_restVoltage : ByteArray := prog_3_method_16_code
def yX1_restVoltage : MethodName := ⟨RX1, "restVoltage", "(I)I"⟩
abbrev cX1_restBound : ByteArray := prog_3_method_17_code
def yX1_restBound : MethodName := ⟨RX1, "restBound", "(II)I"⟩
abbrev cX1_tellBand : ByteArray := prog_3_method_18_code
def yX1_tellBand : MethodName := ⟨RX1, "tellBand", "(III)I"⟩
abbrev cX1_usedBands : ByteArray := prog_3_method_19_code
def yX1_usedBands : MethodName := ⟨RX1, "usedBands", "()I"⟩
abbrev cX1_lasting : ByteArray := prog_3_method_20_code
def yX1_lasting : MethodName := ⟨RX1, "lasting", "(II)I"⟩
abbrev cX1_loadedVoltage : ByteArray := prog_3_method_21_code
def yX1_loadedVoltage : MethodName := ⟨RX1, "loadedVoltage", "(I)I"⟩
abbrev cX1_tellSetting : ByteArray := prog_3_method_22_code
def yX1_tellSetting : MethodName := ⟨RX1, "tellSetting", "(I)I"⟩
abbrev cX1_middle : ByteArray := prog_3_method_23_code
def yX1_middle : MethodName := ⟨RX1, "middle", "()I"⟩
abbrev cX1_signOf : ByteArray := prog_3_method_24_code
def yX1_signOf : MethodName := ⟨RX1, "signOf", "(I)I"⟩
abbrev cX1_tenthOf : ByteArray := prog_3_method_25_code
def yX1_tenthOf : MethodName := ⟨RX1, "tenthOf", "(I)I"⟩
abbrev cX1_isLoad : ByteArray := prog_3_method_26_code
def yX1_isLoad : MethodName := ⟨RX1, "isLoad", "(I)Z"⟩
abbrev cX1_isVoltage : ByteArray := prog_3_method_27_code
def yX1_isVoltage : MethodName := ⟨RX1, "isVoltage", "(I)Z"⟩
abbrev cX1_isRange : ByteArray := prog_3_method_28_code
def yX1_isRange : MethodName := ⟨RX1, "isRange", "(II)Z"⟩
def RX2 : String := "GaugeBounds$Curve"
def TX2 : u_T := fun k => match k with
  | _ => ("GaugeBounds$Curve", "points", "[I", true)
def tyX2 : Nat → FieldType := fun k => match k with
  | _ => .array .int
abbrev wsX20 : List Cond := u_ws RX2 TX2 1
theorem nmX2 : ∀ a, a < 1 → ∀ b, b < 1 → a ≠ b → (TX2 a).2.1 ≠ (TX2 b).2.1 := by decide +kernel
theorem tyX2_ok : ∀ k, k < 1 → parseFieldDescriptor (TX2 k).2.2.1 = some (tyX2 k) := by decide +kernel
abbrev cX2_init : ByteArray := prog_4_method_1_code
def yX2_init : MethodName := ⟨RX2, "<init>", "()V"⟩
abbrev cX2_copyFrom : ByteArray := prog_4_method_2_code
def yX2_copyFrom : MethodName := ⟨RX2, "copyFrom", "(LGaugeBounds$Curve;)V"⟩
abbrev cX2_point : ByteArray := prog_4_method_3_code
def yX2_point : MethodName := ⟨RX2, "point", "(I)I"⟩
abbrev cX2_putPoint : ByteArray := prog_4_method_4_code
def yX2_putPoint : MethodName := ⟨RX2, "putPoint", "(II)I"⟩
abbrev cX2_voltsAt : ByteArray := prog_4_method_5_code
def yX2_voltsAt : MethodName := ⟨RX2, "voltsAt", "(I)I"⟩
abbrev cX2_leastReaching : ByteArray := prog_4_method_6_code
def yX2_leastReaching : MethodName := ⟨RX2, "leastReaching", "(I)I"⟩
abbrev cX2_greatestWithin : ByteArray := prog_4_method_7_code
def yX2_greatestWithin : MethodName := ⟨RX2, "greatestWithin", "(I)I"⟩
abbrev cX2_placesBelow : ByteArray := prog_4_method_8_code
def yX2_placesBelow : MethodName := ⟨RX2, "placesBelow", "(I)I"⟩
def RX3 : String := "GaugeBounds$States"
def TX3 : u_T := fun k => match k with
  | 0 => ("GaugeBounds$States", "ring", "[LGaugeBounds$Battery;", true)
  | 1 => ("GaugeBounds$States", "marked", "I", false)
  | _ => ("GaugeBounds$States", "size", "I", false)
def tyX3 : Nat → FieldType := fun k => match k with
  | 0 => .array (.object "GaugeBounds$Battery")
  | 1 => .int
  | _ => .int
abbrev wsX30 : List Cond := u_ws RX3 TX3 3
theorem nmX3 : ∀ a, a < 3 → ∀ b, b < 3 → a ≠ b → (TX3 a).2.1 ≠ (TX3 b).2.1 := by decide +kernel
theorem tyX3_ok : ∀ k, k < 3 → parseFieldDescriptor (TX3 k).2.2.1 = some (tyX3 k) := by decide +kernel
abbrev cX3_init : ByteArray := prog_5_method_1_code
def yX3_init : MethodName := ⟨RX3, "<init>", "()V"⟩
abbrev cX3_size : ByteArray := prog_5_method_2_code
def yX3_size : MethodName := ⟨RX3, "size", "()I"⟩
abbrev cX3_mark : ByteArray := prog_5_method_3_code
def yX3_mark : MethodName := ⟨RX3, "mark", "(LGaugeBounds$Battery;)V"⟩
abbrev cX3_restoreMarked : ByteArray := prog_5_method_4_code
def yX3_restoreMarked : MethodName := ⟨RX3, "restoreMarked", "(LGaugeBounds$Battery;)V"⟩
abbrev cX3_keepMarked : ByteArray := prog_5_method_5_code
def yX3_keepMarked : MethodName := ⟨RX3, "keepMarked", "()V"⟩
abbrev cX3_takeBack : ByteArray := prog_5_method_6_code
def yX3_takeBack : MethodName := ⟨RX3, "takeBack", "(LGaugeBounds$Battery;)V"⟩
def RX4 : String := "GaugeBounds$Text"
def TX4 : u_T := fun k => match k with
  | 0 => ("GaugeBounds$Text", "bytes", "[B", true)
  | 1 => ("GaugeBounds$Text", "length", "I", false)
  | 2 => ("GaugeBounds$Text", "kinds", "[I", true)
  | 3 => ("GaugeBounds$Text", "firsts", "[I", true)
  | 4 => ("GaugeBounds$Text", "seconds", "[I", true)
  | 5 => ("GaugeBounds$Text", "orders", "I", false)
  | 6 => ("GaugeBounds$Text", "place", "I", false)
  | _ => ("GaugeBounds$Text", "number", "I", false)
def tyX4 : Nat → FieldType := fun k => match k with
  | 0 => .array .byte
  | 1 => .int
  | 2 => .array .int
  | 3 => .array .int
  | 4 => .array .int
  | 5 => .int
  | 6 => .int
  | _ => .int
abbrev wsX40 : List Cond := u_ws RX4 TX4 8
theorem nmX4 : ∀ a, a < 8 → ∀ b, b < 8 → a ≠ b → (TX4 a).2.1 ≠ (TX4 b).2.1 := by decide +kernel
theorem tyX4_ok : ∀ k, k < 8 → parseFieldDescriptor (TX4 k).2.2.1 = some (tyX4 k) := by decide +kernel
abbrev cX4_init : ByteArray := prog_6_method_1_code
def yX4_init : MethodName := ⟨RX4, "<init>", "()V"⟩
abbrev cX4_length : ByteArray := prog_6_method_2_code
def yX4_length : MethodName := ⟨RX4, "length", "()I"⟩
abbrev cX4_append : ByteArray := prog_6_method_3_code
def yX4_append : MethodName := ⟨RX4, "append", "(I)I"⟩
abbrev cX4_empty : ByteArray := prog_6_method_4_code
def yX4_empty : MethodName := ⟨RX4, "empty", "()I"⟩
abbrev cX4_orders : ByteArray := prog_6_method_5_code
def yX4_orders : MethodName := ⟨RX4, "orders", "()I"⟩
abbrev cX4_place : ByteArray := prog_6_method_6_code
def yX4_place : MethodName := ⟨RX4, "place", "()I"⟩
abbrev cX4_kindOf : ByteArray := prog_6_method_7_code
def yX4_kindOf : MethodName := ⟨RX4, "kindOf", "(I)I"⟩
abbrev cX4_firstOf : ByteArray := prog_6_method_8_code
def yX4_firstOf : MethodName := ⟨RX4, "firstOf", "(I)I"⟩
abbrev cX4_secondOf : ByteArray := prog_6_method_9_code
def yX4_secondOf : MethodName := ⟨RX4, "secondOf", "(I)I"⟩
abbrev cX4_read : ByteArray := prog_6_method_10_code
def yX4_read : MethodName := ⟨RX4, "read", "()Z"⟩
abbrev cX4_readOrder : ByteArray := prog_6_method_11_code
def yX4_readOrder : MethodName := ⟨RX4, "readOrder", "()Z"⟩
abbrev cX4_readNumber : ByteArray := prog_6_method_12_code
def yX4_readNumber : MethodName := ⟨RX4, "readNumber", "(Z)Z"⟩
abbrev cX4_skipBlanks : ByteArray := prog_6_method_13_code
def yX4_skipBlanks : MethodName := ⟨RX4, "skipBlanks", "()V"⟩
abbrev cX4_here : ByteArray := prog_6_method_14_code
def yX4_here : MethodName := ⟨RX4, "here", "()I"⟩
abbrev cX4_isKind : ByteArray := prog_6_method_15_code
def yX4_isKind : MethodName := ⟨RX4, "isKind", "(I)Z"⟩
abbrev cX4_hasSecond : ByteArray := prog_6_method_16_code
def yX4_hasSecond : MethodName := ⟨RX4, "hasSecond", "(I)Z"⟩
abbrev cX4_isFigure : ByteArray := prog_6_method_17_code
def yX4_isFigure : MethodName := ⟨RX4, "isFigure", "(I)Z"⟩
def RX5 : String := "GaugeBounds"
def TX5 : u_T := fun k => match k with
  | 0 => ("GaugeBounds", "battery", "LGaugeBounds$Battery;", true)
  | 1 => ("GaugeBounds", "states", "LGaugeBounds$States;", true)
  | 2 => ("GaugeBounds", "text", "LGaugeBounds$Text;", true)
  | 3 => ("GaugeBounds", "timesBad", "I", false)
  | 4 => ("GaugeBounds", "timesNo", "I", false)
  | _ => ("GaugeBounds", "timesFull", "I", false)
def tyX5 : Nat → FieldType := fun k => match k with
  | 0 => .object "GaugeBounds$Battery"
  | 1 => .object "GaugeBounds$States"
  | 2 => .object "GaugeBounds$Text"
  | 3 => .int
  | 4 => .int
  | _ => .int
abbrev wsX50 : List Cond := u_ws RX5 TX5 6
theorem nmX5 : ∀ a, a < 6 → ∀ b, b < 6 → a ≠ b → (TX5 a).2.1 ≠ (TX5 b).2.1 := by decide +kernel
theorem tyX5_ok : ∀ k, k < 6 → parseFieldDescriptor (TX5 k).2.2.1 = some (tyX5 k) := by decide +kernel
abbrev cX5_init : ByteArray := prog_1_method_1_code
def yX5_init : MethodName := ⟨RX5, "<init>", "()V"⟩
abbrev cX5_begins : ByteArray := prog_1_method_2_code
def yX5_begins : MethodName := ⟨RX5, "begins", "(II)I"⟩
abbrev cX5_holds : ByteArray := prog_1_method_3_code
def yX5_holds : MethodName := ⟨RX5, "holds", "(II)I"⟩
abbrev cX5_offset : ByteArray := prog_1_method_4_code
def yX5_offset : MethodName := ⟨RX5, "offset", "(I)I"⟩
abbrev cX5_clings : ByteArray := prog_1_method_5_code
def yX5_clings : MethodName := ⟨RX5, "clings", "(I)I"⟩
abbrev cX5_curve : ByteArray := prog_1_method_6_code
def yX5_curve : MethodName := ⟨RX5, "curve", "(II)I"⟩
abbrev cX5_passes : ByteArray := prog_1_method_7_code
def yX5_passes : MethodName := ⟨RX5, "passes", "(II)I"⟩
abbrev cX5_rests : ByteArray := prog_1_method_8_code
def yX5_rests : MethodName := ⟨RX5, "rests", "(I)I"⟩
abbrev cX5_loads : ByteArray := prog_1_method_9_code
def yX5_loads : MethodName := ⟨RX5, "loads", "(II)I"⟩
abbrev cX5_told : ByteArray := prog_1_method_10_code
def yX5_told : MethodName := ⟨RX5, "told", "(I)I"⟩
abbrev cX5_volts : ByteArray := prog_1_method_11_code
def yX5_volts : MethodName := ⟨RX5, "volts", "(I)I"⟩
abbrev cX5_inverse : ByteArray := prog_1_method_12_code
def yX5_inverse : MethodName := ⟨RX5, "inverse", "(II)I"⟩
abbrev cX5_band : ByteArray := prog_1_method_13_code
def yX5_band : MethodName := ⟨RX5, "band", "(III)I"⟩
abbrev cX5_bands : ByteArray := prog_1_method_14_code
def yX5_bands : MethodName := ⟨RX5, "bands", "()I"⟩
abbrev cX5_lasts : ByteArray := prog_1_method_15_code
def yX5_lasts : MethodName := ⟨RX5, "lasts", "(II)I"⟩
abbrev cX5_under : ByteArray := prog_1_method_16_code
def yX5_under : MethodName := ⟨RX5, "under", "(I)I"⟩
abbrev cX5_setting : ByteArray := prog_1_method_17_code
def yX5_setting : MethodName := ⟨RX5, "setting", "(I)I"⟩
abbrev cX5_type : ByteArray := prog_1_method_18_code
def yX5_type : MethodName := ⟨RX5, "type", "(I)I"⟩
abbrev cX5_clear : ByteArray := prog_1_method_19_code
def yX5_clear : MethodName := ⟨RX5, "clear", "()I"⟩
abbrev cX5_does : ByteArray := prog_1_method_20_code
def yX5_does : MethodName := ⟨RX5, "does", "()I"⟩
abbrev cX5_back : ByteArray := prog_1_method_21_code
def yX5_back : MethodName := ⟨RX5, "back", "()I"⟩
abbrev cX5_refused : ByteArray := prog_1_method_22_code
def yX5_refused : MethodName := ⟨RX5, "refused", "(I)I"⟩
abbrev cX5_digest : ByteArray := prog_1_method_23_code
def yX5_digest : MethodName := ⟨RX5, "digest", "()J"⟩
abbrev cX5_settled : ByteArray := prog_1_method_24_code
def yX5_settled : MethodName := ⟨RX5, "settled", "(I)I"⟩
abbrev cX5_counted : ByteArray := prog_1_method_25_code
def yX5_counted : MethodName := ⟨RX5, "counted", "(I)I"⟩
abbrev cX5_obey : ByteArray := prog_1_method_26_code
def yX5_obey : MethodName := ⟨RX5, "obey", "(I)I"⟩
abbrev cX5_isRefusal : ByteArray := prog_1_method_27_code
def yX5_isRefusal : MethodName := ⟨RX5, "isRefusal", "(I)Z"⟩
abbrev cX5_within : ByteArray := prog_1_method_28_code
def yX5_within : MethodName := ⟨RX5, "within", "(III)Z"⟩
def RX6 : String := "GaugeBoundsModel"
def TX6 : u_T := fun k => match k with
  | 0 => ("GaugeBoundsModel", "now", "[J", true)
  | 1 => ("GaugeBoundsModel", "aside", "[J", true)
  | 2 => ("GaugeBoundsModel", "past", "[J", true)
  | 3 => ("GaugeBoundsModel", "states", "I", false)
  | 4 => ("GaugeBoundsModel", "refusals", "[I", true)
  | 5 => ("GaugeBoundsModel", "text", "[I", true)
  | 6 => ("GaugeBoundsModel", "bytes", "I", false)
  | 7 => ("GaugeBoundsModel", "least", "I", false)
  | 8 => ("GaugeBoundsModel", "greatest", "I", false)
  | 9 => ("GaugeBoundsModel", "letters", "[I", true)
  | 10 => ("GaugeBoundsModel", "numbers", "[I", true)
  | 11 => ("GaugeBoundsModel", "orders", "I", false)
  | 12 => ("GaugeBoundsModel", "spot", "I", false)
  | 13 => ("GaugeBoundsModel", "wrongAt", "I", false)
  | _ => ("GaugeBoundsModel", "hash", "J", false)
def tyX6 : Nat → FieldType := fun k => match k with
  | 0 => .array .long
  | 1 => .array .long
  | 2 => .array .long
  | 3 => .int
  | 4 => .array .int
  | 5 => .array .int
  | 6 => .int
  | 7 => .int
  | 8 => .int
  | 9 => .array .int
  | 10 => .array .int
  | 11 => .int
  | 12 => .int
  | 13 => .int
  | _ => .long
abbrev wsX60 : List Cond := u_ws RX6 TX6 15
theorem nmX6 : ∀ a, a < 15 → ∀ b, b < 15 → a ≠ b → (TX6 a).2.1 ≠ (TX6 b).2.1 := by decide +kernel
theorem tyX6_ok : ∀ k, k < 15 → parseFieldDescriptor (TX6 k).2.2.1 = some (tyX6 k) := by decide +kernel
abbrev cX6_init : ByteArray := prog_8_method_1_code
def yX6_init : MethodName := ⟨RX6, "<init>", "()V"⟩
abbrev cX6_in : ByteArray := prog_8_method_3_code
def yX6_in : MethodName := ⟨RX6, "in", "(JJJ)Z"⟩
abbrev cX6_refuses : ByteArray := prog_8_method_4_code
def yX6_refuses : MethodName := ⟨RX6, "refuses", "(I)I"⟩
abbrev cX6_laysAside : ByteArray := prog_8_method_5_code
def yX6_laysAside : MethodName := ⟨RX6, "laysAside", "()V"⟩
abbrev cX6_remembers : ByteArray := prog_8_method_6_code
def yX6_remembers : MethodName := ⟨RX6, "remembers", "()V"⟩
abbrev cX6_back : ByteArray := prog_8_method_7_code
def yX6_back : MethodName := ⟨RX6, "back", "()I"⟩
abbrev cX6_finished : ByteArray := prog_8_method_8_code
def yX6_finished : MethodName := ⟨RX6, "finished", "(I)I"⟩
abbrev cX6_voltsAt : ByteArray := prog_8_method_9_code
def yX6_voltsAt : MethodName := ⟨RX6, "voltsAt", "(I)I"⟩
abbrev cX6_turns : ByteArray := prog_8_method_10_code
def yX6_turns : MethodName := ⟨RX6, "turns", "(I)V"⟩
abbrev cX6_middle : ByteArray := prog_8_method_11_code
def yX6_middle : MethodName := ⟨RX6, "middle", "()I"⟩
abbrev cX6_putCapacity : ByteArray := prog_8_method_12_code
def yX6_putCapacity : MethodName := ⟨RX6, "putCapacity", "(II)I"⟩
abbrev cX6_putCharge : ByteArray := prog_8_method_13_code
def yX6_putCharge : MethodName := ⟨RX6, "putCharge", "(II)I"⟩
abbrev cX6_putSetting : ByteArray := prog_8_method_14_code
def yX6_putSetting : MethodName := ⟨RX6, "putSetting", "(III)I"⟩
abbrev cX6_putPoint : ByteArray := prog_8_method_15_code
def yX6_putPoint : MethodName := ⟨RX6, "putPoint", "(II)I"⟩
abbrev cX6_shows : ByteArray := prog_8_method_16_code
def yX6_shows : MethodName := ⟨RX6, "shows", "(II)V"⟩
abbrev cX6_putPassing : ByteArray := prog_8_method_17_code
def yX6_putPassing : MethodName := ⟨RX6, "putPassing", "(II)I"⟩
abbrev cX6_learnsCapacity : ByteArray := prog_8_method_18_code
def yX6_learnsCapacity : MethodName := ⟨RX6, "learnsCapacity", "(JJ)V"⟩
abbrev cX6_putRest : ByteArray := prog_8_method_19_code
def yX6_putRest : MethodName := ⟨RX6, "putRest", "(I)I"⟩
abbrev cX6_bandNow : ByteArray := prog_8_method_20_code
def yX6_bandNow : MethodName := ⟨RX6, "bandNow", "(I)I"⟩
abbrev cX6_putLoad : ByteArray := prog_8_method_21_code
def yX6_putLoad : MethodName := ⟨RX6, "putLoad", "(II)I"⟩
abbrev cX6_begins : ByteArray := prog_8_method_22_code
def yX6_begins : MethodName := ⟨RX6, "begins", "(II)I"⟩
abbrev cX6_holds : ByteArray := prog_8_method_23_code
def yX6_holds : MethodName := ⟨RX6, "holds", "(II)I"⟩
abbrev cX6_offset : ByteArray := prog_8_method_24_code
def yX6_offset : MethodName := ⟨RX6, "offset", "(I)I"⟩
abbrev cX6_clings : ByteArray := prog_8_method_25_code
def yX6_clings : MethodName := ⟨RX6, "clings", "(I)I"⟩
abbrev cX6_curve : ByteArray := prog_8_method_26_code
def yX6_curve : MethodName := ⟨RX6, "curve", "(II)I"⟩
abbrev cX6_passes : ByteArray := prog_8_method_27_code
def yX6_passes : MethodName := ⟨RX6, "passes", "(II)I"⟩
abbrev cX6_rests : ByteArray := prog_8_method_28_code
def yX6_rests : MethodName := ⟨RX6, "rests", "(I)I"⟩
abbrev cX6_loads : ByteArray := prog_8_method_29_code
def yX6_loads : MethodName := ⟨RX6, "loads", "(II)I"⟩
abbrev cX6_toldOf : ByteArray := prog_8_method_30_code
def yX6_toldOf : MethodName := ⟨RX6, "toldOf", "(I)I"⟩
abbrev cX6_told : ByteArray := prog_8_method_31_code
def yX6_told : MethodName := ⟨RX6, "told", "(I)I"⟩
abbrev cX6_volts : ByteArray := prog_8_method_32_code
def yX6_volts : MethodName := ⟨RX6, "volts", "(I)I"⟩
abbrev cX6_inverse : ByteArray := prog_8_method_33_code
def yX6_inverse : MethodName := ⟨RX6, "inverse", "(II)I"⟩
abbrev cX6_bandOf : ByteArray := prog_8_method_34_code
def yX6_bandOf : MethodName := ⟨RX6, "bandOf", "(II)I"⟩
abbrev cX6_band : ByteArray := prog_8_method_35_code
def yX6_band : MethodName := ⟨RX6, "band", "(III)I"⟩
abbrev cX6_bands : ByteArray := prog_8_method_36_code
def yX6_bands : MethodName := ⟨RX6, "bands", "()I"⟩
abbrev cX6_lastsBy : ByteArray := prog_8_method_37_code
def yX6_lastsBy : MethodName := ⟨RX6, "lastsBy", "(II)I"⟩
abbrev cX6_lasts : ByteArray := prog_8_method_38_code
def yX6_lasts : MethodName := ⟨RX6, "lasts", "(II)I"⟩
abbrev cX6_under : ByteArray := prog_8_method_39_code
def yX6_under : MethodName := ⟨RX6, "under", "(I)I"⟩
abbrev cX6_setting : ByteArray := prog_8_method_40_code
def yX6_setting : MethodName := ⟨RX6, "setting", "(I)I"⟩
abbrev cX6_type : ByteArray := prog_8_method_41_code
def yX6_type : MethodName := ⟨RX6, "type", "(I)I"⟩
abbrev cX6_clear : ByteArray := prog_8_method_42_code
def yX6_clear : MethodName := ⟨RX6, "clear", "()I"⟩
abbrev cX6_isAt : ByteArray := prog_8_method_43_code
def yX6_isAt : MethodName := ⟨RX6, "isAt", "(II)Z"⟩
abbrev cX6_blanks : ByteArray := prog_8_method_44_code
def yX6_blanks : MethodName := ⟨RX6, "blanks", "()V"⟩
abbrev cX6_fails : ByteArray := prog_8_method_45_code
def yX6_fails : MethodName := ⟨RX6, "fails", "()Z"⟩
abbrev cX6_manyOf : ByteArray := prog_8_method_46_code
def yX6_manyOf : MethodName := ⟨RX6, "manyOf", "(I)I"⟩
abbrev cX6_takesNumber : ByteArray := prog_8_method_47_code
def yX6_takesNumber : MethodName := ⟨RX6, "takesNumber", "(IZ)Z"⟩
abbrev cX6_takesOrder : ByteArray := prog_8_method_48_code
def yX6_takesOrder : MethodName := ⟨RX6, "takesOrder", "()Z"⟩
abbrev cX6_isRead : ByteArray := prog_8_method_49_code
def yX6_isRead : MethodName := ⟨RX6, "isRead", "()Z"⟩
abbrev cX6_doneOne : ByteArray := prog_8_method_50_code
def yX6_doneOne : MethodName := ⟨RX6, "doneOne", "(I)I"⟩
abbrev cX6_does : ByteArray := prog_8_method_51_code
def yX6_does : MethodName := ⟨RX6, "does", "()I"⟩
abbrev cX6_refusedOf : ByteArray := prog_8_method_52_code
def yX6_refusedOf : MethodName := ⟨RX6, "refusedOf", "(I)I"⟩
abbrev cX6_refused : ByteArray := prog_8_method_53_code
def yX6_refused : MethodName := ⟨RX6, "refused", "(I)I"⟩
abbrev cX6_mix : ByteArray := prog_8_method_54_code
def yX6_mix : MethodName := ⟨RX6, "mix", "(J)V"⟩
abbrev cX6_digest : ByteArray := prog_8_method_55_code
def yX6_digest : MethodName := ⟨RX6, "digest", "()J"⟩
def RJ9 : String := "java/lang/Math"
def TJ9 : u_T := fun k => match k with
  | _ => ("", "", "", false)
def tyJ9 : Nat → FieldType := fun k => match k with
  | _ => .int
abbrev wsJ90 : List Cond := u_ws RJ9 TJ9 0
theorem nmJ9 : ∀ a, a < 0 → ∀ b, b < 0 → a ≠ b → (TJ9 a).2.1 ≠ (TJ9 b).2.1 := by decide +kernel
theorem tyJ9_ok : ∀ k, k < 0 → parseFieldDescriptor (TJ9 k).2.2.1 = some (tyJ9 k) := by decide +kernel
abbrev cJ9_max_7cf53 : ByteArray := prog_9_method_65_code
def yJ9_max_7cf53 : MethodName := ⟨RJ9, "max", "(II)I"⟩
abbrev cJ9_max_f86c9 : ByteArray := prog_9_method_66_code
def yJ9_max_f86c9 : MethodName := ⟨RJ9, "max", "(JJ)J"⟩
abbrev cJ9_min_7cf53 : ByteArray := prog_9_method_69_code
def yJ9_min_7cf53 : MethodName := ⟨RJ9, "min", "(II)I"⟩
abbrev cJ9_min_f86c9 : ByteArray := prog_9_method_70_code
def yJ9_min_f86c9 : MethodName := ⟨RJ9, "min", "(JJ)J"⟩
def RJ10 : String := "java/lang/System"
def TJ10 : u_T := fun k => match k with
  | _ => ("", "", "", false)
def tyJ10 : Nat → FieldType := fun k => match k with
  | _ => .int
abbrev wsJ100 : List Cond := u_ws RJ10 TJ10 0
theorem nmJ10 : ∀ a, a < 0 → ∀ b, b < 0 → a ≠ b → (TJ10 a).2.1 ≠ (TJ10 b).2.1 := by decide +kernel
theorem tyJ10_ok : ∀ k, k < 0 → parseFieldDescriptor (TJ10 k).2.2.1 = some (tyJ10 k) := by decide +kernel
def RL : String := "GaugeBoundsLaw"
abbrev cL_law : ByteArray := code
def yL_law : MethodName := ⟨RL, "law", "([I)Z"⟩
def wsX0_init : List Cond := .code yX0_init cX0_init 1 none :: ([.methodLink RX0 3 objectInit, .instanceMethod objectInit, .code objectInit ⟨#[0xb1]⟩ 1 none, .arrayClass .long, .fieldLink RX0 11 "GaugeBounds$Bands" "sums" "[J", .arrayClass .int, .fieldLink RX0 15 "GaugeBounds$Bands" "counts" "[I"] ++ wsX00)
def wsX0_copyFrom : List Cond := .code yX0_copyFrom cX0_copyFrom 2 none :: ([.fieldLink RX0 11 "GaugeBounds$Bands" "sums" "[J", .methodLink RX0 19 arraycopyName, .native arraycopyName, .static arraycopyName, .initialized "java/lang/System", .fieldLink RX0 15 "GaugeBounds$Bands" "counts" "[I"] ++ wsX00)
def wsX0_forget : List Cond := .code yX0_forget cX0_forget 2 none :: ([.fieldLink RX0 11 "GaugeBounds$Bands" "sums" "[J", .fieldLink RX0 15 "GaugeBounds$Bands" "counts" "[I"] ++ wsX00)
def wsX5_within : List Cond := .code yX5_within cX5_within 3 (some .boolean) :: ([])
def wsX0_isBand : List Cond := .code yX0_isBand cX0_isBand 2 (some .boolean) :: ([.static yX5_within, .initialized RX5, .code yX5_within cX5_within 3 (some .boolean)])
def wsX0_add : List Cond := .code yX0_add cX0_add 5 none :: ([.fieldLink RX0 11 "GaugeBounds$Bands" "sums" "[J", .fieldLink RX0 15 "GaugeBounds$Bands" "counts" "[I", .methodLink RX0 25 yX0_isBand, .static yX0_isBand, .initialized RX0, .code yX0_isBand cX0_isBand 2 (some .boolean), .static yX5_within, .initialized RX5, .code yX5_within cX5_within 3 (some .boolean)] ++ wsX00)
def wsX0_resistance : List Cond := .code yX0_resistance cX0_resistance 4 (some .int) :: ([.constant RX0 29 (-10000002), .fieldLink RX0 15 "GaugeBounds$Bands" "counts" "[I", .constant RX0 30 (-10000001), .fieldLink RX0 11 "GaugeBounds$Bands" "sums" "[J", .methodLink RX0 25 yX0_isBand, .static yX0_isBand, .initialized RX0, .code yX0_isBand cX0_isBand 2 (some .boolean), .static yX5_within, .initialized RX5, .code yX5_within cX5_within 3 (some .boolean)] ++ wsX00)
def wsX0_howMany : List Cond := .code yX0_howMany cX0_howMany 3 (some .int) :: ([.fieldLink RX0 15 "GaugeBounds$Bands" "counts" "[I", .constant RX0 29 (-10000002), .methodLink RX0 25 yX0_isBand, .static yX0_isBand, .initialized RX0, .code yX0_isBand cX0_isBand 2 (some .boolean), .static yX5_within, .initialized RX5, .code yX5_within cX5_within 3 (some .boolean)] ++ wsX00)
def wsX0_used : List Cond := .code yX0_used cX0_used 3 (some .int) :: ([.fieldLink RX0 15 "GaugeBounds$Bands" "counts" "[I"] ++ wsX00)
def wsX2_init : List Cond := .code yX2_init cX2_init 2 none :: ([.methodLink RX2 3 objectInit, .instanceMethod objectInit, .code objectInit ⟨#[0xb1]⟩ 1 none, .arrayClass .int, .fieldLink RX2 11 "GaugeBounds$Curve" "points" "[I"] ++ wsX20)
def wsX1_init_r1 : List Cond := [Cond.methodLink RX1 5 objectInit, Cond.instanceMethod objectInit, Cond.code objectInit ⟨#[0xb1]⟩ 1 none, Cond.classLink RX1 1 RX2, Cond.instantiable RX2 1, Cond.initialized RX2, Cond.fieldLink RX1 12 "GaugeBounds$Battery" "curve" "LGaugeBounds$Curve;", Cond.classLink RX1 18 RX0, Cond.instantiable RX0 2, Cond.initialized RX0, Cond.fieldLink RX1 21 "GaugeBounds$Battery" "bands" "LGaugeBounds$Bands;", Cond.fieldLink RX1 25 "GaugeBounds$Battery" "high" "I", Cond.fieldLink RX1 29 "GaugeBounds$Battery" "leastCapacity" "I", Cond.fieldLink RX1 32 "GaugeBounds$Battery" "mostCapacity" "I", Cond.fieldLink RX1 35 "GaugeBounds$Battery" "offset" "I", Cond.fieldLink RX1 38 "GaugeBounds$Battery" "cling" "I", Cond.constant RX1 41 (-10000001), Cond.fieldLink RX1 42 "GaugeBounds$Battery" "lastA" "I", Cond.fieldLink RX1 45 "GaugeBounds$Battery" "lastB" "I", Cond.fieldLink RX1 48 "GaugeBounds$Battery" "shown" "I", Cond.methodLink RX1 11 yX2_init, Cond.instanceMethod yX2_init, Cond.code yX2_init cX2_init 2 none, Cond.methodLink RX2 3 objectInit]
def wsX1_init_r2 : List Cond := [Cond.arrayClass .int, Cond.fieldLink RX2 11 "GaugeBounds$Curve" "points" "[I", Cond.methodLink RX1 20 yX0_init, Cond.instanceMethod yX0_init, Cond.code yX0_init cX0_init 1 none, Cond.methodLink RX0 3 objectInit, Cond.arrayClass .long, Cond.fieldLink RX0 11 "GaugeBounds$Bands" "sums" "[J", Cond.fieldLink RX0 15 "GaugeBounds$Bands" "counts" "[I"]
def wsX1_init : List Cond := .code yX1_init cX1_init 1 none :: ((wsX1_init_r1 ++ wsX1_init_r2) ++ wsX20 ++ wsX10 ++ wsX00)
def wsX2_copyFrom : List Cond := .code yX2_copyFrom cX2_copyFrom 2 none :: ([.fieldLink RX2 11 "GaugeBounds$Curve" "points" "[I", .methodLink RX2 15 arraycopyName, .native arraycopyName, .static arraycopyName, .initialized "java/lang/System"] ++ wsX20)
def wsX1_copyFrom_r1 : List Cond := [Cond.fieldLink RX1 12 "GaugeBounds$Battery" "curve" "LGaugeBounds$Curve;", Cond.fieldLink RX1 21 "GaugeBounds$Battery" "bands" "LGaugeBounds$Bands;", Cond.fieldLink RX1 58 "GaugeBounds$Battery" "low" "I", Cond.fieldLink RX1 25 "GaugeBounds$Battery" "high" "I", Cond.fieldLink RX1 29 "GaugeBounds$Battery" "leastCapacity" "I", Cond.fieldLink RX1 32 "GaugeBounds$Battery" "mostCapacity" "I", Cond.fieldLink RX1 35 "GaugeBounds$Battery" "offset" "I", Cond.fieldLink RX1 38 "GaugeBounds$Battery" "cling" "I", Cond.fieldLink RX1 61 "GaugeBounds$Battery" "drawn" "I", Cond.fieldLink RX1 64 "GaugeBounds$Battery" "steps" "I", Cond.fieldLink RX1 67 "GaugeBounds$Battery" "rests" "I", Cond.fieldLink RX1 42 "GaugeBounds$Battery" "lastA" "I", Cond.fieldLink RX1 45 "GaugeBounds$Battery" "lastB" "I", Cond.fieldLink RX1 70 "GaugeBounds$Battery" "clashes" "I", Cond.fieldLink RX1 48 "GaugeBounds$Battery" "shown" "I", Cond.methodLink RX1 51 yX2_copyFrom, Cond.instanceMethod yX2_copyFrom, Cond.selects RX2 yX2_copyFrom yX2_copyFrom, Cond.initialized RX2, Cond.code yX2_copyFrom cX2_copyFrom 2 none, Cond.fieldLink RX2 11 "GaugeBounds$Curve" "points" "[I", Cond.methodLink RX2 15 arraycopyName, Cond.native arraycopyName, Cond.static arraycopyName]
def wsX1_copyFrom_r2 : List Cond := [Cond.initialized "java/lang/System", Cond.methodLink RX1 55 yX0_copyFrom, Cond.instanceMethod yX0_copyFrom, Cond.selects RX0 yX0_copyFrom yX0_copyFrom, Cond.initialized RX0, Cond.code yX0_copyFrom cX0_copyFrom 2 none, Cond.fieldLink RX0 11 "GaugeBounds$Bands" "sums" "[J", Cond.methodLink RX0 19 arraycopyName, Cond.fieldLink RX0 15 "GaugeBounds$Bands" "counts" "[I"]
def wsX1_copyFrom : List Cond := .code yX1_copyFrom cX1_copyFrom 2 none :: ((wsX1_copyFrom_r1 ++ wsX1_copyFrom_r2) ++ wsX10 ++ wsX20 ++ wsX00)
def wsX1_isRange : List Cond := .code yX1_isRange cX1_isRange 2 (some .boolean) :: ([.constant RX1 164 (99999), .static yX5_within, .initialized RX5, .code yX5_within cX5_within 3 (some .boolean)])
def wsX1_begin_r1 : List Cond := [Cond.constant RX1 77 (-10000002), Cond.fieldLink RX1 29 "GaugeBounds$Battery" "leastCapacity" "I", Cond.fieldLink RX1 32 "GaugeBounds$Battery" "mostCapacity" "I", Cond.fieldLink RX1 58 "GaugeBounds$Battery" "low" "I", Cond.fieldLink RX1 25 "GaugeBounds$Battery" "high" "I", Cond.fieldLink RX1 61 "GaugeBounds$Battery" "drawn" "I", Cond.fieldLink RX1 64 "GaugeBounds$Battery" "steps" "I", Cond.fieldLink RX1 67 "GaugeBounds$Battery" "rests" "I", Cond.constant RX1 41 (-10000001), Cond.fieldLink RX1 42 "GaugeBounds$Battery" "lastA" "I", Cond.fieldLink RX1 45 "GaugeBounds$Battery" "lastB" "I", Cond.fieldLink RX1 70 "GaugeBounds$Battery" "clashes" "I", Cond.fieldLink RX1 48 "GaugeBounds$Battery" "shown" "I", Cond.fieldLink RX1 21 "GaugeBounds$Battery" "bands" "LGaugeBounds$Bands;", Cond.methodLink RX1 73 yX1_isRange, Cond.static yX1_isRange, Cond.initialized RX1, Cond.code yX1_isRange cX1_isRange 2 (some .boolean), Cond.constant RX1 164 (99999), Cond.static yX5_within, Cond.initialized RX5, Cond.code yX5_within cX5_within 3 (some .boolean), Cond.methodLink RX1 78 yX0_forget, Cond.instanceMethod yX0_forget]
def wsX1_begin_r2 : List Cond := [Cond.selects RX0 yX0_forget yX0_forget, Cond.initialized RX0, Cond.code yX0_forget cX0_forget 2 none, Cond.fieldLink RX0 11 "GaugeBounds$Bands" "sums" "[J", Cond.fieldLink RX0 15 "GaugeBounds$Bands" "counts" "[I"]
def wsX1_begin : List Cond := .code yX1_begin cX1_begin 4 (some .int) :: ((wsX1_begin_r1 ++ wsX1_begin_r2) ++ wsX10 ++ wsX00)
def wsX1_hold : List Cond := .code yX1_hold cX1_hold 4 (some .int) :: ([.fieldLink RX1 32 "GaugeBounds$Battery" "mostCapacity" "I", .constant RX1 77 (-10000002), .fieldLink RX1 25 "GaugeBounds$Battery" "high" "I", .fieldLink RX1 58 "GaugeBounds$Battery" "low" "I", .methodLink RX1 73 yX1_isRange, .static yX1_isRange, .initialized RX1, .code yX1_isRange cX1_isRange 2 (some .boolean), .constant RX1 164 (99999), .static yX5_within, .initialized RX5, .code yX5_within cX5_within 3 (some .boolean)] ++ wsX10)
def wsX1_putOffset : List Cond := .code yX1_putOffset cX1_putOffset 3 (some .int) :: ([.constant RX1 77 (-10000002), .fieldLink RX1 35 "GaugeBounds$Battery" "offset" "I", .static yX5_within, .initialized RX5, .code yX5_within cX5_within 3 (some .boolean)] ++ wsX10)
def wsX1_putCling : List Cond := .code yX1_putCling cX1_putCling 3 (some .int) :: ([.constant RX1 77 (-10000002), .fieldLink RX1 38 "GaugeBounds$Battery" "cling" "I", .static yX5_within, .initialized RX5, .code yX5_within cX5_within 3 (some .boolean)] ++ wsX10)
def wsX2_putPoint : List Cond := .code yX2_putPoint cX2_putPoint 4 (some .int) :: ([.constant RX2 25 (-10000002), .fieldLink RX2 11 "GaugeBounds$Curve" "points" "[I", .constant RX2 26 (-10000003), .static yX5_within, .initialized RX5, .code yX5_within cX5_within 3 (some .boolean)] ++ wsX20)
def wsX1_putPoint : List Cond := .code yX1_putPoint cX1_putPoint 3 (some .int) :: ([.fieldLink RX1 12 "GaugeBounds$Battery" "curve" "LGaugeBounds$Curve;", .methodLink RX1 85 yX2_putPoint, .instanceMethod yX2_putPoint, .selects RX2 yX2_putPoint yX2_putPoint, .initialized RX2, .code yX2_putPoint cX2_putPoint 4 (some .int), .constant RX2 25 (-10000002), .fieldLink RX2 11 "GaugeBounds$Curve" "points" "[I", .constant RX2 26 (-10000003), .static yX5_within, .initialized RX5, .code yX5_within cX5_within 3 (some .boolean)] ++ wsX10 ++ wsX20)
def wsX1_middle : List Cond := .code yX1_middle cX1_middle 2 (some .int) :: ([.fieldLink RX1 29 "GaugeBounds$Battery" "leastCapacity" "I", .fieldLink RX1 32 "GaugeBounds$Battery" "mostCapacity" "I", .fieldLink RX1 58 "GaugeBounds$Battery" "low" "I", .fieldLink RX1 25 "GaugeBounds$Battery" "high" "I", .methodLink RX1 94 Lib.Math.min.name, .static Lib.Math.min.name, .initialized "java/lang/Math", .code Lib.Math.min.name Lib.Math.min.code 2 (some .int)] ++ wsX10)
def wsX1_showPassing : List Cond := .code yX1_showPassing cX1_showPassing 4 none :: ([.fieldLink RX1 48 "GaugeBounds$Battery" "shown" "I", .methodLink RX1 89 Lib.Math.max.name, .static Lib.Math.max.name, .initialized "java/lang/Math", .code Lib.Math.max.name Lib.Math.max.code 2 (some .int), .methodLink RX1 94 Lib.Math.min.name, .static Lib.Math.min.name, .code Lib.Math.min.name Lib.Math.min.code 2 (some .int), .methodLink RX1 105 yX1_middle, .instanceMethod yX1_middle, .selects RX1 yX1_middle yX1_middle, .initialized RX1, .code yX1_middle cX1_middle 2 (some .int), .fieldLink RX1 29 "GaugeBounds$Battery" "leastCapacity" "I", .fieldLink RX1 32 "GaugeBounds$Battery" "mostCapacity" "I", .fieldLink RX1 58 "GaugeBounds$Battery" "low" "I", .fieldLink RX1 25 "GaugeBounds$Battery" "high" "I"] ++ wsX10)
def wsX1_showEmpty : List Cond := .code yX1_showEmpty cX1_showEmpty 1 none :: ([.fieldLink RX1 25 "GaugeBounds$Battery" "high" "I", .fieldLink RX1 48 "GaugeBounds$Battery" "shown" "I"] ++ wsX10)
def wsX1_pass_r1 : List Cond := [Cond.constant RX1 77 (-10000002), Cond.fieldLink RX1 58 "GaugeBounds$Battery" "low" "I", Cond.fieldLink RX1 35 "GaugeBounds$Battery" "offset" "I", Cond.methodLink RX1 89 Lib.Math.max.name, Cond.static Lib.Math.max.name, Cond.initialized "java/lang/Math", Cond.code Lib.Math.max.name Lib.Math.max.code 2 (some .int), Cond.fieldLink RX1 25 "GaugeBounds$Battery" "high" "I", Cond.fieldLink RX1 32 "GaugeBounds$Battery" "mostCapacity" "I", Cond.methodLink RX1 94 Lib.Math.min.name, Cond.static Lib.Math.min.name, Cond.code Lib.Math.min.name Lib.Math.min.code 2 (some .int), Cond.constant RX1 97 (-10000003), Cond.fieldLink RX1 61 "GaugeBounds$Battery" "drawn" "I", Cond.fieldLink RX1 64 "GaugeBounds$Battery" "steps" "I", Cond.static yX5_within, Cond.initialized RX5, Cond.code yX5_within cX5_within 3 (some .boolean), Cond.methodLink RX1 98 yX1_showPassing, Cond.instanceMethod yX1_showPassing, Cond.selects RX1 yX1_showPassing yX1_showPassing, Cond.initialized RX1, Cond.code yX1_showPassing cX1_showPassing 4 none, Cond.fieldLink RX1 48 "GaugeBounds$Battery" "shown" "I"]
def wsX1_pass_r2 : List Cond := [Cond.methodLink RX1 105 yX1_middle, Cond.instanceMethod yX1_middle, Cond.selects RX1 yX1_middle yX1_middle, Cond.code yX1_middle cX1_middle 2 (some .int), Cond.fieldLink RX1 29 "GaugeBounds$Battery" "leastCapacity" "I", Cond.methodLink RX1 102 yX1_showEmpty, Cond.instanceMethod yX1_showEmpty, Cond.selects RX1 yX1_showEmpty yX1_showEmpty, Cond.code yX1_showEmpty cX1_showEmpty 1 none]
def wsX1_pass : List Cond := .code yX1_pass cX1_pass 5 (some .int) :: ((wsX1_pass_r1 ++ wsX1_pass_r2) ++ wsX10)
def wsX1_isVoltage : List Cond := .code yX1_isVoltage cX1_isVoltage 1 (some .boolean) :: ([.static yX5_within, .initialized RX5, .code yX5_within cX5_within 3 (some .boolean)])
def wsX2_voltsAt : List Cond := .code yX2_voltsAt cX2_voltsAt 3 (some .int) :: ([.constant RX2 25 (-10000002), .fieldLink RX2 11 "GaugeBounds$Curve" "points" "[I"] ++ wsX20)
def wsX2_placesBelow : List Cond := .code yX2_placesBelow cX2_placesBelow 5 (some .int) :: ([.methodLink RX2 32 yX2_voltsAt, .instanceMethod yX2_voltsAt, .selects RX2 yX2_voltsAt yX2_voltsAt, .initialized RX2, .code yX2_voltsAt cX2_voltsAt 3 (some .int), .constant RX2 25 (-10000002), .fieldLink RX2 11 "GaugeBounds$Curve" "points" "[I"] ++ wsX20)
def wsX2_leastReaching : List Cond := .code yX2_leastReaching cX2_leastReaching 3 (some .int) :: ([.constant RX2 31 (-10000001), .methodLink RX2 27 yX2_placesBelow, .instanceMethod yX2_placesBelow, .selects RX2 yX2_placesBelow yX2_placesBelow, .initialized RX2, .code yX2_placesBelow cX2_placesBelow 5 (some .int), .methodLink RX2 32 yX2_voltsAt, .instanceMethod yX2_voltsAt, .selects RX2 yX2_voltsAt yX2_voltsAt, .code yX2_voltsAt cX2_voltsAt 3 (some .int), .constant RX2 25 (-10000002), .fieldLink RX2 11 "GaugeBounds$Curve" "points" "[I"] ++ wsX20)
def wsX2_greatestWithin : List Cond := .code yX2_greatestWithin cX2_greatestWithin 3 (some .int) :: ([.constant RX2 31 (-10000001), .methodLink RX2 27 yX2_placesBelow, .instanceMethod yX2_placesBelow, .selects RX2 yX2_placesBelow yX2_placesBelow, .initialized RX2, .code yX2_placesBelow cX2_placesBelow 5 (some .int), .methodLink RX2 32 yX2_voltsAt, .instanceMethod yX2_voltsAt, .selects RX2 yX2_voltsAt yX2_voltsAt, .code yX2_voltsAt cX2_voltsAt 3 (some .int), .constant RX2 25 (-10000002), .fieldLink RX2 11 "GaugeBounds$Curve" "points" "[I"] ++ wsX20)
def wsX1_restBound_r1 : List Cond := [Cond.constant RX1 77 (-10000002), Cond.fieldLink RX1 12 "GaugeBounds$Battery" "curve" "LGaugeBounds$Curve;", Cond.fieldLink RX1 38 "GaugeBounds$Battery" "cling" "I", Cond.constant RX1 41 (-10000001), Cond.methodLink RX1 94 Lib.Math.min.name, Cond.static Lib.Math.min.name, Cond.initialized "java/lang/Math", Cond.code Lib.Math.min.name Lib.Math.min.code 2 (some .int), Cond.methodLink RX1 89 Lib.Math.max.name, Cond.static Lib.Math.max.name, Cond.code Lib.Math.max.name Lib.Math.max.code 2 (some .int), Cond.methodLink RX1 109 yX1_isVoltage, Cond.static yX1_isVoltage, Cond.initialized RX1, Cond.code yX1_isVoltage cX1_isVoltage 1 (some .boolean), Cond.static yX5_within, Cond.initialized RX5, Cond.code yX5_within cX5_within 3 (some .boolean), Cond.methodLink RX1 146 yX2_leastReaching, Cond.instanceMethod yX2_leastReaching, Cond.selects RX2 yX2_leastReaching yX2_leastReaching, Cond.initialized RX2, Cond.code yX2_leastReaching cX2_leastReaching 3 (some .int), Cond.constant RX2 31 (-10000001)]
def wsX1_restBound_r2 : List Cond := [Cond.methodLink RX2 27 yX2_placesBelow, Cond.instanceMethod yX2_placesBelow, Cond.selects RX2 yX2_placesBelow yX2_placesBelow, Cond.code yX2_placesBelow cX2_placesBelow 5 (some .int), Cond.methodLink RX2 32 yX2_voltsAt, Cond.instanceMethod yX2_voltsAt, Cond.selects RX2 yX2_voltsAt yX2_voltsAt, Cond.code yX2_voltsAt cX2_voltsAt 3 (some .int), Cond.constant RX2 25 (-10000002), Cond.fieldLink RX2 11 "GaugeBounds$Curve" "points" "[I", Cond.methodLink RX1 149 yX2_greatestWithin, Cond.instanceMethod yX2_greatestWithin, Cond.selects RX2 yX2_greatestWithin yX2_greatestWithin, Cond.code yX2_greatestWithin cX2_greatestWithin 3 (some .int)]
def wsX1_restBound : List Cond := .code yX1_restBound cX1_restBound 5 (some .int) :: ((wsX1_restBound_r1 ++ wsX1_restBound_r2) ++ wsX10 ++ wsX20)
def wsX1_learnCapacity : List Cond := .code yX1_learnCapacity cX1_learnCapacity 12 none :: ([.fieldLink RX1 61 "GaugeBounds$Battery" "drawn" "I", .fieldLink RX1 35 "GaugeBounds$Battery" "offset" "I", .fieldLink RX1 64 "GaugeBounds$Battery" "steps" "I", .fieldLink RX1 29 "GaugeBounds$Battery" "leastCapacity" "I", .fieldLink RX1 32 "GaugeBounds$Battery" "mostCapacity" "I", .fieldLink RX1 45 "GaugeBounds$Battery" "lastB" "I", .constantLong RX1 122 (1000), .methodLink RX1 124 Lib.MathLoose.max_long.x, .static Lib.MathLoose.max_long.x, .initialized "java/lang/Math", .code Lib.MathLoose.max_long.x Lib.MathLoose.max_long.code 4 (some .long), .fieldLink RX1 42 "GaugeBounds$Battery" "lastA" "I", .methodLink RX1 127 Lib.MathLoose.min_long.x, .static Lib.MathLoose.min_long.x, .code Lib.MathLoose.min_long.x Lib.MathLoose.min_long.code 4 (some .long), .fieldLink RX1 70 "GaugeBounds$Battery" "clashes" "I"] ++ wsX10)
def wsX1_narrowCharge : List Cond := .code yX1_narrowCharge cX1_narrowCharge 5 none :: ([.fieldLink RX1 58 "GaugeBounds$Battery" "low" "I", .fieldLink RX1 29 "GaugeBounds$Battery" "leastCapacity" "I", .methodLink RX1 89 Lib.Math.max.name, .static Lib.Math.max.name, .initialized "java/lang/Math", .code Lib.Math.max.name Lib.Math.max.code 2 (some .int), .fieldLink RX1 25 "GaugeBounds$Battery" "high" "I", .fieldLink RX1 32 "GaugeBounds$Battery" "mostCapacity" "I", .methodLink RX1 94 Lib.Math.min.name, .static Lib.Math.min.name, .code Lib.Math.min.name Lib.Math.min.code 2 (some .int), .fieldLink RX1 70 "GaugeBounds$Battery" "clashes" "I"] ++ wsX10)
def wsX1_rest_r1 : List Cond := [Cond.constant RX1 77 (-10000002), Cond.constant RX1 41 (-10000001), Cond.constant RX1 97 (-10000003), Cond.fieldLink RX1 67 "GaugeBounds$Battery" "rests" "I", Cond.fieldLink RX1 25 "GaugeBounds$Battery" "high" "I", Cond.fieldLink RX1 32 "GaugeBounds$Battery" "mostCapacity" "I", Cond.methodLink RX1 94 Lib.Math.min.name, Cond.static Lib.Math.min.name, Cond.initialized "java/lang/Math", Cond.code Lib.Math.min.name Lib.Math.min.code 2 (some .int), Cond.fieldLink RX1 58 "GaugeBounds$Battery" "low" "I", Cond.fieldLink RX1 61 "GaugeBounds$Battery" "drawn" "I", Cond.fieldLink RX1 64 "GaugeBounds$Battery" "steps" "I", Cond.fieldLink RX1 42 "GaugeBounds$Battery" "lastA" "I", Cond.fieldLink RX1 45 "GaugeBounds$Battery" "lastB" "I", Cond.methodLink RX1 109 yX1_isVoltage, Cond.static yX1_isVoltage, Cond.initialized RX1, Cond.code yX1_isVoltage cX1_isVoltage 1 (some .boolean), Cond.static yX5_within, Cond.initialized RX5, Cond.code yX5_within cX5_within 3 (some .boolean), Cond.methodLink RX1 113 yX1_restBound, Cond.instanceMethod yX1_restBound]
def wsX1_rest_r2 : List Cond := [Cond.selects RX1 yX1_restBound yX1_restBound, Cond.code yX1_restBound cX1_restBound 5 (some .int), Cond.fieldLink RX1 12 "GaugeBounds$Battery" "curve" "LGaugeBounds$Curve;", Cond.fieldLink RX1 38 "GaugeBounds$Battery" "cling" "I", Cond.methodLink RX1 89 Lib.Math.max.name, Cond.static Lib.Math.max.name, Cond.code Lib.Math.max.name Lib.Math.max.code 2 (some .int), Cond.methodLink RX1 146 yX2_leastReaching, Cond.instanceMethod yX2_leastReaching, Cond.selects RX2 yX2_leastReaching yX2_leastReaching, Cond.initialized RX2, Cond.code yX2_leastReaching cX2_leastReaching 3 (some .int), Cond.constant RX2 31 (-10000001), Cond.methodLink RX2 27 yX2_placesBelow, Cond.instanceMethod yX2_placesBelow, Cond.selects RX2 yX2_placesBelow yX2_placesBelow, Cond.code yX2_placesBelow cX2_placesBelow 5 (some .int), Cond.methodLink RX2 32 yX2_voltsAt, Cond.instanceMethod yX2_voltsAt, Cond.selects RX2 yX2_voltsAt yX2_voltsAt, Cond.code yX2_voltsAt cX2_voltsAt 3 (some .int), Cond.constant RX2 25 (-10000002), Cond.fieldLink RX2 11 "GaugeBounds$Curve" "points" "[I", Cond.methodLink RX1 149 yX2_greatestWithin]
def wsX1_rest_r3 : List Cond := [Cond.instanceMethod yX2_greatestWithin, Cond.selects RX2 yX2_greatestWithin yX2_greatestWithin, Cond.code yX2_greatestWithin cX2_greatestWithin 3 (some .int), Cond.methodLink RX1 116 yX1_learnCapacity, Cond.instanceMethod yX1_learnCapacity, Cond.selects RX1 yX1_learnCapacity yX1_learnCapacity, Cond.code yX1_learnCapacity cX1_learnCapacity 12 none, Cond.fieldLink RX1 35 "GaugeBounds$Battery" "offset" "I", Cond.fieldLink RX1 29 "GaugeBounds$Battery" "leastCapacity" "I", Cond.constantLong RX1 122 (1000), Cond.methodLink RX1 124 Lib.MathLoose.max_long.x, Cond.static Lib.MathLoose.max_long.x, Cond.code Lib.MathLoose.max_long.x Lib.MathLoose.max_long.code 4 (some .long), Cond.methodLink RX1 127 Lib.MathLoose.min_long.x, Cond.static Lib.MathLoose.min_long.x, Cond.code Lib.MathLoose.min_long.x Lib.MathLoose.min_long.code 4 (some .long), Cond.fieldLink RX1 70 "GaugeBounds$Battery" "clashes" "I", Cond.methodLink RX1 119 yX1_narrowCharge, Cond.instanceMethod yX1_narrowCharge, Cond.selects RX1 yX1_narrowCharge yX1_narrowCharge, Cond.code yX1_narrowCharge cX1_narrowCharge 5 none, Cond.methodLink RX1 102 yX1_showEmpty, Cond.instanceMethod yX1_showEmpty, Cond.selects RX1 yX1_showEmpty yX1_showEmpty]
def wsX1_rest_r4 : List Cond := [Cond.code yX1_showEmpty cX1_showEmpty 1 none, Cond.fieldLink RX1 48 "GaugeBounds$Battery" "shown" "I"]
def wsX1_rest : List Cond := .code yX1_rest cX1_rest 4 (some .int) :: ((wsX1_rest_r1 ++ (wsX1_rest_r2 ++ (wsX1_rest_r3 ++ wsX1_rest_r4))) ++ wsX10 ++ wsX20)
def wsX1_isLoad : List Cond := .code yX1_isLoad cX1_isLoad 1 (some .boolean) :: ([.static yX5_within, .initialized RX5, .code yX5_within cX5_within 3 (some .boolean)])
def wsX1_signOf : List Cond := .code yX1_signOf cX1_signOf 1 (some .int) :: ([])
def wsX1_tenthOf : List Cond := .code yX1_tenthOf cX1_tenthOf 1 (some .int) :: ([])
def wsX1_load_r1 : List Cond := [Cond.constant RX1 77 (-10000002), Cond.fieldLink RX1 12 "GaugeBounds$Battery" "curve" "LGaugeBounds$Curve;", Cond.fieldLink RX1 21 "GaugeBounds$Battery" "bands" "LGaugeBounds$Bands;", Cond.methodLink RX1 129 yX1_isLoad, Cond.static yX1_isLoad, Cond.initialized RX1, Cond.code yX1_isLoad cX1_isLoad 1 (some .boolean), Cond.static yX5_within, Cond.initialized RX5, Cond.code yX5_within cX5_within 3 (some .boolean), Cond.methodLink RX1 109 yX1_isVoltage, Cond.static yX1_isVoltage, Cond.code yX1_isVoltage cX1_isVoltage 1 (some .boolean), Cond.methodLink RX1 105 yX1_middle, Cond.instanceMethod yX1_middle, Cond.selects RX1 yX1_middle yX1_middle, Cond.code yX1_middle cX1_middle 2 (some .int), Cond.fieldLink RX1 29 "GaugeBounds$Battery" "leastCapacity" "I", Cond.fieldLink RX1 32 "GaugeBounds$Battery" "mostCapacity" "I", Cond.fieldLink RX1 58 "GaugeBounds$Battery" "low" "I", Cond.fieldLink RX1 25 "GaugeBounds$Battery" "high" "I", Cond.methodLink RX1 94 Lib.Math.min.name, Cond.static Lib.Math.min.name, Cond.initialized "java/lang/Math"]
def wsX1_load_r2 : List Cond := [Cond.code Lib.Math.min.name Lib.Math.min.code 2 (some .int), Cond.methodLink RX1 132 yX2_voltsAt, Cond.instanceMethod yX2_voltsAt, Cond.selects RX2 yX2_voltsAt yX2_voltsAt, Cond.initialized RX2, Cond.code yX2_voltsAt cX2_voltsAt 3 (some .int), Cond.constant RX2 25 (-10000002), Cond.fieldLink RX2 11 "GaugeBounds$Curve" "points" "[I", Cond.methodLink RX1 136 yX1_signOf, Cond.static yX1_signOf, Cond.code yX1_signOf cX1_signOf 1 (some .int), Cond.methodLink RX1 139 yX1_tenthOf, Cond.static yX1_tenthOf, Cond.code yX1_tenthOf cX1_tenthOf 1 (some .int), Cond.methodLink RX1 142 yX0_add, Cond.instanceMethod yX0_add, Cond.selects RX0 yX0_add yX0_add, Cond.initialized RX0, Cond.code yX0_add cX0_add 5 none, Cond.fieldLink RX0 11 "GaugeBounds$Bands" "sums" "[J", Cond.fieldLink RX0 15 "GaugeBounds$Bands" "counts" "[I", Cond.methodLink RX0 25 yX0_isBand, Cond.static yX0_isBand, Cond.code yX0_isBand cX0_isBand 2 (some .boolean)]
def wsX1_load : List Cond := .code yX1_load cX1_load 5 (some .int) :: ((wsX1_load_r1 ++ wsX1_load_r2) ++ wsX10 ++ wsX20 ++ wsX00)
def wsX1_tell : List Cond := .code yX1_tell cX1_tell 2 (some .int) :: ([.fieldLink RX1 58 "GaugeBounds$Battery" "low" "I", .fieldLink RX1 25 "GaugeBounds$Battery" "high" "I", .fieldLink RX1 29 "GaugeBounds$Battery" "leastCapacity" "I", .fieldLink RX1 32 "GaugeBounds$Battery" "mostCapacity" "I", .fieldLink RX1 48 "GaugeBounds$Battery" "shown" "I", .fieldLink RX1 61 "GaugeBounds$Battery" "drawn" "I", .fieldLink RX1 64 "GaugeBounds$Battery" "steps" "I", .fieldLink RX1 70 "GaugeBounds$Battery" "clashes" "I", .fieldLink RX1 67 "GaugeBounds$Battery" "rests" "I", .fieldLink RX1 42 "GaugeBounds$Battery" "lastA" "I", .fieldLink RX1 45 "GaugeBounds$Battery" "lastB" "I", .constant RX1 77 (-10000002), .methodLink RX1 105 yX1_middle, .instanceMethod yX1_middle, .selects RX1 yX1_middle yX1_middle, .initialized RX1, .code yX1_middle cX1_middle 2 (some .int), .methodLink RX1 94 Lib.Math.min.name, .static Lib.Math.min.name, .initialized "java/lang/Math", .code Lib.Math.min.name Lib.Math.min.code 2 (some .int)] ++ wsX10)
def wsX1_restVoltage : List Cond := .code yX1_restVoltage cX1_restVoltage 2 (some .int) :: ([.fieldLink RX1 12 "GaugeBounds$Battery" "curve" "LGaugeBounds$Curve;", .methodLink RX1 132 yX2_voltsAt, .instanceMethod yX2_voltsAt, .selects RX2 yX2_voltsAt yX2_voltsAt, .initialized RX2, .code yX2_voltsAt cX2_voltsAt 3 (some .int), .constant RX2 25 (-10000002), .fieldLink RX2 11 "GaugeBounds$Curve" "points" "[I"] ++ wsX10 ++ wsX20)
def wsX1_tellBand : List Cond := .code yX1_tellBand cX1_tellBand 4 (some .int) :: ([.constant RX1 77 (-10000002), .fieldLink RX1 21 "GaugeBounds$Battery" "bands" "LGaugeBounds$Bands;", .static yX5_within, .initialized RX5, .code yX5_within cX5_within 3 (some .boolean), .methodLink RX1 152 yX0_resistance, .instanceMethod yX0_resistance, .selects RX0 yX0_resistance yX0_resistance, .initialized RX0, .code yX0_resistance cX0_resistance 4 (some .int), .constant RX0 29 (-10000002), .fieldLink RX0 15 "GaugeBounds$Bands" "counts" "[I", .constant RX0 30 (-10000001), .fieldLink RX0 11 "GaugeBounds$Bands" "sums" "[J", .methodLink RX0 25 yX0_isBand, .static yX0_isBand, .code yX0_isBand cX0_isBand 2 (some .boolean), .methodLink RX1 155 yX0_howMany, .instanceMethod yX0_howMany, .selects RX0 yX0_howMany yX0_howMany, .code yX0_howMany cX0_howMany 3 (some .int)] ++ wsX10 ++ wsX00)
def wsX1_usedBands : List Cond := .code yX1_usedBands cX1_usedBands 1 (some .int) :: ([.fieldLink RX1 21 "GaugeBounds$Battery" "bands" "LGaugeBounds$Bands;", .methodLink RX1 158 yX0_used, .instanceMethod yX0_used, .selects RX0 yX0_used yX0_used, .initialized RX0, .code yX0_used cX0_used 3 (some .int), .fieldLink RX0 15 "GaugeBounds$Bands" "counts" "[I"] ++ wsX10 ++ wsX00)
def wsX1_lasting : List Cond := .code yX1_lasting cX1_lasting 3 (some .int) :: ([.constant RX1 77 (-10000002), .fieldLink RX1 58 "GaugeBounds$Battery" "low" "I", .fieldLink RX1 35 "GaugeBounds$Battery" "offset" "I", .constant RX1 41 (-10000001), .fieldLink RX1 25 "GaugeBounds$Battery" "high" "I", .static yX5_within, .initialized RX5, .code yX5_within cX5_within 3 (some .boolean)] ++ wsX10)
def wsX1_loadedVoltage_r1 : List Cond := [Cond.constant RX1 77 (-10000002), Cond.fieldLink RX1 21 "GaugeBounds$Battery" "bands" "LGaugeBounds$Bands;", Cond.constant RX1 41 (-10000001), Cond.constant RX1 97 (-10000003), Cond.fieldLink RX1 12 "GaugeBounds$Battery" "curve" "LGaugeBounds$Curve;", Cond.methodLink RX1 129 yX1_isLoad, Cond.static yX1_isLoad, Cond.initialized RX1, Cond.code yX1_isLoad cX1_isLoad 1 (some .boolean), Cond.static yX5_within, Cond.initialized RX5, Cond.code yX5_within cX5_within 3 (some .boolean), Cond.methodLink RX1 105 yX1_middle, Cond.instanceMethod yX1_middle, Cond.selects RX1 yX1_middle yX1_middle, Cond.code yX1_middle cX1_middle 2 (some .int), Cond.fieldLink RX1 29 "GaugeBounds$Battery" "leastCapacity" "I", Cond.fieldLink RX1 32 "GaugeBounds$Battery" "mostCapacity" "I", Cond.fieldLink RX1 58 "GaugeBounds$Battery" "low" "I", Cond.fieldLink RX1 25 "GaugeBounds$Battery" "high" "I", Cond.methodLink RX1 94 Lib.Math.min.name, Cond.static Lib.Math.min.name, Cond.initialized "java/lang/Math", Cond.code Lib.Math.min.name Lib.Math.min.code 2 (some .int)]
def wsX1_loadedVoltage_r2 : List Cond := [Cond.methodLink RX1 136 yX1_signOf, Cond.static yX1_signOf, Cond.code yX1_signOf cX1_signOf 1 (some .int), Cond.methodLink RX1 139 yX1_tenthOf, Cond.static yX1_tenthOf, Cond.code yX1_tenthOf cX1_tenthOf 1 (some .int), Cond.methodLink RX1 152 yX0_resistance, Cond.instanceMethod yX0_resistance, Cond.selects RX0 yX0_resistance yX0_resistance, Cond.initialized RX0, Cond.code yX0_resistance cX0_resistance 4 (some .int), Cond.constant RX0 29 (-10000002), Cond.fieldLink RX0 15 "GaugeBounds$Bands" "counts" "[I", Cond.constant RX0 30 (-10000001), Cond.fieldLink RX0 11 "GaugeBounds$Bands" "sums" "[J", Cond.methodLink RX0 25 yX0_isBand, Cond.static yX0_isBand, Cond.code yX0_isBand cX0_isBand 2 (some .boolean), Cond.methodLink RX1 132 yX2_voltsAt, Cond.instanceMethod yX2_voltsAt, Cond.selects RX2 yX2_voltsAt yX2_voltsAt, Cond.initialized RX2, Cond.code yX2_voltsAt cX2_voltsAt 3 (some .int), Cond.constant RX2 25 (-10000002)]
def wsX1_loadedVoltage_r3 : List Cond := [Cond.fieldLink RX2 11 "GaugeBounds$Curve" "points" "[I"]
def wsX1_loadedVoltage : List Cond := .code yX1_loadedVoltage cX1_loadedVoltage 4 (some .int) :: ((wsX1_loadedVoltage_r1 ++ (wsX1_loadedVoltage_r2 ++ wsX1_loadedVoltage_r3)) ++ wsX10 ++ wsX00 ++ wsX20)
def wsX2_point : List Cond := .code yX2_point cX2_point 2 (some .int) :: ([.fieldLink RX2 11 "GaugeBounds$Curve" "points" "[I", .constant RX2 25 (-10000002), .static yX5_within, .initialized RX5, .code yX5_within cX5_within 3 (some .boolean)] ++ wsX20)
def wsX1_tellSetting : List Cond := .code yX1_tellSetting cX1_tellSetting 2 (some .int) :: ([.fieldLink RX1 35 "GaugeBounds$Battery" "offset" "I", .fieldLink RX1 38 "GaugeBounds$Battery" "cling" "I", .fieldLink RX1 12 "GaugeBounds$Battery" "curve" "LGaugeBounds$Curve;", .constant RX1 77 (-10000002), .static yX5_within, .initialized RX5, .code yX5_within cX5_within 3 (some .boolean), .methodLink RX1 161 yX2_point, .instanceMethod yX2_point, .selects RX2 yX2_point yX2_point, .initialized RX2, .code yX2_point cX2_point 2 (some .int), .fieldLink RX2 11 "GaugeBounds$Curve" "points" "[I", .constant RX2 25 (-10000002)] ++ wsX10 ++ wsX20)
def wsX3_init_r1 : List Cond := [Cond.methodLink RX3 3 objectInit, Cond.instanceMethod objectInit, Cond.code objectInit ⟨#[0xb1]⟩ 1 none, Cond.classLink RX3 9 RX1, Cond.fieldLink RX3 11 "GaugeBounds$States" "ring" "[LGaugeBounds$Battery;", Cond.instantiable RX1 15, Cond.initialized RX1, Cond.methodLink RX3 15 yX1_init, Cond.instanceMethod yX1_init, Cond.code yX1_init cX1_init 1 none, Cond.methodLink RX1 5 objectInit, Cond.classLink RX1 1 RX2, Cond.instantiable RX2 1, Cond.initialized RX2, Cond.fieldLink RX1 12 "GaugeBounds$Battery" "curve" "LGaugeBounds$Curve;", Cond.classLink RX1 18 RX0, Cond.instantiable RX0 2, Cond.initialized RX0, Cond.fieldLink RX1 21 "GaugeBounds$Battery" "bands" "LGaugeBounds$Bands;", Cond.fieldLink RX1 25 "GaugeBounds$Battery" "high" "I", Cond.fieldLink RX1 29 "GaugeBounds$Battery" "leastCapacity" "I", Cond.fieldLink RX1 32 "GaugeBounds$Battery" "mostCapacity" "I", Cond.fieldLink RX1 35 "GaugeBounds$Battery" "offset" "I", Cond.fieldLink RX1 38 "GaugeBounds$Battery" "cling" "I"]
def wsX3_init_r2 : List Cond := [Cond.constant RX1 41 (-10000001), Cond.fieldLink RX1 42 "GaugeBounds$Battery" "lastA" "I", Cond.fieldLink RX1 45 "GaugeBounds$Battery" "lastB" "I", Cond.fieldLink RX1 48 "GaugeBounds$Battery" "shown" "I", Cond.methodLink RX1 11 yX2_init, Cond.instanceMethod yX2_init, Cond.code yX2_init cX2_init 2 none, Cond.methodLink RX2 3 objectInit, Cond.arrayClass .int, Cond.fieldLink RX2 11 "GaugeBounds$Curve" "points" "[I", Cond.methodLink RX1 20 yX0_init, Cond.instanceMethod yX0_init, Cond.code yX0_init cX0_init 1 none, Cond.methodLink RX0 3 objectInit, Cond.arrayClass .long, Cond.fieldLink RX0 11 "GaugeBounds$Bands" "sums" "[J", Cond.fieldLink RX0 15 "GaugeBounds$Bands" "counts" "[I"]
def wsX3_init : List Cond := .code yX3_init cX3_init 2 none :: ((wsX3_init_r1 ++ wsX3_init_r2) ++ wsX30 ++ wsX10 ++ wsX20 ++ wsX00)
def wsX3_size : List Cond := .code yX3_size cX3_size 1 (some .int) :: ([.fieldLink RX3 16 "GaugeBounds$States" "size" "I"] ++ wsX30)
def wsX3_mark_r1 : List Cond := [Cond.fieldLink RX3 11 "GaugeBounds$States" "ring" "[LGaugeBounds$Battery;", Cond.fieldLink RX3 20 "GaugeBounds$States" "marked" "I", Cond.methodLink RX3 23 yX1_copyFrom, Cond.instanceMethod yX1_copyFrom, Cond.selects RX1 yX1_copyFrom yX1_copyFrom, Cond.initialized RX1, Cond.code yX1_copyFrom cX1_copyFrom 2 none, Cond.fieldLink RX1 12 "GaugeBounds$Battery" "curve" "LGaugeBounds$Curve;", Cond.fieldLink RX1 21 "GaugeBounds$Battery" "bands" "LGaugeBounds$Bands;", Cond.fieldLink RX1 58 "GaugeBounds$Battery" "low" "I", Cond.fieldLink RX1 25 "GaugeBounds$Battery" "high" "I", Cond.fieldLink RX1 29 "GaugeBounds$Battery" "leastCapacity" "I", Cond.fieldLink RX1 32 "GaugeBounds$Battery" "mostCapacity" "I", Cond.fieldLink RX1 35 "GaugeBounds$Battery" "offset" "I", Cond.fieldLink RX1 38 "GaugeBounds$Battery" "cling" "I", Cond.fieldLink RX1 61 "GaugeBounds$Battery" "drawn" "I", Cond.fieldLink RX1 64 "GaugeBounds$Battery" "steps" "I", Cond.fieldLink RX1 67 "GaugeBounds$Battery" "rests" "I", Cond.fieldLink RX1 42 "GaugeBounds$Battery" "lastA" "I", Cond.fieldLink RX1 45 "GaugeBounds$Battery" "lastB" "I", Cond.fieldLink RX1 70 "GaugeBounds$Battery" "clashes" "I", Cond.fieldLink RX1 48 "GaugeBounds$Battery" "shown" "I", Cond.methodLink RX1 51 yX2_copyFrom, Cond.instanceMethod yX2_copyFrom]
def wsX3_mark_r2 : List Cond := [Cond.selects RX2 yX2_copyFrom yX2_copyFrom, Cond.initialized RX2, Cond.code yX2_copyFrom cX2_copyFrom 2 none, Cond.fieldLink RX2 11 "GaugeBounds$Curve" "points" "[I", Cond.methodLink RX2 15 arraycopyName, Cond.native arraycopyName, Cond.static arraycopyName, Cond.initialized "java/lang/System", Cond.methodLink RX1 55 yX0_copyFrom, Cond.instanceMethod yX0_copyFrom, Cond.selects RX0 yX0_copyFrom yX0_copyFrom, Cond.initialized RX0, Cond.code yX0_copyFrom cX0_copyFrom 2 none, Cond.fieldLink RX0 11 "GaugeBounds$Bands" "sums" "[J", Cond.methodLink RX0 19 arraycopyName, Cond.fieldLink RX0 15 "GaugeBounds$Bands" "counts" "[I"]
def wsX3_mark : List Cond := .code yX3_mark cX3_mark 2 none :: ((wsX3_mark_r1 ++ wsX3_mark_r2) ++ wsX30 ++ wsX10 ++ wsX20 ++ wsX00)
def wsX3_restoreMarked_r1 : List Cond := [Cond.fieldLink RX3 11 "GaugeBounds$States" "ring" "[LGaugeBounds$Battery;", Cond.fieldLink RX3 20 "GaugeBounds$States" "marked" "I", Cond.methodLink RX3 23 yX1_copyFrom, Cond.instanceMethod yX1_copyFrom, Cond.selects RX1 yX1_copyFrom yX1_copyFrom, Cond.initialized RX1, Cond.code yX1_copyFrom cX1_copyFrom 2 none, Cond.fieldLink RX1 12 "GaugeBounds$Battery" "curve" "LGaugeBounds$Curve;", Cond.fieldLink RX1 21 "GaugeBounds$Battery" "bands" "LGaugeBounds$Bands;", Cond.fieldLink RX1 58 "GaugeBounds$Battery" "low" "I", Cond.fieldLink RX1 25 "GaugeBounds$Battery" "high" "I", Cond.fieldLink RX1 29 "GaugeBounds$Battery" "leastCapacity" "I", Cond.fieldLink RX1 32 "GaugeBounds$Battery" "mostCapacity" "I", Cond.fieldLink RX1 35 "GaugeBounds$Battery" "offset" "I", Cond.fieldLink RX1 38 "GaugeBounds$Battery" "cling" "I", Cond.fieldLink RX1 61 "GaugeBounds$Battery" "drawn" "I", Cond.fieldLink RX1 64 "GaugeBounds$Battery" "steps" "I", Cond.fieldLink RX1 67 "GaugeBounds$Battery" "rests" "I", Cond.fieldLink RX1 42 "GaugeBounds$Battery" "lastA" "I", Cond.fieldLink RX1 45 "GaugeBounds$Battery" "lastB" "I", Cond.fieldLink RX1 70 "GaugeBounds$Battery" "clashes" "I", Cond.fieldLink RX1 48 "GaugeBounds$Battery" "shown" "I", Cond.methodLink RX1 51 yX2_copyFrom, Cond.instanceMethod yX2_copyFrom]
def wsX3_restoreMarked_r2 : List Cond := [Cond.selects RX2 yX2_copyFrom yX2_copyFrom, Cond.initialized RX2, Cond.code yX2_copyFrom cX2_copyFrom 2 none, Cond.fieldLink RX2 11 "GaugeBounds$Curve" "points" "[I", Cond.methodLink RX2 15 arraycopyName, Cond.native arraycopyName, Cond.static arraycopyName, Cond.initialized "java/lang/System", Cond.methodLink RX1 55 yX0_copyFrom, Cond.instanceMethod yX0_copyFrom, Cond.selects RX0 yX0_copyFrom yX0_copyFrom, Cond.initialized RX0, Cond.code yX0_copyFrom cX0_copyFrom 2 none, Cond.fieldLink RX0 11 "GaugeBounds$Bands" "sums" "[J", Cond.methodLink RX0 19 arraycopyName, Cond.fieldLink RX0 15 "GaugeBounds$Bands" "counts" "[I"]
def wsX3_restoreMarked : List Cond := .code yX3_restoreMarked cX3_restoreMarked 2 none :: ((wsX3_restoreMarked_r1 ++ wsX3_restoreMarked_r2) ++ wsX30 ++ wsX10 ++ wsX20 ++ wsX00)
def wsX3_keepMarked : List Cond := .code yX3_keepMarked cX3_keepMarked 1 none :: ([.fieldLink RX3 20 "GaugeBounds$States" "marked" "I", .fieldLink RX3 16 "GaugeBounds$States" "size" "I", .methodLink RX3 27 Lib.Math.min.name, .static Lib.Math.min.name, .initialized "java/lang/Math", .code Lib.Math.min.name Lib.Math.min.code 2 (some .int)] ++ wsX30)
def wsX3_takeBack_r1 : List Cond := [Cond.fieldLink RX3 16 "GaugeBounds$States" "size" "I", Cond.fieldLink RX3 20 "GaugeBounds$States" "marked" "I", Cond.methodLink RX3 33 yX3_restoreMarked, Cond.instanceMethod yX3_restoreMarked, Cond.selects RX3 yX3_restoreMarked yX3_restoreMarked, Cond.initialized RX3, Cond.code yX3_restoreMarked cX3_restoreMarked 2 none, Cond.fieldLink RX3 11 "GaugeBounds$States" "ring" "[LGaugeBounds$Battery;", Cond.methodLink RX3 23 yX1_copyFrom, Cond.instanceMethod yX1_copyFrom, Cond.selects RX1 yX1_copyFrom yX1_copyFrom, Cond.initialized RX1, Cond.code yX1_copyFrom cX1_copyFrom 2 none, Cond.fieldLink RX1 12 "GaugeBounds$Battery" "curve" "LGaugeBounds$Curve;", Cond.fieldLink RX1 21 "GaugeBounds$Battery" "bands" "LGaugeBounds$Bands;", Cond.fieldLink RX1 58 "GaugeBounds$Battery" "low" "I", Cond.fieldLink RX1 25 "GaugeBounds$Battery" "high" "I", Cond.fieldLink RX1 29 "GaugeBounds$Battery" "leastCapacity" "I", Cond.fieldLink RX1 32 "GaugeBounds$Battery" "mostCapacity" "I", Cond.fieldLink RX1 35 "GaugeBounds$Battery" "offset" "I", Cond.fieldLink RX1 38 "GaugeBounds$Battery" "cling" "I", Cond.fieldLink RX1 61 "GaugeBounds$Battery" "drawn" "I", Cond.fieldLink RX1 64 "GaugeBounds$Battery" "steps" "I", Cond.fieldLink RX1 67 "GaugeBounds$Battery" "rests" "I"]
def wsX3_takeBack_r2 : List Cond := [Cond.fieldLink RX1 42 "GaugeBounds$Battery" "lastA" "I", Cond.fieldLink RX1 45 "GaugeBounds$Battery" "lastB" "I", Cond.fieldLink RX1 70 "GaugeBounds$Battery" "clashes" "I", Cond.fieldLink RX1 48 "GaugeBounds$Battery" "shown" "I", Cond.methodLink RX1 51 yX2_copyFrom, Cond.instanceMethod yX2_copyFrom, Cond.selects RX2 yX2_copyFrom yX2_copyFrom, Cond.initialized RX2, Cond.code yX2_copyFrom cX2_copyFrom 2 none, Cond.fieldLink RX2 11 "GaugeBounds$Curve" "points" "[I", Cond.methodLink RX2 15 arraycopyName, Cond.native arraycopyName, Cond.static arraycopyName, Cond.initialized "java/lang/System", Cond.methodLink RX1 55 yX0_copyFrom, Cond.instanceMethod yX0_copyFrom, Cond.selects RX0 yX0_copyFrom yX0_copyFrom, Cond.initialized RX0, Cond.code yX0_copyFrom cX0_copyFrom 2 none, Cond.fieldLink RX0 11 "GaugeBounds$Bands" "sums" "[J", Cond.methodLink RX0 19 arraycopyName, Cond.fieldLink RX0 15 "GaugeBounds$Bands" "counts" "[I"]
def wsX3_takeBack : List Cond := .code yX3_takeBack cX3_takeBack 2 none :: ((wsX3_takeBack_r1 ++ wsX3_takeBack_r2) ++ wsX30 ++ wsX10 ++ wsX20 ++ wsX00)
def wsX4_init : List Cond := .code yX4_init cX4_init 1 none :: ([.methodLink RX4 5 objectInit, .instanceMethod objectInit, .code objectInit ⟨#[0xb1]⟩ 1 none, .arrayClass .byte, .fieldLink RX4 11 "GaugeBounds$Text" "bytes" "[B", .arrayClass .int, .fieldLink RX4 15 "GaugeBounds$Text" "kinds" "[I", .fieldLink RX4 19 "GaugeBounds$Text" "firsts" "[I", .fieldLink RX4 22 "GaugeBounds$Text" "seconds" "[I"] ++ wsX40)
def wsX4_length : List Cond := .code yX4_length cX4_length 1 (some .int) :: ([.fieldLink RX4 25 "GaugeBounds$Text" "length" "I"] ++ wsX40)
def wsX4_append : List Cond := .code yX4_append cX4_append 2 (some .int) :: ([.constant RX4 33 (-10000002), .fieldLink RX4 25 "GaugeBounds$Text" "length" "I", .constant RX4 34 (-10000004), .fieldLink RX4 11 "GaugeBounds$Text" "bytes" "[B", .static yX5_within, .initialized RX5, .code yX5_within cX5_within 3 (some .boolean)] ++ wsX40)
def wsX4_empty : List Cond := .code yX4_empty cX4_empty 2 (some .int) :: ([.fieldLink RX4 25 "GaugeBounds$Text" "length" "I"] ++ wsX40)
def wsX4_orders : List Cond := .code yX4_orders cX4_orders 1 (some .int) :: ([.fieldLink RX4 35 "GaugeBounds$Text" "orders" "I"] ++ wsX40)
def wsX4_place : List Cond := .code yX4_place cX4_place 1 (some .int) :: ([.fieldLink RX4 38 "GaugeBounds$Text" "place" "I"] ++ wsX40)
def wsX4_kindOf : List Cond := .code yX4_kindOf cX4_kindOf 2 (some .int) :: ([.fieldLink RX4 35 "GaugeBounds$Text" "orders" "I", .fieldLink RX4 15 "GaugeBounds$Text" "kinds" "[I", .static yX5_within, .initialized RX5, .code yX5_within cX5_within 3 (some .boolean)] ++ wsX40)
def wsX4_firstOf : List Cond := .code yX4_firstOf cX4_firstOf 2 (some .int) :: ([.fieldLink RX4 35 "GaugeBounds$Text" "orders" "I", .fieldLink RX4 19 "GaugeBounds$Text" "firsts" "[I", .static yX5_within, .initialized RX5, .code yX5_within cX5_within 3 (some .boolean)] ++ wsX40)
def wsX4_secondOf : List Cond := .code yX4_secondOf cX4_secondOf 2 (some .int) :: ([.fieldLink RX4 35 "GaugeBounds$Text" "orders" "I", .fieldLink RX4 22 "GaugeBounds$Text" "seconds" "[I", .static yX5_within, .initialized RX5, .code yX5_within cX5_within 3 (some .boolean)] ++ wsX40)
def wsX4_here : List Cond := .code yX4_here cX4_here 1 (some .int) :: ([.fieldLink RX4 38 "GaugeBounds$Text" "place" "I", .fieldLink RX4 25 "GaugeBounds$Text" "length" "I", .fieldLink RX4 11 "GaugeBounds$Text" "bytes" "[B"] ++ wsX40)
def wsX4_skipBlanks : List Cond := .code yX4_skipBlanks cX4_skipBlanks 1 none :: ([.fieldLink RX4 38 "GaugeBounds$Text" "place" "I", .fieldLink RX4 25 "GaugeBounds$Text" "length" "I", .methodLink RX4 48 yX4_here, .instanceMethod yX4_here, .selects RX4 yX4_here yX4_here, .initialized RX4, .code yX4_here cX4_here 1 (some .int), .fieldLink RX4 11 "GaugeBounds$Text" "bytes" "[B"] ++ wsX40)
def wsX4_hasSecond : List Cond := .code yX4_hasSecond cX4_hasSecond 1 (some .boolean) :: ([])
def wsX4_isKind : List Cond := .code yX4_isKind cX4_isKind 1 (some .boolean) :: ([.methodLink RX4 63 yX4_hasSecond, .static yX4_hasSecond, .initialized RX4, .code yX4_hasSecond cX4_hasSecond 1 (some .boolean)])
def wsX4_isFigure : List Cond := .code yX4_isFigure cX4_isFigure 1 (some .boolean) :: ([])
def wsX4_readNumber : List Cond := .code yX4_readNumber cX4_readNumber 5 (some .boolean) :: ([.fieldLink RX4 38 "GaugeBounds$Text" "place" "I", .fieldLink RX4 60 "GaugeBounds$Text" "number" "I", .methodLink RX4 41 yX4_skipBlanks, .instanceMethod yX4_skipBlanks, .selects RX4 yX4_skipBlanks yX4_skipBlanks, .initialized RX4, .code yX4_skipBlanks cX4_skipBlanks 1 none, .fieldLink RX4 25 "GaugeBounds$Text" "length" "I", .methodLink RX4 48 yX4_here, .instanceMethod yX4_here, .selects RX4 yX4_here yX4_here, .code yX4_here cX4_here 1 (some .int), .fieldLink RX4 11 "GaugeBounds$Text" "bytes" "[B", .methodLink RX4 66 yX4_isFigure, .static yX4_isFigure, .code yX4_isFigure cX4_isFigure 1 (some .boolean)] ++ wsX40)
def wsX4_readOrder_r1 : List Cond := [Cond.fieldLink RX4 35 "GaugeBounds$Text" "orders" "I", Cond.fieldLink RX4 38 "GaugeBounds$Text" "place" "I", Cond.fieldLink RX4 60 "GaugeBounds$Text" "number" "I", Cond.fieldLink RX4 15 "GaugeBounds$Text" "kinds" "[I", Cond.fieldLink RX4 19 "GaugeBounds$Text" "firsts" "[I", Cond.fieldLink RX4 22 "GaugeBounds$Text" "seconds" "[I", Cond.methodLink RX4 48 yX4_here, Cond.instanceMethod yX4_here, Cond.selects RX4 yX4_here yX4_here, Cond.initialized RX4, Cond.code yX4_here cX4_here 1 (some .int), Cond.fieldLink RX4 25 "GaugeBounds$Text" "length" "I", Cond.fieldLink RX4 11 "GaugeBounds$Text" "bytes" "[B", Cond.methodLink RX4 52 yX4_isKind, Cond.static yX4_isKind, Cond.code yX4_isKind cX4_isKind 1 (some .boolean), Cond.methodLink RX4 63 yX4_hasSecond, Cond.static yX4_hasSecond, Cond.code yX4_hasSecond cX4_hasSecond 1 (some .boolean), Cond.methodLink RX4 56 yX4_readNumber, Cond.instanceMethod yX4_readNumber, Cond.selects RX4 yX4_readNumber yX4_readNumber, Cond.code yX4_readNumber cX4_readNumber 5 (some .boolean), Cond.methodLink RX4 41 yX4_skipBlanks]
def wsX4_readOrder_r2 : List Cond := [Cond.instanceMethod yX4_skipBlanks, Cond.selects RX4 yX4_skipBlanks yX4_skipBlanks, Cond.code yX4_skipBlanks cX4_skipBlanks 1 none, Cond.methodLink RX4 66 yX4_isFigure, Cond.static yX4_isFigure, Cond.code yX4_isFigure cX4_isFigure 1 (some .boolean)]
def wsX4_readOrder : List Cond := .code yX4_readOrder cX4_readOrder 3 (some .boolean) :: ((wsX4_readOrder_r1 ++ wsX4_readOrder_r2) ++ wsX40)
def wsX4_read_r1 : List Cond := [Cond.fieldLink RX4 38 "GaugeBounds$Text" "place" "I", Cond.fieldLink RX4 35 "GaugeBounds$Text" "orders" "I", Cond.fieldLink RX4 25 "GaugeBounds$Text" "length" "I", Cond.methodLink RX4 41 yX4_skipBlanks, Cond.instanceMethod yX4_skipBlanks, Cond.selects RX4 yX4_skipBlanks yX4_skipBlanks, Cond.initialized RX4, Cond.code yX4_skipBlanks cX4_skipBlanks 1 none, Cond.methodLink RX4 48 yX4_here, Cond.instanceMethod yX4_here, Cond.selects RX4 yX4_here yX4_here, Cond.code yX4_here cX4_here 1 (some .int), Cond.fieldLink RX4 11 "GaugeBounds$Text" "bytes" "[B", Cond.methodLink RX4 44 yX4_readOrder, Cond.instanceMethod yX4_readOrder, Cond.selects RX4 yX4_readOrder yX4_readOrder, Cond.code yX4_readOrder cX4_readOrder 3 (some .boolean), Cond.fieldLink RX4 60 "GaugeBounds$Text" "number" "I", Cond.fieldLink RX4 15 "GaugeBounds$Text" "kinds" "[I", Cond.fieldLink RX4 19 "GaugeBounds$Text" "firsts" "[I", Cond.fieldLink RX4 22 "GaugeBounds$Text" "seconds" "[I", Cond.methodLink RX4 52 yX4_isKind, Cond.static yX4_isKind, Cond.code yX4_isKind cX4_isKind 1 (some .boolean)]
def wsX4_read_r2 : List Cond := [Cond.methodLink RX4 63 yX4_hasSecond, Cond.static yX4_hasSecond, Cond.code yX4_hasSecond cX4_hasSecond 1 (some .boolean), Cond.methodLink RX4 56 yX4_readNumber, Cond.instanceMethod yX4_readNumber, Cond.selects RX4 yX4_readNumber yX4_readNumber, Cond.code yX4_readNumber cX4_readNumber 5 (some .boolean), Cond.methodLink RX4 66 yX4_isFigure, Cond.static yX4_isFigure, Cond.code yX4_isFigure cX4_isFigure 1 (some .boolean)]
def wsX4_read : List Cond := .code yX4_read cX4_read 2 (some .boolean) :: ((wsX4_read_r1 ++ wsX4_read_r2) ++ wsX40)
def wsX5_init_r1 : List Cond := [Cond.methodLink RX5 1 objectInit, Cond.instanceMethod objectInit, Cond.code objectInit ⟨#[0xb1]⟩ 1 none, Cond.classLink RX5 7 RX1, Cond.instantiable RX1 15, Cond.initialized RX1, Cond.fieldLink RX5 10 "GaugeBounds" "battery" "LGaugeBounds$Battery;", Cond.classLink RX5 16 RX3, Cond.instantiable RX3 3, Cond.initialized RX3, Cond.fieldLink RX5 19 "GaugeBounds" "states" "LGaugeBounds$States;", Cond.classLink RX5 23 RX4, Cond.instantiable RX4 8, Cond.initialized RX4, Cond.fieldLink RX5 26 "GaugeBounds" "text" "LGaugeBounds$Text;", Cond.methodLink RX5 9 yX1_init, Cond.instanceMethod yX1_init, Cond.code yX1_init cX1_init 1 none, Cond.methodLink RX1 5 objectInit, Cond.classLink RX1 1 RX2, Cond.instantiable RX2 1, Cond.initialized RX2, Cond.fieldLink RX1 12 "GaugeBounds$Battery" "curve" "LGaugeBounds$Curve;", Cond.classLink RX1 18 RX0]
def wsX5_init_r2 : List Cond := [Cond.instantiable RX0 2, Cond.initialized RX0, Cond.fieldLink RX1 21 "GaugeBounds$Battery" "bands" "LGaugeBounds$Bands;", Cond.fieldLink RX1 25 "GaugeBounds$Battery" "high" "I", Cond.fieldLink RX1 29 "GaugeBounds$Battery" "leastCapacity" "I", Cond.fieldLink RX1 32 "GaugeBounds$Battery" "mostCapacity" "I", Cond.fieldLink RX1 35 "GaugeBounds$Battery" "offset" "I", Cond.fieldLink RX1 38 "GaugeBounds$Battery" "cling" "I", Cond.constant RX1 41 (-10000001), Cond.fieldLink RX1 42 "GaugeBounds$Battery" "lastA" "I", Cond.fieldLink RX1 45 "GaugeBounds$Battery" "lastB" "I", Cond.fieldLink RX1 48 "GaugeBounds$Battery" "shown" "I", Cond.methodLink RX1 11 yX2_init, Cond.instanceMethod yX2_init, Cond.code yX2_init cX2_init 2 none, Cond.methodLink RX2 3 objectInit, Cond.arrayClass .int, Cond.fieldLink RX2 11 "GaugeBounds$Curve" "points" "[I", Cond.methodLink RX1 20 yX0_init, Cond.instanceMethod yX0_init, Cond.code yX0_init cX0_init 1 none, Cond.methodLink RX0 3 objectInit, Cond.arrayClass .long, Cond.fieldLink RX0 11 "GaugeBounds$Bands" "sums" "[J"]
def wsX5_init_r3 : List Cond := [Cond.fieldLink RX0 15 "GaugeBounds$Bands" "counts" "[I", Cond.methodLink RX5 18 yX3_init, Cond.instanceMethod yX3_init, Cond.code yX3_init cX3_init 2 none, Cond.methodLink RX3 3 objectInit, Cond.classLink RX3 9 RX1, Cond.fieldLink RX3 11 "GaugeBounds$States" "ring" "[LGaugeBounds$Battery;", Cond.methodLink RX3 15 yX1_init, Cond.methodLink RX5 25 yX4_init, Cond.instanceMethod yX4_init, Cond.code yX4_init cX4_init 1 none, Cond.methodLink RX4 5 objectInit, Cond.arrayClass .byte, Cond.fieldLink RX4 11 "GaugeBounds$Text" "bytes" "[B", Cond.fieldLink RX4 15 "GaugeBounds$Text" "kinds" "[I", Cond.fieldLink RX4 19 "GaugeBounds$Text" "firsts" "[I", Cond.fieldLink RX4 22 "GaugeBounds$Text" "seconds" "[I"]
def wsX5_init : List Cond := .code yX5_init cX5_init 1 none :: ((wsX5_init_r1 ++ (wsX5_init_r2 ++ wsX5_init_r3)) ++ wsX10 ++ wsX50 ++ wsX30 ++ wsX40 ++ wsX20 ++ wsX00)
def wsX5_isRefusal : List Cond := .code yX5_isRefusal cX5_isRefusal 1 (some .boolean) :: ([.constant RX5 67 (-10000002), .constant RX5 129 (-10000003), .constant RX5 170 (-10000004)])
def wsX5_counted : List Cond := .code yX5_counted cX5_counted 2 (some .int) :: ([.constant RX5 67 (-10000002), .fieldLink RX5 133 "GaugeBounds" "timesBad" "I", .constant RX5 129 (-10000003), .fieldLink RX5 137 "GaugeBounds" "timesNo" "I", .constant RX5 170 (-10000004), .fieldLink RX5 140 "GaugeBounds" "timesFull" "I"] ++ wsX50)
def wsX5_settled_r1 : List Cond := [Cond.fieldLink RX5 19 "GaugeBounds" "states" "LGaugeBounds$States;", Cond.methodLink RX5 116 yX5_isRefusal, Cond.static yX5_isRefusal, Cond.initialized RX5, Cond.code yX5_isRefusal cX5_isRefusal 1 (some .boolean), Cond.constant RX5 67 (-10000002), Cond.constant RX5 129 (-10000003), Cond.constant RX5 170 (-10000004), Cond.methodLink RX5 123 yX3_keepMarked, Cond.instanceMethod yX3_keepMarked, Cond.selects RX3 yX3_keepMarked yX3_keepMarked, Cond.initialized RX3, Cond.code yX3_keepMarked cX3_keepMarked 1 none, Cond.fieldLink RX3 20 "GaugeBounds$States" "marked" "I", Cond.fieldLink RX3 16 "GaugeBounds$States" "size" "I", Cond.methodLink RX3 27 Lib.Math.min.name, Cond.static Lib.Math.min.name, Cond.initialized "java/lang/Math", Cond.code Lib.Math.min.name Lib.Math.min.code 2 (some .int), Cond.methodLink RX5 68 yX5_counted, Cond.instanceMethod yX5_counted, Cond.selects RX5 yX5_counted yX5_counted, Cond.code yX5_counted cX5_counted 2 (some .int), Cond.fieldLink RX5 133 "GaugeBounds" "timesBad" "I"]
def wsX5_settled_r2 : List Cond := [Cond.fieldLink RX5 137 "GaugeBounds" "timesNo" "I", Cond.fieldLink RX5 140 "GaugeBounds" "timesFull" "I"]
def wsX5_settled : List Cond := .code yX5_settled cX5_settled 2 (some .int) :: ((wsX5_settled_r1 ++ wsX5_settled_r2) ++ wsX50 ++ wsX30)
def wsX5_begins_r1 : List Cond := [Cond.fieldLink RX5 19 "GaugeBounds" "states" "LGaugeBounds$States;", Cond.fieldLink RX5 10 "GaugeBounds" "battery" "LGaugeBounds$Battery;", Cond.methodLink RX5 30 yX3_mark, Cond.instanceMethod yX3_mark, Cond.selects RX3 yX3_mark yX3_mark, Cond.initialized RX3, Cond.code yX3_mark cX3_mark 2 none, Cond.fieldLink RX3 11 "GaugeBounds$States" "ring" "[LGaugeBounds$Battery;", Cond.fieldLink RX3 20 "GaugeBounds$States" "marked" "I", Cond.methodLink RX3 23 yX1_copyFrom, Cond.instanceMethod yX1_copyFrom, Cond.selects RX1 yX1_copyFrom yX1_copyFrom, Cond.initialized RX1, Cond.code yX1_copyFrom cX1_copyFrom 2 none, Cond.fieldLink RX1 12 "GaugeBounds$Battery" "curve" "LGaugeBounds$Curve;", Cond.fieldLink RX1 21 "GaugeBounds$Battery" "bands" "LGaugeBounds$Bands;", Cond.fieldLink RX1 58 "GaugeBounds$Battery" "low" "I", Cond.fieldLink RX1 25 "GaugeBounds$Battery" "high" "I", Cond.fieldLink RX1 29 "GaugeBounds$Battery" "leastCapacity" "I", Cond.fieldLink RX1 32 "GaugeBounds$Battery" "mostCapacity" "I", Cond.fieldLink RX1 35 "GaugeBounds$Battery" "offset" "I", Cond.fieldLink RX1 38 "GaugeBounds$Battery" "cling" "I", Cond.fieldLink RX1 61 "GaugeBounds$Battery" "drawn" "I", Cond.fieldLink RX1 64 "GaugeBounds$Battery" "steps" "I"]
def wsX5_begins_r2 : List Cond := [Cond.fieldLink RX1 67 "GaugeBounds$Battery" "rests" "I", Cond.fieldLink RX1 42 "GaugeBounds$Battery" "lastA" "I", Cond.fieldLink RX1 45 "GaugeBounds$Battery" "lastB" "I", Cond.fieldLink RX1 70 "GaugeBounds$Battery" "clashes" "I", Cond.fieldLink RX1 48 "GaugeBounds$Battery" "shown" "I", Cond.methodLink RX1 51 yX2_copyFrom, Cond.instanceMethod yX2_copyFrom, Cond.selects RX2 yX2_copyFrom yX2_copyFrom, Cond.initialized RX2, Cond.code yX2_copyFrom cX2_copyFrom 2 none, Cond.fieldLink RX2 11 "GaugeBounds$Curve" "points" "[I", Cond.methodLink RX2 15 arraycopyName, Cond.native arraycopyName, Cond.static arraycopyName, Cond.initialized "java/lang/System", Cond.methodLink RX1 55 yX0_copyFrom, Cond.instanceMethod yX0_copyFrom, Cond.selects RX0 yX0_copyFrom yX0_copyFrom, Cond.initialized RX0, Cond.code yX0_copyFrom cX0_copyFrom 2 none, Cond.fieldLink RX0 11 "GaugeBounds$Bands" "sums" "[J", Cond.methodLink RX0 19 arraycopyName, Cond.fieldLink RX0 15 "GaugeBounds$Bands" "counts" "[I", Cond.methodLink RX5 34 yX1_begin]
def wsX5_begins_r3 : List Cond := [Cond.instanceMethod yX1_begin, Cond.selects RX1 yX1_begin yX1_begin, Cond.code yX1_begin cX1_begin 4 (some .int), Cond.constant RX1 77 (-10000002), Cond.constant RX1 41 (-10000001), Cond.methodLink RX1 73 yX1_isRange, Cond.static yX1_isRange, Cond.code yX1_isRange cX1_isRange 2 (some .boolean), Cond.constant RX1 164 (99999), Cond.static yX5_within, Cond.initialized RX5, Cond.code yX5_within cX5_within 3 (some .boolean), Cond.methodLink RX1 78 yX0_forget, Cond.instanceMethod yX0_forget, Cond.selects RX0 yX0_forget yX0_forget, Cond.code yX0_forget cX0_forget 2 none, Cond.methodLink RX5 38 yX5_settled, Cond.instanceMethod yX5_settled, Cond.selects RX5 yX5_settled yX5_settled, Cond.code yX5_settled cX5_settled 2 (some .int), Cond.methodLink RX5 116 yX5_isRefusal, Cond.static yX5_isRefusal, Cond.code yX5_isRefusal cX5_isRefusal 1 (some .boolean), Cond.constant RX5 67 (-10000002)]
def wsX5_begins_r4 : List Cond := [Cond.constant RX5 129 (-10000003), Cond.constant RX5 170 (-10000004), Cond.methodLink RX5 123 yX3_keepMarked, Cond.instanceMethod yX3_keepMarked, Cond.selects RX3 yX3_keepMarked yX3_keepMarked, Cond.code yX3_keepMarked cX3_keepMarked 1 none, Cond.fieldLink RX3 16 "GaugeBounds$States" "size" "I", Cond.methodLink RX3 27 Lib.Math.min.name, Cond.static Lib.Math.min.name, Cond.initialized "java/lang/Math", Cond.code Lib.Math.min.name Lib.Math.min.code 2 (some .int), Cond.methodLink RX5 68 yX5_counted, Cond.instanceMethod yX5_counted, Cond.selects RX5 yX5_counted yX5_counted, Cond.code yX5_counted cX5_counted 2 (some .int), Cond.fieldLink RX5 133 "GaugeBounds" "timesBad" "I", Cond.fieldLink RX5 137 "GaugeBounds" "timesNo" "I", Cond.fieldLink RX5 140 "GaugeBounds" "timesFull" "I"]
def wsX5_begins : List Cond := .code yX5_begins cX5_begins 3 (some .int) :: ((wsX5_begins_r1 ++ (wsX5_begins_r2 ++ (wsX5_begins_r3 ++ wsX5_begins_r4))) ++ wsX50 ++ wsX30 ++ wsX10 ++ wsX20 ++ wsX00)
def wsX5_holds_r1 : List Cond := [Cond.fieldLink RX5 19 "GaugeBounds" "states" "LGaugeBounds$States;", Cond.fieldLink RX5 10 "GaugeBounds" "battery" "LGaugeBounds$Battery;", Cond.methodLink RX5 30 yX3_mark, Cond.instanceMethod yX3_mark, Cond.selects RX3 yX3_mark yX3_mark, Cond.initialized RX3, Cond.code yX3_mark cX3_mark 2 none, Cond.fieldLink RX3 11 "GaugeBounds$States" "ring" "[LGaugeBounds$Battery;", Cond.fieldLink RX3 20 "GaugeBounds$States" "marked" "I", Cond.methodLink RX3 23 yX1_copyFrom, Cond.instanceMethod yX1_copyFrom, Cond.selects RX1 yX1_copyFrom yX1_copyFrom, Cond.initialized RX1, Cond.code yX1_copyFrom cX1_copyFrom 2 none, Cond.fieldLink RX1 12 "GaugeBounds$Battery" "curve" "LGaugeBounds$Curve;", Cond.fieldLink RX1 21 "GaugeBounds$Battery" "bands" "LGaugeBounds$Bands;", Cond.fieldLink RX1 58 "GaugeBounds$Battery" "low" "I", Cond.fieldLink RX1 25 "GaugeBounds$Battery" "high" "I", Cond.fieldLink RX1 29 "GaugeBounds$Battery" "leastCapacity" "I", Cond.fieldLink RX1 32 "GaugeBounds$Battery" "mostCapacity" "I", Cond.fieldLink RX1 35 "GaugeBounds$Battery" "offset" "I", Cond.fieldLink RX1 38 "GaugeBounds$Battery" "cling" "I", Cond.fieldLink RX1 61 "GaugeBounds$Battery" "drawn" "I", Cond.fieldLink RX1 64 "GaugeBounds$Battery" "steps" "I"]
def wsX5_holds_r2 : List Cond := [Cond.fieldLink RX1 67 "GaugeBounds$Battery" "rests" "I", Cond.fieldLink RX1 42 "GaugeBounds$Battery" "lastA" "I", Cond.fieldLink RX1 45 "GaugeBounds$Battery" "lastB" "I", Cond.fieldLink RX1 70 "GaugeBounds$Battery" "clashes" "I", Cond.fieldLink RX1 48 "GaugeBounds$Battery" "shown" "I", Cond.methodLink RX1 51 yX2_copyFrom, Cond.instanceMethod yX2_copyFrom, Cond.selects RX2 yX2_copyFrom yX2_copyFrom, Cond.initialized RX2, Cond.code yX2_copyFrom cX2_copyFrom 2 none, Cond.fieldLink RX2 11 "GaugeBounds$Curve" "points" "[I", Cond.methodLink RX2 15 arraycopyName, Cond.native arraycopyName, Cond.static arraycopyName, Cond.initialized "java/lang/System", Cond.methodLink RX1 55 yX0_copyFrom, Cond.instanceMethod yX0_copyFrom, Cond.selects RX0 yX0_copyFrom yX0_copyFrom, Cond.initialized RX0, Cond.code yX0_copyFrom cX0_copyFrom 2 none, Cond.fieldLink RX0 11 "GaugeBounds$Bands" "sums" "[J", Cond.methodLink RX0 19 arraycopyName, Cond.fieldLink RX0 15 "GaugeBounds$Bands" "counts" "[I", Cond.methodLink RX5 42 yX1_hold]
def wsX5_holds_r3 : List Cond := [Cond.instanceMethod yX1_hold, Cond.selects RX1 yX1_hold yX1_hold, Cond.code yX1_hold cX1_hold 4 (some .int), Cond.constant RX1 77 (-10000002), Cond.methodLink RX1 73 yX1_isRange, Cond.static yX1_isRange, Cond.code yX1_isRange cX1_isRange 2 (some .boolean), Cond.constant RX1 164 (99999), Cond.static yX5_within, Cond.initialized RX5, Cond.code yX5_within cX5_within 3 (some .boolean), Cond.methodLink RX5 38 yX5_settled, Cond.instanceMethod yX5_settled, Cond.selects RX5 yX5_settled yX5_settled, Cond.code yX5_settled cX5_settled 2 (some .int), Cond.methodLink RX5 116 yX5_isRefusal, Cond.static yX5_isRefusal, Cond.code yX5_isRefusal cX5_isRefusal 1 (some .boolean), Cond.constant RX5 67 (-10000002), Cond.constant RX5 129 (-10000003), Cond.constant RX5 170 (-10000004), Cond.methodLink RX5 123 yX3_keepMarked, Cond.instanceMethod yX3_keepMarked, Cond.selects RX3 yX3_keepMarked yX3_keepMarked]
def wsX5_holds_r4 : List Cond := [Cond.code yX3_keepMarked cX3_keepMarked 1 none, Cond.fieldLink RX3 16 "GaugeBounds$States" "size" "I", Cond.methodLink RX3 27 Lib.Math.min.name, Cond.static Lib.Math.min.name, Cond.initialized "java/lang/Math", Cond.code Lib.Math.min.name Lib.Math.min.code 2 (some .int), Cond.methodLink RX5 68 yX5_counted, Cond.instanceMethod yX5_counted, Cond.selects RX5 yX5_counted yX5_counted, Cond.code yX5_counted cX5_counted 2 (some .int), Cond.fieldLink RX5 133 "GaugeBounds" "timesBad" "I", Cond.fieldLink RX5 137 "GaugeBounds" "timesNo" "I", Cond.fieldLink RX5 140 "GaugeBounds" "timesFull" "I"]
def wsX5_holds : List Cond := .code yX5_holds cX5_holds 3 (some .int) :: ((wsX5_holds_r1 ++ (wsX5_holds_r2 ++ (wsX5_holds_r3 ++ wsX5_holds_r4))) ++ wsX50 ++ wsX30 ++ wsX10 ++ wsX20 ++ wsX00)
def wsX5_offset_r1 : List Cond := [Cond.fieldLink RX5 19 "GaugeBounds" "states" "LGaugeBounds$States;", Cond.fieldLink RX5 10 "GaugeBounds" "battery" "LGaugeBounds$Battery;", Cond.methodLink RX5 30 yX3_mark, Cond.instanceMethod yX3_mark, Cond.selects RX3 yX3_mark yX3_mark, Cond.initialized RX3, Cond.code yX3_mark cX3_mark 2 none, Cond.fieldLink RX3 11 "GaugeBounds$States" "ring" "[LGaugeBounds$Battery;", Cond.fieldLink RX3 20 "GaugeBounds$States" "marked" "I", Cond.methodLink RX3 23 yX1_copyFrom, Cond.instanceMethod yX1_copyFrom, Cond.selects RX1 yX1_copyFrom yX1_copyFrom, Cond.initialized RX1, Cond.code yX1_copyFrom cX1_copyFrom 2 none, Cond.fieldLink RX1 12 "GaugeBounds$Battery" "curve" "LGaugeBounds$Curve;", Cond.fieldLink RX1 21 "GaugeBounds$Battery" "bands" "LGaugeBounds$Bands;", Cond.fieldLink RX1 58 "GaugeBounds$Battery" "low" "I", Cond.fieldLink RX1 25 "GaugeBounds$Battery" "high" "I", Cond.fieldLink RX1 29 "GaugeBounds$Battery" "leastCapacity" "I", Cond.fieldLink RX1 32 "GaugeBounds$Battery" "mostCapacity" "I", Cond.fieldLink RX1 35 "GaugeBounds$Battery" "offset" "I", Cond.fieldLink RX1 38 "GaugeBounds$Battery" "cling" "I", Cond.fieldLink RX1 61 "GaugeBounds$Battery" "drawn" "I", Cond.fieldLink RX1 64 "GaugeBounds$Battery" "steps" "I"]
def wsX5_offset_r2 : List Cond := [Cond.fieldLink RX1 67 "GaugeBounds$Battery" "rests" "I", Cond.fieldLink RX1 42 "GaugeBounds$Battery" "lastA" "I", Cond.fieldLink RX1 45 "GaugeBounds$Battery" "lastB" "I", Cond.fieldLink RX1 70 "GaugeBounds$Battery" "clashes" "I", Cond.fieldLink RX1 48 "GaugeBounds$Battery" "shown" "I", Cond.methodLink RX1 51 yX2_copyFrom, Cond.instanceMethod yX2_copyFrom, Cond.selects RX2 yX2_copyFrom yX2_copyFrom, Cond.initialized RX2, Cond.code yX2_copyFrom cX2_copyFrom 2 none, Cond.fieldLink RX2 11 "GaugeBounds$Curve" "points" "[I", Cond.methodLink RX2 15 arraycopyName, Cond.native arraycopyName, Cond.static arraycopyName, Cond.initialized "java/lang/System", Cond.methodLink RX1 55 yX0_copyFrom, Cond.instanceMethod yX0_copyFrom, Cond.selects RX0 yX0_copyFrom yX0_copyFrom, Cond.initialized RX0, Cond.code yX0_copyFrom cX0_copyFrom 2 none, Cond.fieldLink RX0 11 "GaugeBounds$Bands" "sums" "[J", Cond.methodLink RX0 19 arraycopyName, Cond.fieldLink RX0 15 "GaugeBounds$Bands" "counts" "[I", Cond.methodLink RX5 45 yX1_putOffset]
def wsX5_offset_r3 : List Cond := [Cond.instanceMethod yX1_putOffset, Cond.selects RX1 yX1_putOffset yX1_putOffset, Cond.code yX1_putOffset cX1_putOffset 3 (some .int), Cond.constant RX1 77 (-10000002), Cond.static yX5_within, Cond.initialized RX5, Cond.code yX5_within cX5_within 3 (some .boolean), Cond.methodLink RX5 38 yX5_settled, Cond.instanceMethod yX5_settled, Cond.selects RX5 yX5_settled yX5_settled, Cond.code yX5_settled cX5_settled 2 (some .int), Cond.methodLink RX5 116 yX5_isRefusal, Cond.static yX5_isRefusal, Cond.code yX5_isRefusal cX5_isRefusal 1 (some .boolean), Cond.constant RX5 67 (-10000002), Cond.constant RX5 129 (-10000003), Cond.constant RX5 170 (-10000004), Cond.methodLink RX5 123 yX3_keepMarked, Cond.instanceMethod yX3_keepMarked, Cond.selects RX3 yX3_keepMarked yX3_keepMarked, Cond.code yX3_keepMarked cX3_keepMarked 1 none, Cond.fieldLink RX3 16 "GaugeBounds$States" "size" "I", Cond.methodLink RX3 27 Lib.Math.min.name, Cond.static Lib.Math.min.name]
def wsX5_offset_r4 : List Cond := [Cond.initialized "java/lang/Math", Cond.code Lib.Math.min.name Lib.Math.min.code 2 (some .int), Cond.methodLink RX5 68 yX5_counted, Cond.instanceMethod yX5_counted, Cond.selects RX5 yX5_counted yX5_counted, Cond.code yX5_counted cX5_counted 2 (some .int), Cond.fieldLink RX5 133 "GaugeBounds" "timesBad" "I", Cond.fieldLink RX5 137 "GaugeBounds" "timesNo" "I", Cond.fieldLink RX5 140 "GaugeBounds" "timesFull" "I"]
def wsX5_offset : List Cond := .code yX5_offset cX5_offset 2 (some .int) :: ((wsX5_offset_r1 ++ (wsX5_offset_r2 ++ (wsX5_offset_r3 ++ wsX5_offset_r4))) ++ wsX50 ++ wsX30 ++ wsX10 ++ wsX20 ++ wsX00)
def wsX5_clings_r1 : List Cond := [Cond.fieldLink RX5 19 "GaugeBounds" "states" "LGaugeBounds$States;", Cond.fieldLink RX5 10 "GaugeBounds" "battery" "LGaugeBounds$Battery;", Cond.methodLink RX5 30 yX3_mark, Cond.instanceMethod yX3_mark, Cond.selects RX3 yX3_mark yX3_mark, Cond.initialized RX3, Cond.code yX3_mark cX3_mark 2 none, Cond.fieldLink RX3 11 "GaugeBounds$States" "ring" "[LGaugeBounds$Battery;", Cond.fieldLink RX3 20 "GaugeBounds$States" "marked" "I", Cond.methodLink RX3 23 yX1_copyFrom, Cond.instanceMethod yX1_copyFrom, Cond.selects RX1 yX1_copyFrom yX1_copyFrom, Cond.initialized RX1, Cond.code yX1_copyFrom cX1_copyFrom 2 none, Cond.fieldLink RX1 12 "GaugeBounds$Battery" "curve" "LGaugeBounds$Curve;", Cond.fieldLink RX1 21 "GaugeBounds$Battery" "bands" "LGaugeBounds$Bands;", Cond.fieldLink RX1 58 "GaugeBounds$Battery" "low" "I", Cond.fieldLink RX1 25 "GaugeBounds$Battery" "high" "I", Cond.fieldLink RX1 29 "GaugeBounds$Battery" "leastCapacity" "I", Cond.fieldLink RX1 32 "GaugeBounds$Battery" "mostCapacity" "I", Cond.fieldLink RX1 35 "GaugeBounds$Battery" "offset" "I", Cond.fieldLink RX1 38 "GaugeBounds$Battery" "cling" "I", Cond.fieldLink RX1 61 "GaugeBounds$Battery" "drawn" "I", Cond.fieldLink RX1 64 "GaugeBounds$Battery" "steps" "I"]
def wsX5_clings_r2 : List Cond := [Cond.fieldLink RX1 67 "GaugeBounds$Battery" "rests" "I", Cond.fieldLink RX1 42 "GaugeBounds$Battery" "lastA" "I", Cond.fieldLink RX1 45 "GaugeBounds$Battery" "lastB" "I", Cond.fieldLink RX1 70 "GaugeBounds$Battery" "clashes" "I", Cond.fieldLink RX1 48 "GaugeBounds$Battery" "shown" "I", Cond.methodLink RX1 51 yX2_copyFrom, Cond.instanceMethod yX2_copyFrom, Cond.selects RX2 yX2_copyFrom yX2_copyFrom, Cond.initialized RX2, Cond.code yX2_copyFrom cX2_copyFrom 2 none, Cond.fieldLink RX2 11 "GaugeBounds$Curve" "points" "[I", Cond.methodLink RX2 15 arraycopyName, Cond.native arraycopyName, Cond.static arraycopyName, Cond.initialized "java/lang/System", Cond.methodLink RX1 55 yX0_copyFrom, Cond.instanceMethod yX0_copyFrom, Cond.selects RX0 yX0_copyFrom yX0_copyFrom, Cond.initialized RX0, Cond.code yX0_copyFrom cX0_copyFrom 2 none, Cond.fieldLink RX0 11 "GaugeBounds$Bands" "sums" "[J", Cond.methodLink RX0 19 arraycopyName, Cond.fieldLink RX0 15 "GaugeBounds$Bands" "counts" "[I", Cond.methodLink RX5 48 yX1_putCling]
def wsX5_clings_r3 : List Cond := [Cond.instanceMethod yX1_putCling, Cond.selects RX1 yX1_putCling yX1_putCling, Cond.code yX1_putCling cX1_putCling 3 (some .int), Cond.constant RX1 77 (-10000002), Cond.static yX5_within, Cond.initialized RX5, Cond.code yX5_within cX5_within 3 (some .boolean), Cond.methodLink RX5 38 yX5_settled, Cond.instanceMethod yX5_settled, Cond.selects RX5 yX5_settled yX5_settled, Cond.code yX5_settled cX5_settled 2 (some .int), Cond.methodLink RX5 116 yX5_isRefusal, Cond.static yX5_isRefusal, Cond.code yX5_isRefusal cX5_isRefusal 1 (some .boolean), Cond.constant RX5 67 (-10000002), Cond.constant RX5 129 (-10000003), Cond.constant RX5 170 (-10000004), Cond.methodLink RX5 123 yX3_keepMarked, Cond.instanceMethod yX3_keepMarked, Cond.selects RX3 yX3_keepMarked yX3_keepMarked, Cond.code yX3_keepMarked cX3_keepMarked 1 none, Cond.fieldLink RX3 16 "GaugeBounds$States" "size" "I", Cond.methodLink RX3 27 Lib.Math.min.name, Cond.static Lib.Math.min.name]
def wsX5_clings_r4 : List Cond := [Cond.initialized "java/lang/Math", Cond.code Lib.Math.min.name Lib.Math.min.code 2 (some .int), Cond.methodLink RX5 68 yX5_counted, Cond.instanceMethod yX5_counted, Cond.selects RX5 yX5_counted yX5_counted, Cond.code yX5_counted cX5_counted 2 (some .int), Cond.fieldLink RX5 133 "GaugeBounds" "timesBad" "I", Cond.fieldLink RX5 137 "GaugeBounds" "timesNo" "I", Cond.fieldLink RX5 140 "GaugeBounds" "timesFull" "I"]
def wsX5_clings : List Cond := .code yX5_clings cX5_clings 2 (some .int) :: ((wsX5_clings_r1 ++ (wsX5_clings_r2 ++ (wsX5_clings_r3 ++ wsX5_clings_r4))) ++ wsX50 ++ wsX30 ++ wsX10 ++ wsX20 ++ wsX00)
def wsX5_curve_r1 : List Cond := [Cond.fieldLink RX5 19 "GaugeBounds" "states" "LGaugeBounds$States;", Cond.fieldLink RX5 10 "GaugeBounds" "battery" "LGaugeBounds$Battery;", Cond.methodLink RX5 30 yX3_mark, Cond.instanceMethod yX3_mark, Cond.selects RX3 yX3_mark yX3_mark, Cond.initialized RX3, Cond.code yX3_mark cX3_mark 2 none, Cond.fieldLink RX3 11 "GaugeBounds$States" "ring" "[LGaugeBounds$Battery;", Cond.fieldLink RX3 20 "GaugeBounds$States" "marked" "I", Cond.methodLink RX3 23 yX1_copyFrom, Cond.instanceMethod yX1_copyFrom, Cond.selects RX1 yX1_copyFrom yX1_copyFrom, Cond.initialized RX1, Cond.code yX1_copyFrom cX1_copyFrom 2 none, Cond.fieldLink RX1 12 "GaugeBounds$Battery" "curve" "LGaugeBounds$Curve;", Cond.fieldLink RX1 21 "GaugeBounds$Battery" "bands" "LGaugeBounds$Bands;", Cond.fieldLink RX1 58 "GaugeBounds$Battery" "low" "I", Cond.fieldLink RX1 25 "GaugeBounds$Battery" "high" "I", Cond.fieldLink RX1 29 "GaugeBounds$Battery" "leastCapacity" "I", Cond.fieldLink RX1 32 "GaugeBounds$Battery" "mostCapacity" "I", Cond.fieldLink RX1 35 "GaugeBounds$Battery" "offset" "I", Cond.fieldLink RX1 38 "GaugeBounds$Battery" "cling" "I", Cond.fieldLink RX1 61 "GaugeBounds$Battery" "drawn" "I", Cond.fieldLink RX1 64 "GaugeBounds$Battery" "steps" "I"]
def wsX5_curve_r2 : List Cond := [Cond.fieldLink RX1 67 "GaugeBounds$Battery" "rests" "I", Cond.fieldLink RX1 42 "GaugeBounds$Battery" "lastA" "I", Cond.fieldLink RX1 45 "GaugeBounds$Battery" "lastB" "I", Cond.fieldLink RX1 70 "GaugeBounds$Battery" "clashes" "I", Cond.fieldLink RX1 48 "GaugeBounds$Battery" "shown" "I", Cond.methodLink RX1 51 yX2_copyFrom, Cond.instanceMethod yX2_copyFrom, Cond.selects RX2 yX2_copyFrom yX2_copyFrom, Cond.initialized RX2, Cond.code yX2_copyFrom cX2_copyFrom 2 none, Cond.fieldLink RX2 11 "GaugeBounds$Curve" "points" "[I", Cond.methodLink RX2 15 arraycopyName, Cond.native arraycopyName, Cond.static arraycopyName, Cond.initialized "java/lang/System", Cond.methodLink RX1 55 yX0_copyFrom, Cond.instanceMethod yX0_copyFrom, Cond.selects RX0 yX0_copyFrom yX0_copyFrom, Cond.initialized RX0, Cond.code yX0_copyFrom cX0_copyFrom 2 none, Cond.fieldLink RX0 11 "GaugeBounds$Bands" "sums" "[J", Cond.methodLink RX0 19 arraycopyName, Cond.fieldLink RX0 15 "GaugeBounds$Bands" "counts" "[I", Cond.methodLink RX5 51 yX1_putPoint]
def wsX5_curve_r3 : List Cond := [Cond.instanceMethod yX1_putPoint, Cond.selects RX1 yX1_putPoint yX1_putPoint, Cond.code yX1_putPoint cX1_putPoint 3 (some .int), Cond.methodLink RX1 85 yX2_putPoint, Cond.instanceMethod yX2_putPoint, Cond.selects RX2 yX2_putPoint yX2_putPoint, Cond.code yX2_putPoint cX2_putPoint 4 (some .int), Cond.constant RX2 25 (-10000002), Cond.constant RX2 26 (-10000003), Cond.static yX5_within, Cond.initialized RX5, Cond.code yX5_within cX5_within 3 (some .boolean), Cond.methodLink RX5 38 yX5_settled, Cond.instanceMethod yX5_settled, Cond.selects RX5 yX5_settled yX5_settled, Cond.code yX5_settled cX5_settled 2 (some .int), Cond.methodLink RX5 116 yX5_isRefusal, Cond.static yX5_isRefusal, Cond.code yX5_isRefusal cX5_isRefusal 1 (some .boolean), Cond.constant RX5 67 (-10000002), Cond.constant RX5 129 (-10000003), Cond.constant RX5 170 (-10000004), Cond.methodLink RX5 123 yX3_keepMarked, Cond.instanceMethod yX3_keepMarked]
def wsX5_curve_r4 : List Cond := [Cond.selects RX3 yX3_keepMarked yX3_keepMarked, Cond.code yX3_keepMarked cX3_keepMarked 1 none, Cond.fieldLink RX3 16 "GaugeBounds$States" "size" "I", Cond.methodLink RX3 27 Lib.Math.min.name, Cond.static Lib.Math.min.name, Cond.initialized "java/lang/Math", Cond.code Lib.Math.min.name Lib.Math.min.code 2 (some .int), Cond.methodLink RX5 68 yX5_counted, Cond.instanceMethod yX5_counted, Cond.selects RX5 yX5_counted yX5_counted, Cond.code yX5_counted cX5_counted 2 (some .int), Cond.fieldLink RX5 133 "GaugeBounds" "timesBad" "I", Cond.fieldLink RX5 137 "GaugeBounds" "timesNo" "I", Cond.fieldLink RX5 140 "GaugeBounds" "timesFull" "I"]
def wsX5_curve : List Cond := .code yX5_curve cX5_curve 3 (some .int) :: ((wsX5_curve_r1 ++ (wsX5_curve_r2 ++ (wsX5_curve_r3 ++ wsX5_curve_r4))) ++ wsX50 ++ wsX30 ++ wsX10 ++ wsX20 ++ wsX00)
def wsX5_passes_r1 : List Cond := [Cond.fieldLink RX5 19 "GaugeBounds" "states" "LGaugeBounds$States;", Cond.fieldLink RX5 10 "GaugeBounds" "battery" "LGaugeBounds$Battery;", Cond.methodLink RX5 30 yX3_mark, Cond.instanceMethod yX3_mark, Cond.selects RX3 yX3_mark yX3_mark, Cond.initialized RX3, Cond.code yX3_mark cX3_mark 2 none, Cond.fieldLink RX3 11 "GaugeBounds$States" "ring" "[LGaugeBounds$Battery;", Cond.fieldLink RX3 20 "GaugeBounds$States" "marked" "I", Cond.methodLink RX3 23 yX1_copyFrom, Cond.instanceMethod yX1_copyFrom, Cond.selects RX1 yX1_copyFrom yX1_copyFrom, Cond.initialized RX1, Cond.code yX1_copyFrom cX1_copyFrom 2 none, Cond.fieldLink RX1 12 "GaugeBounds$Battery" "curve" "LGaugeBounds$Curve;", Cond.fieldLink RX1 21 "GaugeBounds$Battery" "bands" "LGaugeBounds$Bands;", Cond.fieldLink RX1 58 "GaugeBounds$Battery" "low" "I", Cond.fieldLink RX1 25 "GaugeBounds$Battery" "high" "I", Cond.fieldLink RX1 29 "GaugeBounds$Battery" "leastCapacity" "I", Cond.fieldLink RX1 32 "GaugeBounds$Battery" "mostCapacity" "I", Cond.fieldLink RX1 35 "GaugeBounds$Battery" "offset" "I", Cond.fieldLink RX1 38 "GaugeBounds$Battery" "cling" "I", Cond.fieldLink RX1 61 "GaugeBounds$Battery" "drawn" "I", Cond.fieldLink RX1 64 "GaugeBounds$Battery" "steps" "I"]
def wsX5_passes_r2 : List Cond := [Cond.fieldLink RX1 67 "GaugeBounds$Battery" "rests" "I", Cond.fieldLink RX1 42 "GaugeBounds$Battery" "lastA" "I", Cond.fieldLink RX1 45 "GaugeBounds$Battery" "lastB" "I", Cond.fieldLink RX1 70 "GaugeBounds$Battery" "clashes" "I", Cond.fieldLink RX1 48 "GaugeBounds$Battery" "shown" "I", Cond.methodLink RX1 51 yX2_copyFrom, Cond.instanceMethod yX2_copyFrom, Cond.selects RX2 yX2_copyFrom yX2_copyFrom, Cond.initialized RX2, Cond.code yX2_copyFrom cX2_copyFrom 2 none, Cond.fieldLink RX2 11 "GaugeBounds$Curve" "points" "[I", Cond.methodLink RX2 15 arraycopyName, Cond.native arraycopyName, Cond.static arraycopyName, Cond.initialized "java/lang/System", Cond.methodLink RX1 55 yX0_copyFrom, Cond.instanceMethod yX0_copyFrom, Cond.selects RX0 yX0_copyFrom yX0_copyFrom, Cond.initialized RX0, Cond.code yX0_copyFrom cX0_copyFrom 2 none, Cond.fieldLink RX0 11 "GaugeBounds$Bands" "sums" "[J", Cond.methodLink RX0 19 arraycopyName, Cond.fieldLink RX0 15 "GaugeBounds$Bands" "counts" "[I", Cond.methodLink RX5 54 yX1_pass]
def wsX5_passes_r3 : List Cond := [Cond.instanceMethod yX1_pass, Cond.selects RX1 yX1_pass yX1_pass, Cond.code yX1_pass cX1_pass 5 (some .int), Cond.constant RX1 77 (-10000002), Cond.methodLink RX1 89 Lib.Math.max.name, Cond.static Lib.Math.max.name, Cond.initialized "java/lang/Math", Cond.code Lib.Math.max.name Lib.Math.max.code 2 (some .int), Cond.methodLink RX1 94 Lib.Math.min.name, Cond.static Lib.Math.min.name, Cond.code Lib.Math.min.name Lib.Math.min.code 2 (some .int), Cond.constant RX1 97 (-10000003), Cond.static yX5_within, Cond.initialized RX5, Cond.code yX5_within cX5_within 3 (some .boolean), Cond.methodLink RX1 98 yX1_showPassing, Cond.instanceMethod yX1_showPassing, Cond.selects RX1 yX1_showPassing yX1_showPassing, Cond.code yX1_showPassing cX1_showPassing 4 none, Cond.methodLink RX1 105 yX1_middle, Cond.instanceMethod yX1_middle, Cond.selects RX1 yX1_middle yX1_middle, Cond.code yX1_middle cX1_middle 2 (some .int), Cond.methodLink RX1 102 yX1_showEmpty]
def wsX5_passes_r4 : List Cond := [Cond.instanceMethod yX1_showEmpty, Cond.selects RX1 yX1_showEmpty yX1_showEmpty, Cond.code yX1_showEmpty cX1_showEmpty 1 none, Cond.methodLink RX5 38 yX5_settled, Cond.instanceMethod yX5_settled, Cond.selects RX5 yX5_settled yX5_settled, Cond.code yX5_settled cX5_settled 2 (some .int), Cond.methodLink RX5 116 yX5_isRefusal, Cond.static yX5_isRefusal, Cond.code yX5_isRefusal cX5_isRefusal 1 (some .boolean), Cond.constant RX5 67 (-10000002), Cond.constant RX5 129 (-10000003), Cond.constant RX5 170 (-10000004), Cond.methodLink RX5 123 yX3_keepMarked, Cond.instanceMethod yX3_keepMarked, Cond.selects RX3 yX3_keepMarked yX3_keepMarked, Cond.code yX3_keepMarked cX3_keepMarked 1 none, Cond.fieldLink RX3 16 "GaugeBounds$States" "size" "I", Cond.methodLink RX3 27 Lib.Math.min.name, Cond.methodLink RX5 68 yX5_counted, Cond.instanceMethod yX5_counted, Cond.selects RX5 yX5_counted yX5_counted, Cond.code yX5_counted cX5_counted 2 (some .int), Cond.fieldLink RX5 133 "GaugeBounds" "timesBad" "I"]
def wsX5_passes_r5 : List Cond := [Cond.fieldLink RX5 137 "GaugeBounds" "timesNo" "I", Cond.fieldLink RX5 140 "GaugeBounds" "timesFull" "I"]
def wsX5_passes : List Cond := .code yX5_passes cX5_passes 3 (some .int) :: ((wsX5_passes_r1 ++ (wsX5_passes_r2 ++ (wsX5_passes_r3 ++ (wsX5_passes_r4 ++ wsX5_passes_r5)))) ++ wsX50 ++ wsX30 ++ wsX10 ++ wsX20 ++ wsX00)
def wsX5_rests_r1 : List Cond := [Cond.fieldLink RX5 19 "GaugeBounds" "states" "LGaugeBounds$States;", Cond.fieldLink RX5 10 "GaugeBounds" "battery" "LGaugeBounds$Battery;", Cond.methodLink RX5 30 yX3_mark, Cond.instanceMethod yX3_mark, Cond.selects RX3 yX3_mark yX3_mark, Cond.initialized RX3, Cond.code yX3_mark cX3_mark 2 none, Cond.fieldLink RX3 11 "GaugeBounds$States" "ring" "[LGaugeBounds$Battery;", Cond.fieldLink RX3 20 "GaugeBounds$States" "marked" "I", Cond.methodLink RX3 23 yX1_copyFrom, Cond.instanceMethod yX1_copyFrom, Cond.selects RX1 yX1_copyFrom yX1_copyFrom, Cond.initialized RX1, Cond.code yX1_copyFrom cX1_copyFrom 2 none, Cond.fieldLink RX1 12 "GaugeBounds$Battery" "curve" "LGaugeBounds$Curve;", Cond.fieldLink RX1 21 "GaugeBounds$Battery" "bands" "LGaugeBounds$Bands;", Cond.fieldLink RX1 58 "GaugeBounds$Battery" "low" "I", Cond.fieldLink RX1 25 "GaugeBounds$Battery" "high" "I", Cond.fieldLink RX1 29 "GaugeBounds$Battery" "leastCapacity" "I", Cond.fieldLink RX1 32 "GaugeBounds$Battery" "mostCapacity" "I", Cond.fieldLink RX1 35 "GaugeBounds$Battery" "offset" "I", Cond.fieldLink RX1 38 "GaugeBounds$Battery" "cling" "I", Cond.fieldLink RX1 61 "GaugeBounds$Battery" "drawn" "I", Cond.fieldLink RX1 64 "GaugeBounds$Battery" "steps" "I"]
def wsX5_rests_r2 : List Cond := [Cond.fieldLink RX1 67 "GaugeBounds$Battery" "rests" "I", Cond.fieldLink RX1 42 "GaugeBounds$Battery" "lastA" "I", Cond.fieldLink RX1 45 "GaugeBounds$Battery" "lastB" "I", Cond.fieldLink RX1 70 "GaugeBounds$Battery" "clashes" "I", Cond.fieldLink RX1 48 "GaugeBounds$Battery" "shown" "I", Cond.methodLink RX1 51 yX2_copyFrom, Cond.instanceMethod yX2_copyFrom, Cond.selects RX2 yX2_copyFrom yX2_copyFrom, Cond.initialized RX2, Cond.code yX2_copyFrom cX2_copyFrom 2 none, Cond.fieldLink RX2 11 "GaugeBounds$Curve" "points" "[I", Cond.methodLink RX2 15 arraycopyName, Cond.native arraycopyName, Cond.static arraycopyName, Cond.initialized "java/lang/System", Cond.methodLink RX1 55 yX0_copyFrom, Cond.instanceMethod yX0_copyFrom, Cond.selects RX0 yX0_copyFrom yX0_copyFrom, Cond.initialized RX0, Cond.code yX0_copyFrom cX0_copyFrom 2 none, Cond.fieldLink RX0 11 "GaugeBounds$Bands" "sums" "[J", Cond.methodLink RX0 19 arraycopyName, Cond.fieldLink RX0 15 "GaugeBounds$Bands" "counts" "[I", Cond.methodLink RX5 57 yX1_rest]
def wsX5_rests_r3 : List Cond := [Cond.instanceMethod yX1_rest, Cond.selects RX1 yX1_rest yX1_rest, Cond.code yX1_rest cX1_rest 4 (some .int), Cond.constant RX1 77 (-10000002), Cond.constant RX1 41 (-10000001), Cond.constant RX1 97 (-10000003), Cond.methodLink RX1 94 Lib.Math.min.name, Cond.static Lib.Math.min.name, Cond.initialized "java/lang/Math", Cond.code Lib.Math.min.name Lib.Math.min.code 2 (some .int), Cond.methodLink RX1 109 yX1_isVoltage, Cond.static yX1_isVoltage, Cond.code yX1_isVoltage cX1_isVoltage 1 (some .boolean), Cond.static yX5_within, Cond.initialized RX5, Cond.code yX5_within cX5_within 3 (some .boolean), Cond.methodLink RX1 113 yX1_restBound, Cond.instanceMethod yX1_restBound, Cond.selects RX1 yX1_restBound yX1_restBound, Cond.code yX1_restBound cX1_restBound 5 (some .int), Cond.methodLink RX1 89 Lib.Math.max.name, Cond.static Lib.Math.max.name, Cond.code Lib.Math.max.name Lib.Math.max.code 2 (some .int), Cond.methodLink RX1 146 yX2_leastReaching]
def wsX5_rests_r4 : List Cond := [Cond.instanceMethod yX2_leastReaching, Cond.selects RX2 yX2_leastReaching yX2_leastReaching, Cond.code yX2_leastReaching cX2_leastReaching 3 (some .int), Cond.constant RX2 31 (-10000001), Cond.methodLink RX2 27 yX2_placesBelow, Cond.instanceMethod yX2_placesBelow, Cond.selects RX2 yX2_placesBelow yX2_placesBelow, Cond.code yX2_placesBelow cX2_placesBelow 5 (some .int), Cond.methodLink RX2 32 yX2_voltsAt, Cond.instanceMethod yX2_voltsAt, Cond.selects RX2 yX2_voltsAt yX2_voltsAt, Cond.code yX2_voltsAt cX2_voltsAt 3 (some .int), Cond.constant RX2 25 (-10000002), Cond.methodLink RX1 149 yX2_greatestWithin, Cond.instanceMethod yX2_greatestWithin, Cond.selects RX2 yX2_greatestWithin yX2_greatestWithin, Cond.code yX2_greatestWithin cX2_greatestWithin 3 (some .int), Cond.methodLink RX1 116 yX1_learnCapacity, Cond.instanceMethod yX1_learnCapacity, Cond.selects RX1 yX1_learnCapacity yX1_learnCapacity, Cond.code yX1_learnCapacity cX1_learnCapacity 12 none, Cond.constantLong RX1 122 (1000), Cond.methodLink RX1 124 Lib.MathLoose.max_long.x, Cond.static Lib.MathLoose.max_long.x]
def wsX5_rests_r5 : List Cond := [Cond.code Lib.MathLoose.max_long.x Lib.MathLoose.max_long.code 4 (some .long), Cond.methodLink RX1 127 Lib.MathLoose.min_long.x, Cond.static Lib.MathLoose.min_long.x, Cond.code Lib.MathLoose.min_long.x Lib.MathLoose.min_long.code 4 (some .long), Cond.methodLink RX1 119 yX1_narrowCharge, Cond.instanceMethod yX1_narrowCharge, Cond.selects RX1 yX1_narrowCharge yX1_narrowCharge, Cond.code yX1_narrowCharge cX1_narrowCharge 5 none, Cond.methodLink RX1 102 yX1_showEmpty, Cond.instanceMethod yX1_showEmpty, Cond.selects RX1 yX1_showEmpty yX1_showEmpty, Cond.code yX1_showEmpty cX1_showEmpty 1 none, Cond.methodLink RX5 38 yX5_settled, Cond.instanceMethod yX5_settled, Cond.selects RX5 yX5_settled yX5_settled, Cond.code yX5_settled cX5_settled 2 (some .int), Cond.methodLink RX5 116 yX5_isRefusal, Cond.static yX5_isRefusal, Cond.code yX5_isRefusal cX5_isRefusal 1 (some .boolean), Cond.constant RX5 67 (-10000002), Cond.constant RX5 129 (-10000003), Cond.constant RX5 170 (-10000004), Cond.methodLink RX5 123 yX3_keepMarked, Cond.instanceMethod yX3_keepMarked]
def wsX5_rests_r6 : List Cond := [Cond.selects RX3 yX3_keepMarked yX3_keepMarked, Cond.code yX3_keepMarked cX3_keepMarked 1 none, Cond.fieldLink RX3 16 "GaugeBounds$States" "size" "I", Cond.methodLink RX3 27 Lib.Math.min.name, Cond.methodLink RX5 68 yX5_counted, Cond.instanceMethod yX5_counted, Cond.selects RX5 yX5_counted yX5_counted, Cond.code yX5_counted cX5_counted 2 (some .int), Cond.fieldLink RX5 133 "GaugeBounds" "timesBad" "I", Cond.fieldLink RX5 137 "GaugeBounds" "timesNo" "I", Cond.fieldLink RX5 140 "GaugeBounds" "timesFull" "I"]
def wsX5_rests : List Cond := .code yX5_rests cX5_rests 2 (some .int) :: ((wsX5_rests_r1 ++ (wsX5_rests_r2 ++ (wsX5_rests_r3 ++ (wsX5_rests_r4 ++ (wsX5_rests_r5 ++ wsX5_rests_r6))))) ++ wsX50 ++ wsX30 ++ wsX10 ++ wsX20 ++ wsX00)
def wsX5_loads_r1 : List Cond := [Cond.fieldLink RX5 19 "GaugeBounds" "states" "LGaugeBounds$States;", Cond.fieldLink RX5 10 "GaugeBounds" "battery" "LGaugeBounds$Battery;", Cond.methodLink RX5 30 yX3_mark, Cond.instanceMethod yX3_mark, Cond.selects RX3 yX3_mark yX3_mark, Cond.initialized RX3, Cond.code yX3_mark cX3_mark 2 none, Cond.fieldLink RX3 11 "GaugeBounds$States" "ring" "[LGaugeBounds$Battery;", Cond.fieldLink RX3 20 "GaugeBounds$States" "marked" "I", Cond.methodLink RX3 23 yX1_copyFrom, Cond.instanceMethod yX1_copyFrom, Cond.selects RX1 yX1_copyFrom yX1_copyFrom, Cond.initialized RX1, Cond.code yX1_copyFrom cX1_copyFrom 2 none, Cond.fieldLink RX1 12 "GaugeBounds$Battery" "curve" "LGaugeBounds$Curve;", Cond.fieldLink RX1 21 "GaugeBounds$Battery" "bands" "LGaugeBounds$Bands;", Cond.fieldLink RX1 58 "GaugeBounds$Battery" "low" "I", Cond.fieldLink RX1 25 "GaugeBounds$Battery" "high" "I", Cond.fieldLink RX1 29 "GaugeBounds$Battery" "leastCapacity" "I", Cond.fieldLink RX1 32 "GaugeBounds$Battery" "mostCapacity" "I", Cond.fieldLink RX1 35 "GaugeBounds$Battery" "offset" "I", Cond.fieldLink RX1 38 "GaugeBounds$Battery" "cling" "I", Cond.fieldLink RX1 61 "GaugeBounds$Battery" "drawn" "I", Cond.fieldLink RX1 64 "GaugeBounds$Battery" "steps" "I"]
def wsX5_loads_r2 : List Cond := [Cond.fieldLink RX1 67 "GaugeBounds$Battery" "rests" "I", Cond.fieldLink RX1 42 "GaugeBounds$Battery" "lastA" "I", Cond.fieldLink RX1 45 "GaugeBounds$Battery" "lastB" "I", Cond.fieldLink RX1 70 "GaugeBounds$Battery" "clashes" "I", Cond.fieldLink RX1 48 "GaugeBounds$Battery" "shown" "I", Cond.methodLink RX1 51 yX2_copyFrom, Cond.instanceMethod yX2_copyFrom, Cond.selects RX2 yX2_copyFrom yX2_copyFrom, Cond.initialized RX2, Cond.code yX2_copyFrom cX2_copyFrom 2 none, Cond.fieldLink RX2 11 "GaugeBounds$Curve" "points" "[I", Cond.methodLink RX2 15 arraycopyName, Cond.native arraycopyName, Cond.static arraycopyName, Cond.initialized "java/lang/System", Cond.methodLink RX1 55 yX0_copyFrom, Cond.instanceMethod yX0_copyFrom, Cond.selects RX0 yX0_copyFrom yX0_copyFrom, Cond.initialized RX0, Cond.code yX0_copyFrom cX0_copyFrom 2 none, Cond.fieldLink RX0 11 "GaugeBounds$Bands" "sums" "[J", Cond.methodLink RX0 19 arraycopyName, Cond.fieldLink RX0 15 "GaugeBounds$Bands" "counts" "[I", Cond.methodLink RX5 60 yX1_load]
def wsX5_loads_r3 : List Cond := [Cond.instanceMethod yX1_load, Cond.selects RX1 yX1_load yX1_load, Cond.code yX1_load cX1_load 5 (some .int), Cond.constant RX1 77 (-10000002), Cond.methodLink RX1 129 yX1_isLoad, Cond.static yX1_isLoad, Cond.code yX1_isLoad cX1_isLoad 1 (some .boolean), Cond.static yX5_within, Cond.initialized RX5, Cond.code yX5_within cX5_within 3 (some .boolean), Cond.methodLink RX1 109 yX1_isVoltage, Cond.static yX1_isVoltage, Cond.code yX1_isVoltage cX1_isVoltage 1 (some .boolean), Cond.methodLink RX1 105 yX1_middle, Cond.instanceMethod yX1_middle, Cond.selects RX1 yX1_middle yX1_middle, Cond.code yX1_middle cX1_middle 2 (some .int), Cond.methodLink RX1 94 Lib.Math.min.name, Cond.static Lib.Math.min.name, Cond.initialized "java/lang/Math", Cond.code Lib.Math.min.name Lib.Math.min.code 2 (some .int), Cond.methodLink RX1 132 yX2_voltsAt, Cond.instanceMethod yX2_voltsAt, Cond.selects RX2 yX2_voltsAt yX2_voltsAt]
def wsX5_loads_r4 : List Cond := [Cond.code yX2_voltsAt cX2_voltsAt 3 (some .int), Cond.constant RX2 25 (-10000002), Cond.methodLink RX1 136 yX1_signOf, Cond.static yX1_signOf, Cond.code yX1_signOf cX1_signOf 1 (some .int), Cond.methodLink RX1 139 yX1_tenthOf, Cond.static yX1_tenthOf, Cond.code yX1_tenthOf cX1_tenthOf 1 (some .int), Cond.methodLink RX1 142 yX0_add, Cond.instanceMethod yX0_add, Cond.selects RX0 yX0_add yX0_add, Cond.code yX0_add cX0_add 5 none, Cond.methodLink RX0 25 yX0_isBand, Cond.static yX0_isBand, Cond.code yX0_isBand cX0_isBand 2 (some .boolean), Cond.methodLink RX5 38 yX5_settled, Cond.instanceMethod yX5_settled, Cond.selects RX5 yX5_settled yX5_settled, Cond.code yX5_settled cX5_settled 2 (some .int), Cond.methodLink RX5 116 yX5_isRefusal, Cond.static yX5_isRefusal, Cond.code yX5_isRefusal cX5_isRefusal 1 (some .boolean), Cond.constant RX5 67 (-10000002), Cond.constant RX5 129 (-10000003)]
def wsX5_loads_r5 : List Cond := [Cond.constant RX5 170 (-10000004), Cond.methodLink RX5 123 yX3_keepMarked, Cond.instanceMethod yX3_keepMarked, Cond.selects RX3 yX3_keepMarked yX3_keepMarked, Cond.code yX3_keepMarked cX3_keepMarked 1 none, Cond.fieldLink RX3 16 "GaugeBounds$States" "size" "I", Cond.methodLink RX3 27 Lib.Math.min.name, Cond.methodLink RX5 68 yX5_counted, Cond.instanceMethod yX5_counted, Cond.selects RX5 yX5_counted yX5_counted, Cond.code yX5_counted cX5_counted 2 (some .int), Cond.fieldLink RX5 133 "GaugeBounds" "timesBad" "I", Cond.fieldLink RX5 137 "GaugeBounds" "timesNo" "I", Cond.fieldLink RX5 140 "GaugeBounds" "timesFull" "I"]
def wsX5_loads : List Cond := .code yX5_loads cX5_loads 3 (some .int) :: ((wsX5_loads_r1 ++ (wsX5_loads_r2 ++ (wsX5_loads_r3 ++ (wsX5_loads_r4 ++ wsX5_loads_r5)))) ++ wsX50 ++ wsX30 ++ wsX10 ++ wsX20 ++ wsX00)
def wsX5_told_r1 : List Cond := [Cond.constant RX5 67 (-10000002), Cond.fieldLink RX5 10 "GaugeBounds" "battery" "LGaugeBounds$Battery;", Cond.methodLink RX5 63 yX5_within, Cond.static yX5_within, Cond.initialized RX5, Cond.code yX5_within cX5_within 3 (some .boolean), Cond.methodLink RX5 68 yX5_counted, Cond.instanceMethod yX5_counted, Cond.selects RX5 yX5_counted yX5_counted, Cond.code yX5_counted cX5_counted 2 (some .int), Cond.fieldLink RX5 133 "GaugeBounds" "timesBad" "I", Cond.constant RX5 129 (-10000003), Cond.fieldLink RX5 137 "GaugeBounds" "timesNo" "I", Cond.constant RX5 170 (-10000004), Cond.fieldLink RX5 140 "GaugeBounds" "timesFull" "I", Cond.methodLink RX5 71 yX1_tell, Cond.instanceMethod yX1_tell, Cond.selects RX1 yX1_tell yX1_tell, Cond.initialized RX1, Cond.code yX1_tell cX1_tell 2 (some .int), Cond.fieldLink RX1 58 "GaugeBounds$Battery" "low" "I", Cond.fieldLink RX1 25 "GaugeBounds$Battery" "high" "I", Cond.fieldLink RX1 29 "GaugeBounds$Battery" "leastCapacity" "I", Cond.fieldLink RX1 32 "GaugeBounds$Battery" "mostCapacity" "I"]
def wsX5_told_r2 : List Cond := [Cond.fieldLink RX1 48 "GaugeBounds$Battery" "shown" "I", Cond.fieldLink RX1 61 "GaugeBounds$Battery" "drawn" "I", Cond.fieldLink RX1 64 "GaugeBounds$Battery" "steps" "I", Cond.fieldLink RX1 70 "GaugeBounds$Battery" "clashes" "I", Cond.fieldLink RX1 67 "GaugeBounds$Battery" "rests" "I", Cond.fieldLink RX1 42 "GaugeBounds$Battery" "lastA" "I", Cond.fieldLink RX1 45 "GaugeBounds$Battery" "lastB" "I", Cond.constant RX1 77 (-10000002), Cond.methodLink RX1 105 yX1_middle, Cond.instanceMethod yX1_middle, Cond.selects RX1 yX1_middle yX1_middle, Cond.code yX1_middle cX1_middle 2 (some .int), Cond.methodLink RX1 94 Lib.Math.min.name, Cond.static Lib.Math.min.name, Cond.initialized "java/lang/Math", Cond.code Lib.Math.min.name Lib.Math.min.code 2 (some .int)]
def wsX5_told : List Cond := .code yX5_told cX5_told 2 (some .int) :: ((wsX5_told_r1 ++ wsX5_told_r2) ++ wsX50 ++ wsX10)
def wsX5_volts_r1 : List Cond := [Cond.fieldLink RX5 10 "GaugeBounds" "battery" "LGaugeBounds$Battery;", Cond.methodLink RX5 74 yX1_restVoltage, Cond.instanceMethod yX1_restVoltage, Cond.selects RX1 yX1_restVoltage yX1_restVoltage, Cond.initialized RX1, Cond.code yX1_restVoltage cX1_restVoltage 2 (some .int), Cond.fieldLink RX1 12 "GaugeBounds$Battery" "curve" "LGaugeBounds$Curve;", Cond.methodLink RX1 132 yX2_voltsAt, Cond.instanceMethod yX2_voltsAt, Cond.selects RX2 yX2_voltsAt yX2_voltsAt, Cond.initialized RX2, Cond.code yX2_voltsAt cX2_voltsAt 3 (some .int), Cond.constant RX2 25 (-10000002), Cond.fieldLink RX2 11 "GaugeBounds$Curve" "points" "[I", Cond.methodLink RX5 68 yX5_counted, Cond.instanceMethod yX5_counted, Cond.selects RX5 yX5_counted yX5_counted, Cond.initialized RX5, Cond.code yX5_counted cX5_counted 2 (some .int), Cond.constant RX5 67 (-10000002), Cond.fieldLink RX5 133 "GaugeBounds" "timesBad" "I", Cond.constant RX5 129 (-10000003), Cond.fieldLink RX5 137 "GaugeBounds" "timesNo" "I", Cond.constant RX5 170 (-10000004)]
def wsX5_volts_r2 : List Cond := [Cond.fieldLink RX5 140 "GaugeBounds" "timesFull" "I"]
def wsX5_volts : List Cond := .code yX5_volts cX5_volts 2 (some .int) :: ((wsX5_volts_r1 ++ wsX5_volts_r2) ++ wsX50 ++ wsX10 ++ wsX20)
def wsX5_inverse_r1 : List Cond := [Cond.fieldLink RX5 10 "GaugeBounds" "battery" "LGaugeBounds$Battery;", Cond.methodLink RX5 77 yX1_restBound, Cond.instanceMethod yX1_restBound, Cond.selects RX1 yX1_restBound yX1_restBound, Cond.initialized RX1, Cond.code yX1_restBound cX1_restBound 5 (some .int), Cond.constant RX1 77 (-10000002), Cond.fieldLink RX1 12 "GaugeBounds$Battery" "curve" "LGaugeBounds$Curve;", Cond.fieldLink RX1 38 "GaugeBounds$Battery" "cling" "I", Cond.constant RX1 41 (-10000001), Cond.methodLink RX1 94 Lib.Math.min.name, Cond.static Lib.Math.min.name, Cond.initialized "java/lang/Math", Cond.code Lib.Math.min.name Lib.Math.min.code 2 (some .int), Cond.methodLink RX1 89 Lib.Math.max.name, Cond.static Lib.Math.max.name, Cond.code Lib.Math.max.name Lib.Math.max.code 2 (some .int), Cond.methodLink RX1 109 yX1_isVoltage, Cond.static yX1_isVoltage, Cond.code yX1_isVoltage cX1_isVoltage 1 (some .boolean), Cond.static yX5_within, Cond.initialized RX5, Cond.code yX5_within cX5_within 3 (some .boolean), Cond.methodLink RX1 146 yX2_leastReaching]
def wsX5_inverse_r2 : List Cond := [Cond.instanceMethod yX2_leastReaching, Cond.selects RX2 yX2_leastReaching yX2_leastReaching, Cond.initialized RX2, Cond.code yX2_leastReaching cX2_leastReaching 3 (some .int), Cond.constant RX2 31 (-10000001), Cond.methodLink RX2 27 yX2_placesBelow, Cond.instanceMethod yX2_placesBelow, Cond.selects RX2 yX2_placesBelow yX2_placesBelow, Cond.code yX2_placesBelow cX2_placesBelow 5 (some .int), Cond.methodLink RX2 32 yX2_voltsAt, Cond.instanceMethod yX2_voltsAt, Cond.selects RX2 yX2_voltsAt yX2_voltsAt, Cond.code yX2_voltsAt cX2_voltsAt 3 (some .int), Cond.constant RX2 25 (-10000002), Cond.fieldLink RX2 11 "GaugeBounds$Curve" "points" "[I", Cond.methodLink RX1 149 yX2_greatestWithin, Cond.instanceMethod yX2_greatestWithin, Cond.selects RX2 yX2_greatestWithin yX2_greatestWithin, Cond.code yX2_greatestWithin cX2_greatestWithin 3 (some .int), Cond.methodLink RX5 68 yX5_counted, Cond.instanceMethod yX5_counted, Cond.selects RX5 yX5_counted yX5_counted, Cond.code yX5_counted cX5_counted 2 (some .int), Cond.constant RX5 67 (-10000002)]
def wsX5_inverse_r3 : List Cond := [Cond.fieldLink RX5 133 "GaugeBounds" "timesBad" "I", Cond.constant RX5 129 (-10000003), Cond.fieldLink RX5 137 "GaugeBounds" "timesNo" "I", Cond.constant RX5 170 (-10000004), Cond.fieldLink RX5 140 "GaugeBounds" "timesFull" "I"]
def wsX5_inverse : List Cond := .code yX5_inverse cX5_inverse 3 (some .int) :: ((wsX5_inverse_r1 ++ (wsX5_inverse_r2 ++ wsX5_inverse_r3)) ++ wsX50 ++ wsX10 ++ wsX20)
def wsX5_band_r1 : List Cond := [Cond.fieldLink RX5 10 "GaugeBounds" "battery" "LGaugeBounds$Battery;", Cond.methodLink RX5 80 yX1_tellBand, Cond.instanceMethod yX1_tellBand, Cond.selects RX1 yX1_tellBand yX1_tellBand, Cond.initialized RX1, Cond.code yX1_tellBand cX1_tellBand 4 (some .int), Cond.constant RX1 77 (-10000002), Cond.fieldLink RX1 21 "GaugeBounds$Battery" "bands" "LGaugeBounds$Bands;", Cond.static yX5_within, Cond.initialized RX5, Cond.code yX5_within cX5_within 3 (some .boolean), Cond.methodLink RX1 152 yX0_resistance, Cond.instanceMethod yX0_resistance, Cond.selects RX0 yX0_resistance yX0_resistance, Cond.initialized RX0, Cond.code yX0_resistance cX0_resistance 4 (some .int), Cond.constant RX0 29 (-10000002), Cond.fieldLink RX0 15 "GaugeBounds$Bands" "counts" "[I", Cond.constant RX0 30 (-10000001), Cond.fieldLink RX0 11 "GaugeBounds$Bands" "sums" "[J", Cond.methodLink RX0 25 yX0_isBand, Cond.static yX0_isBand, Cond.code yX0_isBand cX0_isBand 2 (some .boolean), Cond.methodLink RX1 155 yX0_howMany]
def wsX5_band_r2 : List Cond := [Cond.instanceMethod yX0_howMany, Cond.selects RX0 yX0_howMany yX0_howMany, Cond.code yX0_howMany cX0_howMany 3 (some .int), Cond.methodLink RX5 68 yX5_counted, Cond.instanceMethod yX5_counted, Cond.selects RX5 yX5_counted yX5_counted, Cond.code yX5_counted cX5_counted 2 (some .int), Cond.constant RX5 67 (-10000002), Cond.fieldLink RX5 133 "GaugeBounds" "timesBad" "I", Cond.constant RX5 129 (-10000003), Cond.fieldLink RX5 137 "GaugeBounds" "timesNo" "I", Cond.constant RX5 170 (-10000004), Cond.fieldLink RX5 140 "GaugeBounds" "timesFull" "I"]
def wsX5_band : List Cond := .code yX5_band cX5_band 4 (some .int) :: ((wsX5_band_r1 ++ wsX5_band_r2) ++ wsX50 ++ wsX10 ++ wsX00)
def wsX5_bands : List Cond := .code yX5_bands cX5_bands 1 (some .int) :: ([.fieldLink RX5 10 "GaugeBounds" "battery" "LGaugeBounds$Battery;", .methodLink RX5 84 yX1_usedBands, .instanceMethod yX1_usedBands, .selects RX1 yX1_usedBands yX1_usedBands, .initialized RX1, .code yX1_usedBands cX1_usedBands 1 (some .int), .fieldLink RX1 21 "GaugeBounds$Battery" "bands" "LGaugeBounds$Bands;", .methodLink RX1 158 yX0_used, .instanceMethod yX0_used, .selects RX0 yX0_used yX0_used, .initialized RX0, .code yX0_used cX0_used 3 (some .int), .fieldLink RX0 15 "GaugeBounds$Bands" "counts" "[I"] ++ wsX50 ++ wsX10 ++ wsX00)
def wsX5_lasts : List Cond := .code yX5_lasts cX5_lasts 3 (some .int) :: ([.fieldLink RX5 10 "GaugeBounds" "battery" "LGaugeBounds$Battery;", .methodLink RX5 88 yX1_lasting, .instanceMethod yX1_lasting, .selects RX1 yX1_lasting yX1_lasting, .initialized RX1, .code yX1_lasting cX1_lasting 3 (some .int), .constant RX1 77 (-10000002), .fieldLink RX1 58 "GaugeBounds$Battery" "low" "I", .fieldLink RX1 35 "GaugeBounds$Battery" "offset" "I", .constant RX1 41 (-10000001), .fieldLink RX1 25 "GaugeBounds$Battery" "high" "I", .static yX5_within, .initialized RX5, .code yX5_within cX5_within 3 (some .boolean), .methodLink RX5 68 yX5_counted, .instanceMethod yX5_counted, .selects RX5 yX5_counted yX5_counted, .code yX5_counted cX5_counted 2 (some .int), .constant RX5 67 (-10000002), .fieldLink RX5 133 "GaugeBounds" "timesBad" "I", .constant RX5 129 (-10000003), .fieldLink RX5 137 "GaugeBounds" "timesNo" "I", .constant RX5 170 (-10000004), .fieldLink RX5 140 "GaugeBounds" "timesFull" "I"] ++ wsX50 ++ wsX10)
def wsX5_under_r1 : List Cond := [Cond.fieldLink RX5 10 "GaugeBounds" "battery" "LGaugeBounds$Battery;", Cond.methodLink RX5 91 yX1_loadedVoltage, Cond.instanceMethod yX1_loadedVoltage, Cond.selects RX1 yX1_loadedVoltage yX1_loadedVoltage, Cond.initialized RX1, Cond.code yX1_loadedVoltage cX1_loadedVoltage 4 (some .int), Cond.constant RX1 77 (-10000002), Cond.fieldLink RX1 21 "GaugeBounds$Battery" "bands" "LGaugeBounds$Bands;", Cond.constant RX1 41 (-10000001), Cond.constant RX1 97 (-10000003), Cond.fieldLink RX1 12 "GaugeBounds$Battery" "curve" "LGaugeBounds$Curve;", Cond.methodLink RX1 129 yX1_isLoad, Cond.static yX1_isLoad, Cond.code yX1_isLoad cX1_isLoad 1 (some .boolean), Cond.static yX5_within, Cond.initialized RX5, Cond.code yX5_within cX5_within 3 (some .boolean), Cond.methodLink RX1 105 yX1_middle, Cond.instanceMethod yX1_middle, Cond.selects RX1 yX1_middle yX1_middle, Cond.code yX1_middle cX1_middle 2 (some .int), Cond.fieldLink RX1 29 "GaugeBounds$Battery" "leastCapacity" "I", Cond.fieldLink RX1 32 "GaugeBounds$Battery" "mostCapacity" "I", Cond.fieldLink RX1 58 "GaugeBounds$Battery" "low" "I"]
def wsX5_under_r2 : List Cond := [Cond.fieldLink RX1 25 "GaugeBounds$Battery" "high" "I", Cond.methodLink RX1 94 Lib.Math.min.name, Cond.static Lib.Math.min.name, Cond.initialized "java/lang/Math", Cond.code Lib.Math.min.name Lib.Math.min.code 2 (some .int), Cond.methodLink RX1 136 yX1_signOf, Cond.static yX1_signOf, Cond.code yX1_signOf cX1_signOf 1 (some .int), Cond.methodLink RX1 139 yX1_tenthOf, Cond.static yX1_tenthOf, Cond.code yX1_tenthOf cX1_tenthOf 1 (some .int), Cond.methodLink RX1 152 yX0_resistance, Cond.instanceMethod yX0_resistance, Cond.selects RX0 yX0_resistance yX0_resistance, Cond.initialized RX0, Cond.code yX0_resistance cX0_resistance 4 (some .int), Cond.constant RX0 29 (-10000002), Cond.fieldLink RX0 15 "GaugeBounds$Bands" "counts" "[I", Cond.constant RX0 30 (-10000001), Cond.fieldLink RX0 11 "GaugeBounds$Bands" "sums" "[J", Cond.methodLink RX0 25 yX0_isBand, Cond.static yX0_isBand, Cond.code yX0_isBand cX0_isBand 2 (some .boolean), Cond.methodLink RX1 132 yX2_voltsAt]
def wsX5_under_r3 : List Cond := [Cond.instanceMethod yX2_voltsAt, Cond.selects RX2 yX2_voltsAt yX2_voltsAt, Cond.initialized RX2, Cond.code yX2_voltsAt cX2_voltsAt 3 (some .int), Cond.constant RX2 25 (-10000002), Cond.fieldLink RX2 11 "GaugeBounds$Curve" "points" "[I", Cond.methodLink RX5 68 yX5_counted, Cond.instanceMethod yX5_counted, Cond.selects RX5 yX5_counted yX5_counted, Cond.code yX5_counted cX5_counted 2 (some .int), Cond.constant RX5 67 (-10000002), Cond.fieldLink RX5 133 "GaugeBounds" "timesBad" "I", Cond.constant RX5 129 (-10000003), Cond.fieldLink RX5 137 "GaugeBounds" "timesNo" "I", Cond.constant RX5 170 (-10000004), Cond.fieldLink RX5 140 "GaugeBounds" "timesFull" "I"]
def wsX5_under : List Cond := .code yX5_under cX5_under 2 (some .int) :: ((wsX5_under_r1 ++ (wsX5_under_r2 ++ wsX5_under_r3)) ++ wsX50 ++ wsX10 ++ wsX00 ++ wsX20)
def wsX5_setting_r1 : List Cond := [Cond.fieldLink RX5 10 "GaugeBounds" "battery" "LGaugeBounds$Battery;", Cond.methodLink RX5 94 yX1_tellSetting, Cond.instanceMethod yX1_tellSetting, Cond.selects RX1 yX1_tellSetting yX1_tellSetting, Cond.initialized RX1, Cond.code yX1_tellSetting cX1_tellSetting 2 (some .int), Cond.fieldLink RX1 35 "GaugeBounds$Battery" "offset" "I", Cond.fieldLink RX1 38 "GaugeBounds$Battery" "cling" "I", Cond.fieldLink RX1 12 "GaugeBounds$Battery" "curve" "LGaugeBounds$Curve;", Cond.constant RX1 77 (-10000002), Cond.static yX5_within, Cond.initialized RX5, Cond.code yX5_within cX5_within 3 (some .boolean), Cond.methodLink RX1 161 yX2_point, Cond.instanceMethod yX2_point, Cond.selects RX2 yX2_point yX2_point, Cond.initialized RX2, Cond.code yX2_point cX2_point 2 (some .int), Cond.fieldLink RX2 11 "GaugeBounds$Curve" "points" "[I", Cond.constant RX2 25 (-10000002), Cond.methodLink RX5 68 yX5_counted, Cond.instanceMethod yX5_counted, Cond.selects RX5 yX5_counted yX5_counted, Cond.code yX5_counted cX5_counted 2 (some .int)]
def wsX5_setting_r2 : List Cond := [Cond.constant RX5 67 (-10000002), Cond.fieldLink RX5 133 "GaugeBounds" "timesBad" "I", Cond.constant RX5 129 (-10000003), Cond.fieldLink RX5 137 "GaugeBounds" "timesNo" "I", Cond.constant RX5 170 (-10000004), Cond.fieldLink RX5 140 "GaugeBounds" "timesFull" "I"]
def wsX5_setting : List Cond := .code yX5_setting cX5_setting 2 (some .int) :: ((wsX5_setting_r1 ++ wsX5_setting_r2) ++ wsX50 ++ wsX10 ++ wsX20)
def wsX5_type : List Cond := .code yX5_type cX5_type 2 (some .int) :: ([.fieldLink RX5 26 "GaugeBounds" "text" "LGaugeBounds$Text;", .methodLink RX5 97 yX4_append, .instanceMethod yX4_append, .selects RX4 yX4_append yX4_append, .initialized RX4, .code yX4_append cX4_append 2 (some .int), .constant RX4 33 (-10000002), .fieldLink RX4 25 "GaugeBounds$Text" "length" "I", .constant RX4 34 (-10000004), .fieldLink RX4 11 "GaugeBounds$Text" "bytes" "[B", .static yX5_within, .initialized RX5, .code yX5_within cX5_within 3 (some .boolean), .methodLink RX5 68 yX5_counted, .instanceMethod yX5_counted, .selects RX5 yX5_counted yX5_counted, .code yX5_counted cX5_counted 2 (some .int), .constant RX5 67 (-10000002), .fieldLink RX5 133 "GaugeBounds" "timesBad" "I", .constant RX5 129 (-10000003), .fieldLink RX5 137 "GaugeBounds" "timesNo" "I", .constant RX5 170 (-10000004), .fieldLink RX5 140 "GaugeBounds" "timesFull" "I"] ++ wsX50 ++ wsX40)
def wsX5_clear : List Cond := .code yX5_clear cX5_clear 1 (some .int) :: ([.fieldLink RX5 26 "GaugeBounds" "text" "LGaugeBounds$Text;", .methodLink RX5 100 yX4_empty, .instanceMethod yX4_empty, .selects RX4 yX4_empty yX4_empty, .initialized RX4, .code yX4_empty cX4_empty 2 (some .int), .fieldLink RX4 25 "GaugeBounds$Text" "length" "I"] ++ wsX50 ++ wsX40)
def wsX5_obey_r1 : List Cond := [Cond.fieldLink RX5 26 "GaugeBounds" "text" "LGaugeBounds$Text;", Cond.fieldLink RX5 10 "GaugeBounds" "battery" "LGaugeBounds$Battery;", Cond.constant RX5 67 (-10000002), Cond.methodLink RX5 171 yX4_firstOf, Cond.instanceMethod yX4_firstOf, Cond.selects RX4 yX4_firstOf yX4_firstOf, Cond.initialized RX4, Cond.code yX4_firstOf cX4_firstOf 2 (some .int), Cond.fieldLink RX4 35 "GaugeBounds$Text" "orders" "I", Cond.fieldLink RX4 19 "GaugeBounds$Text" "firsts" "[I", Cond.static yX5_within, Cond.initialized RX5, Cond.code yX5_within cX5_within 3 (some .boolean), Cond.methodLink RX5 174 yX4_secondOf, Cond.instanceMethod yX4_secondOf, Cond.selects RX4 yX4_secondOf yX4_secondOf, Cond.code yX4_secondOf cX4_secondOf 2 (some .int), Cond.fieldLink RX4 22 "GaugeBounds$Text" "seconds" "[I", Cond.methodLink RX5 177 yX4_kindOf, Cond.instanceMethod yX4_kindOf, Cond.selects RX4 yX4_kindOf yX4_kindOf, Cond.code yX4_kindOf cX4_kindOf 2 (some .int), Cond.fieldLink RX4 15 "GaugeBounds$Text" "kinds" "[I", Cond.methodLink RX5 54 yX1_pass]
def wsX5_obey_r2 : List Cond := [Cond.instanceMethod yX1_pass, Cond.selects RX1 yX1_pass yX1_pass, Cond.initialized RX1, Cond.code yX1_pass cX1_pass 5 (some .int), Cond.constant RX1 77 (-10000002), Cond.fieldLink RX1 58 "GaugeBounds$Battery" "low" "I", Cond.fieldLink RX1 35 "GaugeBounds$Battery" "offset" "I", Cond.methodLink RX1 89 Lib.Math.max.name, Cond.static Lib.Math.max.name, Cond.initialized "java/lang/Math", Cond.code Lib.Math.max.name Lib.Math.max.code 2 (some .int), Cond.fieldLink RX1 25 "GaugeBounds$Battery" "high" "I", Cond.fieldLink RX1 32 "GaugeBounds$Battery" "mostCapacity" "I", Cond.methodLink RX1 94 Lib.Math.min.name, Cond.static Lib.Math.min.name, Cond.code Lib.Math.min.name Lib.Math.min.code 2 (some .int), Cond.constant RX1 97 (-10000003), Cond.fieldLink RX1 61 "GaugeBounds$Battery" "drawn" "I", Cond.fieldLink RX1 64 "GaugeBounds$Battery" "steps" "I", Cond.methodLink RX1 98 yX1_showPassing, Cond.instanceMethod yX1_showPassing, Cond.selects RX1 yX1_showPassing yX1_showPassing, Cond.code yX1_showPassing cX1_showPassing 4 none, Cond.fieldLink RX1 48 "GaugeBounds$Battery" "shown" "I"]
def wsX5_obey_r3 : List Cond := [Cond.methodLink RX1 105 yX1_middle, Cond.instanceMethod yX1_middle, Cond.selects RX1 yX1_middle yX1_middle, Cond.code yX1_middle cX1_middle 2 (some .int), Cond.fieldLink RX1 29 "GaugeBounds$Battery" "leastCapacity" "I", Cond.methodLink RX1 102 yX1_showEmpty, Cond.instanceMethod yX1_showEmpty, Cond.selects RX1 yX1_showEmpty yX1_showEmpty, Cond.code yX1_showEmpty cX1_showEmpty 1 none, Cond.methodLink RX5 57 yX1_rest, Cond.instanceMethod yX1_rest, Cond.selects RX1 yX1_rest yX1_rest, Cond.code yX1_rest cX1_rest 4 (some .int), Cond.constant RX1 41 (-10000001), Cond.fieldLink RX1 67 "GaugeBounds$Battery" "rests" "I", Cond.fieldLink RX1 42 "GaugeBounds$Battery" "lastA" "I", Cond.fieldLink RX1 45 "GaugeBounds$Battery" "lastB" "I", Cond.methodLink RX1 109 yX1_isVoltage, Cond.static yX1_isVoltage, Cond.code yX1_isVoltage cX1_isVoltage 1 (some .boolean), Cond.methodLink RX1 113 yX1_restBound, Cond.instanceMethod yX1_restBound, Cond.selects RX1 yX1_restBound yX1_restBound, Cond.code yX1_restBound cX1_restBound 5 (some .int)]
def wsX5_obey_r4 : List Cond := [Cond.fieldLink RX1 12 "GaugeBounds$Battery" "curve" "LGaugeBounds$Curve;", Cond.fieldLink RX1 38 "GaugeBounds$Battery" "cling" "I", Cond.methodLink RX1 146 yX2_leastReaching, Cond.instanceMethod yX2_leastReaching, Cond.selects RX2 yX2_leastReaching yX2_leastReaching, Cond.initialized RX2, Cond.code yX2_leastReaching cX2_leastReaching 3 (some .int), Cond.constant RX2 31 (-10000001), Cond.methodLink RX2 27 yX2_placesBelow, Cond.instanceMethod yX2_placesBelow, Cond.selects RX2 yX2_placesBelow yX2_placesBelow, Cond.code yX2_placesBelow cX2_placesBelow 5 (some .int), Cond.methodLink RX2 32 yX2_voltsAt, Cond.instanceMethod yX2_voltsAt, Cond.selects RX2 yX2_voltsAt yX2_voltsAt, Cond.code yX2_voltsAt cX2_voltsAt 3 (some .int), Cond.constant RX2 25 (-10000002), Cond.fieldLink RX2 11 "GaugeBounds$Curve" "points" "[I", Cond.methodLink RX1 149 yX2_greatestWithin, Cond.instanceMethod yX2_greatestWithin, Cond.selects RX2 yX2_greatestWithin yX2_greatestWithin, Cond.code yX2_greatestWithin cX2_greatestWithin 3 (some .int), Cond.methodLink RX1 116 yX1_learnCapacity, Cond.instanceMethod yX1_learnCapacity]
def wsX5_obey_r5 : List Cond := [Cond.selects RX1 yX1_learnCapacity yX1_learnCapacity, Cond.code yX1_learnCapacity cX1_learnCapacity 12 none, Cond.constantLong RX1 122 (1000), Cond.methodLink RX1 124 Lib.MathLoose.max_long.x, Cond.static Lib.MathLoose.max_long.x, Cond.code Lib.MathLoose.max_long.x Lib.MathLoose.max_long.code 4 (some .long), Cond.methodLink RX1 127 Lib.MathLoose.min_long.x, Cond.static Lib.MathLoose.min_long.x, Cond.code Lib.MathLoose.min_long.x Lib.MathLoose.min_long.code 4 (some .long), Cond.fieldLink RX1 70 "GaugeBounds$Battery" "clashes" "I", Cond.methodLink RX1 119 yX1_narrowCharge, Cond.instanceMethod yX1_narrowCharge, Cond.selects RX1 yX1_narrowCharge yX1_narrowCharge, Cond.code yX1_narrowCharge cX1_narrowCharge 5 none, Cond.methodLink RX5 60 yX1_load, Cond.instanceMethod yX1_load, Cond.selects RX1 yX1_load yX1_load, Cond.code yX1_load cX1_load 5 (some .int), Cond.fieldLink RX1 21 "GaugeBounds$Battery" "bands" "LGaugeBounds$Bands;", Cond.methodLink RX1 129 yX1_isLoad, Cond.static yX1_isLoad, Cond.code yX1_isLoad cX1_isLoad 1 (some .boolean), Cond.methodLink RX1 132 yX2_voltsAt, Cond.methodLink RX1 136 yX1_signOf]
def wsX5_obey_r6 : List Cond := [Cond.static yX1_signOf, Cond.code yX1_signOf cX1_signOf 1 (some .int), Cond.methodLink RX1 139 yX1_tenthOf, Cond.static yX1_tenthOf, Cond.code yX1_tenthOf cX1_tenthOf 1 (some .int), Cond.methodLink RX1 142 yX0_add, Cond.instanceMethod yX0_add, Cond.selects RX0 yX0_add yX0_add, Cond.initialized RX0, Cond.code yX0_add cX0_add 5 none, Cond.fieldLink RX0 11 "GaugeBounds$Bands" "sums" "[J", Cond.fieldLink RX0 15 "GaugeBounds$Bands" "counts" "[I", Cond.methodLink RX0 25 yX0_isBand, Cond.static yX0_isBand, Cond.code yX0_isBand cX0_isBand 2 (some .boolean), Cond.methodLink RX5 45 yX1_putOffset, Cond.instanceMethod yX1_putOffset, Cond.selects RX1 yX1_putOffset yX1_putOffset, Cond.code yX1_putOffset cX1_putOffset 3 (some .int), Cond.methodLink RX5 48 yX1_putCling, Cond.instanceMethod yX1_putCling, Cond.selects RX1 yX1_putCling yX1_putCling, Cond.code yX1_putCling cX1_putCling 3 (some .int), Cond.methodLink RX5 51 yX1_putPoint]
def wsX5_obey_r7 : List Cond := [Cond.instanceMethod yX1_putPoint, Cond.selects RX1 yX1_putPoint yX1_putPoint, Cond.code yX1_putPoint cX1_putPoint 3 (some .int), Cond.methodLink RX1 85 yX2_putPoint, Cond.instanceMethod yX2_putPoint, Cond.selects RX2 yX2_putPoint yX2_putPoint, Cond.code yX2_putPoint cX2_putPoint 4 (some .int), Cond.constant RX2 26 (-10000003)]
def wsX5_obey : List Cond := .code yX5_obey cX5_obey 4 (some .int) :: ((wsX5_obey_r1 ++ (wsX5_obey_r2 ++ (wsX5_obey_r3 ++ (wsX5_obey_r4 ++ (wsX5_obey_r5 ++ (wsX5_obey_r6 ++ wsX5_obey_r7)))))) ++ wsX50 ++ wsX40 ++ wsX10 ++ wsX20 ++ wsX00)
def wsX5_does_r1 : List Cond := [Cond.fieldLink RX5 26 "GaugeBounds" "text" "LGaugeBounds$Text;", Cond.fieldLink RX5 19 "GaugeBounds" "states" "LGaugeBounds$States;", Cond.fieldLink RX5 10 "GaugeBounds" "battery" "LGaugeBounds$Battery;", Cond.methodLink RX5 103 yX4_read, Cond.instanceMethod yX4_read, Cond.selects RX4 yX4_read yX4_read, Cond.initialized RX4, Cond.code yX4_read cX4_read 2 (some .boolean), Cond.fieldLink RX4 38 "GaugeBounds$Text" "place" "I", Cond.fieldLink RX4 35 "GaugeBounds$Text" "orders" "I", Cond.fieldLink RX4 25 "GaugeBounds$Text" "length" "I", Cond.methodLink RX4 41 yX4_skipBlanks, Cond.instanceMethod yX4_skipBlanks, Cond.selects RX4 yX4_skipBlanks yX4_skipBlanks, Cond.code yX4_skipBlanks cX4_skipBlanks 1 none, Cond.methodLink RX4 48 yX4_here, Cond.instanceMethod yX4_here, Cond.selects RX4 yX4_here yX4_here, Cond.code yX4_here cX4_here 1 (some .int), Cond.fieldLink RX4 11 "GaugeBounds$Text" "bytes" "[B", Cond.methodLink RX4 44 yX4_readOrder, Cond.instanceMethod yX4_readOrder, Cond.selects RX4 yX4_readOrder yX4_readOrder, Cond.code yX4_readOrder cX4_readOrder 3 (some .boolean)]
def wsX5_does_r2 : List Cond := [Cond.fieldLink RX4 60 "GaugeBounds$Text" "number" "I", Cond.fieldLink RX4 15 "GaugeBounds$Text" "kinds" "[I", Cond.fieldLink RX4 19 "GaugeBounds$Text" "firsts" "[I", Cond.fieldLink RX4 22 "GaugeBounds$Text" "seconds" "[I", Cond.methodLink RX4 52 yX4_isKind, Cond.static yX4_isKind, Cond.code yX4_isKind cX4_isKind 1 (some .boolean), Cond.methodLink RX4 63 yX4_hasSecond, Cond.static yX4_hasSecond, Cond.code yX4_hasSecond cX4_hasSecond 1 (some .boolean), Cond.methodLink RX4 56 yX4_readNumber, Cond.instanceMethod yX4_readNumber, Cond.selects RX4 yX4_readNumber yX4_readNumber, Cond.code yX4_readNumber cX4_readNumber 5 (some .boolean), Cond.methodLink RX4 66 yX4_isFigure, Cond.static yX4_isFigure, Cond.code yX4_isFigure cX4_isFigure 1 (some .boolean), Cond.methodLink RX5 107 yX4_place, Cond.instanceMethod yX4_place, Cond.selects RX4 yX4_place yX4_place, Cond.code yX4_place cX4_place 1 (some .int), Cond.methodLink RX5 30 yX3_mark, Cond.instanceMethod yX3_mark, Cond.selects RX3 yX3_mark yX3_mark]
def wsX5_does_r3 : List Cond := [Cond.initialized RX3, Cond.code yX3_mark cX3_mark 2 none, Cond.fieldLink RX3 11 "GaugeBounds$States" "ring" "[LGaugeBounds$Battery;", Cond.fieldLink RX3 20 "GaugeBounds$States" "marked" "I", Cond.methodLink RX3 23 yX1_copyFrom, Cond.instanceMethod yX1_copyFrom, Cond.selects RX1 yX1_copyFrom yX1_copyFrom, Cond.initialized RX1, Cond.code yX1_copyFrom cX1_copyFrom 2 none, Cond.fieldLink RX1 12 "GaugeBounds$Battery" "curve" "LGaugeBounds$Curve;", Cond.fieldLink RX1 21 "GaugeBounds$Battery" "bands" "LGaugeBounds$Bands;", Cond.fieldLink RX1 58 "GaugeBounds$Battery" "low" "I", Cond.fieldLink RX1 25 "GaugeBounds$Battery" "high" "I", Cond.fieldLink RX1 29 "GaugeBounds$Battery" "leastCapacity" "I", Cond.fieldLink RX1 32 "GaugeBounds$Battery" "mostCapacity" "I", Cond.fieldLink RX1 35 "GaugeBounds$Battery" "offset" "I", Cond.fieldLink RX1 38 "GaugeBounds$Battery" "cling" "I", Cond.fieldLink RX1 61 "GaugeBounds$Battery" "drawn" "I", Cond.fieldLink RX1 64 "GaugeBounds$Battery" "steps" "I", Cond.fieldLink RX1 67 "GaugeBounds$Battery" "rests" "I", Cond.fieldLink RX1 42 "GaugeBounds$Battery" "lastA" "I", Cond.fieldLink RX1 45 "GaugeBounds$Battery" "lastB" "I", Cond.fieldLink RX1 70 "GaugeBounds$Battery" "clashes" "I", Cond.fieldLink RX1 48 "GaugeBounds$Battery" "shown" "I"]
def wsX5_does_r4 : List Cond := [Cond.methodLink RX1 51 yX2_copyFrom, Cond.instanceMethod yX2_copyFrom, Cond.selects RX2 yX2_copyFrom yX2_copyFrom, Cond.initialized RX2, Cond.code yX2_copyFrom cX2_copyFrom 2 none, Cond.fieldLink RX2 11 "GaugeBounds$Curve" "points" "[I", Cond.methodLink RX2 15 arraycopyName, Cond.native arraycopyName, Cond.static arraycopyName, Cond.initialized "java/lang/System", Cond.methodLink RX1 55 yX0_copyFrom, Cond.instanceMethod yX0_copyFrom, Cond.selects RX0 yX0_copyFrom yX0_copyFrom, Cond.initialized RX0, Cond.code yX0_copyFrom cX0_copyFrom 2 none, Cond.fieldLink RX0 11 "GaugeBounds$Bands" "sums" "[J", Cond.methodLink RX0 19 arraycopyName, Cond.fieldLink RX0 15 "GaugeBounds$Bands" "counts" "[I", Cond.methodLink RX5 110 yX4_orders, Cond.instanceMethod yX4_orders, Cond.selects RX4 yX4_orders yX4_orders, Cond.code yX4_orders cX4_orders 1 (some .int), Cond.methodLink RX5 113 yX5_obey, Cond.instanceMethod yX5_obey]
def wsX5_does_r5 : List Cond := [Cond.selects RX5 yX5_obey yX5_obey, Cond.initialized RX5, Cond.code yX5_obey cX5_obey 4 (some .int), Cond.constant RX5 67 (-10000002), Cond.methodLink RX5 171 yX4_firstOf, Cond.instanceMethod yX4_firstOf, Cond.selects RX4 yX4_firstOf yX4_firstOf, Cond.code yX4_firstOf cX4_firstOf 2 (some .int), Cond.static yX5_within, Cond.code yX5_within cX5_within 3 (some .boolean), Cond.methodLink RX5 174 yX4_secondOf, Cond.instanceMethod yX4_secondOf, Cond.selects RX4 yX4_secondOf yX4_secondOf, Cond.code yX4_secondOf cX4_secondOf 2 (some .int), Cond.methodLink RX5 177 yX4_kindOf, Cond.instanceMethod yX4_kindOf, Cond.selects RX4 yX4_kindOf yX4_kindOf, Cond.code yX4_kindOf cX4_kindOf 2 (some .int), Cond.methodLink RX5 54 yX1_pass, Cond.instanceMethod yX1_pass, Cond.selects RX1 yX1_pass yX1_pass, Cond.code yX1_pass cX1_pass 5 (some .int), Cond.constant RX1 77 (-10000002), Cond.methodLink RX1 89 Lib.Math.max.name]
def wsX5_does_r6 : List Cond := [Cond.static Lib.Math.max.name, Cond.initialized "java/lang/Math", Cond.code Lib.Math.max.name Lib.Math.max.code 2 (some .int), Cond.methodLink RX1 94 Lib.Math.min.name, Cond.static Lib.Math.min.name, Cond.code Lib.Math.min.name Lib.Math.min.code 2 (some .int), Cond.constant RX1 97 (-10000003), Cond.methodLink RX1 98 yX1_showPassing, Cond.instanceMethod yX1_showPassing, Cond.selects RX1 yX1_showPassing yX1_showPassing, Cond.code yX1_showPassing cX1_showPassing 4 none, Cond.methodLink RX1 105 yX1_middle, Cond.instanceMethod yX1_middle, Cond.selects RX1 yX1_middle yX1_middle, Cond.code yX1_middle cX1_middle 2 (some .int), Cond.methodLink RX1 102 yX1_showEmpty, Cond.instanceMethod yX1_showEmpty, Cond.selects RX1 yX1_showEmpty yX1_showEmpty, Cond.code yX1_showEmpty cX1_showEmpty 1 none, Cond.methodLink RX5 57 yX1_rest, Cond.instanceMethod yX1_rest, Cond.selects RX1 yX1_rest yX1_rest, Cond.code yX1_rest cX1_rest 4 (some .int), Cond.constant RX1 41 (-10000001)]
def wsX5_does_r7 : List Cond := [Cond.methodLink RX1 109 yX1_isVoltage, Cond.static yX1_isVoltage, Cond.code yX1_isVoltage cX1_isVoltage 1 (some .boolean), Cond.methodLink RX1 113 yX1_restBound, Cond.instanceMethod yX1_restBound, Cond.selects RX1 yX1_restBound yX1_restBound, Cond.code yX1_restBound cX1_restBound 5 (some .int), Cond.methodLink RX1 146 yX2_leastReaching, Cond.instanceMethod yX2_leastReaching, Cond.selects RX2 yX2_leastReaching yX2_leastReaching, Cond.code yX2_leastReaching cX2_leastReaching 3 (some .int), Cond.constant RX2 31 (-10000001), Cond.methodLink RX2 27 yX2_placesBelow, Cond.instanceMethod yX2_placesBelow, Cond.selects RX2 yX2_placesBelow yX2_placesBelow, Cond.code yX2_placesBelow cX2_placesBelow 5 (some .int), Cond.methodLink RX2 32 yX2_voltsAt, Cond.instanceMethod yX2_voltsAt, Cond.selects RX2 yX2_voltsAt yX2_voltsAt, Cond.code yX2_voltsAt cX2_voltsAt 3 (some .int), Cond.constant RX2 25 (-10000002), Cond.methodLink RX1 149 yX2_greatestWithin, Cond.instanceMethod yX2_greatestWithin, Cond.selects RX2 yX2_greatestWithin yX2_greatestWithin]
def wsX5_does_r8 : List Cond := [Cond.code yX2_greatestWithin cX2_greatestWithin 3 (some .int), Cond.methodLink RX1 116 yX1_learnCapacity, Cond.instanceMethod yX1_learnCapacity, Cond.selects RX1 yX1_learnCapacity yX1_learnCapacity, Cond.code yX1_learnCapacity cX1_learnCapacity 12 none, Cond.constantLong RX1 122 (1000), Cond.methodLink RX1 124 Lib.MathLoose.max_long.x, Cond.static Lib.MathLoose.max_long.x, Cond.code Lib.MathLoose.max_long.x Lib.MathLoose.max_long.code 4 (some .long), Cond.methodLink RX1 127 Lib.MathLoose.min_long.x, Cond.static Lib.MathLoose.min_long.x, Cond.code Lib.MathLoose.min_long.x Lib.MathLoose.min_long.code 4 (some .long), Cond.methodLink RX1 119 yX1_narrowCharge, Cond.instanceMethod yX1_narrowCharge, Cond.selects RX1 yX1_narrowCharge yX1_narrowCharge, Cond.code yX1_narrowCharge cX1_narrowCharge 5 none, Cond.methodLink RX5 60 yX1_load, Cond.instanceMethod yX1_load, Cond.selects RX1 yX1_load yX1_load, Cond.code yX1_load cX1_load 5 (some .int), Cond.methodLink RX1 129 yX1_isLoad, Cond.static yX1_isLoad, Cond.code yX1_isLoad cX1_isLoad 1 (some .boolean), Cond.methodLink RX1 132 yX2_voltsAt]
def wsX5_does_r9 : List Cond := [Cond.methodLink RX1 136 yX1_signOf, Cond.static yX1_signOf, Cond.code yX1_signOf cX1_signOf 1 (some .int), Cond.methodLink RX1 139 yX1_tenthOf, Cond.static yX1_tenthOf, Cond.code yX1_tenthOf cX1_tenthOf 1 (some .int), Cond.methodLink RX1 142 yX0_add, Cond.instanceMethod yX0_add, Cond.selects RX0 yX0_add yX0_add, Cond.code yX0_add cX0_add 5 none, Cond.methodLink RX0 25 yX0_isBand, Cond.static yX0_isBand, Cond.code yX0_isBand cX0_isBand 2 (some .boolean), Cond.methodLink RX5 45 yX1_putOffset, Cond.instanceMethod yX1_putOffset, Cond.selects RX1 yX1_putOffset yX1_putOffset, Cond.code yX1_putOffset cX1_putOffset 3 (some .int), Cond.methodLink RX5 48 yX1_putCling, Cond.instanceMethod yX1_putCling, Cond.selects RX1 yX1_putCling yX1_putCling, Cond.code yX1_putCling cX1_putCling 3 (some .int), Cond.methodLink RX5 51 yX1_putPoint, Cond.instanceMethod yX1_putPoint, Cond.selects RX1 yX1_putPoint yX1_putPoint]
def wsX5_does_r10 : List Cond := [Cond.code yX1_putPoint cX1_putPoint 3 (some .int), Cond.methodLink RX1 85 yX2_putPoint, Cond.instanceMethod yX2_putPoint, Cond.selects RX2 yX2_putPoint yX2_putPoint, Cond.code yX2_putPoint cX2_putPoint 4 (some .int), Cond.constant RX2 26 (-10000003), Cond.methodLink RX5 116 yX5_isRefusal, Cond.static yX5_isRefusal, Cond.code yX5_isRefusal cX5_isRefusal 1 (some .boolean), Cond.constant RX5 129 (-10000003), Cond.constant RX5 170 (-10000004), Cond.methodLink RX5 120 yX3_restoreMarked, Cond.instanceMethod yX3_restoreMarked, Cond.selects RX3 yX3_restoreMarked yX3_restoreMarked, Cond.code yX3_restoreMarked cX3_restoreMarked 2 none, Cond.methodLink RX5 123 yX3_keepMarked, Cond.instanceMethod yX3_keepMarked, Cond.selects RX3 yX3_keepMarked yX3_keepMarked, Cond.code yX3_keepMarked cX3_keepMarked 1 none, Cond.fieldLink RX3 16 "GaugeBounds$States" "size" "I", Cond.methodLink RX3 27 Lib.Math.min.name]
def wsX5_does : List Cond := .code yX5_does cX5_does 2 (some .int) :: ((wsX5_does_r1 ++ (wsX5_does_r2 ++ (wsX5_does_r3 ++ (wsX5_does_r4 ++ (wsX5_does_r5 ++ (wsX5_does_r6 ++ (wsX5_does_r7 ++ (wsX5_does_r8 ++ (wsX5_does_r9 ++ wsX5_does_r10))))))))) ++ wsX50 ++ wsX40 ++ wsX30 ++ wsX10 ++ wsX20 ++ wsX00)
def wsX5_back_r1 : List Cond := [Cond.fieldLink RX5 19 "GaugeBounds" "states" "LGaugeBounds$States;", Cond.constant RX5 129 (-10000003), Cond.fieldLink RX5 10 "GaugeBounds" "battery" "LGaugeBounds$Battery;", Cond.methodLink RX5 126 yX3_size, Cond.instanceMethod yX3_size, Cond.selects RX3 yX3_size yX3_size, Cond.initialized RX3, Cond.code yX3_size cX3_size 1 (some .int), Cond.fieldLink RX3 16 "GaugeBounds$States" "size" "I", Cond.methodLink RX5 68 yX5_counted, Cond.instanceMethod yX5_counted, Cond.selects RX5 yX5_counted yX5_counted, Cond.initialized RX5, Cond.code yX5_counted cX5_counted 2 (some .int), Cond.constant RX5 67 (-10000002), Cond.fieldLink RX5 133 "GaugeBounds" "timesBad" "I", Cond.fieldLink RX5 137 "GaugeBounds" "timesNo" "I", Cond.constant RX5 170 (-10000004), Cond.fieldLink RX5 140 "GaugeBounds" "timesFull" "I", Cond.methodLink RX5 130 yX3_takeBack, Cond.instanceMethod yX3_takeBack, Cond.selects RX3 yX3_takeBack yX3_takeBack, Cond.code yX3_takeBack cX3_takeBack 2 none, Cond.fieldLink RX3 20 "GaugeBounds$States" "marked" "I"]
def wsX5_back_r2 : List Cond := [Cond.methodLink RX3 33 yX3_restoreMarked, Cond.instanceMethod yX3_restoreMarked, Cond.selects RX3 yX3_restoreMarked yX3_restoreMarked, Cond.code yX3_restoreMarked cX3_restoreMarked 2 none, Cond.fieldLink RX3 11 "GaugeBounds$States" "ring" "[LGaugeBounds$Battery;", Cond.methodLink RX3 23 yX1_copyFrom, Cond.instanceMethod yX1_copyFrom, Cond.selects RX1 yX1_copyFrom yX1_copyFrom, Cond.initialized RX1, Cond.code yX1_copyFrom cX1_copyFrom 2 none, Cond.fieldLink RX1 12 "GaugeBounds$Battery" "curve" "LGaugeBounds$Curve;", Cond.fieldLink RX1 21 "GaugeBounds$Battery" "bands" "LGaugeBounds$Bands;", Cond.fieldLink RX1 58 "GaugeBounds$Battery" "low" "I", Cond.fieldLink RX1 25 "GaugeBounds$Battery" "high" "I", Cond.fieldLink RX1 29 "GaugeBounds$Battery" "leastCapacity" "I", Cond.fieldLink RX1 32 "GaugeBounds$Battery" "mostCapacity" "I", Cond.fieldLink RX1 35 "GaugeBounds$Battery" "offset" "I", Cond.fieldLink RX1 38 "GaugeBounds$Battery" "cling" "I", Cond.fieldLink RX1 61 "GaugeBounds$Battery" "drawn" "I", Cond.fieldLink RX1 64 "GaugeBounds$Battery" "steps" "I", Cond.fieldLink RX1 67 "GaugeBounds$Battery" "rests" "I", Cond.fieldLink RX1 42 "GaugeBounds$Battery" "lastA" "I", Cond.fieldLink RX1 45 "GaugeBounds$Battery" "lastB" "I", Cond.fieldLink RX1 70 "GaugeBounds$Battery" "clashes" "I"]
def wsX5_back_r3 : List Cond := [Cond.fieldLink RX1 48 "GaugeBounds$Battery" "shown" "I", Cond.methodLink RX1 51 yX2_copyFrom, Cond.instanceMethod yX2_copyFrom, Cond.selects RX2 yX2_copyFrom yX2_copyFrom, Cond.initialized RX2, Cond.code yX2_copyFrom cX2_copyFrom 2 none, Cond.fieldLink RX2 11 "GaugeBounds$Curve" "points" "[I", Cond.methodLink RX2 15 arraycopyName, Cond.native arraycopyName, Cond.static arraycopyName, Cond.initialized "java/lang/System", Cond.methodLink RX1 55 yX0_copyFrom, Cond.instanceMethod yX0_copyFrom, Cond.selects RX0 yX0_copyFrom yX0_copyFrom, Cond.initialized RX0, Cond.code yX0_copyFrom cX0_copyFrom 2 none, Cond.fieldLink RX0 11 "GaugeBounds$Bands" "sums" "[J", Cond.methodLink RX0 19 arraycopyName, Cond.fieldLink RX0 15 "GaugeBounds$Bands" "counts" "[I"]
def wsX5_back : List Cond := .code yX5_back cX5_back 1 (some .int) :: ((wsX5_back_r1 ++ (wsX5_back_r2 ++ wsX5_back_r3)) ++ wsX50 ++ wsX30 ++ wsX10 ++ wsX20 ++ wsX00)
def wsX5_refused_r1 : List Cond := [Cond.fieldLink RX5 133 "GaugeBounds" "timesBad" "I", Cond.fieldLink RX5 137 "GaugeBounds" "timesNo" "I", Cond.fieldLink RX5 140 "GaugeBounds" "timesFull" "I", Cond.fieldLink RX5 26 "GaugeBounds" "text" "LGaugeBounds$Text;", Cond.fieldLink RX5 19 "GaugeBounds" "states" "LGaugeBounds$States;", Cond.constant RX5 67 (-10000002), Cond.methodLink RX5 143 yX4_length, Cond.instanceMethod yX4_length, Cond.selects RX4 yX4_length yX4_length, Cond.initialized RX4, Cond.code yX4_length cX4_length 1 (some .int), Cond.fieldLink RX4 25 "GaugeBounds$Text" "length" "I", Cond.methodLink RX5 126 yX3_size, Cond.instanceMethod yX3_size, Cond.selects RX3 yX3_size yX3_size, Cond.initialized RX3, Cond.code yX3_size cX3_size 1 (some .int), Cond.fieldLink RX3 16 "GaugeBounds$States" "size" "I", Cond.methodLink RX5 68 yX5_counted, Cond.instanceMethod yX5_counted, Cond.selects RX5 yX5_counted yX5_counted, Cond.initialized RX5, Cond.code yX5_counted cX5_counted 2 (some .int), Cond.constant RX5 129 (-10000003)]
def wsX5_refused_r2 : List Cond := [Cond.constant RX5 170 (-10000004)]
def wsX5_refused : List Cond := .code yX5_refused cX5_refused 2 (some .int) :: ((wsX5_refused_r1 ++ wsX5_refused_r2) ++ wsX50 ++ wsX40 ++ wsX30)
def wsX5_digest_r1 : List Cond := [Cond.constantLong RX5 146 (1690), Cond.constantLong RX5 148 (31), Cond.methodLink RX5 150 yX5_refused, Cond.instanceMethod yX5_refused, Cond.selects RX5 yX5_refused yX5_refused, Cond.initialized RX5, Cond.code yX5_refused cX5_refused 2 (some .int), Cond.fieldLink RX5 133 "GaugeBounds" "timesBad" "I", Cond.fieldLink RX5 137 "GaugeBounds" "timesNo" "I", Cond.fieldLink RX5 140 "GaugeBounds" "timesFull" "I", Cond.fieldLink RX5 26 "GaugeBounds" "text" "LGaugeBounds$Text;", Cond.fieldLink RX5 19 "GaugeBounds" "states" "LGaugeBounds$States;", Cond.constant RX5 67 (-10000002), Cond.methodLink RX5 143 yX4_length, Cond.instanceMethod yX4_length, Cond.selects RX4 yX4_length yX4_length, Cond.initialized RX4, Cond.code yX4_length cX4_length 1 (some .int), Cond.fieldLink RX4 25 "GaugeBounds$Text" "length" "I", Cond.methodLink RX5 126 yX3_size, Cond.instanceMethod yX3_size, Cond.selects RX3 yX3_size yX3_size, Cond.initialized RX3, Cond.code yX3_size cX3_size 1 (some .int)]
def wsX5_digest_r2 : List Cond := [Cond.fieldLink RX3 16 "GaugeBounds$States" "size" "I", Cond.methodLink RX5 68 yX5_counted, Cond.instanceMethod yX5_counted, Cond.selects RX5 yX5_counted yX5_counted, Cond.code yX5_counted cX5_counted 2 (some .int), Cond.constant RX5 129 (-10000003), Cond.constant RX5 170 (-10000004), Cond.methodLink RX5 153 yX5_told, Cond.instanceMethod yX5_told, Cond.selects RX5 yX5_told yX5_told, Cond.code yX5_told cX5_told 2 (some .int), Cond.fieldLink RX5 10 "GaugeBounds" "battery" "LGaugeBounds$Battery;", Cond.methodLink RX5 63 yX5_within, Cond.static yX5_within, Cond.code yX5_within cX5_within 3 (some .boolean), Cond.methodLink RX5 71 yX1_tell, Cond.instanceMethod yX1_tell, Cond.selects RX1 yX1_tell yX1_tell, Cond.initialized RX1, Cond.code yX1_tell cX1_tell 2 (some .int), Cond.fieldLink RX1 58 "GaugeBounds$Battery" "low" "I", Cond.fieldLink RX1 25 "GaugeBounds$Battery" "high" "I", Cond.fieldLink RX1 29 "GaugeBounds$Battery" "leastCapacity" "I", Cond.fieldLink RX1 32 "GaugeBounds$Battery" "mostCapacity" "I"]
def wsX5_digest_r3 : List Cond := [Cond.fieldLink RX1 48 "GaugeBounds$Battery" "shown" "I", Cond.fieldLink RX1 61 "GaugeBounds$Battery" "drawn" "I", Cond.fieldLink RX1 64 "GaugeBounds$Battery" "steps" "I", Cond.fieldLink RX1 70 "GaugeBounds$Battery" "clashes" "I", Cond.fieldLink RX1 67 "GaugeBounds$Battery" "rests" "I", Cond.fieldLink RX1 42 "GaugeBounds$Battery" "lastA" "I", Cond.fieldLink RX1 45 "GaugeBounds$Battery" "lastB" "I", Cond.constant RX1 77 (-10000002), Cond.methodLink RX1 105 yX1_middle, Cond.instanceMethod yX1_middle, Cond.selects RX1 yX1_middle yX1_middle, Cond.code yX1_middle cX1_middle 2 (some .int), Cond.methodLink RX1 94 Lib.Math.min.name, Cond.static Lib.Math.min.name, Cond.initialized "java/lang/Math", Cond.code Lib.Math.min.name Lib.Math.min.code 2 (some .int), Cond.methodLink RX5 156 yX5_setting, Cond.instanceMethod yX5_setting, Cond.selects RX5 yX5_setting yX5_setting, Cond.code yX5_setting cX5_setting 2 (some .int), Cond.methodLink RX5 94 yX1_tellSetting, Cond.instanceMethod yX1_tellSetting, Cond.selects RX1 yX1_tellSetting yX1_tellSetting, Cond.code yX1_tellSetting cX1_tellSetting 2 (some .int)]
def wsX5_digest_r4 : List Cond := [Cond.fieldLink RX1 35 "GaugeBounds$Battery" "offset" "I", Cond.fieldLink RX1 38 "GaugeBounds$Battery" "cling" "I", Cond.fieldLink RX1 12 "GaugeBounds$Battery" "curve" "LGaugeBounds$Curve;", Cond.methodLink RX1 161 yX2_point, Cond.instanceMethod yX2_point, Cond.selects RX2 yX2_point yX2_point, Cond.initialized RX2, Cond.code yX2_point cX2_point 2 (some .int), Cond.fieldLink RX2 11 "GaugeBounds$Curve" "points" "[I", Cond.constant RX2 25 (-10000002), Cond.methodLink RX5 159 yX5_bands, Cond.instanceMethod yX5_bands, Cond.selects RX5 yX5_bands yX5_bands, Cond.code yX5_bands cX5_bands 1 (some .int), Cond.methodLink RX5 84 yX1_usedBands, Cond.instanceMethod yX1_usedBands, Cond.selects RX1 yX1_usedBands yX1_usedBands, Cond.code yX1_usedBands cX1_usedBands 1 (some .int), Cond.fieldLink RX1 21 "GaugeBounds$Battery" "bands" "LGaugeBounds$Bands;", Cond.methodLink RX1 158 yX0_used, Cond.instanceMethod yX0_used, Cond.selects RX0 yX0_used yX0_used, Cond.initialized RX0, Cond.code yX0_used cX0_used 3 (some .int)]
def wsX5_digest_r5 : List Cond := [Cond.fieldLink RX0 15 "GaugeBounds$Bands" "counts" "[I", Cond.methodLink RX5 164 yX5_band, Cond.instanceMethod yX5_band, Cond.selects RX5 yX5_band yX5_band, Cond.code yX5_band cX5_band 4 (some .int), Cond.methodLink RX5 80 yX1_tellBand, Cond.instanceMethod yX1_tellBand, Cond.selects RX1 yX1_tellBand yX1_tellBand, Cond.code yX1_tellBand cX1_tellBand 4 (some .int), Cond.methodLink RX1 152 yX0_resistance, Cond.instanceMethod yX0_resistance, Cond.selects RX0 yX0_resistance yX0_resistance, Cond.code yX0_resistance cX0_resistance 4 (some .int), Cond.constant RX0 29 (-10000002), Cond.constant RX0 30 (-10000001), Cond.fieldLink RX0 11 "GaugeBounds$Bands" "sums" "[J", Cond.methodLink RX0 25 yX0_isBand, Cond.static yX0_isBand, Cond.code yX0_isBand cX0_isBand 2 (some .boolean), Cond.methodLink RX1 155 yX0_howMany, Cond.instanceMethod yX0_howMany, Cond.selects RX0 yX0_howMany yX0_howMany, Cond.code yX0_howMany cX0_howMany 3 (some .int), Cond.methodLink RX5 167 yX5_lasts]
def wsX5_digest_r6 : List Cond := [Cond.instanceMethod yX5_lasts, Cond.selects RX5 yX5_lasts yX5_lasts, Cond.code yX5_lasts cX5_lasts 3 (some .int), Cond.methodLink RX5 88 yX1_lasting, Cond.instanceMethod yX1_lasting, Cond.selects RX1 yX1_lasting yX1_lasting, Cond.code yX1_lasting cX1_lasting 3 (some .int), Cond.constant RX1 41 (-10000001)]
def wsX5_digest : List Cond := .code yX5_digest cX5_digest 5 (some .long) :: ((wsX5_digest_r1 ++ (wsX5_digest_r2 ++ (wsX5_digest_r3 ++ (wsX5_digest_r4 ++ (wsX5_digest_r5 ++ wsX5_digest_r6))))) ++ wsX50 ++ wsX40 ++ wsX30 ++ wsX10 ++ wsX20 ++ wsX00)
def wsX6_init : List Cond := .code yX6_init cX6_init 2 none :: ([.methodLink RX6 1 objectInit, .instanceMethod objectInit, .code objectInit ⟨#[0xb1]⟩ 1 none, .arrayClass .long, .fieldLink RX6 7 "GaugeBoundsModel" "now" "[J", .fieldLink RX6 13 "GaugeBoundsModel" "aside" "[J", .fieldLink RX6 16 "GaugeBoundsModel" "past" "[J", .arrayClass .int, .fieldLink RX6 19 "GaugeBoundsModel" "refusals" "[I", .fieldLink RX6 23 "GaugeBoundsModel" "text" "[I", .fieldLink RX6 26 "GaugeBoundsModel" "letters" "[I", .fieldLink RX6 29 "GaugeBoundsModel" "numbers" "[I", .constantLong RX6 32 (1000), .constantLong RX6 34 (500), .constantLong RX6 36 (100), .constantLong RX6 38 (-10000001), .constantLong RX6 40 (10), .constantLong RX6 42 (3000)] ++ wsX60)
def wsX6_in : List Cond := .code yX6_in cX6_in 6 (some .boolean) :: ([])
def wsX6_refuses : List Cond := .code yX6_refuses cX6_refuses 2 (some .int) :: ([.fieldLink RX6 19 "GaugeBoundsModel" "refusals" "[I", .constant RX6 44 (-10000002)] ++ wsX60)
def wsX6_laysAside : List Cond := .code yX6_laysAside cX6_laysAside 2 none :: ([.fieldLink RX6 13 "GaugeBoundsModel" "aside" "[J", .fieldLink RX6 7 "GaugeBoundsModel" "now" "[J"] ++ wsX60)
def wsX6_remembers : List Cond := .code yX6_remembers cX6_remembers 2 none :: ([.fieldLink RX6 45 "GaugeBoundsModel" "states" "I", .fieldLink RX6 16 "GaugeBoundsModel" "past" "[J", .fieldLink RX6 13 "GaugeBoundsModel" "aside" "[J"] ++ wsX60)
def wsX6_back : List Cond := .code yX6_back cX6_back 2 (some .int) :: ([.fieldLink RX6 45 "GaugeBoundsModel" "states" "I", .constant RX6 49 (-10000003), .fieldLink RX6 7 "GaugeBoundsModel" "now" "[J", .fieldLink RX6 16 "GaugeBoundsModel" "past" "[J", .methodLink RX6 50 yX6_refuses, .instanceMethod yX6_refuses, .selects RX6 yX6_refuses yX6_refuses, .initialized RX6, .code yX6_refuses cX6_refuses 2 (some .int), .fieldLink RX6 19 "GaugeBoundsModel" "refusals" "[I", .constant RX6 44 (-10000002)] ++ wsX60)
def wsX6_finished : List Cond := .code yX6_finished cX6_finished 2 (some .int) :: ([.constant RX6 44 (-10000002), .methodLink RX6 50 yX6_refuses, .instanceMethod yX6_refuses, .selects RX6 yX6_refuses yX6_refuses, .initialized RX6, .code yX6_refuses cX6_refuses 2 (some .int), .fieldLink RX6 19 "GaugeBoundsModel" "refusals" "[I", .methodLink RX6 54 yX6_remembers, .instanceMethod yX6_remembers, .selects RX6 yX6_remembers yX6_remembers, .code yX6_remembers cX6_remembers 2 none, .fieldLink RX6 45 "GaugeBoundsModel" "states" "I", .fieldLink RX6 16 "GaugeBoundsModel" "past" "[J", .fieldLink RX6 13 "GaugeBoundsModel" "aside" "[J"] ++ wsX60)
def wsX6_voltsAt : List Cond := .code yX6_voltsAt cX6_voltsAt 5 (some .int) :: ([.fieldLink RX6 7 "GaugeBoundsModel" "now" "[J", .constantLong RX6 36 (100)] ++ wsX60)
def wsX6_turns : List Cond := .code yX6_turns cX6_turns 5 none :: ([.fieldLink RX6 7 "GaugeBoundsModel" "now" "[J", .constant RX6 57 (-10000001), .fieldLink RX6 58 "GaugeBoundsModel" "least" "I", .fieldLink RX6 61 "GaugeBoundsModel" "greatest" "I", .methodLink RX6 64 yX6_voltsAt, .instanceMethod yX6_voltsAt, .selects RX6 yX6_voltsAt yX6_voltsAt, .initialized RX6, .code yX6_voltsAt cX6_voltsAt 5 (some .int), .constantLong RX6 36 (100)] ++ wsX60)
def wsX6_middle : List Cond := .code yX6_middle cX6_middle 5 (some .int) :: ([.fieldLink RX6 7 "GaugeBoundsModel" "now" "[J", .constantLong RX6 32 (1000)] ++ wsX60)
def wsX6_putCapacity : List Cond := .code yX6_putCapacity cX6_putCapacity 5 (some .int) :: ([.constantLong RX6 67 (99999), .constant RX6 44 (-10000002), .fieldLink RX6 7 "GaugeBoundsModel" "now" "[J", .constantLong RX6 36 (100), .constantLong RX6 38 (-10000001), .methodLink RX6 69 yX6_in, .static yX6_in, .initialized RX6, .code yX6_in cX6_in 6 (some .boolean)] ++ wsX60)
def wsX6_putCharge : List Cond := .code yX6_putCharge cX6_putCharge 4 (some .int) :: ([.constantLong RX6 67 (99999), .fieldLink RX6 7 "GaugeBoundsModel" "now" "[J", .constant RX6 44 (-10000002), .methodLink RX6 69 yX6_in, .static yX6_in, .initialized RX6, .code yX6_in cX6_in 6 (some .boolean)] ++ wsX60)
def wsX6_putSetting : List Cond := .code yX6_putSetting cX6_putSetting 5 (some .int) :: ([.constant RX6 44 (-10000002), .fieldLink RX6 7 "GaugeBoundsModel" "now" "[J", .methodLink RX6 69 yX6_in, .static yX6_in, .initialized RX6, .code yX6_in cX6_in 6 (some .boolean)] ++ wsX60)
def wsX6_putPoint : List Cond := .code yX6_putPoint cX6_putPoint 4 (some .int) :: ([.constantLong RX6 40 (10), .constantLong RX6 73 (9999), .constant RX6 44 (-10000002), .fieldLink RX6 7 "GaugeBoundsModel" "now" "[J", .constant RX6 49 (-10000003), .methodLink RX6 69 yX6_in, .static yX6_in, .initialized RX6, .code yX6_in cX6_in 6 (some .boolean)] ++ wsX60)
def wsX6_shows : List Cond := .code yX6_shows cX6_shows 9 none :: ([.fieldLink RX6 7 "GaugeBoundsModel" "now" "[J", .methodLink RX6 75 yX6_middle, .instanceMethod yX6_middle, .selects RX6 yX6_middle yX6_middle, .initialized RX6, .code yX6_middle cX6_middle 5 (some .int), .constantLong RX6 32 (1000)] ++ wsX60)
def wsX6_putPassing : List Cond := .code yX6_putPassing cX6_putPassing 9 (some .int) :: ([.constantLong RX6 79 (-99), .constantLong RX6 81 (99), .constantLong RX6 83 (999), .constant RX6 44 (-10000002), .fieldLink RX6 7 "GaugeBoundsModel" "now" "[J", .constant RX6 49 (-10000003), .methodLink RX6 69 yX6_in, .static yX6_in, .initialized RX6, .code yX6_in cX6_in 6 (some .boolean), .methodLink RX6 85 yX6_shows, .instanceMethod yX6_shows, .selects RX6 yX6_shows yX6_shows, .code yX6_shows cX6_shows 9 none, .methodLink RX6 75 yX6_middle, .instanceMethod yX6_middle, .selects RX6 yX6_middle yX6_middle, .code yX6_middle cX6_middle 5 (some .int), .constantLong RX6 32 (1000)] ++ wsX60)
def wsX6_learnsCapacity : List Cond := .code yX6_learnsCapacity cX6_learnsCapacity 17 none :: ([.fieldLink RX6 7 "GaugeBoundsModel" "now" "[J", .constantLong RX6 32 (1000)] ++ wsX60)
def wsX6_putRest_r1 : List Cond := [Cond.constantLong RX6 73 (9999), Cond.constant RX6 44 (-10000002), Cond.fieldLink RX6 58 "GaugeBoundsModel" "least" "I", Cond.constant RX6 57 (-10000001), Cond.fieldLink RX6 61 "GaugeBoundsModel" "greatest" "I", Cond.constant RX6 49 (-10000003), Cond.fieldLink RX6 7 "GaugeBoundsModel" "now" "[J", Cond.constantLong RX6 32 (1000), Cond.constantLong RX6 83 (999), Cond.methodLink RX6 69 yX6_in, Cond.static yX6_in, Cond.initialized RX6, Cond.code yX6_in cX6_in 6 (some .boolean), Cond.methodLink RX6 89 yX6_turns, Cond.instanceMethod yX6_turns, Cond.selects RX6 yX6_turns yX6_turns, Cond.code yX6_turns cX6_turns 5 none, Cond.methodLink RX6 64 yX6_voltsAt, Cond.instanceMethod yX6_voltsAt, Cond.selects RX6 yX6_voltsAt yX6_voltsAt, Cond.code yX6_voltsAt cX6_voltsAt 5 (some .int), Cond.constantLong RX6 36 (100), Cond.methodLink RX6 93 yX6_learnsCapacity, Cond.instanceMethod yX6_learnsCapacity]
def wsX6_putRest_r2 : List Cond := [Cond.selects RX6 yX6_learnsCapacity yX6_learnsCapacity, Cond.code yX6_learnsCapacity cX6_learnsCapacity 17 none]
def wsX6_putRest : List Cond := .code yX6_putRest cX6_putRest 6 (some .int) :: ((wsX6_putRest_r1 ++ wsX6_putRest_r2) ++ wsX60)
def wsX6_bandNow : List Cond := .code yX6_bandNow cX6_bandNow 2 (some .int) :: ([.methodLink RX6 75 yX6_middle, .instanceMethod yX6_middle, .selects RX6 yX6_middle yX6_middle, .initialized RX6, .code yX6_middle cX6_middle 5 (some .int), .fieldLink RX6 7 "GaugeBoundsModel" "now" "[J", .constantLong RX6 32 (1000)] ++ wsX60)
def wsX6_putLoad : List Cond := .code yX6_putLoad cX6_putLoad 5 (some .int) :: ([.constantLong RX6 79 (-99), .constantLong RX6 81 (99), .constantLong RX6 73 (9999), .constant RX6 44 (-10000002), .fieldLink RX6 7 "GaugeBoundsModel" "now" "[J", .methodLink RX6 69 yX6_in, .static yX6_in, .initialized RX6, .code yX6_in cX6_in 6 (some .boolean), .methodLink RX6 75 yX6_middle, .instanceMethod yX6_middle, .selects RX6 yX6_middle yX6_middle, .code yX6_middle cX6_middle 5 (some .int), .constantLong RX6 32 (1000), .methodLink RX6 64 yX6_voltsAt, .instanceMethod yX6_voltsAt, .selects RX6 yX6_voltsAt yX6_voltsAt, .code yX6_voltsAt cX6_voltsAt 5 (some .int), .constantLong RX6 36 (100), .methodLink RX6 97 yX6_bandNow, .instanceMethod yX6_bandNow, .selects RX6 yX6_bandNow yX6_bandNow, .code yX6_bandNow cX6_bandNow 2 (some .int)] ++ wsX60)
def wsX6_begins_r1 : List Cond := [Cond.methodLink RX6 100 yX6_laysAside, Cond.instanceMethod yX6_laysAside, Cond.selects RX6 yX6_laysAside yX6_laysAside, Cond.initialized RX6, Cond.code yX6_laysAside cX6_laysAside 2 none, Cond.fieldLink RX6 13 "GaugeBoundsModel" "aside" "[J", Cond.fieldLink RX6 7 "GaugeBoundsModel" "now" "[J", Cond.methodLink RX6 103 yX6_putCapacity, Cond.instanceMethod yX6_putCapacity, Cond.selects RX6 yX6_putCapacity yX6_putCapacity, Cond.code yX6_putCapacity cX6_putCapacity 5 (some .int), Cond.constantLong RX6 67 (99999), Cond.constant RX6 44 (-10000002), Cond.constantLong RX6 36 (100), Cond.constantLong RX6 38 (-10000001), Cond.methodLink RX6 69 yX6_in, Cond.static yX6_in, Cond.code yX6_in cX6_in 6 (some .boolean), Cond.methodLink RX6 107 yX6_finished, Cond.instanceMethod yX6_finished, Cond.selects RX6 yX6_finished yX6_finished, Cond.code yX6_finished cX6_finished 2 (some .int), Cond.methodLink RX6 50 yX6_refuses, Cond.instanceMethod yX6_refuses]
def wsX6_begins_r2 : List Cond := [Cond.selects RX6 yX6_refuses yX6_refuses, Cond.code yX6_refuses cX6_refuses 2 (some .int), Cond.fieldLink RX6 19 "GaugeBoundsModel" "refusals" "[I", Cond.methodLink RX6 54 yX6_remembers, Cond.instanceMethod yX6_remembers, Cond.selects RX6 yX6_remembers yX6_remembers, Cond.code yX6_remembers cX6_remembers 2 none, Cond.fieldLink RX6 45 "GaugeBoundsModel" "states" "I", Cond.fieldLink RX6 16 "GaugeBoundsModel" "past" "[J"]
def wsX6_begins : List Cond := .code yX6_begins cX6_begins 3 (some .int) :: ((wsX6_begins_r1 ++ wsX6_begins_r2) ++ wsX60)
def wsX6_holds_r1 : List Cond := [Cond.methodLink RX6 100 yX6_laysAside, Cond.instanceMethod yX6_laysAside, Cond.selects RX6 yX6_laysAside yX6_laysAside, Cond.initialized RX6, Cond.code yX6_laysAside cX6_laysAside 2 none, Cond.fieldLink RX6 13 "GaugeBoundsModel" "aside" "[J", Cond.fieldLink RX6 7 "GaugeBoundsModel" "now" "[J", Cond.methodLink RX6 110 yX6_putCharge, Cond.instanceMethod yX6_putCharge, Cond.selects RX6 yX6_putCharge yX6_putCharge, Cond.code yX6_putCharge cX6_putCharge 4 (some .int), Cond.constantLong RX6 67 (99999), Cond.constant RX6 44 (-10000002), Cond.methodLink RX6 69 yX6_in, Cond.static yX6_in, Cond.code yX6_in cX6_in 6 (some .boolean), Cond.methodLink RX6 107 yX6_finished, Cond.instanceMethod yX6_finished, Cond.selects RX6 yX6_finished yX6_finished, Cond.code yX6_finished cX6_finished 2 (some .int), Cond.methodLink RX6 50 yX6_refuses, Cond.instanceMethod yX6_refuses, Cond.selects RX6 yX6_refuses yX6_refuses, Cond.code yX6_refuses cX6_refuses 2 (some .int)]
def wsX6_holds_r2 : List Cond := [Cond.fieldLink RX6 19 "GaugeBoundsModel" "refusals" "[I", Cond.methodLink RX6 54 yX6_remembers, Cond.instanceMethod yX6_remembers, Cond.selects RX6 yX6_remembers yX6_remembers, Cond.code yX6_remembers cX6_remembers 2 none, Cond.fieldLink RX6 45 "GaugeBoundsModel" "states" "I", Cond.fieldLink RX6 16 "GaugeBoundsModel" "past" "[J"]
def wsX6_holds : List Cond := .code yX6_holds cX6_holds 3 (some .int) :: ((wsX6_holds_r1 ++ wsX6_holds_r2) ++ wsX60)
def wsX6_offset_r1 : List Cond := [Cond.methodLink RX6 100 yX6_laysAside, Cond.instanceMethod yX6_laysAside, Cond.selects RX6 yX6_laysAside yX6_laysAside, Cond.initialized RX6, Cond.code yX6_laysAside cX6_laysAside 2 none, Cond.fieldLink RX6 13 "GaugeBoundsModel" "aside" "[J", Cond.fieldLink RX6 7 "GaugeBoundsModel" "now" "[J", Cond.methodLink RX6 113 yX6_putSetting, Cond.instanceMethod yX6_putSetting, Cond.selects RX6 yX6_putSetting yX6_putSetting, Cond.code yX6_putSetting cX6_putSetting 5 (some .int), Cond.constant RX6 44 (-10000002), Cond.methodLink RX6 69 yX6_in, Cond.static yX6_in, Cond.code yX6_in cX6_in 6 (some .boolean), Cond.methodLink RX6 107 yX6_finished, Cond.instanceMethod yX6_finished, Cond.selects RX6 yX6_finished yX6_finished, Cond.code yX6_finished cX6_finished 2 (some .int), Cond.methodLink RX6 50 yX6_refuses, Cond.instanceMethod yX6_refuses, Cond.selects RX6 yX6_refuses yX6_refuses, Cond.code yX6_refuses cX6_refuses 2 (some .int), Cond.fieldLink RX6 19 "GaugeBoundsModel" "refusals" "[I"]
def wsX6_offset_r2 : List Cond := [Cond.methodLink RX6 54 yX6_remembers, Cond.instanceMethod yX6_remembers, Cond.selects RX6 yX6_remembers yX6_remembers, Cond.code yX6_remembers cX6_remembers 2 none, Cond.fieldLink RX6 45 "GaugeBoundsModel" "states" "I", Cond.fieldLink RX6 16 "GaugeBoundsModel" "past" "[J"]
def wsX6_offset : List Cond := .code yX6_offset cX6_offset 2 (some .int) :: ((wsX6_offset_r1 ++ wsX6_offset_r2) ++ wsX60)
def wsX6_clings_r1 : List Cond := [Cond.methodLink RX6 100 yX6_laysAside, Cond.instanceMethod yX6_laysAside, Cond.selects RX6 yX6_laysAside yX6_laysAside, Cond.initialized RX6, Cond.code yX6_laysAside cX6_laysAside 2 none, Cond.fieldLink RX6 13 "GaugeBoundsModel" "aside" "[J", Cond.fieldLink RX6 7 "GaugeBoundsModel" "now" "[J", Cond.methodLink RX6 113 yX6_putSetting, Cond.instanceMethod yX6_putSetting, Cond.selects RX6 yX6_putSetting yX6_putSetting, Cond.code yX6_putSetting cX6_putSetting 5 (some .int), Cond.constant RX6 44 (-10000002), Cond.methodLink RX6 69 yX6_in, Cond.static yX6_in, Cond.code yX6_in cX6_in 6 (some .boolean), Cond.methodLink RX6 107 yX6_finished, Cond.instanceMethod yX6_finished, Cond.selects RX6 yX6_finished yX6_finished, Cond.code yX6_finished cX6_finished 2 (some .int), Cond.methodLink RX6 50 yX6_refuses, Cond.instanceMethod yX6_refuses, Cond.selects RX6 yX6_refuses yX6_refuses, Cond.code yX6_refuses cX6_refuses 2 (some .int), Cond.fieldLink RX6 19 "GaugeBoundsModel" "refusals" "[I"]
def wsX6_clings_r2 : List Cond := [Cond.methodLink RX6 54 yX6_remembers, Cond.instanceMethod yX6_remembers, Cond.selects RX6 yX6_remembers yX6_remembers, Cond.code yX6_remembers cX6_remembers 2 none, Cond.fieldLink RX6 45 "GaugeBoundsModel" "states" "I", Cond.fieldLink RX6 16 "GaugeBoundsModel" "past" "[J"]
def wsX6_clings : List Cond := .code yX6_clings cX6_clings 2 (some .int) :: ((wsX6_clings_r1 ++ wsX6_clings_r2) ++ wsX60)
def wsX6_curve_r1 : List Cond := [Cond.methodLink RX6 100 yX6_laysAside, Cond.instanceMethod yX6_laysAside, Cond.selects RX6 yX6_laysAside yX6_laysAside, Cond.initialized RX6, Cond.code yX6_laysAside cX6_laysAside 2 none, Cond.fieldLink RX6 13 "GaugeBoundsModel" "aside" "[J", Cond.fieldLink RX6 7 "GaugeBoundsModel" "now" "[J", Cond.methodLink RX6 117 yX6_putPoint, Cond.instanceMethod yX6_putPoint, Cond.selects RX6 yX6_putPoint yX6_putPoint, Cond.code yX6_putPoint cX6_putPoint 4 (some .int), Cond.constantLong RX6 40 (10), Cond.constantLong RX6 73 (9999), Cond.constant RX6 44 (-10000002), Cond.constant RX6 49 (-10000003), Cond.methodLink RX6 69 yX6_in, Cond.static yX6_in, Cond.code yX6_in cX6_in 6 (some .boolean), Cond.methodLink RX6 107 yX6_finished, Cond.instanceMethod yX6_finished, Cond.selects RX6 yX6_finished yX6_finished, Cond.code yX6_finished cX6_finished 2 (some .int), Cond.methodLink RX6 50 yX6_refuses, Cond.instanceMethod yX6_refuses]
def wsX6_curve_r2 : List Cond := [Cond.selects RX6 yX6_refuses yX6_refuses, Cond.code yX6_refuses cX6_refuses 2 (some .int), Cond.fieldLink RX6 19 "GaugeBoundsModel" "refusals" "[I", Cond.methodLink RX6 54 yX6_remembers, Cond.instanceMethod yX6_remembers, Cond.selects RX6 yX6_remembers yX6_remembers, Cond.code yX6_remembers cX6_remembers 2 none, Cond.fieldLink RX6 45 "GaugeBoundsModel" "states" "I", Cond.fieldLink RX6 16 "GaugeBoundsModel" "past" "[J"]
def wsX6_curve : List Cond := .code yX6_curve cX6_curve 3 (some .int) :: ((wsX6_curve_r1 ++ wsX6_curve_r2) ++ wsX60)
def wsX6_passes_r1 : List Cond := [Cond.methodLink RX6 100 yX6_laysAside, Cond.instanceMethod yX6_laysAside, Cond.selects RX6 yX6_laysAside yX6_laysAside, Cond.initialized RX6, Cond.code yX6_laysAside cX6_laysAside 2 none, Cond.fieldLink RX6 13 "GaugeBoundsModel" "aside" "[J", Cond.fieldLink RX6 7 "GaugeBoundsModel" "now" "[J", Cond.methodLink RX6 120 yX6_putPassing, Cond.instanceMethod yX6_putPassing, Cond.selects RX6 yX6_putPassing yX6_putPassing, Cond.code yX6_putPassing cX6_putPassing 9 (some .int), Cond.constantLong RX6 79 (-99), Cond.constantLong RX6 81 (99), Cond.constantLong RX6 83 (999), Cond.constant RX6 44 (-10000002), Cond.constant RX6 49 (-10000003), Cond.methodLink RX6 69 yX6_in, Cond.static yX6_in, Cond.code yX6_in cX6_in 6 (some .boolean), Cond.methodLink RX6 85 yX6_shows, Cond.instanceMethod yX6_shows, Cond.selects RX6 yX6_shows yX6_shows, Cond.code yX6_shows cX6_shows 9 none, Cond.methodLink RX6 75 yX6_middle]
def wsX6_passes_r2 : List Cond := [Cond.instanceMethod yX6_middle, Cond.selects RX6 yX6_middle yX6_middle, Cond.code yX6_middle cX6_middle 5 (some .int), Cond.constantLong RX6 32 (1000), Cond.methodLink RX6 107 yX6_finished, Cond.instanceMethod yX6_finished, Cond.selects RX6 yX6_finished yX6_finished, Cond.code yX6_finished cX6_finished 2 (some .int), Cond.methodLink RX6 50 yX6_refuses, Cond.instanceMethod yX6_refuses, Cond.selects RX6 yX6_refuses yX6_refuses, Cond.code yX6_refuses cX6_refuses 2 (some .int), Cond.fieldLink RX6 19 "GaugeBoundsModel" "refusals" "[I", Cond.methodLink RX6 54 yX6_remembers, Cond.instanceMethod yX6_remembers, Cond.selects RX6 yX6_remembers yX6_remembers, Cond.code yX6_remembers cX6_remembers 2 none, Cond.fieldLink RX6 45 "GaugeBoundsModel" "states" "I", Cond.fieldLink RX6 16 "GaugeBoundsModel" "past" "[J"]
def wsX6_passes : List Cond := .code yX6_passes cX6_passes 3 (some .int) :: ((wsX6_passes_r1 ++ wsX6_passes_r2) ++ wsX60)
def wsX6_rests_r1 : List Cond := [Cond.methodLink RX6 100 yX6_laysAside, Cond.instanceMethod yX6_laysAside, Cond.selects RX6 yX6_laysAside yX6_laysAside, Cond.initialized RX6, Cond.code yX6_laysAside cX6_laysAside 2 none, Cond.fieldLink RX6 13 "GaugeBoundsModel" "aside" "[J", Cond.fieldLink RX6 7 "GaugeBoundsModel" "now" "[J", Cond.methodLink RX6 123 yX6_putRest, Cond.instanceMethod yX6_putRest, Cond.selects RX6 yX6_putRest yX6_putRest, Cond.code yX6_putRest cX6_putRest 6 (some .int), Cond.constantLong RX6 73 (9999), Cond.constant RX6 44 (-10000002), Cond.fieldLink RX6 58 "GaugeBoundsModel" "least" "I", Cond.constant RX6 57 (-10000001), Cond.fieldLink RX6 61 "GaugeBoundsModel" "greatest" "I", Cond.constant RX6 49 (-10000003), Cond.constantLong RX6 32 (1000), Cond.constantLong RX6 83 (999), Cond.methodLink RX6 69 yX6_in, Cond.static yX6_in, Cond.code yX6_in cX6_in 6 (some .boolean), Cond.methodLink RX6 89 yX6_turns, Cond.instanceMethod yX6_turns]
def wsX6_rests_r2 : List Cond := [Cond.selects RX6 yX6_turns yX6_turns, Cond.code yX6_turns cX6_turns 5 none, Cond.methodLink RX6 64 yX6_voltsAt, Cond.instanceMethod yX6_voltsAt, Cond.selects RX6 yX6_voltsAt yX6_voltsAt, Cond.code yX6_voltsAt cX6_voltsAt 5 (some .int), Cond.constantLong RX6 36 (100), Cond.methodLink RX6 93 yX6_learnsCapacity, Cond.instanceMethod yX6_learnsCapacity, Cond.selects RX6 yX6_learnsCapacity yX6_learnsCapacity, Cond.code yX6_learnsCapacity cX6_learnsCapacity 17 none, Cond.methodLink RX6 107 yX6_finished, Cond.instanceMethod yX6_finished, Cond.selects RX6 yX6_finished yX6_finished, Cond.code yX6_finished cX6_finished 2 (some .int), Cond.methodLink RX6 50 yX6_refuses, Cond.instanceMethod yX6_refuses, Cond.selects RX6 yX6_refuses yX6_refuses, Cond.code yX6_refuses cX6_refuses 2 (some .int), Cond.fieldLink RX6 19 "GaugeBoundsModel" "refusals" "[I", Cond.methodLink RX6 54 yX6_remembers, Cond.instanceMethod yX6_remembers, Cond.selects RX6 yX6_remembers yX6_remembers, Cond.code yX6_remembers cX6_remembers 2 none]
def wsX6_rests_r3 : List Cond := [Cond.fieldLink RX6 45 "GaugeBoundsModel" "states" "I", Cond.fieldLink RX6 16 "GaugeBoundsModel" "past" "[J"]
def wsX6_rests : List Cond := .code yX6_rests cX6_rests 2 (some .int) :: ((wsX6_rests_r1 ++ (wsX6_rests_r2 ++ wsX6_rests_r3)) ++ wsX60)
def wsX6_loads_r1 : List Cond := [Cond.methodLink RX6 100 yX6_laysAside, Cond.instanceMethod yX6_laysAside, Cond.selects RX6 yX6_laysAside yX6_laysAside, Cond.initialized RX6, Cond.code yX6_laysAside cX6_laysAside 2 none, Cond.fieldLink RX6 13 "GaugeBoundsModel" "aside" "[J", Cond.fieldLink RX6 7 "GaugeBoundsModel" "now" "[J", Cond.methodLink RX6 126 yX6_putLoad, Cond.instanceMethod yX6_putLoad, Cond.selects RX6 yX6_putLoad yX6_putLoad, Cond.code yX6_putLoad cX6_putLoad 5 (some .int), Cond.constantLong RX6 79 (-99), Cond.constantLong RX6 81 (99), Cond.constantLong RX6 73 (9999), Cond.constant RX6 44 (-10000002), Cond.methodLink RX6 69 yX6_in, Cond.static yX6_in, Cond.code yX6_in cX6_in 6 (some .boolean), Cond.methodLink RX6 75 yX6_middle, Cond.instanceMethod yX6_middle, Cond.selects RX6 yX6_middle yX6_middle, Cond.code yX6_middle cX6_middle 5 (some .int), Cond.constantLong RX6 32 (1000), Cond.methodLink RX6 64 yX6_voltsAt]
def wsX6_loads_r2 : List Cond := [Cond.instanceMethod yX6_voltsAt, Cond.selects RX6 yX6_voltsAt yX6_voltsAt, Cond.code yX6_voltsAt cX6_voltsAt 5 (some .int), Cond.constantLong RX6 36 (100), Cond.methodLink RX6 97 yX6_bandNow, Cond.instanceMethod yX6_bandNow, Cond.selects RX6 yX6_bandNow yX6_bandNow, Cond.code yX6_bandNow cX6_bandNow 2 (some .int), Cond.methodLink RX6 107 yX6_finished, Cond.instanceMethod yX6_finished, Cond.selects RX6 yX6_finished yX6_finished, Cond.code yX6_finished cX6_finished 2 (some .int), Cond.methodLink RX6 50 yX6_refuses, Cond.instanceMethod yX6_refuses, Cond.selects RX6 yX6_refuses yX6_refuses, Cond.code yX6_refuses cX6_refuses 2 (some .int), Cond.fieldLink RX6 19 "GaugeBoundsModel" "refusals" "[I", Cond.methodLink RX6 54 yX6_remembers, Cond.instanceMethod yX6_remembers, Cond.selects RX6 yX6_remembers yX6_remembers, Cond.code yX6_remembers cX6_remembers 2 none, Cond.fieldLink RX6 45 "GaugeBoundsModel" "states" "I", Cond.fieldLink RX6 16 "GaugeBoundsModel" "past" "[J"]
def wsX6_loads : List Cond := .code yX6_loads cX6_loads 3 (some .int) :: ((wsX6_loads_r1 ++ wsX6_loads_r2) ++ wsX60)
def wsX6_toldOf : List Cond := .code yX6_toldOf cX6_toldOf 2 (some .int) :: ([.fieldLink RX6 7 "GaugeBoundsModel" "now" "[J", .methodLink RX6 75 yX6_middle, .instanceMethod yX6_middle, .selects RX6 yX6_middle yX6_middle, .initialized RX6, .code yX6_middle cX6_middle 5 (some .int), .constantLong RX6 32 (1000)] ++ wsX60)
def wsX6_told : List Cond := .code yX6_told cX6_told 2 (some .int) :: ([.constantLong RX6 129 (11), .constant RX6 44 (-10000002), .methodLink RX6 69 yX6_in, .static yX6_in, .initialized RX6, .code yX6_in cX6_in 6 (some .boolean), .methodLink RX6 131 yX6_toldOf, .instanceMethod yX6_toldOf, .selects RX6 yX6_toldOf yX6_toldOf, .code yX6_toldOf cX6_toldOf 2 (some .int), .fieldLink RX6 7 "GaugeBoundsModel" "now" "[J", .methodLink RX6 75 yX6_middle, .instanceMethod yX6_middle, .selects RX6 yX6_middle yX6_middle, .code yX6_middle cX6_middle 5 (some .int), .constantLong RX6 32 (1000), .methodLink RX6 50 yX6_refuses, .instanceMethod yX6_refuses, .selects RX6 yX6_refuses yX6_refuses, .code yX6_refuses cX6_refuses 2 (some .int), .fieldLink RX6 19 "GaugeBoundsModel" "refusals" "[I"] ++ wsX60)
def wsX6_volts : List Cond := .code yX6_volts cX6_volts 2 (some .int) :: ([.constantLong RX6 32 (1000), .constant RX6 44 (-10000002), .methodLink RX6 69 yX6_in, .static yX6_in, .initialized RX6, .code yX6_in cX6_in 6 (some .boolean), .methodLink RX6 64 yX6_voltsAt, .instanceMethod yX6_voltsAt, .selects RX6 yX6_voltsAt yX6_voltsAt, .code yX6_voltsAt cX6_voltsAt 5 (some .int), .fieldLink RX6 7 "GaugeBoundsModel" "now" "[J", .constantLong RX6 36 (100), .methodLink RX6 50 yX6_refuses, .instanceMethod yX6_refuses, .selects RX6 yX6_refuses yX6_refuses, .code yX6_refuses cX6_refuses 2 (some .int), .fieldLink RX6 19 "GaugeBoundsModel" "refusals" "[I"] ++ wsX60)
def wsX6_inverse : List Cond := .code yX6_inverse cX6_inverse 3 (some .int) :: ([.constantLong RX6 73 (9999), .constant RX6 44 (-10000002), .fieldLink RX6 58 "GaugeBoundsModel" "least" "I", .fieldLink RX6 61 "GaugeBoundsModel" "greatest" "I", .methodLink RX6 69 yX6_in, .static yX6_in, .initialized RX6, .code yX6_in cX6_in 6 (some .boolean), .methodLink RX6 50 yX6_refuses, .instanceMethod yX6_refuses, .selects RX6 yX6_refuses yX6_refuses, .code yX6_refuses cX6_refuses 2 (some .int), .fieldLink RX6 19 "GaugeBoundsModel" "refusals" "[I", .methodLink RX6 89 yX6_turns, .instanceMethod yX6_turns, .selects RX6 yX6_turns yX6_turns, .code yX6_turns cX6_turns 5 none, .fieldLink RX6 7 "GaugeBoundsModel" "now" "[J", .constant RX6 57 (-10000001), .methodLink RX6 64 yX6_voltsAt, .instanceMethod yX6_voltsAt, .selects RX6 yX6_voltsAt yX6_voltsAt, .code yX6_voltsAt cX6_voltsAt 5 (some .int), .constantLong RX6 36 (100)] ++ wsX60)
def wsX6_bandOf : List Cond := .code yX6_bandOf cX6_bandOf 3 (some .int) :: ([.fieldLink RX6 7 "GaugeBoundsModel" "now" "[J", .constant RX6 57 (-10000001)] ++ wsX60)
def wsX6_band : List Cond := .code yX6_band cX6_band 5 (some .int) :: ([.constantLong RX6 40 (10), .constant RX6 44 (-10000002), .methodLink RX6 69 yX6_in, .static yX6_in, .initialized RX6, .code yX6_in cX6_in 6 (some .boolean), .methodLink RX6 134 yX6_bandOf, .instanceMethod yX6_bandOf, .selects RX6 yX6_bandOf yX6_bandOf, .code yX6_bandOf cX6_bandOf 3 (some .int), .fieldLink RX6 7 "GaugeBoundsModel" "now" "[J", .constant RX6 57 (-10000001), .methodLink RX6 50 yX6_refuses, .instanceMethod yX6_refuses, .selects RX6 yX6_refuses yX6_refuses, .code yX6_refuses cX6_refuses 2 (some .int), .fieldLink RX6 19 "GaugeBoundsModel" "refusals" "[I"] ++ wsX60)
def wsX6_bands : List Cond := .code yX6_bands cX6_bands 3 (some .int) :: ([.fieldLink RX6 7 "GaugeBoundsModel" "now" "[J"] ++ wsX60)
def wsX6_lastsBy : List Cond := .code yX6_lastsBy cX6_lastsBy 5 (some .int) :: ([.fieldLink RX6 7 "GaugeBoundsModel" "now" "[J", .constant RX6 57 (-10000001)] ++ wsX60)
def wsX6_lasts : List Cond := .code yX6_lasts cX6_lasts 3 (some .int) :: ([.constantLong RX6 81 (99), .constant RX6 44 (-10000002), .methodLink RX6 69 yX6_in, .static yX6_in, .initialized RX6, .code yX6_in cX6_in 6 (some .boolean), .methodLink RX6 137 yX6_lastsBy, .instanceMethod yX6_lastsBy, .selects RX6 yX6_lastsBy yX6_lastsBy, .code yX6_lastsBy cX6_lastsBy 5 (some .int), .fieldLink RX6 7 "GaugeBoundsModel" "now" "[J", .constant RX6 57 (-10000001), .methodLink RX6 50 yX6_refuses, .instanceMethod yX6_refuses, .selects RX6 yX6_refuses yX6_refuses, .code yX6_refuses cX6_refuses 2 (some .int), .fieldLink RX6 19 "GaugeBoundsModel" "refusals" "[I"] ++ wsX60)
def wsX6_under_r1 : List Cond := [Cond.constantLong RX6 79 (-99), Cond.constantLong RX6 81 (99), Cond.constant RX6 44 (-10000002), Cond.constant RX6 57 (-10000001), Cond.constant RX6 49 (-10000003), Cond.methodLink RX6 69 yX6_in, Cond.static yX6_in, Cond.initialized RX6, Cond.code yX6_in cX6_in 6 (some .boolean), Cond.methodLink RX6 50 yX6_refuses, Cond.instanceMethod yX6_refuses, Cond.selects RX6 yX6_refuses yX6_refuses, Cond.code yX6_refuses cX6_refuses 2 (some .int), Cond.fieldLink RX6 19 "GaugeBoundsModel" "refusals" "[I", Cond.methodLink RX6 97 yX6_bandNow, Cond.instanceMethod yX6_bandNow, Cond.selects RX6 yX6_bandNow yX6_bandNow, Cond.code yX6_bandNow cX6_bandNow 2 (some .int), Cond.methodLink RX6 75 yX6_middle, Cond.instanceMethod yX6_middle, Cond.selects RX6 yX6_middle yX6_middle, Cond.code yX6_middle cX6_middle 5 (some .int), Cond.fieldLink RX6 7 "GaugeBoundsModel" "now" "[J", Cond.constantLong RX6 32 (1000)]
def wsX6_under_r2 : List Cond := [Cond.methodLink RX6 134 yX6_bandOf, Cond.instanceMethod yX6_bandOf, Cond.selects RX6 yX6_bandOf yX6_bandOf, Cond.code yX6_bandOf cX6_bandOf 3 (some .int), Cond.methodLink RX6 64 yX6_voltsAt, Cond.instanceMethod yX6_voltsAt, Cond.selects RX6 yX6_voltsAt yX6_voltsAt, Cond.code yX6_voltsAt cX6_voltsAt 5 (some .int), Cond.constantLong RX6 36 (100)]
def wsX6_under : List Cond := .code yX6_under cX6_under 3 (some .int) :: ((wsX6_under_r1 ++ wsX6_under_r2) ++ wsX60)
def wsX6_setting : List Cond := .code yX6_setting cX6_setting 2 (some .int) :: ([.constantLong RX6 140 (12), .fieldLink RX6 7 "GaugeBoundsModel" "now" "[J", .constant RX6 44 (-10000002), .methodLink RX6 69 yX6_in, .static yX6_in, .initialized RX6, .code yX6_in cX6_in 6 (some .boolean), .methodLink RX6 50 yX6_refuses, .instanceMethod yX6_refuses, .selects RX6 yX6_refuses yX6_refuses, .code yX6_refuses cX6_refuses 2 (some .int), .fieldLink RX6 19 "GaugeBoundsModel" "refusals" "[I"] ++ wsX60)
def wsX6_type : List Cond := .code yX6_type cX6_type 2 (some .int) :: ([.constantLong RX6 142 (127), .constant RX6 44 (-10000002), .fieldLink RX6 144 "GaugeBoundsModel" "bytes" "I", .constant RX6 147 (-10000004), .fieldLink RX6 23 "GaugeBoundsModel" "text" "[I", .methodLink RX6 69 yX6_in, .static yX6_in, .initialized RX6, .code yX6_in cX6_in 6 (some .boolean), .methodLink RX6 50 yX6_refuses, .instanceMethod yX6_refuses, .selects RX6 yX6_refuses yX6_refuses, .code yX6_refuses cX6_refuses 2 (some .int), .fieldLink RX6 19 "GaugeBoundsModel" "refusals" "[I"] ++ wsX60)
def wsX6_clear : List Cond := .code yX6_clear cX6_clear 2 (some .int) :: ([.fieldLink RX6 144 "GaugeBoundsModel" "bytes" "I"] ++ wsX60)
def wsX6_isAt : List Cond := .code yX6_isAt cX6_isAt 3 (some .boolean) :: ([.fieldLink RX6 148 "GaugeBoundsModel" "spot" "I", .fieldLink RX6 144 "GaugeBoundsModel" "bytes" "I", .fieldLink RX6 23 "GaugeBoundsModel" "text" "[I", .methodLink RX6 69 yX6_in, .static yX6_in, .initialized RX6, .code yX6_in cX6_in 6 (some .boolean)] ++ wsX60)
def wsX6_blanks : List Cond := .code yX6_blanks cX6_blanks 1 none :: ([.fieldLink RX6 148 "GaugeBoundsModel" "spot" "I", .methodLink RX6 151 yX6_isAt, .instanceMethod yX6_isAt, .selects RX6 yX6_isAt yX6_isAt, .initialized RX6, .code yX6_isAt cX6_isAt 3 (some .boolean), .fieldLink RX6 144 "GaugeBoundsModel" "bytes" "I", .fieldLink RX6 23 "GaugeBoundsModel" "text" "[I", .methodLink RX6 69 yX6_in, .static yX6_in, .code yX6_in cX6_in 6 (some .boolean)] ++ wsX60)
def wsX6_fails : List Cond := .code yX6_fails cX6_fails 1 (some .boolean) :: ([.fieldLink RX6 148 "GaugeBoundsModel" "spot" "I", .fieldLink RX6 155 "GaugeBoundsModel" "wrongAt" "I"] ++ wsX60)
def wsX6_manyOf : List Cond := .code yX6_manyOf cX6_manyOf 1 (some .int) :: ([.constant RX6 57 (-10000001)])
def wsX6_takesNumber : List Cond := .code yX6_takesNumber cX6_takesNumber 6 (some .boolean) :: ([.fieldLink RX6 148 "GaugeBoundsModel" "spot" "I", .fieldLink RX6 23 "GaugeBoundsModel" "text" "[I", .fieldLink RX6 29 "GaugeBoundsModel" "numbers" "[I", .methodLink RX6 158 yX6_blanks, .instanceMethod yX6_blanks, .selects RX6 yX6_blanks yX6_blanks, .initialized RX6, .code yX6_blanks cX6_blanks 1 none, .methodLink RX6 151 yX6_isAt, .instanceMethod yX6_isAt, .selects RX6 yX6_isAt yX6_isAt, .code yX6_isAt cX6_isAt 3 (some .boolean), .fieldLink RX6 144 "GaugeBoundsModel" "bytes" "I", .methodLink RX6 69 yX6_in, .static yX6_in, .code yX6_in cX6_in 6 (some .boolean), .methodLink RX6 161 yX6_fails, .instanceMethod yX6_fails, .selects RX6 yX6_fails yX6_fails, .code yX6_fails cX6_fails 1 (some .boolean), .fieldLink RX6 155 "GaugeBoundsModel" "wrongAt" "I"] ++ wsX60)
def wsX6_takesOrder_r1 : List Cond := [Cond.fieldLink RX6 23 "GaugeBoundsModel" "text" "[I", Cond.fieldLink RX6 148 "GaugeBoundsModel" "spot" "I", Cond.constant RX6 57 (-10000001), Cond.fieldLink RX6 26 "GaugeBoundsModel" "letters" "[I", Cond.fieldLink RX6 168 "GaugeBoundsModel" "orders" "I", Cond.methodLink RX6 165 yX6_manyOf, Cond.static yX6_manyOf, Cond.initialized RX6, Cond.code yX6_manyOf cX6_manyOf 1 (some .int), Cond.methodLink RX6 161 yX6_fails, Cond.instanceMethod yX6_fails, Cond.selects RX6 yX6_fails yX6_fails, Cond.code yX6_fails cX6_fails 1 (some .boolean), Cond.fieldLink RX6 155 "GaugeBoundsModel" "wrongAt" "I", Cond.methodLink RX6 171 yX6_takesNumber, Cond.instanceMethod yX6_takesNumber, Cond.selects RX6 yX6_takesNumber yX6_takesNumber, Cond.code yX6_takesNumber cX6_takesNumber 6 (some .boolean), Cond.fieldLink RX6 29 "GaugeBoundsModel" "numbers" "[I", Cond.methodLink RX6 158 yX6_blanks, Cond.instanceMethod yX6_blanks, Cond.selects RX6 yX6_blanks yX6_blanks, Cond.code yX6_blanks cX6_blanks 1 none, Cond.methodLink RX6 151 yX6_isAt]
def wsX6_takesOrder_r2 : List Cond := [Cond.instanceMethod yX6_isAt, Cond.selects RX6 yX6_isAt yX6_isAt, Cond.code yX6_isAt cX6_isAt 3 (some .boolean), Cond.fieldLink RX6 144 "GaugeBoundsModel" "bytes" "I", Cond.methodLink RX6 69 yX6_in, Cond.static yX6_in, Cond.code yX6_in cX6_in 6 (some .boolean)]
def wsX6_takesOrder : List Cond := .code yX6_takesOrder cX6_takesOrder 4 (some .boolean) :: ((wsX6_takesOrder_r1 ++ wsX6_takesOrder_r2) ++ wsX60)
def wsX6_isRead_r1 : List Cond := [Cond.fieldLink RX6 148 "GaugeBoundsModel" "spot" "I", Cond.fieldLink RX6 168 "GaugeBoundsModel" "orders" "I", Cond.fieldLink RX6 144 "GaugeBoundsModel" "bytes" "I", Cond.methodLink RX6 158 yX6_blanks, Cond.instanceMethod yX6_blanks, Cond.selects RX6 yX6_blanks yX6_blanks, Cond.initialized RX6, Cond.code yX6_blanks cX6_blanks 1 none, Cond.methodLink RX6 151 yX6_isAt, Cond.instanceMethod yX6_isAt, Cond.selects RX6 yX6_isAt yX6_isAt, Cond.code yX6_isAt cX6_isAt 3 (some .boolean), Cond.fieldLink RX6 23 "GaugeBoundsModel" "text" "[I", Cond.methodLink RX6 69 yX6_in, Cond.static yX6_in, Cond.code yX6_in cX6_in 6 (some .boolean), Cond.methodLink RX6 175 yX6_takesOrder, Cond.instanceMethod yX6_takesOrder, Cond.selects RX6 yX6_takesOrder yX6_takesOrder, Cond.code yX6_takesOrder cX6_takesOrder 4 (some .boolean), Cond.constant RX6 57 (-10000001), Cond.fieldLink RX6 26 "GaugeBoundsModel" "letters" "[I", Cond.methodLink RX6 165 yX6_manyOf, Cond.static yX6_manyOf]
def wsX6_isRead_r2 : List Cond := [Cond.code yX6_manyOf cX6_manyOf 1 (some .int), Cond.methodLink RX6 161 yX6_fails, Cond.instanceMethod yX6_fails, Cond.selects RX6 yX6_fails yX6_fails, Cond.code yX6_fails cX6_fails 1 (some .boolean), Cond.fieldLink RX6 155 "GaugeBoundsModel" "wrongAt" "I", Cond.methodLink RX6 171 yX6_takesNumber, Cond.instanceMethod yX6_takesNumber, Cond.selects RX6 yX6_takesNumber yX6_takesNumber, Cond.code yX6_takesNumber cX6_takesNumber 6 (some .boolean), Cond.fieldLink RX6 29 "GaugeBoundsModel" "numbers" "[I"]
def wsX6_isRead : List Cond := .code yX6_isRead cX6_isRead 1 (some .boolean) :: ((wsX6_isRead_r1 ++ wsX6_isRead_r2) ++ wsX60)
def wsX6_doneOne_r1 : List Cond := [Cond.fieldLink RX6 29 "GaugeBoundsModel" "numbers" "[I", Cond.fieldLink RX6 26 "GaugeBoundsModel" "letters" "[I", Cond.methodLink RX6 120 yX6_putPassing, Cond.instanceMethod yX6_putPassing, Cond.selects RX6 yX6_putPassing yX6_putPassing, Cond.initialized RX6, Cond.code yX6_putPassing cX6_putPassing 9 (some .int), Cond.constantLong RX6 79 (-99), Cond.constantLong RX6 81 (99), Cond.constantLong RX6 83 (999), Cond.constant RX6 44 (-10000002), Cond.fieldLink RX6 7 "GaugeBoundsModel" "now" "[J", Cond.constant RX6 49 (-10000003), Cond.methodLink RX6 69 yX6_in, Cond.static yX6_in, Cond.code yX6_in cX6_in 6 (some .boolean), Cond.methodLink RX6 85 yX6_shows, Cond.instanceMethod yX6_shows, Cond.selects RX6 yX6_shows yX6_shows, Cond.code yX6_shows cX6_shows 9 none, Cond.methodLink RX6 75 yX6_middle, Cond.instanceMethod yX6_middle, Cond.selects RX6 yX6_middle yX6_middle, Cond.code yX6_middle cX6_middle 5 (some .int)]
def wsX6_doneOne_r2 : List Cond := [Cond.constantLong RX6 32 (1000), Cond.methodLink RX6 123 yX6_putRest, Cond.instanceMethod yX6_putRest, Cond.selects RX6 yX6_putRest yX6_putRest, Cond.code yX6_putRest cX6_putRest 6 (some .int), Cond.constantLong RX6 73 (9999), Cond.fieldLink RX6 58 "GaugeBoundsModel" "least" "I", Cond.constant RX6 57 (-10000001), Cond.fieldLink RX6 61 "GaugeBoundsModel" "greatest" "I", Cond.methodLink RX6 89 yX6_turns, Cond.instanceMethod yX6_turns, Cond.selects RX6 yX6_turns yX6_turns, Cond.code yX6_turns cX6_turns 5 none, Cond.methodLink RX6 64 yX6_voltsAt, Cond.instanceMethod yX6_voltsAt, Cond.selects RX6 yX6_voltsAt yX6_voltsAt, Cond.code yX6_voltsAt cX6_voltsAt 5 (some .int), Cond.constantLong RX6 36 (100), Cond.methodLink RX6 93 yX6_learnsCapacity, Cond.instanceMethod yX6_learnsCapacity, Cond.selects RX6 yX6_learnsCapacity yX6_learnsCapacity, Cond.code yX6_learnsCapacity cX6_learnsCapacity 17 none, Cond.methodLink RX6 126 yX6_putLoad, Cond.instanceMethod yX6_putLoad]
def wsX6_doneOne_r3 : List Cond := [Cond.selects RX6 yX6_putLoad yX6_putLoad, Cond.code yX6_putLoad cX6_putLoad 5 (some .int), Cond.methodLink RX6 97 yX6_bandNow, Cond.instanceMethod yX6_bandNow, Cond.selects RX6 yX6_bandNow yX6_bandNow, Cond.code yX6_bandNow cX6_bandNow 2 (some .int), Cond.methodLink RX6 113 yX6_putSetting, Cond.instanceMethod yX6_putSetting, Cond.selects RX6 yX6_putSetting yX6_putSetting, Cond.code yX6_putSetting cX6_putSetting 5 (some .int), Cond.methodLink RX6 117 yX6_putPoint, Cond.instanceMethod yX6_putPoint, Cond.selects RX6 yX6_putPoint yX6_putPoint, Cond.code yX6_putPoint cX6_putPoint 4 (some .int), Cond.constantLong RX6 40 (10)]
def wsX6_doneOne : List Cond := .code yX6_doneOne cX6_doneOne 4 (some .int) :: ((wsX6_doneOne_r1 ++ (wsX6_doneOne_r2 ++ wsX6_doneOne_r3)) ++ wsX60)
def wsX6_does_r1 : List Cond := [Cond.fieldLink RX6 155 "GaugeBoundsModel" "wrongAt" "I", Cond.fieldLink RX6 168 "GaugeBoundsModel" "orders" "I", Cond.constant RX6 44 (-10000002), Cond.fieldLink RX6 7 "GaugeBoundsModel" "now" "[J", Cond.fieldLink RX6 13 "GaugeBoundsModel" "aside" "[J", Cond.methodLink RX6 178 yX6_isRead, Cond.instanceMethod yX6_isRead, Cond.selects RX6 yX6_isRead yX6_isRead, Cond.initialized RX6, Cond.code yX6_isRead cX6_isRead 1 (some .boolean), Cond.fieldLink RX6 148 "GaugeBoundsModel" "spot" "I", Cond.fieldLink RX6 144 "GaugeBoundsModel" "bytes" "I", Cond.methodLink RX6 158 yX6_blanks, Cond.instanceMethod yX6_blanks, Cond.selects RX6 yX6_blanks yX6_blanks, Cond.code yX6_blanks cX6_blanks 1 none, Cond.methodLink RX6 151 yX6_isAt, Cond.instanceMethod yX6_isAt, Cond.selects RX6 yX6_isAt yX6_isAt, Cond.code yX6_isAt cX6_isAt 3 (some .boolean), Cond.fieldLink RX6 23 "GaugeBoundsModel" "text" "[I", Cond.methodLink RX6 69 yX6_in, Cond.static yX6_in, Cond.code yX6_in cX6_in 6 (some .boolean)]
def wsX6_does_r2 : List Cond := [Cond.methodLink RX6 175 yX6_takesOrder, Cond.instanceMethod yX6_takesOrder, Cond.selects RX6 yX6_takesOrder yX6_takesOrder, Cond.code yX6_takesOrder cX6_takesOrder 4 (some .boolean), Cond.constant RX6 57 (-10000001), Cond.fieldLink RX6 26 "GaugeBoundsModel" "letters" "[I", Cond.methodLink RX6 165 yX6_manyOf, Cond.static yX6_manyOf, Cond.code yX6_manyOf cX6_manyOf 1 (some .int), Cond.methodLink RX6 161 yX6_fails, Cond.instanceMethod yX6_fails, Cond.selects RX6 yX6_fails yX6_fails, Cond.code yX6_fails cX6_fails 1 (some .boolean), Cond.methodLink RX6 171 yX6_takesNumber, Cond.instanceMethod yX6_takesNumber, Cond.selects RX6 yX6_takesNumber yX6_takesNumber, Cond.code yX6_takesNumber cX6_takesNumber 6 (some .boolean), Cond.fieldLink RX6 29 "GaugeBoundsModel" "numbers" "[I", Cond.methodLink RX6 100 yX6_laysAside, Cond.instanceMethod yX6_laysAside, Cond.selects RX6 yX6_laysAside yX6_laysAside, Cond.code yX6_laysAside cX6_laysAside 2 none, Cond.methodLink RX6 181 yX6_doneOne, Cond.instanceMethod yX6_doneOne]
def wsX6_does_r3 : List Cond := [Cond.selects RX6 yX6_doneOne yX6_doneOne, Cond.code yX6_doneOne cX6_doneOne 4 (some .int), Cond.methodLink RX6 120 yX6_putPassing, Cond.instanceMethod yX6_putPassing, Cond.selects RX6 yX6_putPassing yX6_putPassing, Cond.code yX6_putPassing cX6_putPassing 9 (some .int), Cond.constantLong RX6 79 (-99), Cond.constantLong RX6 81 (99), Cond.constantLong RX6 83 (999), Cond.constant RX6 49 (-10000003), Cond.methodLink RX6 85 yX6_shows, Cond.instanceMethod yX6_shows, Cond.selects RX6 yX6_shows yX6_shows, Cond.code yX6_shows cX6_shows 9 none, Cond.methodLink RX6 75 yX6_middle, Cond.instanceMethod yX6_middle, Cond.selects RX6 yX6_middle yX6_middle, Cond.code yX6_middle cX6_middle 5 (some .int), Cond.constantLong RX6 32 (1000), Cond.methodLink RX6 123 yX6_putRest, Cond.instanceMethod yX6_putRest, Cond.selects RX6 yX6_putRest yX6_putRest, Cond.code yX6_putRest cX6_putRest 6 (some .int), Cond.constantLong RX6 73 (9999)]
def wsX6_does_r4 : List Cond := [Cond.fieldLink RX6 58 "GaugeBoundsModel" "least" "I", Cond.fieldLink RX6 61 "GaugeBoundsModel" "greatest" "I", Cond.methodLink RX6 89 yX6_turns, Cond.instanceMethod yX6_turns, Cond.selects RX6 yX6_turns yX6_turns, Cond.code yX6_turns cX6_turns 5 none, Cond.methodLink RX6 64 yX6_voltsAt, Cond.instanceMethod yX6_voltsAt, Cond.selects RX6 yX6_voltsAt yX6_voltsAt, Cond.code yX6_voltsAt cX6_voltsAt 5 (some .int), Cond.constantLong RX6 36 (100), Cond.methodLink RX6 93 yX6_learnsCapacity, Cond.instanceMethod yX6_learnsCapacity, Cond.selects RX6 yX6_learnsCapacity yX6_learnsCapacity, Cond.code yX6_learnsCapacity cX6_learnsCapacity 17 none, Cond.methodLink RX6 126 yX6_putLoad, Cond.instanceMethod yX6_putLoad, Cond.selects RX6 yX6_putLoad yX6_putLoad, Cond.code yX6_putLoad cX6_putLoad 5 (some .int), Cond.methodLink RX6 97 yX6_bandNow, Cond.instanceMethod yX6_bandNow, Cond.selects RX6 yX6_bandNow yX6_bandNow, Cond.code yX6_bandNow cX6_bandNow 2 (some .int), Cond.methodLink RX6 113 yX6_putSetting]
def wsX6_does_r5 : List Cond := [Cond.instanceMethod yX6_putSetting, Cond.selects RX6 yX6_putSetting yX6_putSetting, Cond.code yX6_putSetting cX6_putSetting 5 (some .int), Cond.methodLink RX6 117 yX6_putPoint, Cond.instanceMethod yX6_putPoint, Cond.selects RX6 yX6_putPoint yX6_putPoint, Cond.code yX6_putPoint cX6_putPoint 4 (some .int), Cond.constantLong RX6 40 (10), Cond.methodLink RX6 54 yX6_remembers, Cond.instanceMethod yX6_remembers, Cond.selects RX6 yX6_remembers yX6_remembers, Cond.code yX6_remembers cX6_remembers 2 none, Cond.fieldLink RX6 45 "GaugeBoundsModel" "states" "I", Cond.fieldLink RX6 16 "GaugeBoundsModel" "past" "[J"]
def wsX6_does : List Cond := .code yX6_does cX6_does 3 (some .int) :: ((wsX6_does_r1 ++ (wsX6_does_r2 ++ (wsX6_does_r3 ++ (wsX6_does_r4 ++ wsX6_does_r5)))) ++ wsX60)
def wsX6_refusedOf : List Cond := .code yX6_refusedOf cX6_refusedOf 2 (some .int) :: ([.fieldLink RX6 19 "GaugeBoundsModel" "refusals" "[I", .fieldLink RX6 144 "GaugeBoundsModel" "bytes" "I", .fieldLink RX6 45 "GaugeBoundsModel" "states" "I"] ++ wsX60)
def wsX6_refused : List Cond := .code yX6_refused cX6_refused 2 (some .int) :: ([.constantLong RX6 184 (4), .constant RX6 44 (-10000002), .methodLink RX6 69 yX6_in, .static yX6_in, .initialized RX6, .code yX6_in cX6_in 6 (some .boolean), .methodLink RX6 186 yX6_refusedOf, .instanceMethod yX6_refusedOf, .selects RX6 yX6_refusedOf yX6_refusedOf, .code yX6_refusedOf cX6_refusedOf 2 (some .int), .fieldLink RX6 19 "GaugeBoundsModel" "refusals" "[I", .fieldLink RX6 144 "GaugeBoundsModel" "bytes" "I", .fieldLink RX6 45 "GaugeBoundsModel" "states" "I", .methodLink RX6 50 yX6_refuses, .instanceMethod yX6_refuses, .selects RX6 yX6_refuses yX6_refuses, .code yX6_refuses cX6_refuses 2 (some .int)] ++ wsX60)
def wsX6_mix : List Cond := .code yX6_mix cX6_mix 3 none :: ([.constantLong RX6 189 (31), .fieldLink RX6 191 "GaugeBoundsModel" "hash" "J"] ++ wsX60)
def wsX6_digest_r1 : List Cond := [Cond.constantLong RX6 195 (1690), Cond.fieldLink RX6 191 "GaugeBoundsModel" "hash" "J", Cond.fieldLink RX6 7 "GaugeBoundsModel" "now" "[J", Cond.methodLink RX6 186 yX6_refusedOf, Cond.instanceMethod yX6_refusedOf, Cond.selects RX6 yX6_refusedOf yX6_refusedOf, Cond.initialized RX6, Cond.code yX6_refusedOf cX6_refusedOf 2 (some .int), Cond.fieldLink RX6 19 "GaugeBoundsModel" "refusals" "[I", Cond.fieldLink RX6 144 "GaugeBoundsModel" "bytes" "I", Cond.fieldLink RX6 45 "GaugeBoundsModel" "states" "I", Cond.methodLink RX6 197 yX6_mix, Cond.instanceMethod yX6_mix, Cond.selects RX6 yX6_mix yX6_mix, Cond.code yX6_mix cX6_mix 3 none, Cond.constantLong RX6 189 (31), Cond.methodLink RX6 131 yX6_toldOf, Cond.instanceMethod yX6_toldOf, Cond.selects RX6 yX6_toldOf yX6_toldOf, Cond.code yX6_toldOf cX6_toldOf 2 (some .int), Cond.methodLink RX6 75 yX6_middle, Cond.instanceMethod yX6_middle, Cond.selects RX6 yX6_middle yX6_middle, Cond.code yX6_middle cX6_middle 5 (some .int)]
def wsX6_digest_r2 : List Cond := [Cond.constantLong RX6 32 (1000), Cond.methodLink RX6 201 yX6_bands, Cond.instanceMethod yX6_bands, Cond.selects RX6 yX6_bands yX6_bands, Cond.code yX6_bands cX6_bands 3 (some .int), Cond.methodLink RX6 134 yX6_bandOf, Cond.instanceMethod yX6_bandOf, Cond.selects RX6 yX6_bandOf yX6_bandOf, Cond.code yX6_bandOf cX6_bandOf 3 (some .int), Cond.constant RX6 57 (-10000001), Cond.methodLink RX6 137 yX6_lastsBy, Cond.instanceMethod yX6_lastsBy, Cond.selects RX6 yX6_lastsBy yX6_lastsBy, Cond.code yX6_lastsBy cX6_lastsBy 5 (some .int)]
def wsX6_digest : List Cond := .code yX6_digest cX6_digest 2 (some .long) :: ((wsX6_digest_r1 ++ wsX6_digest_r2) ++ wsX60)
def wsJ9_max_7cf53 : List Cond := .code yJ9_max_7cf53 cJ9_max_7cf53 2 (some .int) :: ([])
def wsJ9_max_f86c9 : List Cond := .code yJ9_max_f86c9 cJ9_max_f86c9 4 (some .long) :: ([])
def wsJ9_min_7cf53 : List Cond := .code yJ9_min_7cf53 cJ9_min_7cf53 2 (some .int) :: ([])
def wsJ9_min_f86c9 : List Cond := .code yJ9_min_f86c9 cJ9_min_f86c9 4 (some .long) :: ([])
def wsL_law_r1 : List Cond := [Cond.classLink RL 7 RX5, Cond.instantiable RX5 6, Cond.initialized RX5, Cond.classLink RL 10 RX6, Cond.instantiable RX6 15, Cond.initialized RX6, Cond.methodLink RL 9 yX5_init, Cond.instanceMethod yX5_init, Cond.code yX5_init cX5_init 1 none, Cond.methodLink RX5 1 objectInit, Cond.instanceMethod objectInit, Cond.code objectInit ⟨#[0xb1]⟩ 1 none, Cond.classLink RX5 7 RX1, Cond.instantiable RX1 15, Cond.initialized RX1, Cond.fieldLink RX5 10 "GaugeBounds" "battery" "LGaugeBounds$Battery;", Cond.classLink RX5 16 RX3, Cond.instantiable RX3 3, Cond.initialized RX3, Cond.fieldLink RX5 19 "GaugeBounds" "states" "LGaugeBounds$States;", Cond.classLink RX5 23 RX4, Cond.instantiable RX4 8, Cond.initialized RX4, Cond.fieldLink RX5 26 "GaugeBounds" "text" "LGaugeBounds$Text;"]
def wsL_law_r2 : List Cond := [Cond.methodLink RX5 9 yX1_init, Cond.instanceMethod yX1_init, Cond.code yX1_init cX1_init 1 none, Cond.methodLink RX1 5 objectInit, Cond.classLink RX1 1 RX2, Cond.instantiable RX2 1, Cond.initialized RX2, Cond.fieldLink RX1 12 "GaugeBounds$Battery" "curve" "LGaugeBounds$Curve;", Cond.classLink RX1 18 RX0, Cond.instantiable RX0 2, Cond.initialized RX0, Cond.fieldLink RX1 21 "GaugeBounds$Battery" "bands" "LGaugeBounds$Bands;", Cond.fieldLink RX1 25 "GaugeBounds$Battery" "high" "I", Cond.fieldLink RX1 29 "GaugeBounds$Battery" "leastCapacity" "I", Cond.fieldLink RX1 32 "GaugeBounds$Battery" "mostCapacity" "I", Cond.fieldLink RX1 35 "GaugeBounds$Battery" "offset" "I", Cond.fieldLink RX1 38 "GaugeBounds$Battery" "cling" "I", Cond.constant RX1 41 (-10000001), Cond.fieldLink RX1 42 "GaugeBounds$Battery" "lastA" "I", Cond.fieldLink RX1 45 "GaugeBounds$Battery" "lastB" "I", Cond.fieldLink RX1 48 "GaugeBounds$Battery" "shown" "I", Cond.methodLink RX1 11 yX2_init, Cond.instanceMethod yX2_init, Cond.code yX2_init cX2_init 2 none]
def wsL_law_r3 : List Cond := [Cond.methodLink RX2 3 objectInit, Cond.arrayClass .int, Cond.fieldLink RX2 11 "GaugeBounds$Curve" "points" "[I", Cond.methodLink RX1 20 yX0_init, Cond.instanceMethod yX0_init, Cond.code yX0_init cX0_init 1 none, Cond.methodLink RX0 3 objectInit, Cond.arrayClass .long, Cond.fieldLink RX0 11 "GaugeBounds$Bands" "sums" "[J", Cond.fieldLink RX0 15 "GaugeBounds$Bands" "counts" "[I", Cond.methodLink RX5 18 yX3_init, Cond.instanceMethod yX3_init, Cond.code yX3_init cX3_init 2 none, Cond.methodLink RX3 3 objectInit, Cond.classLink RX3 9 RX1, Cond.fieldLink RX3 11 "GaugeBounds$States" "ring" "[LGaugeBounds$Battery;", Cond.methodLink RX3 15 yX1_init, Cond.methodLink RX5 25 yX4_init, Cond.instanceMethod yX4_init, Cond.code yX4_init cX4_init 1 none, Cond.methodLink RX4 5 objectInit, Cond.arrayClass .byte, Cond.fieldLink RX4 11 "GaugeBounds$Text" "bytes" "[B", Cond.fieldLink RX4 15 "GaugeBounds$Text" "kinds" "[I"]
def wsL_law_r4 : List Cond := [Cond.fieldLink RX4 19 "GaugeBounds$Text" "firsts" "[I", Cond.fieldLink RX4 22 "GaugeBounds$Text" "seconds" "[I", Cond.methodLink RL 12 yX6_init, Cond.instanceMethod yX6_init, Cond.code yX6_init cX6_init 2 none, Cond.methodLink RX6 1 objectInit, Cond.fieldLink RX6 7 "GaugeBoundsModel" "now" "[J", Cond.fieldLink RX6 13 "GaugeBoundsModel" "aside" "[J", Cond.fieldLink RX6 16 "GaugeBoundsModel" "past" "[J", Cond.fieldLink RX6 19 "GaugeBoundsModel" "refusals" "[I", Cond.fieldLink RX6 23 "GaugeBoundsModel" "text" "[I", Cond.fieldLink RX6 26 "GaugeBoundsModel" "letters" "[I", Cond.fieldLink RX6 29 "GaugeBoundsModel" "numbers" "[I", Cond.constantLong RX6 32 (1000), Cond.constantLong RX6 34 (500), Cond.constantLong RX6 36 (100), Cond.constantLong RX6 38 (-10000001), Cond.constantLong RX6 40 (10), Cond.constantLong RX6 42 (3000), Cond.methodLink RL 13 yX5_begins, Cond.instanceMethod yX5_begins, Cond.selects RX5 yX5_begins yX5_begins, Cond.code yX5_begins cX5_begins 3 (some .int), Cond.methodLink RX5 30 yX3_mark]
def wsL_law_r5 : List Cond := [Cond.instanceMethod yX3_mark, Cond.selects RX3 yX3_mark yX3_mark, Cond.code yX3_mark cX3_mark 2 none, Cond.fieldLink RX3 20 "GaugeBounds$States" "marked" "I", Cond.methodLink RX3 23 yX1_copyFrom, Cond.instanceMethod yX1_copyFrom, Cond.selects RX1 yX1_copyFrom yX1_copyFrom, Cond.code yX1_copyFrom cX1_copyFrom 2 none, Cond.fieldLink RX1 58 "GaugeBounds$Battery" "low" "I", Cond.fieldLink RX1 61 "GaugeBounds$Battery" "drawn" "I", Cond.fieldLink RX1 64 "GaugeBounds$Battery" "steps" "I", Cond.fieldLink RX1 67 "GaugeBounds$Battery" "rests" "I", Cond.fieldLink RX1 70 "GaugeBounds$Battery" "clashes" "I", Cond.methodLink RX1 51 yX2_copyFrom, Cond.instanceMethod yX2_copyFrom, Cond.selects RX2 yX2_copyFrom yX2_copyFrom, Cond.code yX2_copyFrom cX2_copyFrom 2 none, Cond.methodLink RX2 15 arraycopyName, Cond.native arraycopyName, Cond.static arraycopyName, Cond.initialized "java/lang/System", Cond.methodLink RX1 55 yX0_copyFrom, Cond.instanceMethod yX0_copyFrom, Cond.selects RX0 yX0_copyFrom yX0_copyFrom]
def wsL_law_r6 : List Cond := [Cond.code yX0_copyFrom cX0_copyFrom 2 none, Cond.methodLink RX0 19 arraycopyName, Cond.methodLink RX5 34 yX1_begin, Cond.instanceMethod yX1_begin, Cond.selects RX1 yX1_begin yX1_begin, Cond.code yX1_begin cX1_begin 4 (some .int), Cond.constant RX1 77 (-10000002), Cond.methodLink RX1 73 yX1_isRange, Cond.static yX1_isRange, Cond.code yX1_isRange cX1_isRange 2 (some .boolean), Cond.constant RX1 164 (99999), Cond.static yX5_within, Cond.code yX5_within cX5_within 3 (some .boolean), Cond.methodLink RX1 78 yX0_forget, Cond.instanceMethod yX0_forget, Cond.selects RX0 yX0_forget yX0_forget, Cond.code yX0_forget cX0_forget 2 none, Cond.methodLink RX5 38 yX5_settled, Cond.instanceMethod yX5_settled, Cond.selects RX5 yX5_settled yX5_settled, Cond.code yX5_settled cX5_settled 2 (some .int), Cond.methodLink RX5 116 yX5_isRefusal, Cond.static yX5_isRefusal, Cond.code yX5_isRefusal cX5_isRefusal 1 (some .boolean)]
def wsL_law_r7 : List Cond := [Cond.constant RX5 67 (-10000002), Cond.constant RX5 129 (-10000003), Cond.constant RX5 170 (-10000004), Cond.methodLink RX5 123 yX3_keepMarked, Cond.instanceMethod yX3_keepMarked, Cond.selects RX3 yX3_keepMarked yX3_keepMarked, Cond.code yX3_keepMarked cX3_keepMarked 1 none, Cond.fieldLink RX3 16 "GaugeBounds$States" "size" "I", Cond.methodLink RX3 27 Lib.Math.min.name, Cond.static Lib.Math.min.name, Cond.initialized "java/lang/Math", Cond.code Lib.Math.min.name Lib.Math.min.code 2 (some .int), Cond.methodLink RX5 68 yX5_counted, Cond.instanceMethod yX5_counted, Cond.selects RX5 yX5_counted yX5_counted, Cond.code yX5_counted cX5_counted 2 (some .int), Cond.fieldLink RX5 133 "GaugeBounds" "timesBad" "I", Cond.fieldLink RX5 137 "GaugeBounds" "timesNo" "I", Cond.fieldLink RX5 140 "GaugeBounds" "timesFull" "I", Cond.methodLink RL 17 yX6_begins, Cond.instanceMethod yX6_begins, Cond.selects RX6 yX6_begins yX6_begins, Cond.code yX6_begins cX6_begins 3 (some .int), Cond.methodLink RX6 100 yX6_laysAside]
def wsL_law_r8 : List Cond := [Cond.instanceMethod yX6_laysAside, Cond.selects RX6 yX6_laysAside yX6_laysAside, Cond.code yX6_laysAside cX6_laysAside 2 none, Cond.methodLink RX6 103 yX6_putCapacity, Cond.instanceMethod yX6_putCapacity, Cond.selects RX6 yX6_putCapacity yX6_putCapacity, Cond.code yX6_putCapacity cX6_putCapacity 5 (some .int), Cond.constantLong RX6 67 (99999), Cond.constant RX6 44 (-10000002), Cond.methodLink RX6 69 yX6_in, Cond.static yX6_in, Cond.code yX6_in cX6_in 6 (some .boolean), Cond.methodLink RX6 107 yX6_finished, Cond.instanceMethod yX6_finished, Cond.selects RX6 yX6_finished yX6_finished, Cond.code yX6_finished cX6_finished 2 (some .int), Cond.methodLink RX6 50 yX6_refuses, Cond.instanceMethod yX6_refuses, Cond.selects RX6 yX6_refuses yX6_refuses, Cond.code yX6_refuses cX6_refuses 2 (some .int), Cond.methodLink RX6 54 yX6_remembers, Cond.instanceMethod yX6_remembers, Cond.selects RX6 yX6_remembers yX6_remembers, Cond.code yX6_remembers cX6_remembers 2 none]
def wsL_law_r9 : List Cond := [Cond.fieldLink RX6 45 "GaugeBoundsModel" "states" "I", Cond.methodLink RL 18 yX5_holds, Cond.instanceMethod yX5_holds, Cond.selects RX5 yX5_holds yX5_holds, Cond.code yX5_holds cX5_holds 3 (some .int), Cond.methodLink RX5 42 yX1_hold, Cond.instanceMethod yX1_hold, Cond.selects RX1 yX1_hold yX1_hold, Cond.code yX1_hold cX1_hold 4 (some .int), Cond.methodLink RL 21 yX6_holds, Cond.instanceMethod yX6_holds, Cond.selects RX6 yX6_holds yX6_holds, Cond.code yX6_holds cX6_holds 3 (some .int), Cond.methodLink RX6 110 yX6_putCharge, Cond.instanceMethod yX6_putCharge, Cond.selects RX6 yX6_putCharge yX6_putCharge, Cond.code yX6_putCharge cX6_putCharge 4 (some .int), Cond.methodLink RL 22 yX5_offset, Cond.instanceMethod yX5_offset, Cond.selects RX5 yX5_offset yX5_offset, Cond.code yX5_offset cX5_offset 2 (some .int), Cond.methodLink RX5 45 yX1_putOffset, Cond.instanceMethod yX1_putOffset, Cond.selects RX1 yX1_putOffset yX1_putOffset]
def wsL_law_r10 : List Cond := [Cond.code yX1_putOffset cX1_putOffset 3 (some .int), Cond.methodLink RL 26 yX6_offset, Cond.instanceMethod yX6_offset, Cond.selects RX6 yX6_offset yX6_offset, Cond.code yX6_offset cX6_offset 2 (some .int), Cond.methodLink RX6 113 yX6_putSetting, Cond.instanceMethod yX6_putSetting, Cond.selects RX6 yX6_putSetting yX6_putSetting, Cond.code yX6_putSetting cX6_putSetting 5 (some .int), Cond.methodLink RL 27 yX5_clings, Cond.instanceMethod yX5_clings, Cond.selects RX5 yX5_clings yX5_clings, Cond.code yX5_clings cX5_clings 2 (some .int), Cond.methodLink RX5 48 yX1_putCling, Cond.instanceMethod yX1_putCling, Cond.selects RX1 yX1_putCling yX1_putCling, Cond.code yX1_putCling cX1_putCling 3 (some .int), Cond.methodLink RL 30 yX6_clings, Cond.instanceMethod yX6_clings, Cond.selects RX6 yX6_clings yX6_clings, Cond.code yX6_clings cX6_clings 2 (some .int), Cond.methodLink RL 31 yX5_curve, Cond.instanceMethod yX5_curve, Cond.selects RX5 yX5_curve yX5_curve]
def wsL_law_r11 : List Cond := [Cond.code yX5_curve cX5_curve 3 (some .int), Cond.methodLink RX5 51 yX1_putPoint, Cond.instanceMethod yX1_putPoint, Cond.selects RX1 yX1_putPoint yX1_putPoint, Cond.code yX1_putPoint cX1_putPoint 3 (some .int), Cond.methodLink RX1 85 yX2_putPoint, Cond.instanceMethod yX2_putPoint, Cond.selects RX2 yX2_putPoint yX2_putPoint, Cond.code yX2_putPoint cX2_putPoint 4 (some .int), Cond.constant RX2 25 (-10000002), Cond.constant RX2 26 (-10000003), Cond.methodLink RL 34 yX6_curve, Cond.instanceMethod yX6_curve, Cond.selects RX6 yX6_curve yX6_curve, Cond.code yX6_curve cX6_curve 3 (some .int), Cond.methodLink RX6 117 yX6_putPoint, Cond.instanceMethod yX6_putPoint, Cond.selects RX6 yX6_putPoint yX6_putPoint, Cond.code yX6_putPoint cX6_putPoint 4 (some .int), Cond.constantLong RX6 73 (9999), Cond.constant RX6 49 (-10000003), Cond.methodLink RL 35 yX5_passes, Cond.instanceMethod yX5_passes, Cond.selects RX5 yX5_passes yX5_passes]
def wsL_law_r12 : List Cond := [Cond.code yX5_passes cX5_passes 3 (some .int), Cond.methodLink RX5 54 yX1_pass, Cond.instanceMethod yX1_pass, Cond.selects RX1 yX1_pass yX1_pass, Cond.code yX1_pass cX1_pass 5 (some .int), Cond.methodLink RX1 89 Lib.Math.max.name, Cond.static Lib.Math.max.name, Cond.code Lib.Math.max.name Lib.Math.max.code 2 (some .int), Cond.methodLink RX1 94 Lib.Math.min.name, Cond.constant RX1 97 (-10000003), Cond.methodLink RX1 98 yX1_showPassing, Cond.instanceMethod yX1_showPassing, Cond.selects RX1 yX1_showPassing yX1_showPassing, Cond.code yX1_showPassing cX1_showPassing 4 none, Cond.methodLink RX1 105 yX1_middle, Cond.instanceMethod yX1_middle, Cond.selects RX1 yX1_middle yX1_middle, Cond.code yX1_middle cX1_middle 2 (some .int), Cond.methodLink RX1 102 yX1_showEmpty, Cond.instanceMethod yX1_showEmpty, Cond.selects RX1 yX1_showEmpty yX1_showEmpty, Cond.code yX1_showEmpty cX1_showEmpty 1 none, Cond.methodLink RL 38 yX6_passes, Cond.instanceMethod yX6_passes]
def wsL_law_r13 : List Cond := [Cond.selects RX6 yX6_passes yX6_passes, Cond.code yX6_passes cX6_passes 3 (some .int), Cond.methodLink RX6 120 yX6_putPassing, Cond.instanceMethod yX6_putPassing, Cond.selects RX6 yX6_putPassing yX6_putPassing, Cond.code yX6_putPassing cX6_putPassing 9 (some .int), Cond.constantLong RX6 79 (-99), Cond.constantLong RX6 81 (99), Cond.constantLong RX6 83 (999), Cond.methodLink RX6 85 yX6_shows, Cond.instanceMethod yX6_shows, Cond.selects RX6 yX6_shows yX6_shows, Cond.code yX6_shows cX6_shows 9 none, Cond.methodLink RX6 75 yX6_middle, Cond.instanceMethod yX6_middle, Cond.selects RX6 yX6_middle yX6_middle, Cond.code yX6_middle cX6_middle 5 (some .int), Cond.methodLink RL 39 yX5_rests, Cond.instanceMethod yX5_rests, Cond.selects RX5 yX5_rests yX5_rests, Cond.code yX5_rests cX5_rests 2 (some .int), Cond.methodLink RX5 57 yX1_rest, Cond.instanceMethod yX1_rest, Cond.selects RX1 yX1_rest yX1_rest]
def wsL_law_r14 : List Cond := [Cond.code yX1_rest cX1_rest 4 (some .int), Cond.methodLink RX1 109 yX1_isVoltage, Cond.static yX1_isVoltage, Cond.code yX1_isVoltage cX1_isVoltage 1 (some .boolean), Cond.methodLink RX1 113 yX1_restBound, Cond.instanceMethod yX1_restBound, Cond.selects RX1 yX1_restBound yX1_restBound, Cond.code yX1_restBound cX1_restBound 5 (some .int), Cond.methodLink RX1 146 yX2_leastReaching, Cond.instanceMethod yX2_leastReaching, Cond.selects RX2 yX2_leastReaching yX2_leastReaching, Cond.code yX2_leastReaching cX2_leastReaching 3 (some .int), Cond.constant RX2 31 (-10000001), Cond.methodLink RX2 27 yX2_placesBelow, Cond.instanceMethod yX2_placesBelow, Cond.selects RX2 yX2_placesBelow yX2_placesBelow, Cond.code yX2_placesBelow cX2_placesBelow 5 (some .int), Cond.methodLink RX2 32 yX2_voltsAt, Cond.instanceMethod yX2_voltsAt, Cond.selects RX2 yX2_voltsAt yX2_voltsAt, Cond.code yX2_voltsAt cX2_voltsAt 3 (some .int), Cond.methodLink RX1 149 yX2_greatestWithin, Cond.instanceMethod yX2_greatestWithin, Cond.selects RX2 yX2_greatestWithin yX2_greatestWithin]
def wsL_law_r15 : List Cond := [Cond.code yX2_greatestWithin cX2_greatestWithin 3 (some .int), Cond.methodLink RX1 116 yX1_learnCapacity, Cond.instanceMethod yX1_learnCapacity, Cond.selects RX1 yX1_learnCapacity yX1_learnCapacity, Cond.code yX1_learnCapacity cX1_learnCapacity 12 none, Cond.constantLong RX1 122 (1000), Cond.methodLink RX1 124 Lib.MathLoose.max_long.x, Cond.static Lib.MathLoose.max_long.x, Cond.code Lib.MathLoose.max_long.x Lib.MathLoose.max_long.code 4 (some .long), Cond.methodLink RX1 127 Lib.MathLoose.min_long.x, Cond.static Lib.MathLoose.min_long.x, Cond.code Lib.MathLoose.min_long.x Lib.MathLoose.min_long.code 4 (some .long), Cond.methodLink RX1 119 yX1_narrowCharge, Cond.instanceMethod yX1_narrowCharge, Cond.selects RX1 yX1_narrowCharge yX1_narrowCharge, Cond.code yX1_narrowCharge cX1_narrowCharge 5 none, Cond.methodLink RL 42 yX6_rests, Cond.instanceMethod yX6_rests, Cond.selects RX6 yX6_rests yX6_rests, Cond.code yX6_rests cX6_rests 2 (some .int), Cond.methodLink RX6 123 yX6_putRest, Cond.instanceMethod yX6_putRest, Cond.selects RX6 yX6_putRest yX6_putRest, Cond.code yX6_putRest cX6_putRest 6 (some .int)]
def wsL_law_r16 : List Cond := [Cond.fieldLink RX6 58 "GaugeBoundsModel" "least" "I", Cond.constant RX6 57 (-10000001), Cond.fieldLink RX6 61 "GaugeBoundsModel" "greatest" "I", Cond.methodLink RX6 89 yX6_turns, Cond.instanceMethod yX6_turns, Cond.selects RX6 yX6_turns yX6_turns, Cond.code yX6_turns cX6_turns 5 none, Cond.methodLink RX6 64 yX6_voltsAt, Cond.instanceMethod yX6_voltsAt, Cond.selects RX6 yX6_voltsAt yX6_voltsAt, Cond.code yX6_voltsAt cX6_voltsAt 5 (some .int), Cond.methodLink RX6 93 yX6_learnsCapacity, Cond.instanceMethod yX6_learnsCapacity, Cond.selects RX6 yX6_learnsCapacity yX6_learnsCapacity, Cond.code yX6_learnsCapacity cX6_learnsCapacity 17 none, Cond.methodLink RL 43 yX5_loads, Cond.instanceMethod yX5_loads, Cond.selects RX5 yX5_loads yX5_loads, Cond.code yX5_loads cX5_loads 3 (some .int), Cond.methodLink RX5 60 yX1_load, Cond.instanceMethod yX1_load, Cond.selects RX1 yX1_load yX1_load, Cond.code yX1_load cX1_load 5 (some .int), Cond.methodLink RX1 129 yX1_isLoad]
def wsL_law_r17 : List Cond := [Cond.static yX1_isLoad, Cond.code yX1_isLoad cX1_isLoad 1 (some .boolean), Cond.methodLink RX1 132 yX2_voltsAt, Cond.methodLink RX1 136 yX1_signOf, Cond.static yX1_signOf, Cond.code yX1_signOf cX1_signOf 1 (some .int), Cond.methodLink RX1 139 yX1_tenthOf, Cond.static yX1_tenthOf, Cond.code yX1_tenthOf cX1_tenthOf 1 (some .int), Cond.methodLink RX1 142 yX0_add, Cond.instanceMethod yX0_add, Cond.selects RX0 yX0_add yX0_add, Cond.code yX0_add cX0_add 5 none, Cond.methodLink RX0 25 yX0_isBand, Cond.static yX0_isBand, Cond.code yX0_isBand cX0_isBand 2 (some .boolean), Cond.methodLink RL 46 yX6_loads, Cond.instanceMethod yX6_loads, Cond.selects RX6 yX6_loads yX6_loads, Cond.code yX6_loads cX6_loads 3 (some .int), Cond.methodLink RX6 126 yX6_putLoad, Cond.instanceMethod yX6_putLoad, Cond.selects RX6 yX6_putLoad yX6_putLoad, Cond.code yX6_putLoad cX6_putLoad 5 (some .int)]
def wsL_law_r18 : List Cond := [Cond.methodLink RX6 97 yX6_bandNow, Cond.instanceMethod yX6_bandNow, Cond.selects RX6 yX6_bandNow yX6_bandNow, Cond.code yX6_bandNow cX6_bandNow 2 (some .int), Cond.methodLink RL 47 yX5_told, Cond.instanceMethod yX5_told, Cond.selects RX5 yX5_told yX5_told, Cond.code yX5_told cX5_told 2 (some .int), Cond.methodLink RX5 63 yX5_within, Cond.methodLink RX5 71 yX1_tell, Cond.instanceMethod yX1_tell, Cond.selects RX1 yX1_tell yX1_tell, Cond.code yX1_tell cX1_tell 2 (some .int), Cond.methodLink RL 50 yX6_told, Cond.instanceMethod yX6_told, Cond.selects RX6 yX6_told yX6_told, Cond.code yX6_told cX6_told 2 (some .int), Cond.constantLong RX6 129 (11), Cond.methodLink RX6 131 yX6_toldOf, Cond.instanceMethod yX6_toldOf, Cond.selects RX6 yX6_toldOf yX6_toldOf, Cond.code yX6_toldOf cX6_toldOf 2 (some .int), Cond.methodLink RL 51 yX5_volts, Cond.instanceMethod yX5_volts]
def wsL_law_r19 : List Cond := [Cond.selects RX5 yX5_volts yX5_volts, Cond.code yX5_volts cX5_volts 2 (some .int), Cond.methodLink RX5 74 yX1_restVoltage, Cond.instanceMethod yX1_restVoltage, Cond.selects RX1 yX1_restVoltage yX1_restVoltage, Cond.code yX1_restVoltage cX1_restVoltage 2 (some .int), Cond.methodLink RL 54 yX6_volts, Cond.instanceMethod yX6_volts, Cond.selects RX6 yX6_volts yX6_volts, Cond.code yX6_volts cX6_volts 2 (some .int), Cond.methodLink RL 55 yX5_inverse, Cond.instanceMethod yX5_inverse, Cond.selects RX5 yX5_inverse yX5_inverse, Cond.code yX5_inverse cX5_inverse 3 (some .int), Cond.methodLink RX5 77 yX1_restBound, Cond.methodLink RL 58 yX6_inverse, Cond.instanceMethod yX6_inverse, Cond.selects RX6 yX6_inverse yX6_inverse, Cond.code yX6_inverse cX6_inverse 3 (some .int), Cond.methodLink RL 59 yX5_band, Cond.instanceMethod yX5_band, Cond.selects RX5 yX5_band yX5_band, Cond.code yX5_band cX5_band 4 (some .int), Cond.methodLink RX5 80 yX1_tellBand]
def wsL_law_r20 : List Cond := [Cond.instanceMethod yX1_tellBand, Cond.selects RX1 yX1_tellBand yX1_tellBand, Cond.code yX1_tellBand cX1_tellBand 4 (some .int), Cond.methodLink RX1 152 yX0_resistance, Cond.instanceMethod yX0_resistance, Cond.selects RX0 yX0_resistance yX0_resistance, Cond.code yX0_resistance cX0_resistance 4 (some .int), Cond.constant RX0 29 (-10000002), Cond.constant RX0 30 (-10000001), Cond.methodLink RX1 155 yX0_howMany, Cond.instanceMethod yX0_howMany, Cond.selects RX0 yX0_howMany yX0_howMany, Cond.code yX0_howMany cX0_howMany 3 (some .int), Cond.methodLink RL 63 yX6_band, Cond.instanceMethod yX6_band, Cond.selects RX6 yX6_band yX6_band, Cond.code yX6_band cX6_band 5 (some .int), Cond.methodLink RX6 134 yX6_bandOf, Cond.instanceMethod yX6_bandOf, Cond.selects RX6 yX6_bandOf yX6_bandOf, Cond.code yX6_bandOf cX6_bandOf 3 (some .int), Cond.methodLink RL 64 yX5_bands, Cond.instanceMethod yX5_bands, Cond.selects RX5 yX5_bands yX5_bands]
def wsL_law_r21 : List Cond := [Cond.code yX5_bands cX5_bands 1 (some .int), Cond.methodLink RX5 84 yX1_usedBands, Cond.instanceMethod yX1_usedBands, Cond.selects RX1 yX1_usedBands yX1_usedBands, Cond.code yX1_usedBands cX1_usedBands 1 (some .int), Cond.methodLink RX1 158 yX0_used, Cond.instanceMethod yX0_used, Cond.selects RX0 yX0_used yX0_used, Cond.code yX0_used cX0_used 3 (some .int), Cond.methodLink RL 68 yX6_bands, Cond.instanceMethod yX6_bands, Cond.selects RX6 yX6_bands yX6_bands, Cond.code yX6_bands cX6_bands 3 (some .int), Cond.methodLink RL 69 yX5_lasts, Cond.instanceMethod yX5_lasts, Cond.selects RX5 yX5_lasts yX5_lasts, Cond.code yX5_lasts cX5_lasts 3 (some .int), Cond.methodLink RX5 88 yX1_lasting, Cond.instanceMethod yX1_lasting, Cond.selects RX1 yX1_lasting yX1_lasting, Cond.code yX1_lasting cX1_lasting 3 (some .int), Cond.methodLink RL 72 yX6_lasts, Cond.instanceMethod yX6_lasts, Cond.selects RX6 yX6_lasts yX6_lasts]
def wsL_law_r22 : List Cond := [Cond.code yX6_lasts cX6_lasts 3 (some .int), Cond.methodLink RX6 137 yX6_lastsBy, Cond.instanceMethod yX6_lastsBy, Cond.selects RX6 yX6_lastsBy yX6_lastsBy, Cond.code yX6_lastsBy cX6_lastsBy 5 (some .int), Cond.methodLink RL 73 yX5_under, Cond.instanceMethod yX5_under, Cond.selects RX5 yX5_under yX5_under, Cond.code yX5_under cX5_under 2 (some .int), Cond.methodLink RX5 91 yX1_loadedVoltage, Cond.instanceMethod yX1_loadedVoltage, Cond.selects RX1 yX1_loadedVoltage yX1_loadedVoltage, Cond.code yX1_loadedVoltage cX1_loadedVoltage 4 (some .int), Cond.methodLink RL 76 yX6_under, Cond.instanceMethod yX6_under, Cond.selects RX6 yX6_under yX6_under, Cond.code yX6_under cX6_under 3 (some .int), Cond.methodLink RL 77 yX5_setting, Cond.instanceMethod yX5_setting, Cond.selects RX5 yX5_setting yX5_setting, Cond.code yX5_setting cX5_setting 2 (some .int), Cond.methodLink RX5 94 yX1_tellSetting, Cond.instanceMethod yX1_tellSetting, Cond.selects RX1 yX1_tellSetting yX1_tellSetting]
def wsL_law_r23 : List Cond := [Cond.code yX1_tellSetting cX1_tellSetting 2 (some .int), Cond.methodLink RX1 161 yX2_point, Cond.instanceMethod yX2_point, Cond.selects RX2 yX2_point yX2_point, Cond.code yX2_point cX2_point 2 (some .int), Cond.methodLink RL 80 yX6_setting, Cond.instanceMethod yX6_setting, Cond.selects RX6 yX6_setting yX6_setting, Cond.code yX6_setting cX6_setting 2 (some .int), Cond.constantLong RX6 140 (12), Cond.methodLink RL 81 yX5_type, Cond.instanceMethod yX5_type, Cond.selects RX5 yX5_type yX5_type, Cond.code yX5_type cX5_type 2 (some .int), Cond.methodLink RX5 97 yX4_append, Cond.instanceMethod yX4_append, Cond.selects RX4 yX4_append yX4_append, Cond.code yX4_append cX4_append 2 (some .int), Cond.constant RX4 33 (-10000002), Cond.fieldLink RX4 25 "GaugeBounds$Text" "length" "I", Cond.constant RX4 34 (-10000004), Cond.methodLink RL 84 yX6_type, Cond.instanceMethod yX6_type, Cond.selects RX6 yX6_type yX6_type]
def wsL_law_r24 : List Cond := [Cond.code yX6_type cX6_type 2 (some .int), Cond.constantLong RX6 142 (127), Cond.fieldLink RX6 144 "GaugeBoundsModel" "bytes" "I", Cond.constant RX6 147 (-10000004), Cond.methodLink RL 85 yX5_clear, Cond.instanceMethod yX5_clear, Cond.selects RX5 yX5_clear yX5_clear, Cond.code yX5_clear cX5_clear 1 (some .int), Cond.methodLink RX5 100 yX4_empty, Cond.instanceMethod yX4_empty, Cond.selects RX4 yX4_empty yX4_empty, Cond.code yX4_empty cX4_empty 2 (some .int), Cond.methodLink RL 88 yX6_clear, Cond.instanceMethod yX6_clear, Cond.selects RX6 yX6_clear yX6_clear, Cond.code yX6_clear cX6_clear 2 (some .int), Cond.methodLink RL 89 yX5_does, Cond.instanceMethod yX5_does, Cond.selects RX5 yX5_does yX5_does, Cond.code yX5_does cX5_does 2 (some .int), Cond.methodLink RX5 103 yX4_read, Cond.instanceMethod yX4_read, Cond.selects RX4 yX4_read yX4_read, Cond.code yX4_read cX4_read 2 (some .boolean)]
def wsL_law_r25 : List Cond := [Cond.fieldLink RX4 38 "GaugeBounds$Text" "place" "I", Cond.fieldLink RX4 35 "GaugeBounds$Text" "orders" "I", Cond.methodLink RX4 41 yX4_skipBlanks, Cond.instanceMethod yX4_skipBlanks, Cond.selects RX4 yX4_skipBlanks yX4_skipBlanks, Cond.code yX4_skipBlanks cX4_skipBlanks 1 none, Cond.methodLink RX4 48 yX4_here, Cond.instanceMethod yX4_here, Cond.selects RX4 yX4_here yX4_here, Cond.code yX4_here cX4_here 1 (some .int), Cond.methodLink RX4 44 yX4_readOrder, Cond.instanceMethod yX4_readOrder, Cond.selects RX4 yX4_readOrder yX4_readOrder, Cond.code yX4_readOrder cX4_readOrder 3 (some .boolean), Cond.fieldLink RX4 60 "GaugeBounds$Text" "number" "I", Cond.methodLink RX4 52 yX4_isKind, Cond.static yX4_isKind, Cond.code yX4_isKind cX4_isKind 1 (some .boolean), Cond.methodLink RX4 63 yX4_hasSecond, Cond.static yX4_hasSecond, Cond.code yX4_hasSecond cX4_hasSecond 1 (some .boolean), Cond.methodLink RX4 56 yX4_readNumber, Cond.instanceMethod yX4_readNumber, Cond.selects RX4 yX4_readNumber yX4_readNumber]
def wsL_law_r26 : List Cond := [Cond.code yX4_readNumber cX4_readNumber 5 (some .boolean), Cond.methodLink RX4 66 yX4_isFigure, Cond.static yX4_isFigure, Cond.code yX4_isFigure cX4_isFigure 1 (some .boolean), Cond.methodLink RX5 107 yX4_place, Cond.instanceMethod yX4_place, Cond.selects RX4 yX4_place yX4_place, Cond.code yX4_place cX4_place 1 (some .int), Cond.methodLink RX5 110 yX4_orders, Cond.instanceMethod yX4_orders, Cond.selects RX4 yX4_orders yX4_orders, Cond.code yX4_orders cX4_orders 1 (some .int), Cond.methodLink RX5 113 yX5_obey, Cond.instanceMethod yX5_obey, Cond.selects RX5 yX5_obey yX5_obey, Cond.code yX5_obey cX5_obey 4 (some .int), Cond.methodLink RX5 171 yX4_firstOf, Cond.instanceMethod yX4_firstOf, Cond.selects RX4 yX4_firstOf yX4_firstOf, Cond.code yX4_firstOf cX4_firstOf 2 (some .int), Cond.methodLink RX5 174 yX4_secondOf, Cond.instanceMethod yX4_secondOf, Cond.selects RX4 yX4_secondOf yX4_secondOf, Cond.code yX4_secondOf cX4_secondOf 2 (some .int)]
def wsL_law_r27 : List Cond := [Cond.methodLink RX5 177 yX4_kindOf, Cond.instanceMethod yX4_kindOf, Cond.selects RX4 yX4_kindOf yX4_kindOf, Cond.code yX4_kindOf cX4_kindOf 2 (some .int), Cond.methodLink RX5 120 yX3_restoreMarked, Cond.instanceMethod yX3_restoreMarked, Cond.selects RX3 yX3_restoreMarked yX3_restoreMarked, Cond.code yX3_restoreMarked cX3_restoreMarked 2 none, Cond.methodLink RL 92 yX6_does, Cond.instanceMethod yX6_does, Cond.selects RX6 yX6_does yX6_does, Cond.code yX6_does cX6_does 3 (some .int), Cond.fieldLink RX6 155 "GaugeBoundsModel" "wrongAt" "I", Cond.fieldLink RX6 168 "GaugeBoundsModel" "orders" "I", Cond.methodLink RX6 178 yX6_isRead, Cond.instanceMethod yX6_isRead, Cond.selects RX6 yX6_isRead yX6_isRead, Cond.code yX6_isRead cX6_isRead 1 (some .boolean), Cond.fieldLink RX6 148 "GaugeBoundsModel" "spot" "I", Cond.methodLink RX6 158 yX6_blanks, Cond.instanceMethod yX6_blanks, Cond.selects RX6 yX6_blanks yX6_blanks, Cond.code yX6_blanks cX6_blanks 1 none, Cond.methodLink RX6 151 yX6_isAt]
def wsL_law_r28 : List Cond := [Cond.instanceMethod yX6_isAt, Cond.selects RX6 yX6_isAt yX6_isAt, Cond.code yX6_isAt cX6_isAt 3 (some .boolean), Cond.methodLink RX6 175 yX6_takesOrder, Cond.instanceMethod yX6_takesOrder, Cond.selects RX6 yX6_takesOrder yX6_takesOrder, Cond.code yX6_takesOrder cX6_takesOrder 4 (some .boolean), Cond.methodLink RX6 165 yX6_manyOf, Cond.static yX6_manyOf, Cond.code yX6_manyOf cX6_manyOf 1 (some .int), Cond.methodLink RX6 161 yX6_fails, Cond.instanceMethod yX6_fails, Cond.selects RX6 yX6_fails yX6_fails, Cond.code yX6_fails cX6_fails 1 (some .boolean), Cond.methodLink RX6 171 yX6_takesNumber, Cond.instanceMethod yX6_takesNumber, Cond.selects RX6 yX6_takesNumber yX6_takesNumber, Cond.code yX6_takesNumber cX6_takesNumber 6 (some .boolean), Cond.methodLink RX6 181 yX6_doneOne, Cond.instanceMethod yX6_doneOne, Cond.selects RX6 yX6_doneOne yX6_doneOne, Cond.code yX6_doneOne cX6_doneOne 4 (some .int), Cond.methodLink RL 93 yX5_back, Cond.instanceMethod yX5_back]
def wsL_law_r29 : List Cond := [Cond.selects RX5 yX5_back yX5_back, Cond.code yX5_back cX5_back 1 (some .int), Cond.methodLink RX5 126 yX3_size, Cond.instanceMethod yX3_size, Cond.selects RX3 yX3_size yX3_size, Cond.code yX3_size cX3_size 1 (some .int), Cond.methodLink RX5 130 yX3_takeBack, Cond.instanceMethod yX3_takeBack, Cond.selects RX3 yX3_takeBack yX3_takeBack, Cond.code yX3_takeBack cX3_takeBack 2 none, Cond.methodLink RX3 33 yX3_restoreMarked, Cond.methodLink RL 96 yX6_back, Cond.instanceMethod yX6_back, Cond.selects RX6 yX6_back yX6_back, Cond.code yX6_back cX6_back 2 (some .int), Cond.methodLink RL 97 yX5_refused, Cond.instanceMethod yX5_refused, Cond.selects RX5 yX5_refused yX5_refused, Cond.code yX5_refused cX5_refused 2 (some .int), Cond.methodLink RX5 143 yX4_length, Cond.instanceMethod yX4_length, Cond.selects RX4 yX4_length yX4_length, Cond.code yX4_length cX4_length 1 (some .int), Cond.methodLink RL 100 yX6_refused]
def wsL_law_r30 : List Cond := [Cond.instanceMethod yX6_refused, Cond.selects RX6 yX6_refused yX6_refused, Cond.code yX6_refused cX6_refused 2 (some .int), Cond.constantLong RX6 184 (4), Cond.methodLink RX6 186 yX6_refusedOf, Cond.instanceMethod yX6_refusedOf, Cond.selects RX6 yX6_refusedOf yX6_refusedOf, Cond.code yX6_refusedOf cX6_refusedOf 2 (some .int), Cond.methodLink RL 101 yX5_digest, Cond.instanceMethod yX5_digest, Cond.selects RX5 yX5_digest yX5_digest, Cond.code yX5_digest cX5_digest 5 (some .long), Cond.constantLong RX5 146 (1690), Cond.constantLong RX5 148 (31), Cond.methodLink RX5 150 yX5_refused, Cond.methodLink RX5 153 yX5_told, Cond.methodLink RX5 156 yX5_setting, Cond.methodLink RX5 159 yX5_bands, Cond.methodLink RX5 164 yX5_band, Cond.methodLink RX5 167 yX5_lasts, Cond.methodLink RL 105 yX6_digest, Cond.instanceMethod yX6_digest, Cond.selects RX6 yX6_digest yX6_digest, Cond.code yX6_digest cX6_digest 2 (some .long)]
def wsL_law_r31 : List Cond := [Cond.constantLong RX6 195 (1690), Cond.fieldLink RX6 191 "GaugeBoundsModel" "hash" "J", Cond.methodLink RX6 197 yX6_mix, Cond.instanceMethod yX6_mix, Cond.selects RX6 yX6_mix yX6_mix, Cond.code yX6_mix cX6_mix 3 none, Cond.constantLong RX6 189 (31), Cond.methodLink RX6 201 yX6_bands]
def wsL_law : List Cond := (wsL_law_r1 ++ (wsL_law_r2 ++ (wsL_law_r3 ++ (wsL_law_r4 ++ (wsL_law_r5 ++ (wsL_law_r6 ++ (wsL_law_r7 ++ (wsL_law_r8 ++ (wsL_law_r9 ++ (wsL_law_r10 ++ (wsL_law_r11 ++ (wsL_law_r12 ++ (wsL_law_r13 ++ (wsL_law_r14 ++ (wsL_law_r15 ++ (wsL_law_r16 ++ (wsL_law_r17 ++ (wsL_law_r18 ++ (wsL_law_r19 ++ (wsL_law_r20 ++ (wsL_law_r21 ++ (wsL_law_r22 ++ (wsL_law_r23 ++ (wsL_law_r24 ++ (wsL_law_r25 ++ (wsL_law_r26 ++ (wsL_law_r27 ++ (wsL_law_r28 ++ (wsL_law_r29 ++ (wsL_law_r30 ++ wsL_law_r31)))))))))))))))))))))))))))))) ++ wsX50 ++ wsX60 ++ wsX10 ++ wsX30 ++ wsX40 ++ wsX20 ++ wsX00 ++ ([] : List Cond)
theorem inlX0 : ∀ w ∈ wsX00, w ∈ wsL_law := fun _ h => List.mem_append_left _ (List.mem_append_right _ h)
theorem inlX1 : ∀ w ∈ wsX10, w ∈ wsL_law := fun _ h => List.mem_append_left _ (List.mem_append_left _ (List.mem_append_left _ (List.mem_append_left _ (List.mem_append_left _ (List.mem_append_right _ h)))))
theorem inlX2 : ∀ w ∈ wsX20, w ∈ wsL_law := fun _ h => List.mem_append_left _ (List.mem_append_left _ (List.mem_append_right _ h))
theorem inlX3 : ∀ w ∈ wsX30, w ∈ wsL_law := fun _ h => List.mem_append_left _ (List.mem_append_left _ (List.mem_append_left _ (List.mem_append_left _ (List.mem_append_right _ h))))
theorem inlX4 : ∀ w ∈ wsX40, w ∈ wsL_law := fun _ h => List.mem_append_left _ (List.mem_append_left _ (List.mem_append_left _ (List.mem_append_right _ h)))
theorem inlX5 : ∀ w ∈ wsX50, w ∈ wsL_law := fun _ h => List.mem_append_left _ (List.mem_append_left _ (List.mem_append_left _ (List.mem_append_left _ (List.mem_append_left _ (List.mem_append_left _ (List.mem_append_left _ (List.mem_append_right _ h)))))))
theorem inlX6 : ∀ w ∈ wsX60, w ∈ wsL_law := fun _ h => List.mem_append_left _ (List.mem_append_left _ (List.mem_append_left _ (List.mem_append_left _ (List.mem_append_left _ (List.mem_append_left _ (List.mem_append_right _ h))))))
theorem inJ9 : ∀ w ∈ wsJ90, w ∈ lw_tbl := by decide +kernel
theorem inJ10 : ∀ w ∈ wsJ100, w ∈ lw_tbl := by decide +kernel
end
section
theorem dX0_init_0 : decode cX0_init 0 = .ok (.aload_n 0, 1) := by decide +kernel
theorem dX0_init_1 : decode cX0_init 1 = .ok (.invokespecial 3, 3) := by decide +kernel
theorem dX0_init_4 : decode cX0_init 4 = .ok (.aload_n 0, 1) := by decide +kernel
theorem dX0_init_5 : decode cX0_init 5 = .ok (.bipush 22, 2) := by decide +kernel
theorem dX0_init_7 : decode cX0_init 7 = .ok (.newarray .long, 2) := by decide +kernel
theorem dX0_init_9 : decode cX0_init 9 = .ok (.putfield 11, 3) := by decide +kernel
theorem dX0_init_12 : decode cX0_init 12 = .ok (.aload_n 0, 1) := by decide +kernel
theorem dX0_init_13 : decode cX0_init 13 = .ok (.bipush 22, 2) := by decide +kernel
theorem dX0_init_15 : decode cX0_init 15 = .ok (.newarray .int, 2) := by decide +kernel
theorem dX0_init_17 : decode cX0_init 17 = .ok (.putfield 15, 3) := by decide +kernel
theorem dX0_init_20 : decode cX0_init 20 = .ok (.return_, 1) := by decide +kernel
theorem dX0_copyFrom_0 : decode cX0_copyFrom 0 = .ok (.aload_n 1, 1) := by decide +kernel
theorem dX0_copyFrom_1 : decode cX0_copyFrom 1 = .ok (.getfield 11, 3) := by decide +kernel
theorem dX0_copyFrom_4 : decode cX0_copyFrom 4 = .ok (.iconst 0, 1) := by decide +kernel
theorem dX0_copyFrom_5 : decode cX0_copyFrom 5 = .ok (.aload_n 0, 1) := by decide +kernel
theorem dX0_copyFrom_6 : decode cX0_copyFrom 6 = .ok (.getfield 11, 3) := by decide +kernel
theorem dX0_copyFrom_9 : decode cX0_copyFrom 9 = .ok (.iconst 0, 1) := by decide +kernel
theorem dX0_copyFrom_10 : decode cX0_copyFrom 10 = .ok (.bipush 22, 2) := by decide +kernel
theorem dX0_copyFrom_12 : decode cX0_copyFrom 12 = .ok (.invokestatic 19, 3) := by decide +kernel
theorem dX0_copyFrom_15 : decode cX0_copyFrom 15 = .ok (.aload_n 1, 1) := by decide +kernel
theorem dX0_copyFrom_16 : decode cX0_copyFrom 16 = .ok (.getfield 15, 3) := by decide +kernel
theorem dX0_copyFrom_19 : decode cX0_copyFrom 19 = .ok (.iconst 0, 1) := by decide +kernel
theorem dX0_copyFrom_20 : decode cX0_copyFrom 20 = .ok (.aload_n 0, 1) := by decide +kernel
theorem dX0_copyFrom_21 : decode cX0_copyFrom 21 = .ok (.getfield 15, 3) := by decide +kernel
theorem dX0_copyFrom_24 : decode cX0_copyFrom 24 = .ok (.iconst 0, 1) := by decide +kernel
theorem dX0_copyFrom_25 : decode cX0_copyFrom 25 = .ok (.bipush 22, 2) := by decide +kernel
theorem dX0_copyFrom_27 : decode cX0_copyFrom 27 = .ok (.invokestatic 19, 3) := by decide +kernel
theorem dX0_copyFrom_30 : decode cX0_copyFrom 30 = .ok (.return_, 1) := by decide +kernel
theorem dX0_forget_0 : decode cX0_forget 0 = .ok (.iconst 0, 1) := by decide +kernel
theorem dX0_forget_1 : decode cX0_forget 1 = .ok (.istore_n 1, 1) := by decide +kernel
theorem dX0_forget_2 : decode cX0_forget 2 = .ok (.iload_n 1, 1) := by decide +kernel
theorem dX0_forget_3 : decode cX0_forget 3 = .ok (.bipush 22, 2) := by decide +kernel
theorem dX0_forget_5 : decode cX0_forget 5 = .ok (.if_icmp .ge 23, 3) := by decide +kernel
theorem dX0_forget_8 : decode cX0_forget 8 = .ok (.aload_n 0, 1) := by decide +kernel
theorem dX0_forget_9 : decode cX0_forget 9 = .ok (.getfield 11, 3) := by decide +kernel
theorem dX0_forget_12 : decode cX0_forget 12 = .ok (.iload_n 1, 1) := by decide +kernel
theorem dX0_forget_13 : decode cX0_forget 13 = .ok (.lconst 0, 1) := by decide +kernel
theorem dX0_forget_14 : decode cX0_forget 14 = .ok (.lastore, 1) := by decide +kernel
theorem dX0_forget_15 : decode cX0_forget 15 = .ok (.aload_n 0, 1) := by decide +kernel
theorem dX0_forget_16 : decode cX0_forget 16 = .ok (.getfield 15, 3) := by decide +kernel
theorem dX0_forget_19 : decode cX0_forget 19 = .ok (.iload_n 1, 1) := by decide +kernel
theorem dX0_forget_20 : decode cX0_forget 20 = .ok (.iconst 0, 1) := by decide +kernel
theorem dX0_forget_21 : decode cX0_forget 21 = .ok (.iastore, 1) := by decide +kernel
theorem dX0_forget_22 : decode cX0_forget 22 = .ok (.iinc 1 1, 3) := by decide +kernel
theorem dX0_forget_25 : decode cX0_forget 25 = .ok (.goto (-23), 3) := by decide +kernel
theorem dX0_forget_28 : decode cX0_forget 28 = .ok (.return_, 1) := by decide +kernel
set_option maxRecDepth 20000 in
theorem ggX0_add_X0_isBand : GoodIn wsX0_add wsX0_isBand := goodIn_r _ [6, 7, 8, 9] (by decide +kernel) (by decide +kernel)
set_option maxRecDepth 20000 in
theorem gX0_add_X0_isBand : GoodIn wsX0_add (va_wsS RX0 25 yX0_isBand wsX0_isBand) := goodIn_app (goodIn_of _ (by decide +kernel)) ggX0_add_X0_isBand
theorem dX0_add_0 : decode cX0_add 0 = .ok (.iload_n 1, 1) := by decide +kernel
theorem dX0_add_1 : decode cX0_add 1 = .ok (.iload_n 2, 1) := by decide +kernel
theorem dX0_add_2 : decode cX0_add 2 = .ok (.invokestatic 25, 3) := by decide +kernel
theorem dX0_add_5 : decode cX0_add 5 = .ok (.ifCond .eq 34, 3) := by decide +kernel
theorem dX0_add_8 : decode cX0_add 8 = .ok (.iload_n 1, 1) := by decide +kernel
theorem dX0_add_9 : decode cX0_add 9 = .ok (.bipush 11, 2) := by decide +kernel
theorem dX0_add_11 : decode cX0_add 11 = .ok (.imul, 1) := by decide +kernel
theorem dX0_add_12 : decode cX0_add 12 = .ok (.iload_n 2, 1) := by decide +kernel
theorem dX0_add_13 : decode cX0_add 13 = .ok (.iadd, 1) := by decide +kernel
theorem dX0_add_14 : decode cX0_add 14 = .ok (.istore 4, 2) := by decide +kernel
theorem dX0_add_16 : decode cX0_add 16 = .ok (.aload_n 0, 1) := by decide +kernel
theorem dX0_add_17 : decode cX0_add 17 = .ok (.getfield 11, 3) := by decide +kernel
theorem dX0_add_20 : decode cX0_add 20 = .ok (.iload 4, 2) := by decide +kernel
theorem dX0_add_22 : decode cX0_add 22 = .ok (.dup2, 1) := by decide +kernel
theorem dX0_add_23 : decode cX0_add 23 = .ok (.laload, 1) := by decide +kernel
theorem dX0_add_24 : decode cX0_add 24 = .ok (.iload_n 3, 1) := by decide +kernel
theorem dX0_add_25 : decode cX0_add 25 = .ok (.i2l, 1) := by decide +kernel
theorem dX0_add_26 : decode cX0_add 26 = .ok (.ladd, 1) := by decide +kernel
theorem dX0_add_27 : decode cX0_add 27 = .ok (.lastore, 1) := by decide +kernel
theorem dX0_add_28 : decode cX0_add 28 = .ok (.aload_n 0, 1) := by decide +kernel
theorem dX0_add_29 : decode cX0_add 29 = .ok (.getfield 15, 3) := by decide +kernel
theorem dX0_add_32 : decode cX0_add 32 = .ok (.iload 4, 2) := by decide +kernel
theorem dX0_add_34 : decode cX0_add 34 = .ok (.dup2, 1) := by decide +kernel
theorem dX0_add_35 : decode cX0_add 35 = .ok (.iaload, 1) := by decide +kernel
theorem dX0_add_36 : decode cX0_add 36 = .ok (.iconst 1, 1) := by decide +kernel
theorem dX0_add_37 : decode cX0_add 37 = .ok (.iadd, 1) := by decide +kernel
theorem dX0_add_38 : decode cX0_add 38 = .ok (.iastore, 1) := by decide +kernel
theorem dX0_add_39 : decode cX0_add 39 = .ok (.return_, 1) := by decide +kernel
set_option maxRecDepth 20000 in
theorem ggX0_resistance_X0_isBand : GoodIn wsX0_resistance wsX0_isBand := goodIn_r _ [8, 9, 10, 11] (by decide +kernel) (by decide +kernel)
set_option maxRecDepth 20000 in
theorem gX0_resistance_X0_isBand : GoodIn wsX0_resistance (va_wsS RX0 25 yX0_isBand wsX0_isBand) := goodIn_app (goodIn_of _ (by decide +kernel)) ggX0_resistance_X0_isBand
theorem dX0_resistance_0 : decode cX0_resistance 0 = .ok (.iload_n 1, 1) := by decide +kernel
theorem dX0_resistance_1 : decode cX0_resistance 1 = .ok (.iload_n 2, 1) := by decide +kernel
theorem dX0_resistance_2 : decode cX0_resistance 2 = .ok (.invokestatic 25, 3) := by decide +kernel
theorem dX0_resistance_5 : decode cX0_resistance 5 = .ok (.ifCond .ne 6, 3) := by decide +kernel
theorem dX0_resistance_8 : decode cX0_resistance 8 = .ok (.ldc 29, 2) := by decide +kernel
theorem dX0_resistance_10 : decode cX0_resistance 10 = .ok (.ireturn, 1) := by decide +kernel
theorem dX0_resistance_11 : decode cX0_resistance 11 = .ok (.iload_n 1, 1) := by decide +kernel
theorem dX0_resistance_12 : decode cX0_resistance 12 = .ok (.bipush 11, 2) := by decide +kernel
theorem dX0_resistance_14 : decode cX0_resistance 14 = .ok (.imul, 1) := by decide +kernel
theorem dX0_resistance_15 : decode cX0_resistance 15 = .ok (.iload_n 2, 1) := by decide +kernel
theorem dX0_resistance_16 : decode cX0_resistance 16 = .ok (.iadd, 1) := by decide +kernel
theorem dX0_resistance_17 : decode cX0_resistance 17 = .ok (.istore_n 3, 1) := by decide +kernel
theorem dX0_resistance_18 : decode cX0_resistance 18 = .ok (.aload_n 0, 1) := by decide +kernel
theorem dX0_resistance_19 : decode cX0_resistance 19 = .ok (.getfield 15, 3) := by decide +kernel
theorem dX0_resistance_22 : decode cX0_resistance 22 = .ok (.iload_n 3, 1) := by decide +kernel
theorem dX0_resistance_23 : decode cX0_resistance 23 = .ok (.iaload, 1) := by decide +kernel
theorem dX0_resistance_24 : decode cX0_resistance 24 = .ok (.ifCond .ne 8, 3) := by decide +kernel
theorem dX0_resistance_27 : decode cX0_resistance 27 = .ok (.ldc 30, 2) := by decide +kernel
theorem dX0_resistance_29 : decode cX0_resistance 29 = .ok (.goto 18, 3) := by decide +kernel
theorem dX0_resistance_32 : decode cX0_resistance 32 = .ok (.aload_n 0, 1) := by decide +kernel
theorem dX0_resistance_33 : decode cX0_resistance 33 = .ok (.getfield 11, 3) := by decide +kernel
theorem dX0_resistance_36 : decode cX0_resistance 36 = .ok (.iload_n 3, 1) := by decide +kernel
theorem dX0_resistance_37 : decode cX0_resistance 37 = .ok (.laload, 1) := by decide +kernel
theorem dX0_resistance_38 : decode cX0_resistance 38 = .ok (.aload_n 0, 1) := by decide +kernel
theorem dX0_resistance_39 : decode cX0_resistance 39 = .ok (.getfield 15, 3) := by decide +kernel
theorem dX0_resistance_42 : decode cX0_resistance 42 = .ok (.iload_n 3, 1) := by decide +kernel
theorem dX0_resistance_43 : decode cX0_resistance 43 = .ok (.iaload, 1) := by decide +kernel
theorem dX0_resistance_44 : decode cX0_resistance 44 = .ok (.i2l, 1) := by decide +kernel
theorem dX0_resistance_45 : decode cX0_resistance 45 = .ok (.ldiv, 1) := by decide +kernel
theorem dX0_resistance_46 : decode cX0_resistance 46 = .ok (.l2i, 1) := by decide +kernel
theorem dX0_resistance_47 : decode cX0_resistance 47 = .ok (.ireturn, 1) := by decide +kernel
set_option maxRecDepth 20000 in
theorem ggX0_howMany_X0_isBand : GoodIn wsX0_howMany wsX0_isBand := goodIn_r _ [6, 7, 8, 9] (by decide +kernel) (by decide +kernel)
set_option maxRecDepth 20000 in
theorem gX0_howMany_X0_isBand : GoodIn wsX0_howMany (va_wsS RX0 25 yX0_isBand wsX0_isBand) := goodIn_app (goodIn_of _ (by decide +kernel)) ggX0_howMany_X0_isBand
theorem dX0_howMany_0 : decode cX0_howMany 0 = .ok (.iload_n 1, 1) := by decide +kernel
theorem dX0_howMany_1 : decode cX0_howMany 1 = .ok (.iload_n 2, 1) := by decide +kernel
theorem dX0_howMany_2 : decode cX0_howMany 2 = .ok (.invokestatic 25, 3) := by decide +kernel
theorem dX0_howMany_5 : decode cX0_howMany 5 = .ok (.ifCond .eq 17, 3) := by decide +kernel
theorem dX0_howMany_8 : decode cX0_howMany 8 = .ok (.aload_n 0, 1) := by decide +kernel
theorem dX0_howMany_9 : decode cX0_howMany 9 = .ok (.getfield 15, 3) := by decide +kernel
theorem dX0_howMany_12 : decode cX0_howMany 12 = .ok (.iload_n 1, 1) := by decide +kernel
theorem dX0_howMany_13 : decode cX0_howMany 13 = .ok (.bipush 11, 2) := by decide +kernel
theorem dX0_howMany_15 : decode cX0_howMany 15 = .ok (.imul, 1) := by decide +kernel
theorem dX0_howMany_16 : decode cX0_howMany 16 = .ok (.iload_n 2, 1) := by decide +kernel
theorem dX0_howMany_17 : decode cX0_howMany 17 = .ok (.iadd, 1) := by decide +kernel
theorem dX0_howMany_18 : decode cX0_howMany 18 = .ok (.iaload, 1) := by decide +kernel
theorem dX0_howMany_19 : decode cX0_howMany 19 = .ok (.goto 5, 3) := by decide +kernel
theorem dX0_howMany_22 : decode cX0_howMany 22 = .ok (.ldc 29, 2) := by decide +kernel
theorem dX0_howMany_24 : decode cX0_howMany 24 = .ok (.ireturn, 1) := by decide +kernel
theorem dX0_used_0 : decode cX0_used 0 = .ok (.iconst 0, 1) := by decide +kernel
theorem dX0_used_1 : decode cX0_used 1 = .ok (.istore_n 1, 1) := by decide +kernel
theorem dX0_used_2 : decode cX0_used 2 = .ok (.iconst 0, 1) := by decide +kernel
theorem dX0_used_3 : decode cX0_used 3 = .ok (.istore_n 2, 1) := by decide +kernel
theorem dX0_used_4 : decode cX0_used 4 = .ok (.iload_n 2, 1) := by decide +kernel
theorem dX0_used_5 : decode cX0_used 5 = .ok (.bipush 22, 2) := by decide +kernel
theorem dX0_used_7 : decode cX0_used 7 = .ok (.if_icmp .ge 21, 3) := by decide +kernel
theorem dX0_used_10 : decode cX0_used 10 = .ok (.aload_n 0, 1) := by decide +kernel
theorem dX0_used_11 : decode cX0_used 11 = .ok (.getfield 15, 3) := by decide +kernel
theorem dX0_used_14 : decode cX0_used 14 = .ok (.iload_n 2, 1) := by decide +kernel
theorem dX0_used_15 : decode cX0_used 15 = .ok (.iaload, 1) := by decide +kernel
theorem dX0_used_16 : decode cX0_used 16 = .ok (.ifCond .eq 6, 3) := by decide +kernel
theorem dX0_used_19 : decode cX0_used 19 = .ok (.iinc 1 1, 3) := by decide +kernel
theorem dX0_used_22 : decode cX0_used 22 = .ok (.iinc 2 1, 3) := by decide +kernel
theorem dX0_used_25 : decode cX0_used 25 = .ok (.goto (-21), 3) := by decide +kernel
theorem dX0_used_28 : decode cX0_used 28 = .ok (.iload_n 1, 1) := by decide +kernel
theorem dX0_used_29 : decode cX0_used 29 = .ok (.ireturn, 1) := by decide +kernel
set_option maxRecDepth 20000 in
theorem ggX0_isBand_X5_within : GoodIn wsX0_isBand wsX5_within := goodIn_r _ [3] (by decide +kernel) (by decide +kernel)
set_option maxRecDepth 20000 in
theorem gX0_isBand_X5_within_n31 : GoodIn wsX0_isBand (wsX5_within) := ggX0_isBand_X5_within
theorem dX0_isBand_0 : decode cX0_isBand 0 = .ok (.iload_n 0, 1) := by decide +kernel
theorem dX0_isBand_1 : decode cX0_isBand 1 = .ok (.iconst 0, 1) := by decide +kernel
theorem dX0_isBand_2 : decode cX0_isBand 2 = .ok (.iconst 1, 1) := by decide +kernel
theorem dX0_isBand_3 : decode cX0_isBand 3 = .ok (.invokestatic 31, 3) := by decide +kernel
theorem dX0_isBand_6 : decode cX0_isBand 6 = .ok (.ifCond .eq 17, 3) := by decide +kernel
theorem dX0_isBand_9 : decode cX0_isBand 9 = .ok (.iload_n 1, 1) := by decide +kernel
theorem dX0_isBand_10 : decode cX0_isBand 10 = .ok (.iconst 0, 1) := by decide +kernel
theorem dX0_isBand_11 : decode cX0_isBand 11 = .ok (.bipush 10, 2) := by decide +kernel
theorem dX0_isBand_13 : decode cX0_isBand 13 = .ok (.invokestatic 31, 3) := by decide +kernel
theorem dX0_isBand_16 : decode cX0_isBand 16 = .ok (.ifCond .eq 7, 3) := by decide +kernel
theorem dX0_isBand_19 : decode cX0_isBand 19 = .ok (.iconst 1, 1) := by decide +kernel
theorem dX0_isBand_20 : decode cX0_isBand 20 = .ok (.goto 4, 3) := by decide +kernel
theorem dX0_isBand_23 : decode cX0_isBand 23 = .ok (.iconst 0, 1) := by decide +kernel
theorem dX0_isBand_24 : decode cX0_isBand 24 = .ok (.ireturn, 1) := by decide +kernel
set_option maxRecDepth 20000 in
theorem ggX1_init_X2_init : GoodIn wsX1_init wsX2_init := goodIn_r _ [23, 24, 2, 3, 25, 26, 34] (by decide +kernel) (by decide +kernel)
set_option maxRecDepth 20000 in
theorem gX1_init_X2_init : GoodIn wsX1_init (wsX2_init) := ggX1_init_X2_init
set_option maxRecDepth 20000 in
theorem ggX1_init_X0_init : GoodIn wsX1_init wsX0_init := goodIn_r _ [29, 30, 2, 3, 31, 32, 25, 33, 50, 51] (by decide +kernel) (by decide +kernel)
set_option maxRecDepth 20000 in
theorem gX1_init_X0_init : GoodIn wsX1_init (wsX0_init) := ggX1_init_X0_init
theorem dX1_init_0 : decode cX1_init 0 = .ok (.aload_n 0, 1) := by decide +kernel
theorem dX1_init_1 : decode cX1_init 1 = .ok (.invokespecial 5, 3) := by decide +kernel
theorem dX1_init_4 : decode cX1_init 4 = .ok (.aload_n 0, 1) := by decide +kernel
theorem dX1_init_5 : decode cX1_init 5 = .ok (.new 1, 3) := by decide +kernel
theorem dX1_init_8 : decode cX1_init 8 = .ok (.dup, 1) := by decide +kernel
theorem dX1_init_9 : decode cX1_init 9 = .ok (.invokespecial 11, 3) := by decide +kernel
theorem dX1_init_12 : decode cX1_init 12 = .ok (.putfield 12, 3) := by decide +kernel
theorem dX1_init_15 : decode cX1_init 15 = .ok (.aload_n 0, 1) := by decide +kernel
theorem dX1_init_16 : decode cX1_init 16 = .ok (.new 18, 3) := by decide +kernel
theorem dX1_init_19 : decode cX1_init 19 = .ok (.dup, 1) := by decide +kernel
theorem dX1_init_20 : decode cX1_init 20 = .ok (.invokespecial 20, 3) := by decide +kernel
theorem dX1_init_23 : decode cX1_init 23 = .ok (.putfield 21, 3) := by decide +kernel
theorem dX1_init_26 : decode cX1_init 26 = .ok (.aload_n 0, 1) := by decide +kernel
theorem dX1_init_27 : decode cX1_init 27 = .ok (.sipush 1000, 3) := by decide +kernel
theorem dX1_init_30 : decode cX1_init 30 = .ok (.putfield 25, 3) := by decide +kernel
theorem dX1_init_33 : decode cX1_init 33 = .ok (.aload_n 0, 1) := by decide +kernel
theorem dX1_init_34 : decode cX1_init 34 = .ok (.sipush 500, 3) := by decide +kernel
theorem dX1_init_37 : decode cX1_init 37 = .ok (.putfield 29, 3) := by decide +kernel
theorem dX1_init_40 : decode cX1_init 40 = .ok (.aload_n 0, 1) := by decide +kernel
theorem dX1_init_41 : decode cX1_init 41 = .ok (.sipush 1000, 3) := by decide +kernel
theorem dX1_init_44 : decode cX1_init 44 = .ok (.putfield 32, 3) := by decide +kernel
theorem dX1_init_47 : decode cX1_init 47 = .ok (.aload_n 0, 1) := by decide +kernel
theorem dX1_init_48 : decode cX1_init 48 = .ok (.iconst 1, 1) := by decide +kernel
theorem dX1_init_49 : decode cX1_init 49 = .ok (.putfield 35, 3) := by decide +kernel
theorem dX1_init_52 : decode cX1_init 52 = .ok (.aload_n 0, 1) := by decide +kernel
theorem dX1_init_53 : decode cX1_init 53 = .ok (.bipush 10, 2) := by decide +kernel
theorem dX1_init_55 : decode cX1_init 55 = .ok (.putfield 38, 3) := by decide +kernel
theorem dX1_init_58 : decode cX1_init 58 = .ok (.aload_n 0, 1) := by decide +kernel
theorem dX1_init_59 : decode cX1_init 59 = .ok (.ldc 41, 2) := by decide +kernel
theorem dX1_init_61 : decode cX1_init 61 = .ok (.putfield 42, 3) := by decide +kernel
theorem dX1_init_64 : decode cX1_init 64 = .ok (.aload_n 0, 1) := by decide +kernel
theorem dX1_init_65 : decode cX1_init 65 = .ok (.ldc 41, 2) := by decide +kernel
theorem dX1_init_67 : decode cX1_init 67 = .ok (.putfield 45, 3) := by decide +kernel
theorem dX1_init_70 : decode cX1_init 70 = .ok (.aload_n 0, 1) := by decide +kernel
theorem dX1_init_71 : decode cX1_init 71 = .ok (.bipush 100, 2) := by decide +kernel
theorem dX1_init_73 : decode cX1_init 73 = .ok (.putfield 48, 3) := by decide +kernel
theorem dX1_init_76 : decode cX1_init 76 = .ok (.return_, 1) := by decide +kernel
set_option maxRecDepth 20000 in
theorem ggX1_copyFrom_X2_copyFrom : GoodIn wsX1_copyFrom wsX2_copyFrom := goodIn_r _ [20, 21, 22, 23, 24, 25, 49] (by decide +kernel) (by decide +kernel)
set_option maxRecDepth 20000 in
theorem gX1_copyFrom_X2_copyFrom : GoodIn wsX1_copyFrom (wsV RX1 51 RX2 yX2_copyFrom wsX2_copyFrom) := goodIn_app (goodIn_of _ (by decide +kernel)) ggX1_copyFrom_X2_copyFrom
set_option maxRecDepth 20000 in
theorem ggX1_copyFrom_X0_copyFrom : GoodIn wsX1_copyFrom wsX0_copyFrom := goodIn_r _ [30, 31, 32, 23, 24, 25, 33, 50, 51] (by decide +kernel) (by decide +kernel)
set_option maxRecDepth 20000 in
theorem gX1_copyFrom_X0_copyFrom : GoodIn wsX1_copyFrom (wsV RX1 55 RX0 yX0_copyFrom wsX0_copyFrom) := goodIn_app (goodIn_of _ (by decide +kernel)) ggX1_copyFrom_X0_copyFrom
theorem dX1_copyFrom_0 : decode cX1_copyFrom 0 = .ok (.aload_n 0, 1) := by decide +kernel
theorem dX1_copyFrom_1 : decode cX1_copyFrom 1 = .ok (.getfield 12, 3) := by decide +kernel
theorem dX1_copyFrom_4 : decode cX1_copyFrom 4 = .ok (.aload_n 1, 1) := by decide +kernel
theorem dX1_copyFrom_5 : decode cX1_copyFrom 5 = .ok (.getfield 12, 3) := by decide +kernel
theorem dX1_copyFrom_8 : decode cX1_copyFrom 8 = .ok (.invokevirtual 51, 3) := by decide +kernel
theorem dX1_copyFrom_11 : decode cX1_copyFrom 11 = .ok (.aload_n 0, 1) := by decide +kernel
theorem dX1_copyFrom_12 : decode cX1_copyFrom 12 = .ok (.getfield 21, 3) := by decide +kernel
theorem dX1_copyFrom_15 : decode cX1_copyFrom 15 = .ok (.aload_n 1, 1) := by decide +kernel
theorem dX1_copyFrom_16 : decode cX1_copyFrom 16 = .ok (.getfield 21, 3) := by decide +kernel
theorem dX1_copyFrom_19 : decode cX1_copyFrom 19 = .ok (.invokevirtual 55, 3) := by decide +kernel
theorem dX1_copyFrom_22 : decode cX1_copyFrom 22 = .ok (.aload_n 0, 1) := by decide +kernel
theorem dX1_copyFrom_23 : decode cX1_copyFrom 23 = .ok (.aload_n 1, 1) := by decide +kernel
theorem dX1_copyFrom_24 : decode cX1_copyFrom 24 = .ok (.getfield 58, 3) := by decide +kernel
theorem dX1_copyFrom_27 : decode cX1_copyFrom 27 = .ok (.putfield 58, 3) := by decide +kernel
theorem dX1_copyFrom_30 : decode cX1_copyFrom 30 = .ok (.aload_n 0, 1) := by decide +kernel
theorem dX1_copyFrom_31 : decode cX1_copyFrom 31 = .ok (.aload_n 1, 1) := by decide +kernel
theorem dX1_copyFrom_32 : decode cX1_copyFrom 32 = .ok (.getfield 25, 3) := by decide +kernel
theorem dX1_copyFrom_35 : decode cX1_copyFrom 35 = .ok (.putfield 25, 3) := by decide +kernel
theorem dX1_copyFrom_38 : decode cX1_copyFrom 38 = .ok (.aload_n 0, 1) := by decide +kernel
theorem dX1_copyFrom_39 : decode cX1_copyFrom 39 = .ok (.aload_n 1, 1) := by decide +kernel
theorem dX1_copyFrom_40 : decode cX1_copyFrom 40 = .ok (.getfield 29, 3) := by decide +kernel
theorem dX1_copyFrom_43 : decode cX1_copyFrom 43 = .ok (.putfield 29, 3) := by decide +kernel
theorem dX1_copyFrom_46 : decode cX1_copyFrom 46 = .ok (.aload_n 0, 1) := by decide +kernel
theorem dX1_copyFrom_47 : decode cX1_copyFrom 47 = .ok (.aload_n 1, 1) := by decide +kernel
theorem dX1_copyFrom_48 : decode cX1_copyFrom 48 = .ok (.getfield 32, 3) := by decide +kernel
theorem dX1_copyFrom_51 : decode cX1_copyFrom 51 = .ok (.putfield 32, 3) := by decide +kernel
theorem dX1_copyFrom_54 : decode cX1_copyFrom 54 = .ok (.aload_n 0, 1) := by decide +kernel
theorem dX1_copyFrom_55 : decode cX1_copyFrom 55 = .ok (.aload_n 1, 1) := by decide +kernel
theorem dX1_copyFrom_56 : decode cX1_copyFrom 56 = .ok (.getfield 35, 3) := by decide +kernel
theorem dX1_copyFrom_59 : decode cX1_copyFrom 59 = .ok (.putfield 35, 3) := by decide +kernel
theorem dX1_copyFrom_62 : decode cX1_copyFrom 62 = .ok (.aload_n 0, 1) := by decide +kernel
theorem dX1_copyFrom_63 : decode cX1_copyFrom 63 = .ok (.aload_n 1, 1) := by decide +kernel
theorem dX1_copyFrom_64 : decode cX1_copyFrom 64 = .ok (.getfield 38, 3) := by decide +kernel
theorem dX1_copyFrom_67 : decode cX1_copyFrom 67 = .ok (.putfield 38, 3) := by decide +kernel
theorem dX1_copyFrom_70 : decode cX1_copyFrom 70 = .ok (.aload_n 0, 1) := by decide +kernel
theorem dX1_copyFrom_71 : decode cX1_copyFrom 71 = .ok (.aload_n 1, 1) := by decide +kernel
theorem dX1_copyFrom_72 : decode cX1_copyFrom 72 = .ok (.getfield 61, 3) := by decide +kernel
theorem dX1_copyFrom_75 : decode cX1_copyFrom 75 = .ok (.putfield 61, 3) := by decide +kernel
theorem dX1_copyFrom_78 : decode cX1_copyFrom 78 = .ok (.aload_n 0, 1) := by decide +kernel
theorem dX1_copyFrom_79 : decode cX1_copyFrom 79 = .ok (.aload_n 1, 1) := by decide +kernel
theorem dX1_copyFrom_80 : decode cX1_copyFrom 80 = .ok (.getfield 64, 3) := by decide +kernel
theorem dX1_copyFrom_83 : decode cX1_copyFrom 83 = .ok (.putfield 64, 3) := by decide +kernel
theorem dX1_copyFrom_86 : decode cX1_copyFrom 86 = .ok (.aload_n 0, 1) := by decide +kernel
theorem dX1_copyFrom_87 : decode cX1_copyFrom 87 = .ok (.aload_n 1, 1) := by decide +kernel
theorem dX1_copyFrom_88 : decode cX1_copyFrom 88 = .ok (.getfield 67, 3) := by decide +kernel
theorem dX1_copyFrom_91 : decode cX1_copyFrom 91 = .ok (.putfield 67, 3) := by decide +kernel
theorem dX1_copyFrom_94 : decode cX1_copyFrom 94 = .ok (.aload_n 0, 1) := by decide +kernel
theorem dX1_copyFrom_95 : decode cX1_copyFrom 95 = .ok (.aload_n 1, 1) := by decide +kernel
theorem dX1_copyFrom_96 : decode cX1_copyFrom 96 = .ok (.getfield 42, 3) := by decide +kernel
theorem dX1_copyFrom_99 : decode cX1_copyFrom 99 = .ok (.putfield 42, 3) := by decide +kernel
theorem dX1_copyFrom_102 : decode cX1_copyFrom 102 = .ok (.aload_n 0, 1) := by decide +kernel
theorem dX1_copyFrom_103 : decode cX1_copyFrom 103 = .ok (.aload_n 1, 1) := by decide +kernel
theorem dX1_copyFrom_104 : decode cX1_copyFrom 104 = .ok (.getfield 45, 3) := by decide +kernel
theorem dX1_copyFrom_107 : decode cX1_copyFrom 107 = .ok (.putfield 45, 3) := by decide +kernel
theorem dX1_copyFrom_110 : decode cX1_copyFrom 110 = .ok (.aload_n 0, 1) := by decide +kernel
theorem dX1_copyFrom_111 : decode cX1_copyFrom 111 = .ok (.aload_n 1, 1) := by decide +kernel
theorem dX1_copyFrom_112 : decode cX1_copyFrom 112 = .ok (.getfield 70, 3) := by decide +kernel
theorem dX1_copyFrom_115 : decode cX1_copyFrom 115 = .ok (.putfield 70, 3) := by decide +kernel
theorem dX1_copyFrom_118 : decode cX1_copyFrom 118 = .ok (.aload_n 0, 1) := by decide +kernel
theorem dX1_copyFrom_119 : decode cX1_copyFrom 119 = .ok (.aload_n 1, 1) := by decide +kernel
theorem dX1_copyFrom_120 : decode cX1_copyFrom 120 = .ok (.getfield 48, 3) := by decide +kernel
theorem dX1_copyFrom_123 : decode cX1_copyFrom 123 = .ok (.putfield 48, 3) := by decide +kernel
theorem dX1_copyFrom_126 : decode cX1_copyFrom 126 = .ok (.return_, 1) := by decide +kernel
set_option maxRecDepth 20000 in
theorem ggX1_begin_X1_isRange : GoodIn wsX1_begin wsX1_isRange := goodIn_r _ [18, 19, 20, 21, 22] (by decide +kernel) (by decide +kernel)
set_option maxRecDepth 20000 in
theorem gX1_begin_X1_isRange : GoodIn wsX1_begin (va_wsS RX1 73 yX1_isRange wsX1_isRange) := goodIn_app (goodIn_of _ (by decide +kernel)) ggX1_begin_X1_isRange
set_option maxRecDepth 20000 in
theorem ggX1_begin_X0_forget : GoodIn wsX1_begin wsX0_forget := goodIn_r _ [27, 28, 29, 45, 46] (by decide +kernel) (by decide +kernel)
set_option maxRecDepth 20000 in
theorem gX1_begin_X0_forget : GoodIn wsX1_begin (wsV RX1 78 RX0 yX0_forget wsX0_forget) := goodIn_app (goodIn_of _ (by decide +kernel)) ggX1_begin_X0_forget
theorem dX1_begin_0 : decode cX1_begin 0 = .ok (.iload_n 1, 1) := by decide +kernel
theorem dX1_begin_1 : decode cX1_begin 1 = .ok (.iload_n 2, 1) := by decide +kernel
theorem dX1_begin_2 : decode cX1_begin 2 = .ok (.invokestatic 73, 3) := by decide +kernel
theorem dX1_begin_5 : decode cX1_begin 5 = .ok (.ifCond .ne 6, 3) := by decide +kernel
theorem dX1_begin_8 : decode cX1_begin 8 = .ok (.ldc 77, 2) := by decide +kernel
theorem dX1_begin_10 : decode cX1_begin 10 = .ok (.ireturn, 1) := by decide +kernel
theorem dX1_begin_11 : decode cX1_begin 11 = .ok (.aload_n 0, 1) := by decide +kernel
theorem dX1_begin_12 : decode cX1_begin 12 = .ok (.getfield 29, 3) := by decide +kernel
theorem dX1_begin_15 : decode cX1_begin 15 = .ok (.istore_n 3, 1) := by decide +kernel
theorem dX1_begin_16 : decode cX1_begin 16 = .ok (.aload_n 0, 1) := by decide +kernel
theorem dX1_begin_17 : decode cX1_begin 17 = .ok (.iload_n 1, 1) := by decide +kernel
theorem dX1_begin_18 : decode cX1_begin 18 = .ok (.putfield 29, 3) := by decide +kernel
theorem dX1_begin_21 : decode cX1_begin 21 = .ok (.aload_n 0, 1) := by decide +kernel
theorem dX1_begin_22 : decode cX1_begin 22 = .ok (.iload_n 2, 1) := by decide +kernel
theorem dX1_begin_23 : decode cX1_begin 23 = .ok (.putfield 32, 3) := by decide +kernel
theorem dX1_begin_26 : decode cX1_begin 26 = .ok (.aload_n 0, 1) := by decide +kernel
theorem dX1_begin_27 : decode cX1_begin 27 = .ok (.iconst 0, 1) := by decide +kernel
theorem dX1_begin_28 : decode cX1_begin 28 = .ok (.putfield 58, 3) := by decide +kernel
theorem dX1_begin_31 : decode cX1_begin 31 = .ok (.aload_n 0, 1) := by decide +kernel
theorem dX1_begin_32 : decode cX1_begin 32 = .ok (.iload_n 2, 1) := by decide +kernel
theorem dX1_begin_33 : decode cX1_begin 33 = .ok (.putfield 25, 3) := by decide +kernel
theorem dX1_begin_36 : decode cX1_begin 36 = .ok (.aload_n 0, 1) := by decide +kernel
theorem dX1_begin_37 : decode cX1_begin 37 = .ok (.iconst 0, 1) := by decide +kernel
theorem dX1_begin_38 : decode cX1_begin 38 = .ok (.putfield 61, 3) := by decide +kernel
theorem dX1_begin_41 : decode cX1_begin 41 = .ok (.aload_n 0, 1) := by decide +kernel
theorem dX1_begin_42 : decode cX1_begin 42 = .ok (.iconst 0, 1) := by decide +kernel
theorem dX1_begin_43 : decode cX1_begin 43 = .ok (.putfield 64, 3) := by decide +kernel
theorem dX1_begin_46 : decode cX1_begin 46 = .ok (.aload_n 0, 1) := by decide +kernel
theorem dX1_begin_47 : decode cX1_begin 47 = .ok (.iconst 0, 1) := by decide +kernel
theorem dX1_begin_48 : decode cX1_begin 48 = .ok (.putfield 67, 3) := by decide +kernel
theorem dX1_begin_51 : decode cX1_begin 51 = .ok (.aload_n 0, 1) := by decide +kernel
theorem dX1_begin_52 : decode cX1_begin 52 = .ok (.ldc 41, 2) := by decide +kernel
theorem dX1_begin_54 : decode cX1_begin 54 = .ok (.putfield 42, 3) := by decide +kernel
theorem dX1_begin_57 : decode cX1_begin 57 = .ok (.aload_n 0, 1) := by decide +kernel
theorem dX1_begin_58 : decode cX1_begin 58 = .ok (.ldc 41, 2) := by decide +kernel
theorem dX1_begin_60 : decode cX1_begin 60 = .ok (.putfield 45, 3) := by decide +kernel
theorem dX1_begin_63 : decode cX1_begin 63 = .ok (.aload_n 0, 1) := by decide +kernel
theorem dX1_begin_64 : decode cX1_begin 64 = .ok (.iconst 0, 1) := by decide +kernel
theorem dX1_begin_65 : decode cX1_begin 65 = .ok (.putfield 70, 3) := by decide +kernel
theorem dX1_begin_68 : decode cX1_begin 68 = .ok (.aload_n 0, 1) := by decide +kernel
theorem dX1_begin_69 : decode cX1_begin 69 = .ok (.bipush 100, 2) := by decide +kernel
theorem dX1_begin_71 : decode cX1_begin 71 = .ok (.putfield 48, 3) := by decide +kernel
theorem dX1_begin_74 : decode cX1_begin 74 = .ok (.aload_n 0, 1) := by decide +kernel
theorem dX1_begin_75 : decode cX1_begin 75 = .ok (.getfield 21, 3) := by decide +kernel
theorem dX1_begin_78 : decode cX1_begin 78 = .ok (.invokevirtual 78, 3) := by decide +kernel
theorem dX1_begin_81 : decode cX1_begin 81 = .ok (.iload_n 3, 1) := by decide +kernel
theorem dX1_begin_82 : decode cX1_begin 82 = .ok (.ireturn, 1) := by decide +kernel
set_option maxRecDepth 20000 in
theorem ggX1_hold_X1_isRange : GoodIn wsX1_hold wsX1_isRange := goodIn_r _ [8, 9, 10, 11, 12] (by decide +kernel) (by decide +kernel)
set_option maxRecDepth 20000 in
theorem gX1_hold_X1_isRange : GoodIn wsX1_hold (va_wsS RX1 73 yX1_isRange wsX1_isRange) := goodIn_app (goodIn_of _ (by decide +kernel)) ggX1_hold_X1_isRange
theorem dX1_hold_0 : decode cX1_hold 0 = .ok (.iload_n 1, 1) := by decide +kernel
theorem dX1_hold_1 : decode cX1_hold 1 = .ok (.iload_n 2, 1) := by decide +kernel
theorem dX1_hold_2 : decode cX1_hold 2 = .ok (.invokestatic 73, 3) := by decide +kernel
theorem dX1_hold_5 : decode cX1_hold 5 = .ok (.ifCond .eq 11, 3) := by decide +kernel
theorem dX1_hold_8 : decode cX1_hold 8 = .ok (.iload_n 2, 1) := by decide +kernel
theorem dX1_hold_9 : decode cX1_hold 9 = .ok (.aload_n 0, 1) := by decide +kernel
theorem dX1_hold_10 : decode cX1_hold 10 = .ok (.getfield 32, 3) := by decide +kernel
theorem dX1_hold_13 : decode cX1_hold 13 = .ok (.if_icmp .le 6, 3) := by decide +kernel
theorem dX1_hold_16 : decode cX1_hold 16 = .ok (.ldc 77, 2) := by decide +kernel
theorem dX1_hold_18 : decode cX1_hold 18 = .ok (.ireturn, 1) := by decide +kernel
theorem dX1_hold_19 : decode cX1_hold 19 = .ok (.aload_n 0, 1) := by decide +kernel
theorem dX1_hold_20 : decode cX1_hold 20 = .ok (.getfield 25, 3) := by decide +kernel
theorem dX1_hold_23 : decode cX1_hold 23 = .ok (.istore_n 3, 1) := by decide +kernel
theorem dX1_hold_24 : decode cX1_hold 24 = .ok (.aload_n 0, 1) := by decide +kernel
theorem dX1_hold_25 : decode cX1_hold 25 = .ok (.iload_n 1, 1) := by decide +kernel
theorem dX1_hold_26 : decode cX1_hold 26 = .ok (.putfield 58, 3) := by decide +kernel
theorem dX1_hold_29 : decode cX1_hold 29 = .ok (.aload_n 0, 1) := by decide +kernel
theorem dX1_hold_30 : decode cX1_hold 30 = .ok (.iload_n 2, 1) := by decide +kernel
theorem dX1_hold_31 : decode cX1_hold 31 = .ok (.putfield 25, 3) := by decide +kernel
theorem dX1_hold_34 : decode cX1_hold 34 = .ok (.iload_n 3, 1) := by decide +kernel
theorem dX1_hold_35 : decode cX1_hold 35 = .ok (.ireturn, 1) := by decide +kernel
set_option maxRecDepth 20000 in
theorem ggX1_putOffset_X5_within : GoodIn wsX1_putOffset wsX5_within := goodIn_r _ [5] (by decide +kernel) (by decide +kernel)
set_option maxRecDepth 20000 in
theorem gX1_putOffset_X5_within_n81 : GoodIn wsX1_putOffset (wsX5_within) := ggX1_putOffset_X5_within
theorem dX1_putOffset_0 : decode cX1_putOffset 0 = .ok (.iload_n 1, 1) := by decide +kernel
theorem dX1_putOffset_1 : decode cX1_putOffset 1 = .ok (.iconst 0, 1) := by decide +kernel
theorem dX1_putOffset_2 : decode cX1_putOffset 2 = .ok (.bipush 9, 2) := by decide +kernel
theorem dX1_putOffset_4 : decode cX1_putOffset 4 = .ok (.invokestatic 81, 3) := by decide +kernel
theorem dX1_putOffset_7 : decode cX1_putOffset 7 = .ok (.ifCond .ne 6, 3) := by decide +kernel
theorem dX1_putOffset_10 : decode cX1_putOffset 10 = .ok (.ldc 77, 2) := by decide +kernel
theorem dX1_putOffset_12 : decode cX1_putOffset 12 = .ok (.ireturn, 1) := by decide +kernel
theorem dX1_putOffset_13 : decode cX1_putOffset 13 = .ok (.aload_n 0, 1) := by decide +kernel
theorem dX1_putOffset_14 : decode cX1_putOffset 14 = .ok (.getfield 35, 3) := by decide +kernel
theorem dX1_putOffset_17 : decode cX1_putOffset 17 = .ok (.istore_n 2, 1) := by decide +kernel
theorem dX1_putOffset_18 : decode cX1_putOffset 18 = .ok (.aload_n 0, 1) := by decide +kernel
theorem dX1_putOffset_19 : decode cX1_putOffset 19 = .ok (.iload_n 1, 1) := by decide +kernel
theorem dX1_putOffset_20 : decode cX1_putOffset 20 = .ok (.putfield 35, 3) := by decide +kernel
theorem dX1_putOffset_23 : decode cX1_putOffset 23 = .ok (.iload_n 2, 1) := by decide +kernel
theorem dX1_putOffset_24 : decode cX1_putOffset 24 = .ok (.ireturn, 1) := by decide +kernel
set_option maxRecDepth 20000 in
theorem ggX1_putCling_X5_within : GoodIn wsX1_putCling wsX5_within := goodIn_r _ [5] (by decide +kernel) (by decide +kernel)
set_option maxRecDepth 20000 in
theorem gX1_putCling_X5_within_n81 : GoodIn wsX1_putCling (wsX5_within) := ggX1_putCling_X5_within
theorem dX1_putCling_0 : decode cX1_putCling 0 = .ok (.iload_n 1, 1) := by decide +kernel
theorem dX1_putCling_1 : decode cX1_putCling 1 = .ok (.iconst 0, 1) := by decide +kernel
theorem dX1_putCling_2 : decode cX1_putCling 2 = .ok (.sipush 500, 3) := by decide +kernel
theorem dX1_putCling_5 : decode cX1_putCling 5 = .ok (.invokestatic 81, 3) := by decide +kernel
theorem dX1_putCling_8 : decode cX1_putCling 8 = .ok (.ifCond .ne 6, 3) := by decide +kernel
theorem dX1_putCling_11 : decode cX1_putCling 11 = .ok (.ldc 77, 2) := by decide +kernel
theorem dX1_putCling_13 : decode cX1_putCling 13 = .ok (.ireturn, 1) := by decide +kernel
theorem dX1_putCling_14 : decode cX1_putCling 14 = .ok (.aload_n 0, 1) := by decide +kernel
theorem dX1_putCling_15 : decode cX1_putCling 15 = .ok (.getfield 38, 3) := by decide +kernel
theorem dX1_putCling_18 : decode cX1_putCling 18 = .ok (.istore_n 2, 1) := by decide +kernel
theorem dX1_putCling_19 : decode cX1_putCling 19 = .ok (.aload_n 0, 1) := by decide +kernel
theorem dX1_putCling_20 : decode cX1_putCling 20 = .ok (.iload_n 1, 1) := by decide +kernel
theorem dX1_putCling_21 : decode cX1_putCling 21 = .ok (.putfield 38, 3) := by decide +kernel
theorem dX1_putCling_24 : decode cX1_putCling 24 = .ok (.iload_n 2, 1) := by decide +kernel
theorem dX1_putCling_25 : decode cX1_putCling 25 = .ok (.ireturn, 1) := by decide +kernel
set_option maxRecDepth 20000 in
theorem ggX1_putPoint_X2_putPoint : GoodIn wsX1_putPoint wsX2_putPoint := goodIn_r _ [6, 7, 8, 9, 10, 11, 12, 28] (by decide +kernel) (by decide +kernel)
set_option maxRecDepth 20000 in
theorem gX1_putPoint_X2_putPoint : GoodIn wsX1_putPoint (wsV RX1 85 RX2 yX2_putPoint wsX2_putPoint) := goodIn_app (goodIn_of _ (by decide +kernel)) ggX1_putPoint_X2_putPoint
theorem dX1_putPoint_0 : decode cX1_putPoint 0 = .ok (.aload_n 0, 1) := by decide +kernel
theorem dX1_putPoint_1 : decode cX1_putPoint 1 = .ok (.getfield 12, 3) := by decide +kernel
theorem dX1_putPoint_4 : decode cX1_putPoint 4 = .ok (.iload_n 1, 1) := by decide +kernel
theorem dX1_putPoint_5 : decode cX1_putPoint 5 = .ok (.iload_n 2, 1) := by decide +kernel
theorem dX1_putPoint_6 : decode cX1_putPoint 6 = .ok (.invokevirtual 85, 3) := by decide +kernel
theorem dX1_putPoint_9 : decode cX1_putPoint 9 = .ok (.ireturn, 1) := by decide +kernel
set_option maxRecDepth 20000 in
theorem ggX1_pass_X5_within : GoodIn wsX1_pass wsX5_within := goodIn_r _ [18] (by decide +kernel) (by decide +kernel)
set_option maxRecDepth 20000 in
theorem gX1_pass_X5_within_n81 : GoodIn wsX1_pass (wsX5_within) := ggX1_pass_X5_within
set_option maxRecDepth 20000 in
theorem ggX1_pass_X1_showPassing : GoodIn wsX1_pass wsX1_showPassing := goodIn_r _ [23, 24, 4, 5, 6, 7, 10, 11, 12, 25, 26, 27, 22, 28, 29, 9, 2, 8, 34, 35, 36, 37, 38, 39, 40, 41, 42, 43, 44, 45, 46, 47, 48] (by decide +kernel) (by decide +kernel)
set_option maxRecDepth 20000 in
theorem gX1_pass_X1_showPassing : GoodIn wsX1_pass (wsV RX1 98 RX1 yX1_showPassing wsX1_showPassing) := goodIn_app (goodIn_of _ (by decide +kernel)) ggX1_pass_X1_showPassing
set_option maxRecDepth 20000 in
theorem ggX1_pass_X1_showEmpty : GoodIn wsX1_pass wsX1_showEmpty := goodIn_r _ [33, 8, 24, 34, 35, 36, 37, 38, 39, 40, 41, 42, 43, 44, 45, 46, 47, 48] (by decide +kernel) (by decide +kernel)
set_option maxRecDepth 20000 in
theorem gX1_pass_X1_showEmpty : GoodIn wsX1_pass (wsV RX1 102 RX1 yX1_showEmpty wsX1_showEmpty) := goodIn_app (goodIn_of _ (by decide +kernel)) ggX1_pass_X1_showEmpty
theorem dX1_pass_0 : decode cX1_pass 0 = .ok (.iload_n 1, 1) := by decide +kernel
theorem dX1_pass_1 : decode cX1_pass 1 = .ok (.bipush (-99), 2) := by decide +kernel
theorem dX1_pass_3 : decode cX1_pass 3 = .ok (.bipush 99, 2) := by decide +kernel
theorem dX1_pass_5 : decode cX1_pass 5 = .ok (.invokestatic 81, 3) := by decide +kernel
theorem dX1_pass_8 : decode cX1_pass 8 = .ok (.ifCond .eq 14, 3) := by decide +kernel
theorem dX1_pass_11 : decode cX1_pass 11 = .ok (.iload_n 2, 1) := by decide +kernel
theorem dX1_pass_12 : decode cX1_pass 12 = .ok (.iconst 1, 1) := by decide +kernel
theorem dX1_pass_13 : decode cX1_pass 13 = .ok (.sipush 999, 3) := by decide +kernel
theorem dX1_pass_16 : decode cX1_pass 16 = .ok (.invokestatic 81, 3) := by decide +kernel
theorem dX1_pass_19 : decode cX1_pass 19 = .ok (.ifCond .ne 6, 3) := by decide +kernel
theorem dX1_pass_22 : decode cX1_pass 22 = .ok (.ldc 77, 2) := by decide +kernel
theorem dX1_pass_24 : decode cX1_pass 24 = .ok (.ireturn, 1) := by decide +kernel
theorem dX1_pass_25 : decode cX1_pass 25 = .ok (.aload_n 0, 1) := by decide +kernel
theorem dX1_pass_26 : decode cX1_pass 26 = .ok (.getfield 58, 3) := by decide +kernel
theorem dX1_pass_29 : decode cX1_pass 29 = .ok (.iload_n 2, 1) := by decide +kernel
theorem dX1_pass_30 : decode cX1_pass 30 = .ok (.iload_n 1, 1) := by decide +kernel
theorem dX1_pass_31 : decode cX1_pass 31 = .ok (.aload_n 0, 1) := by decide +kernel
theorem dX1_pass_32 : decode cX1_pass 32 = .ok (.getfield 35, 3) := by decide +kernel
theorem dX1_pass_35 : decode cX1_pass 35 = .ok (.iadd, 1) := by decide +kernel
theorem dX1_pass_36 : decode cX1_pass 36 = .ok (.imul, 1) := by decide +kernel
theorem dX1_pass_37 : decode cX1_pass 37 = .ok (.isub, 1) := by decide +kernel
theorem dX1_pass_38 : decode cX1_pass 38 = .ok (.iconst 0, 1) := by decide +kernel
theorem dX1_pass_39 : decode cX1_pass 39 = .ok (.invokestatic 89, 3) := by decide +kernel
theorem dX1_pass_42 : decode cX1_pass 42 = .ok (.istore_n 3, 1) := by decide +kernel
theorem dX1_pass_43 : decode cX1_pass 43 = .ok (.aload_n 0, 1) := by decide +kernel
theorem dX1_pass_44 : decode cX1_pass 44 = .ok (.getfield 25, 3) := by decide +kernel
theorem dX1_pass_47 : decode cX1_pass 47 = .ok (.iload_n 2, 1) := by decide +kernel
theorem dX1_pass_48 : decode cX1_pass 48 = .ok (.iload_n 1, 1) := by decide +kernel
theorem dX1_pass_49 : decode cX1_pass 49 = .ok (.aload_n 0, 1) := by decide +kernel
theorem dX1_pass_50 : decode cX1_pass 50 = .ok (.getfield 35, 3) := by decide +kernel
theorem dX1_pass_53 : decode cX1_pass 53 = .ok (.isub, 1) := by decide +kernel
theorem dX1_pass_54 : decode cX1_pass 54 = .ok (.imul, 1) := by decide +kernel
theorem dX1_pass_55 : decode cX1_pass 55 = .ok (.isub, 1) := by decide +kernel
theorem dX1_pass_56 : decode cX1_pass 56 = .ok (.aload_n 0, 1) := by decide +kernel
theorem dX1_pass_57 : decode cX1_pass 57 = .ok (.getfield 32, 3) := by decide +kernel
theorem dX1_pass_60 : decode cX1_pass 60 = .ok (.invokestatic 94, 3) := by decide +kernel
theorem dX1_pass_63 : decode cX1_pass 63 = .ok (.istore 4, 2) := by decide +kernel
theorem dX1_pass_65 : decode cX1_pass 65 = .ok (.iload 4, 2) := by decide +kernel
theorem dX1_pass_67 : decode cX1_pass 67 = .ok (.ifCond .lt 17, 3) := by decide +kernel
theorem dX1_pass_70 : decode cX1_pass 70 = .ok (.iload_n 3, 1) := by decide +kernel
theorem dX1_pass_71 : decode cX1_pass 71 = .ok (.aload_n 0, 1) := by decide +kernel
theorem dX1_pass_72 : decode cX1_pass 72 = .ok (.getfield 32, 3) := by decide +kernel
theorem dX1_pass_75 : decode cX1_pass 75 = .ok (.if_icmp .gt 9, 3) := by decide +kernel
theorem dX1_pass_78 : decode cX1_pass 78 = .ok (.iload_n 3, 1) := by decide +kernel
theorem dX1_pass_79 : decode cX1_pass 79 = .ok (.iload 4, 2) := by decide +kernel
theorem dX1_pass_81 : decode cX1_pass 81 = .ok (.if_icmp .le 6, 3) := by decide +kernel
theorem dX1_pass_84 : decode cX1_pass 84 = .ok (.ldc 97, 2) := by decide +kernel
theorem dX1_pass_86 : decode cX1_pass 86 = .ok (.ireturn, 1) := by decide +kernel
theorem dX1_pass_87 : decode cX1_pass 87 = .ok (.aload_n 0, 1) := by decide +kernel
theorem dX1_pass_88 : decode cX1_pass 88 = .ok (.iload_n 3, 1) := by decide +kernel
theorem dX1_pass_89 : decode cX1_pass 89 = .ok (.putfield 58, 3) := by decide +kernel
theorem dX1_pass_92 : decode cX1_pass 92 = .ok (.aload_n 0, 1) := by decide +kernel
theorem dX1_pass_93 : decode cX1_pass 93 = .ok (.iload 4, 2) := by decide +kernel
theorem dX1_pass_95 : decode cX1_pass 95 = .ok (.putfield 25, 3) := by decide +kernel
theorem dX1_pass_98 : decode cX1_pass 98 = .ok (.aload_n 0, 1) := by decide +kernel
theorem dX1_pass_99 : decode cX1_pass 99 = .ok (.dup, 1) := by decide +kernel
theorem dX1_pass_100 : decode cX1_pass 100 = .ok (.getfield 61, 3) := by decide +kernel
theorem dX1_pass_103 : decode cX1_pass 103 = .ok (.iload_n 2, 1) := by decide +kernel
theorem dX1_pass_104 : decode cX1_pass 104 = .ok (.iload_n 1, 1) := by decide +kernel
theorem dX1_pass_105 : decode cX1_pass 105 = .ok (.imul, 1) := by decide +kernel
theorem dX1_pass_106 : decode cX1_pass 106 = .ok (.iadd, 1) := by decide +kernel
theorem dX1_pass_107 : decode cX1_pass 107 = .ok (.putfield 61, 3) := by decide +kernel
theorem dX1_pass_110 : decode cX1_pass 110 = .ok (.aload_n 0, 1) := by decide +kernel
theorem dX1_pass_111 : decode cX1_pass 111 = .ok (.dup, 1) := by decide +kernel
theorem dX1_pass_112 : decode cX1_pass 112 = .ok (.getfield 64, 3) := by decide +kernel
theorem dX1_pass_115 : decode cX1_pass 115 = .ok (.iload_n 2, 1) := by decide +kernel
theorem dX1_pass_116 : decode cX1_pass 116 = .ok (.iadd, 1) := by decide +kernel
theorem dX1_pass_117 : decode cX1_pass 117 = .ok (.putfield 64, 3) := by decide +kernel
theorem dX1_pass_120 : decode cX1_pass 120 = .ok (.aload_n 0, 1) := by decide +kernel
theorem dX1_pass_121 : decode cX1_pass 121 = .ok (.iload_n 1, 1) := by decide +kernel
theorem dX1_pass_122 : decode cX1_pass 122 = .ok (.iload_n 2, 1) := by decide +kernel
theorem dX1_pass_123 : decode cX1_pass 123 = .ok (.invokevirtual 98, 3) := by decide +kernel
theorem dX1_pass_126 : decode cX1_pass 126 = .ok (.aload_n 0, 1) := by decide +kernel
theorem dX1_pass_127 : decode cX1_pass 127 = .ok (.invokevirtual 102, 3) := by decide +kernel
theorem dX1_pass_130 : decode cX1_pass 130 = .ok (.aload_n 0, 1) := by decide +kernel
theorem dX1_pass_131 : decode cX1_pass 131 = .ok (.getfield 25, 3) := by decide +kernel
theorem dX1_pass_134 : decode cX1_pass 134 = .ok (.aload_n 0, 1) := by decide +kernel
theorem dX1_pass_135 : decode cX1_pass 135 = .ok (.getfield 58, 3) := by decide +kernel
theorem dX1_pass_138 : decode cX1_pass 138 = .ok (.isub, 1) := by decide +kernel
theorem dX1_pass_139 : decode cX1_pass 139 = .ok (.ireturn, 1) := by decide +kernel
set_option maxRecDepth 20000 in
theorem ggX1_showPassing_X1_middle : GoodIn wsX1_showPassing wsX1_middle := goodIn_r _ [13, 14, 15, 16, 17, 6, 7, 4, 8, 18, 19, 20, 21, 22, 23, 24, 25, 26, 27, 28, 29, 30, 31, 32] (by decide +kernel) (by decide +kernel)
set_option maxRecDepth 20000 in
theorem gX1_showPassing_X1_middle : GoodIn wsX1_showPassing (wsV RX1 105 RX1 yX1_middle wsX1_middle) := goodIn_app (goodIn_of _ (by decide +kernel)) ggX1_showPassing_X1_middle
theorem dX1_showPassing_0 : decode cX1_showPassing 0 = .ok (.aload_n 0, 1) := by decide +kernel
theorem dX1_showPassing_1 : decode cX1_showPassing 1 = .ok (.invokevirtual 105, 3) := by decide +kernel
theorem dX1_showPassing_4 : decode cX1_showPassing 4 = .ok (.bipush 10, 2) := by decide +kernel
theorem dX1_showPassing_6 : decode cX1_showPassing 6 = .ok (.idiv, 1) := by decide +kernel
theorem dX1_showPassing_7 : decode cX1_showPassing 7 = .ok (.istore_n 3, 1) := by decide +kernel
theorem dX1_showPassing_8 : decode cX1_showPassing 8 = .ok (.iload_n 1, 1) := by decide +kernel
theorem dX1_showPassing_9 : decode cX1_showPassing 9 = .ok (.ifCond .le 27, 3) := by decide +kernel
theorem dX1_showPassing_12 : decode cX1_showPassing 12 = .ok (.aload_n 0, 1) := by decide +kernel
theorem dX1_showPassing_13 : decode cX1_showPassing 13 = .ok (.aload_n 0, 1) := by decide +kernel
theorem dX1_showPassing_14 : decode cX1_showPassing 14 = .ok (.getfield 48, 3) := by decide +kernel
theorem dX1_showPassing_17 : decode cX1_showPassing 17 = .ok (.aload_n 0, 1) := by decide +kernel
theorem dX1_showPassing_18 : decode cX1_showPassing 18 = .ok (.getfield 48, 3) := by decide +kernel
theorem dX1_showPassing_21 : decode cX1_showPassing 21 = .ok (.iload_n 2, 1) := by decide +kernel
theorem dX1_showPassing_22 : decode cX1_showPassing 22 = .ok (.isub, 1) := by decide +kernel
theorem dX1_showPassing_23 : decode cX1_showPassing 23 = .ok (.iload_n 3, 1) := by decide +kernel
theorem dX1_showPassing_24 : decode cX1_showPassing 24 = .ok (.invokestatic 89, 3) := by decide +kernel
theorem dX1_showPassing_27 : decode cX1_showPassing 27 = .ok (.invokestatic 94, 3) := by decide +kernel
theorem dX1_showPassing_30 : decode cX1_showPassing 30 = .ok (.putfield 48, 3) := by decide +kernel
theorem dX1_showPassing_33 : decode cX1_showPassing 33 = .ok (.goto 28, 3) := by decide +kernel
theorem dX1_showPassing_36 : decode cX1_showPassing 36 = .ok (.iload_n 1, 1) := by decide +kernel
theorem dX1_showPassing_37 : decode cX1_showPassing 37 = .ok (.ifCond .ge 24, 3) := by decide +kernel
theorem dX1_showPassing_40 : decode cX1_showPassing 40 = .ok (.aload_n 0, 1) := by decide +kernel
theorem dX1_showPassing_41 : decode cX1_showPassing 41 = .ok (.aload_n 0, 1) := by decide +kernel
theorem dX1_showPassing_42 : decode cX1_showPassing 42 = .ok (.getfield 48, 3) := by decide +kernel
theorem dX1_showPassing_45 : decode cX1_showPassing 45 = .ok (.aload_n 0, 1) := by decide +kernel
theorem dX1_showPassing_46 : decode cX1_showPassing 46 = .ok (.getfield 48, 3) := by decide +kernel
theorem dX1_showPassing_49 : decode cX1_showPassing 49 = .ok (.iload_n 2, 1) := by decide +kernel
theorem dX1_showPassing_50 : decode cX1_showPassing 50 = .ok (.iadd, 1) := by decide +kernel
theorem dX1_showPassing_51 : decode cX1_showPassing 51 = .ok (.iload_n 3, 1) := by decide +kernel
theorem dX1_showPassing_52 : decode cX1_showPassing 52 = .ok (.invokestatic 94, 3) := by decide +kernel
theorem dX1_showPassing_55 : decode cX1_showPassing 55 = .ok (.invokestatic 89, 3) := by decide +kernel
theorem dX1_showPassing_58 : decode cX1_showPassing 58 = .ok (.putfield 48, 3) := by decide +kernel
theorem dX1_showPassing_61 : decode cX1_showPassing 61 = .ok (.return_, 1) := by decide +kernel
theorem dX1_showEmpty_0 : decode cX1_showEmpty 0 = .ok (.aload_n 0, 1) := by decide +kernel
theorem dX1_showEmpty_1 : decode cX1_showEmpty 1 = .ok (.getfield 25, 3) := by decide +kernel
theorem dX1_showEmpty_4 : decode cX1_showEmpty 4 = .ok (.ifCond .ne 8, 3) := by decide +kernel
theorem dX1_showEmpty_7 : decode cX1_showEmpty 7 = .ok (.aload_n 0, 1) := by decide +kernel
theorem dX1_showEmpty_8 : decode cX1_showEmpty 8 = .ok (.iconst 0, 1) := by decide +kernel
theorem dX1_showEmpty_9 : decode cX1_showEmpty 9 = .ok (.putfield 48, 3) := by decide +kernel
theorem dX1_showEmpty_12 : decode cX1_showEmpty 12 = .ok (.return_, 1) := by decide +kernel
set_option maxRecDepth 20000 in
theorem ggX1_rest_X1_isVoltage : GoodIn wsX1_rest wsX1_isVoltage := goodIn_r _ [19, 20, 21, 22] (by decide +kernel) (by decide +kernel)
set_option maxRecDepth 20000 in
theorem gX1_rest_X1_isVoltage : GoodIn wsX1_rest (va_wsS RX1 109 yX1_isVoltage wsX1_isVoltage) := goodIn_app (goodIn_of _ (by decide +kernel)) ggX1_rest_X1_isVoltage
set_option maxRecDepth 20000 in
theorem ggX1_rest_X1_restBound : GoodIn wsX1_rest wsX1_restBound := goodIn_r _ [26, 1, 27, 28, 2, 7, 8, 9, 10, 29, 30, 31, 16, 17, 18, 19, 20, 21, 22, 32, 33, 34, 35, 36, 37, 38, 39, 40, 41, 42, 43, 44, 45, 46, 47, 48, 49, 50, 51, 75, 76, 77, 78, 79, 80, 81, 82, 83, 84, 85, 86, 87, 88, 89, 90] (by decide +kernel) (by decide +kernel)
set_option maxRecDepth 20000 in
theorem gX1_rest_X1_restBound : GoodIn wsX1_rest (wsV RX1 113 RX1 yX1_restBound wsX1_restBound) := goodIn_app (goodIn_of _ (by decide +kernel)) ggX1_rest_X1_restBound
set_option maxRecDepth 20000 in
theorem ggX1_rest_X1_learnCapacity : GoodIn wsX1_rest wsX1_learnCapacity := goodIn_r _ [55, 12, 56, 13, 57, 6, 15, 58, 59, 60, 9, 61, 14, 62, 63, 64, 65, 75, 76, 77, 78, 79, 80, 81, 82, 83, 84, 85, 86, 87, 88, 89] (by decide +kernel) (by decide +kernel)
set_option maxRecDepth 20000 in
theorem gX1_rest_X1_learnCapacity : GoodIn wsX1_rest (wsV RX1 116 RX1 yX1_learnCapacity wsX1_learnCapacity) := goodIn_app (goodIn_of _ (by decide +kernel)) ggX1_rest_X1_learnCapacity
set_option maxRecDepth 20000 in
theorem ggX1_rest_X1_narrowCharge : GoodIn wsX1_rest wsX1_narrowCharge := goodIn_r _ [69, 11, 57, 29, 30, 9, 31, 5, 6, 7, 8, 10, 65, 75, 76, 77, 78, 79, 80, 81, 82, 83, 84, 85, 86, 87, 88, 89] (by decide +kernel) (by decide +kernel)
set_option maxRecDepth 20000 in
theorem gX1_rest_X1_narrowCharge : GoodIn wsX1_rest (wsV RX1 119 RX1 yX1_narrowCharge wsX1_narrowCharge) := goodIn_app (goodIn_of _ (by decide +kernel)) ggX1_rest_X1_narrowCharge
set_option maxRecDepth 20000 in
theorem ggX1_rest_X1_showEmpty : GoodIn wsX1_rest wsX1_showEmpty := goodIn_r _ [73, 5, 74, 75, 76, 77, 78, 79, 80, 81, 82, 83, 84, 85, 86, 87, 88, 89] (by decide +kernel) (by decide +kernel)
set_option maxRecDepth 20000 in
theorem gX1_rest_X1_showEmpty : GoodIn wsX1_rest (wsV RX1 102 RX1 yX1_showEmpty wsX1_showEmpty) := goodIn_app (goodIn_of _ (by decide +kernel)) ggX1_rest_X1_showEmpty
theorem dX1_rest_0 : decode cX1_rest 0 = .ok (.iload_n 1, 1) := by decide +kernel
theorem dX1_rest_1 : decode cX1_rest 1 = .ok (.invokestatic 109, 3) := by decide +kernel
theorem dX1_rest_4 : decode cX1_rest 4 = .ok (.ifCond .ne 6, 3) := by decide +kernel
theorem dX1_rest_7 : decode cX1_rest 7 = .ok (.ldc 77, 2) := by decide +kernel
theorem dX1_rest_9 : decode cX1_rest 9 = .ok (.ireturn, 1) := by decide +kernel
theorem dX1_rest_10 : decode cX1_rest 10 = .ok (.aload_n 0, 1) := by decide +kernel
theorem dX1_rest_11 : decode cX1_rest 11 = .ok (.iload_n 1, 1) := by decide +kernel
theorem dX1_rest_12 : decode cX1_rest 12 = .ok (.iconst 0, 1) := by decide +kernel
theorem dX1_rest_13 : decode cX1_rest 13 = .ok (.invokevirtual 113, 3) := by decide +kernel
theorem dX1_rest_16 : decode cX1_rest 16 = .ok (.istore_n 2, 1) := by decide +kernel
theorem dX1_rest_17 : decode cX1_rest 17 = .ok (.aload_n 0, 1) := by decide +kernel
theorem dX1_rest_18 : decode cX1_rest 18 = .ok (.iload_n 1, 1) := by decide +kernel
theorem dX1_rest_19 : decode cX1_rest 19 = .ok (.iconst 1, 1) := by decide +kernel
theorem dX1_rest_20 : decode cX1_rest 20 = .ok (.invokevirtual 113, 3) := by decide +kernel
theorem dX1_rest_23 : decode cX1_rest 23 = .ok (.istore_n 3, 1) := by decide +kernel
theorem dX1_rest_24 : decode cX1_rest 24 = .ok (.iload_n 2, 1) := by decide +kernel
theorem dX1_rest_25 : decode cX1_rest 25 = .ok (.ldc 41, 2) := by decide +kernel
theorem dX1_rest_27 : decode cX1_rest 27 = .ok (.if_icmp .eq 9, 3) := by decide +kernel
theorem dX1_rest_30 : decode cX1_rest 30 = .ok (.iload_n 3, 1) := by decide +kernel
theorem dX1_rest_31 : decode cX1_rest 31 = .ok (.ldc 41, 2) := by decide +kernel
theorem dX1_rest_33 : decode cX1_rest 33 = .ok (.if_icmp .ne 6, 3) := by decide +kernel
theorem dX1_rest_36 : decode cX1_rest 36 = .ok (.ldc 97, 2) := by decide +kernel
theorem dX1_rest_38 : decode cX1_rest 38 = .ok (.ireturn, 1) := by decide +kernel
theorem dX1_rest_39 : decode cX1_rest 39 = .ok (.aload_n 0, 1) := by decide +kernel
theorem dX1_rest_40 : decode cX1_rest 40 = .ok (.getfield 67, 3) := by decide +kernel
theorem dX1_rest_43 : decode cX1_rest 43 = .ok (.ifCond .le 9, 3) := by decide +kernel
theorem dX1_rest_46 : decode cX1_rest 46 = .ok (.aload_n 0, 1) := by decide +kernel
theorem dX1_rest_47 : decode cX1_rest 47 = .ok (.iload_n 2, 1) := by decide +kernel
theorem dX1_rest_48 : decode cX1_rest 48 = .ok (.iload_n 3, 1) := by decide +kernel
theorem dX1_rest_49 : decode cX1_rest 49 = .ok (.invokevirtual 116, 3) := by decide +kernel
theorem dX1_rest_52 : decode cX1_rest 52 = .ok (.aload_n 0, 1) := by decide +kernel
theorem dX1_rest_53 : decode cX1_rest 53 = .ok (.iload_n 2, 1) := by decide +kernel
theorem dX1_rest_54 : decode cX1_rest 54 = .ok (.iload_n 3, 1) := by decide +kernel
theorem dX1_rest_55 : decode cX1_rest 55 = .ok (.invokevirtual 119, 3) := by decide +kernel
theorem dX1_rest_58 : decode cX1_rest 58 = .ok (.aload_n 0, 1) := by decide +kernel
theorem dX1_rest_59 : decode cX1_rest 59 = .ok (.aload_n 0, 1) := by decide +kernel
theorem dX1_rest_60 : decode cX1_rest 60 = .ok (.getfield 25, 3) := by decide +kernel
theorem dX1_rest_63 : decode cX1_rest 63 = .ok (.aload_n 0, 1) := by decide +kernel
theorem dX1_rest_64 : decode cX1_rest 64 = .ok (.getfield 32, 3) := by decide +kernel
theorem dX1_rest_67 : decode cX1_rest 67 = .ok (.invokestatic 94, 3) := by decide +kernel
theorem dX1_rest_70 : decode cX1_rest 70 = .ok (.putfield 25, 3) := by decide +kernel
theorem dX1_rest_73 : decode cX1_rest 73 = .ok (.aload_n 0, 1) := by decide +kernel
theorem dX1_rest_74 : decode cX1_rest 74 = .ok (.aload_n 0, 1) := by decide +kernel
theorem dX1_rest_75 : decode cX1_rest 75 = .ok (.getfield 58, 3) := by decide +kernel
theorem dX1_rest_78 : decode cX1_rest 78 = .ok (.aload_n 0, 1) := by decide +kernel
theorem dX1_rest_79 : decode cX1_rest 79 = .ok (.getfield 32, 3) := by decide +kernel
theorem dX1_rest_82 : decode cX1_rest 82 = .ok (.invokestatic 94, 3) := by decide +kernel
theorem dX1_rest_85 : decode cX1_rest 85 = .ok (.putfield 58, 3) := by decide +kernel
theorem dX1_rest_88 : decode cX1_rest 88 = .ok (.aload_n 0, 1) := by decide +kernel
theorem dX1_rest_89 : decode cX1_rest 89 = .ok (.iconst 0, 1) := by decide +kernel
theorem dX1_rest_90 : decode cX1_rest 90 = .ok (.putfield 61, 3) := by decide +kernel
theorem dX1_rest_93 : decode cX1_rest 93 = .ok (.aload_n 0, 1) := by decide +kernel
theorem dX1_rest_94 : decode cX1_rest 94 = .ok (.iconst 0, 1) := by decide +kernel
theorem dX1_rest_95 : decode cX1_rest 95 = .ok (.putfield 64, 3) := by decide +kernel
theorem dX1_rest_98 : decode cX1_rest 98 = .ok (.aload_n 0, 1) := by decide +kernel
theorem dX1_rest_99 : decode cX1_rest 99 = .ok (.iload_n 2, 1) := by decide +kernel
theorem dX1_rest_100 : decode cX1_rest 100 = .ok (.putfield 42, 3) := by decide +kernel
theorem dX1_rest_103 : decode cX1_rest 103 = .ok (.aload_n 0, 1) := by decide +kernel
theorem dX1_rest_104 : decode cX1_rest 104 = .ok (.iload_n 3, 1) := by decide +kernel
theorem dX1_rest_105 : decode cX1_rest 105 = .ok (.putfield 45, 3) := by decide +kernel
theorem dX1_rest_108 : decode cX1_rest 108 = .ok (.aload_n 0, 1) := by decide +kernel
theorem dX1_rest_109 : decode cX1_rest 109 = .ok (.dup, 1) := by decide +kernel
theorem dX1_rest_110 : decode cX1_rest 110 = .ok (.getfield 67, 3) := by decide +kernel
theorem dX1_rest_113 : decode cX1_rest 113 = .ok (.iconst 1, 1) := by decide +kernel
theorem dX1_rest_114 : decode cX1_rest 114 = .ok (.iadd, 1) := by decide +kernel
theorem dX1_rest_115 : decode cX1_rest 115 = .ok (.putfield 67, 3) := by decide +kernel
theorem dX1_rest_118 : decode cX1_rest 118 = .ok (.aload_n 0, 1) := by decide +kernel
theorem dX1_rest_119 : decode cX1_rest 119 = .ok (.invokevirtual 102, 3) := by decide +kernel
theorem dX1_rest_122 : decode cX1_rest 122 = .ok (.aload_n 0, 1) := by decide +kernel
theorem dX1_rest_123 : decode cX1_rest 123 = .ok (.getfield 25, 3) := by decide +kernel
theorem dX1_rest_126 : decode cX1_rest 126 = .ok (.aload_n 0, 1) := by decide +kernel
theorem dX1_rest_127 : decode cX1_rest 127 = .ok (.getfield 58, 3) := by decide +kernel
theorem dX1_rest_130 : decode cX1_rest 130 = .ok (.isub, 1) := by decide +kernel
theorem dX1_rest_131 : decode cX1_rest 131 = .ok (.ireturn, 1) := by decide +kernel
theorem dX1_learnCapacity_0 : decode cX1_learnCapacity 0 = .ok (.aload_n 0, 1) := by decide +kernel
theorem dX1_learnCapacity_1 : decode cX1_learnCapacity 1 = .ok (.getfield 61, 3) := by decide +kernel
theorem dX1_learnCapacity_4 : decode cX1_learnCapacity 4 = .ok (.i2l, 1) := by decide +kernel
theorem dX1_learnCapacity_5 : decode cX1_learnCapacity 5 = .ok (.aload_n 0, 1) := by decide +kernel
theorem dX1_learnCapacity_6 : decode cX1_learnCapacity 6 = .ok (.getfield 35, 3) := by decide +kernel
theorem dX1_learnCapacity_9 : decode cX1_learnCapacity 9 = .ok (.i2l, 1) := by decide +kernel
theorem dX1_learnCapacity_10 : decode cX1_learnCapacity 10 = .ok (.aload_n 0, 1) := by decide +kernel
theorem dX1_learnCapacity_11 : decode cX1_learnCapacity 11 = .ok (.getfield 64, 3) := by decide +kernel
theorem dX1_learnCapacity_14 : decode cX1_learnCapacity 14 = .ok (.i2l, 1) := by decide +kernel
theorem dX1_learnCapacity_15 : decode cX1_learnCapacity 15 = .ok (.lmul, 1) := by decide +kernel
theorem dX1_learnCapacity_16 : decode cX1_learnCapacity 16 = .ok (.lsub, 1) := by decide +kernel
theorem dX1_learnCapacity_17 : decode cX1_learnCapacity 17 = .ok (.lstore_n 3, 1) := by decide +kernel
theorem dX1_learnCapacity_18 : decode cX1_learnCapacity 18 = .ok (.aload_n 0, 1) := by decide +kernel
theorem dX1_learnCapacity_19 : decode cX1_learnCapacity 19 = .ok (.getfield 61, 3) := by decide +kernel
theorem dX1_learnCapacity_22 : decode cX1_learnCapacity 22 = .ok (.i2l, 1) := by decide +kernel
theorem dX1_learnCapacity_23 : decode cX1_learnCapacity 23 = .ok (.aload_n 0, 1) := by decide +kernel
theorem dX1_learnCapacity_24 : decode cX1_learnCapacity 24 = .ok (.getfield 35, 3) := by decide +kernel
theorem dX1_learnCapacity_27 : decode cX1_learnCapacity 27 = .ok (.i2l, 1) := by decide +kernel
theorem dX1_learnCapacity_28 : decode cX1_learnCapacity 28 = .ok (.aload_n 0, 1) := by decide +kernel
theorem dX1_learnCapacity_29 : decode cX1_learnCapacity 29 = .ok (.getfield 64, 3) := by decide +kernel
theorem dX1_learnCapacity_32 : decode cX1_learnCapacity 32 = .ok (.i2l, 1) := by decide +kernel
theorem dX1_learnCapacity_33 : decode cX1_learnCapacity 33 = .ok (.lmul, 1) := by decide +kernel
theorem dX1_learnCapacity_34 : decode cX1_learnCapacity 34 = .ok (.ladd, 1) := by decide +kernel
theorem dX1_learnCapacity_35 : decode cX1_learnCapacity 35 = .ok (.lstore 5, 2) := by decide +kernel
theorem dX1_learnCapacity_37 : decode cX1_learnCapacity 37 = .ok (.aload_n 0, 1) := by decide +kernel
theorem dX1_learnCapacity_38 : decode cX1_learnCapacity 38 = .ok (.getfield 29, 3) := by decide +kernel
theorem dX1_learnCapacity_41 : decode cX1_learnCapacity 41 = .ok (.i2l, 1) := by decide +kernel
theorem dX1_learnCapacity_42 : decode cX1_learnCapacity 42 = .ok (.lstore 7, 2) := by decide +kernel
theorem dX1_learnCapacity_44 : decode cX1_learnCapacity 44 = .ok (.aload_n 0, 1) := by decide +kernel
theorem dX1_learnCapacity_45 : decode cX1_learnCapacity 45 = .ok (.getfield 32, 3) := by decide +kernel
theorem dX1_learnCapacity_48 : decode cX1_learnCapacity 48 = .ok (.i2l, 1) := by decide +kernel
theorem dX1_learnCapacity_49 : decode cX1_learnCapacity 49 = .ok (.lstore 9, 2) := by decide +kernel
theorem dX1_learnCapacity_51 : decode cX1_learnCapacity 51 = .ok (.lload_n 3, 1) := by decide +kernel
theorem dX1_learnCapacity_52 : decode cX1_learnCapacity 52 = .ok (.lconst 0, 1) := by decide +kernel
theorem dX1_learnCapacity_53 : decode cX1_learnCapacity 53 = .ok (.lcmp, 1) := by decide +kernel
theorem dX1_learnCapacity_54 : decode cX1_learnCapacity 54 = .ok (.ifCond .le 32, 3) := by decide +kernel
theorem dX1_learnCapacity_57 : decode cX1_learnCapacity 57 = .ok (.aload_n 0, 1) := by decide +kernel
theorem dX1_learnCapacity_58 : decode cX1_learnCapacity 58 = .ok (.getfield 45, 3) := by decide +kernel
theorem dX1_learnCapacity_61 : decode cX1_learnCapacity 61 = .ok (.iload_n 1, 1) := by decide +kernel
theorem dX1_learnCapacity_62 : decode cX1_learnCapacity 62 = .ok (.isub, 1) := by decide +kernel
theorem dX1_learnCapacity_63 : decode cX1_learnCapacity 63 = .ok (.ifCond .le 23, 3) := by decide +kernel
theorem dX1_learnCapacity_66 : decode cX1_learnCapacity 66 = .ok (.lload 7, 2) := by decide +kernel
theorem dX1_learnCapacity_68 : decode cX1_learnCapacity 68 = .ok (.ldc2_w 122, 3) := by decide +kernel
theorem dX1_learnCapacity_71 : decode cX1_learnCapacity 71 = .ok (.lload_n 3, 1) := by decide +kernel
theorem dX1_learnCapacity_72 : decode cX1_learnCapacity 72 = .ok (.lmul, 1) := by decide +kernel
theorem dX1_learnCapacity_73 : decode cX1_learnCapacity 73 = .ok (.aload_n 0, 1) := by decide +kernel
theorem dX1_learnCapacity_74 : decode cX1_learnCapacity 74 = .ok (.getfield 45, 3) := by decide +kernel
theorem dX1_learnCapacity_77 : decode cX1_learnCapacity 77 = .ok (.iload_n 1, 1) := by decide +kernel
theorem dX1_learnCapacity_78 : decode cX1_learnCapacity 78 = .ok (.isub, 1) := by decide +kernel
theorem dX1_learnCapacity_79 : decode cX1_learnCapacity 79 = .ok (.i2l, 1) := by decide +kernel
theorem dX1_learnCapacity_80 : decode cX1_learnCapacity 80 = .ok (.ldiv, 1) := by decide +kernel
theorem dX1_learnCapacity_81 : decode cX1_learnCapacity 81 = .ok (.invokestatic 124, 3) := by decide +kernel
theorem dX1_learnCapacity_84 : decode cX1_learnCapacity 84 = .ok (.lstore 7, 2) := by decide +kernel
theorem dX1_learnCapacity_86 : decode cX1_learnCapacity 86 = .ok (.lload 5, 2) := by decide +kernel
theorem dX1_learnCapacity_88 : decode cX1_learnCapacity 88 = .ok (.lconst 0, 1) := by decide +kernel
theorem dX1_learnCapacity_89 : decode cX1_learnCapacity 89 = .ok (.lcmp, 1) := by decide +kernel
theorem dX1_learnCapacity_90 : decode cX1_learnCapacity 90 = .ok (.ifCond .le 43, 3) := by decide +kernel
theorem dX1_learnCapacity_93 : decode cX1_learnCapacity 93 = .ok (.aload_n 0, 1) := by decide +kernel
theorem dX1_learnCapacity_94 : decode cX1_learnCapacity 94 = .ok (.getfield 42, 3) := by decide +kernel
theorem dX1_learnCapacity_97 : decode cX1_learnCapacity 97 = .ok (.iload_n 2, 1) := by decide +kernel
theorem dX1_learnCapacity_98 : decode cX1_learnCapacity 98 = .ok (.isub, 1) := by decide +kernel
theorem dX1_learnCapacity_99 : decode cX1_learnCapacity 99 = .ok (.ifCond .le 34, 3) := by decide +kernel
theorem dX1_learnCapacity_102 : decode cX1_learnCapacity 102 = .ok (.aload_n 0, 1) := by decide +kernel
theorem dX1_learnCapacity_103 : decode cX1_learnCapacity 103 = .ok (.getfield 42, 3) := by decide +kernel
theorem dX1_learnCapacity_106 : decode cX1_learnCapacity 106 = .ok (.iload_n 2, 1) := by decide +kernel
theorem dX1_learnCapacity_107 : decode cX1_learnCapacity 107 = .ok (.isub, 1) := by decide +kernel
theorem dX1_learnCapacity_108 : decode cX1_learnCapacity 108 = .ok (.istore 11, 2) := by decide +kernel
theorem dX1_learnCapacity_110 : decode cX1_learnCapacity 110 = .ok (.lload 9, 2) := by decide +kernel
theorem dX1_learnCapacity_112 : decode cX1_learnCapacity 112 = .ok (.ldc2_w 122, 3) := by decide +kernel
theorem dX1_learnCapacity_115 : decode cX1_learnCapacity 115 = .ok (.lload 5, 2) := by decide +kernel
theorem dX1_learnCapacity_117 : decode cX1_learnCapacity 117 = .ok (.lmul, 1) := by decide +kernel
theorem dX1_learnCapacity_118 : decode cX1_learnCapacity 118 = .ok (.iload 11, 2) := by decide +kernel
theorem dX1_learnCapacity_120 : decode cX1_learnCapacity 120 = .ok (.i2l, 1) := by decide +kernel
theorem dX1_learnCapacity_121 : decode cX1_learnCapacity 121 = .ok (.ladd, 1) := by decide +kernel
theorem dX1_learnCapacity_122 : decode cX1_learnCapacity 122 = .ok (.lconst 1, 1) := by decide +kernel
theorem dX1_learnCapacity_123 : decode cX1_learnCapacity 123 = .ok (.lsub, 1) := by decide +kernel
theorem dX1_learnCapacity_124 : decode cX1_learnCapacity 124 = .ok (.iload 11, 2) := by decide +kernel
theorem dX1_learnCapacity_126 : decode cX1_learnCapacity 126 = .ok (.i2l, 1) := by decide +kernel
theorem dX1_learnCapacity_127 : decode cX1_learnCapacity 127 = .ok (.ldiv, 1) := by decide +kernel
theorem dX1_learnCapacity_128 : decode cX1_learnCapacity 128 = .ok (.invokestatic 127, 3) := by decide +kernel
theorem dX1_learnCapacity_131 : decode cX1_learnCapacity 131 = .ok (.lstore 9, 2) := by decide +kernel
theorem dX1_learnCapacity_133 : decode cX1_learnCapacity 133 = .ok (.lload 7, 2) := by decide +kernel
theorem dX1_learnCapacity_135 : decode cX1_learnCapacity 135 = .ok (.lload 9, 2) := by decide +kernel
theorem dX1_learnCapacity_137 : decode cX1_learnCapacity 137 = .ok (.lcmp, 1) := by decide +kernel
theorem dX1_learnCapacity_138 : decode cX1_learnCapacity 138 = .ok (.ifCond .le 14, 3) := by decide +kernel
theorem dX1_learnCapacity_141 : decode cX1_learnCapacity 141 = .ok (.aload_n 0, 1) := by decide +kernel
theorem dX1_learnCapacity_142 : decode cX1_learnCapacity 142 = .ok (.dup, 1) := by decide +kernel
theorem dX1_learnCapacity_143 : decode cX1_learnCapacity 143 = .ok (.getfield 70, 3) := by decide +kernel
theorem dX1_learnCapacity_146 : decode cX1_learnCapacity 146 = .ok (.iconst 1, 1) := by decide +kernel
theorem dX1_learnCapacity_147 : decode cX1_learnCapacity 147 = .ok (.iadd, 1) := by decide +kernel
theorem dX1_learnCapacity_148 : decode cX1_learnCapacity 148 = .ok (.putfield 70, 3) := by decide +kernel
theorem dX1_learnCapacity_151 : decode cX1_learnCapacity 151 = .ok (.return_, 1) := by decide +kernel
theorem dX1_learnCapacity_152 : decode cX1_learnCapacity 152 = .ok (.aload_n 0, 1) := by decide +kernel
theorem dX1_learnCapacity_153 : decode cX1_learnCapacity 153 = .ok (.lload 7, 2) := by decide +kernel
theorem dX1_learnCapacity_155 : decode cX1_learnCapacity 155 = .ok (.l2i, 1) := by decide +kernel
theorem dX1_learnCapacity_156 : decode cX1_learnCapacity 156 = .ok (.putfield 29, 3) := by decide +kernel
theorem dX1_learnCapacity_159 : decode cX1_learnCapacity 159 = .ok (.aload_n 0, 1) := by decide +kernel
theorem dX1_learnCapacity_160 : decode cX1_learnCapacity 160 = .ok (.lload 9, 2) := by decide +kernel
theorem dX1_learnCapacity_162 : decode cX1_learnCapacity 162 = .ok (.l2i, 1) := by decide +kernel
theorem dX1_learnCapacity_163 : decode cX1_learnCapacity 163 = .ok (.putfield 32, 3) := by decide +kernel
theorem dX1_learnCapacity_166 : decode cX1_learnCapacity 166 = .ok (.return_, 1) := by decide +kernel
theorem dX1_narrowCharge_0 : decode cX1_narrowCharge 0 = .ok (.aload_n 0, 1) := by decide +kernel
theorem dX1_narrowCharge_1 : decode cX1_narrowCharge 1 = .ok (.getfield 58, 3) := by decide +kernel
theorem dX1_narrowCharge_4 : decode cX1_narrowCharge 4 = .ok (.iload_n 1, 1) := by decide +kernel
theorem dX1_narrowCharge_5 : decode cX1_narrowCharge 5 = .ok (.aload_n 0, 1) := by decide +kernel
theorem dX1_narrowCharge_6 : decode cX1_narrowCharge 6 = .ok (.getfield 29, 3) := by decide +kernel
theorem dX1_narrowCharge_9 : decode cX1_narrowCharge 9 = .ok (.imul, 1) := by decide +kernel
theorem dX1_narrowCharge_10 : decode cX1_narrowCharge 10 = .ok (.sipush 1000, 3) := by decide +kernel
theorem dX1_narrowCharge_13 : decode cX1_narrowCharge 13 = .ok (.idiv, 1) := by decide +kernel
theorem dX1_narrowCharge_14 : decode cX1_narrowCharge 14 = .ok (.invokestatic 89, 3) := by decide +kernel
theorem dX1_narrowCharge_17 : decode cX1_narrowCharge 17 = .ok (.istore_n 3, 1) := by decide +kernel
theorem dX1_narrowCharge_18 : decode cX1_narrowCharge 18 = .ok (.aload_n 0, 1) := by decide +kernel
theorem dX1_narrowCharge_19 : decode cX1_narrowCharge 19 = .ok (.getfield 25, 3) := by decide +kernel
theorem dX1_narrowCharge_22 : decode cX1_narrowCharge 22 = .ok (.iload_n 2, 1) := by decide +kernel
theorem dX1_narrowCharge_23 : decode cX1_narrowCharge 23 = .ok (.aload_n 0, 1) := by decide +kernel
theorem dX1_narrowCharge_24 : decode cX1_narrowCharge 24 = .ok (.getfield 32, 3) := by decide +kernel
theorem dX1_narrowCharge_27 : decode cX1_narrowCharge 27 = .ok (.imul, 1) := by decide +kernel
theorem dX1_narrowCharge_28 : decode cX1_narrowCharge 28 = .ok (.sipush 1000, 3) := by decide +kernel
theorem dX1_narrowCharge_31 : decode cX1_narrowCharge 31 = .ok (.iadd, 1) := by decide +kernel
theorem dX1_narrowCharge_32 : decode cX1_narrowCharge 32 = .ok (.iconst 1, 1) := by decide +kernel
theorem dX1_narrowCharge_33 : decode cX1_narrowCharge 33 = .ok (.isub, 1) := by decide +kernel
theorem dX1_narrowCharge_34 : decode cX1_narrowCharge 34 = .ok (.sipush 1000, 3) := by decide +kernel
theorem dX1_narrowCharge_37 : decode cX1_narrowCharge 37 = .ok (.idiv, 1) := by decide +kernel
theorem dX1_narrowCharge_38 : decode cX1_narrowCharge 38 = .ok (.invokestatic 94, 3) := by decide +kernel
theorem dX1_narrowCharge_41 : decode cX1_narrowCharge 41 = .ok (.istore 4, 2) := by decide +kernel
theorem dX1_narrowCharge_43 : decode cX1_narrowCharge 43 = .ok (.iload_n 3, 1) := by decide +kernel
theorem dX1_narrowCharge_44 : decode cX1_narrowCharge 44 = .ok (.iload 4, 2) := by decide +kernel
theorem dX1_narrowCharge_46 : decode cX1_narrowCharge 46 = .ok (.if_icmp .le 14, 3) := by decide +kernel
theorem dX1_narrowCharge_49 : decode cX1_narrowCharge 49 = .ok (.aload_n 0, 1) := by decide +kernel
theorem dX1_narrowCharge_50 : decode cX1_narrowCharge 50 = .ok (.dup, 1) := by decide +kernel
theorem dX1_narrowCharge_51 : decode cX1_narrowCharge 51 = .ok (.getfield 70, 3) := by decide +kernel
theorem dX1_narrowCharge_54 : decode cX1_narrowCharge 54 = .ok (.iconst 1, 1) := by decide +kernel
theorem dX1_narrowCharge_55 : decode cX1_narrowCharge 55 = .ok (.iadd, 1) := by decide +kernel
theorem dX1_narrowCharge_56 : decode cX1_narrowCharge 56 = .ok (.putfield 70, 3) := by decide +kernel
theorem dX1_narrowCharge_59 : decode cX1_narrowCharge 59 = .ok (.return_, 1) := by decide +kernel
theorem dX1_narrowCharge_60 : decode cX1_narrowCharge 60 = .ok (.aload_n 0, 1) := by decide +kernel
theorem dX1_narrowCharge_61 : decode cX1_narrowCharge 61 = .ok (.iload_n 3, 1) := by decide +kernel
theorem dX1_narrowCharge_62 : decode cX1_narrowCharge 62 = .ok (.putfield 58, 3) := by decide +kernel
theorem dX1_narrowCharge_65 : decode cX1_narrowCharge 65 = .ok (.aload_n 0, 1) := by decide +kernel
theorem dX1_narrowCharge_66 : decode cX1_narrowCharge 66 = .ok (.iload 4, 2) := by decide +kernel
theorem dX1_narrowCharge_68 : decode cX1_narrowCharge 68 = .ok (.putfield 25, 3) := by decide +kernel
theorem dX1_narrowCharge_71 : decode cX1_narrowCharge 71 = .ok (.return_, 1) := by decide +kernel
set_option maxRecDepth 20000 in
theorem ggX1_load_X1_isLoad : GoodIn wsX1_load wsX1_isLoad := goodIn_r _ [7, 8, 9, 10] (by decide +kernel) (by decide +kernel)
set_option maxRecDepth 20000 in
theorem gX1_load_X1_isLoad : GoodIn wsX1_load (va_wsS RX1 129 yX1_isLoad wsX1_isLoad) := goodIn_app (goodIn_of _ (by decide +kernel)) ggX1_load_X1_isLoad
set_option maxRecDepth 20000 in
theorem ggX1_load_X1_isVoltage : GoodIn wsX1_load wsX1_isVoltage := goodIn_r _ [13, 8, 9, 10] (by decide +kernel) (by decide +kernel)
set_option maxRecDepth 20000 in
theorem gX1_load_X1_isVoltage : GoodIn wsX1_load (va_wsS RX1 109 yX1_isVoltage wsX1_isVoltage) := goodIn_app (goodIn_of _ (by decide +kernel)) ggX1_load_X1_isVoltage
set_option maxRecDepth 20000 in
theorem ggX1_load_X1_middle : GoodIn wsX1_load wsX1_middle := goodIn_r _ [17, 18, 19, 20, 21, 22, 23, 24, 25, 49, 50, 51, 52, 53, 54, 55, 56, 57, 58, 59, 60, 61, 62, 63] (by decide +kernel) (by decide +kernel)
set_option maxRecDepth 20000 in
theorem gX1_load_X1_middle : GoodIn wsX1_load (wsV RX1 105 RX1 yX1_middle wsX1_middle) := goodIn_app (goodIn_of _ (by decide +kernel)) ggX1_load_X1_middle
set_option maxRecDepth 20000 in
theorem ggX1_load_X2_voltsAt : GoodIn wsX1_load wsX2_voltsAt := goodIn_r _ [30, 31, 32, 64] (by decide +kernel) (by decide +kernel)
set_option maxRecDepth 20000 in
theorem gX1_load_X2_voltsAt : GoodIn wsX1_load (wsV RX1 132 RX2 yX2_voltsAt wsX2_voltsAt) := goodIn_app (goodIn_of _ (by decide +kernel)) ggX1_load_X2_voltsAt
set_option maxRecDepth 20000 in
theorem ggX1_load_X1_signOf : GoodIn wsX1_load wsX1_signOf := goodIn_r _ [35] (by decide +kernel) (by decide +kernel)
set_option maxRecDepth 20000 in
theorem gX1_load_X1_signOf : GoodIn wsX1_load (va_wsS RX1 136 yX1_signOf wsX1_signOf) := goodIn_app (goodIn_of _ (by decide +kernel)) ggX1_load_X1_signOf
set_option maxRecDepth 20000 in
theorem ggX1_load_X1_tenthOf : GoodIn wsX1_load wsX1_tenthOf := goodIn_r _ [38] (by decide +kernel) (by decide +kernel)
set_option maxRecDepth 20000 in
theorem gX1_load_X1_tenthOf : GoodIn wsX1_load (va_wsS RX1 139 yX1_tenthOf wsX1_tenthOf) := goodIn_app (goodIn_of _ (by decide +kernel)) ggX1_load_X1_tenthOf
set_option maxRecDepth 20000 in
theorem ggX1_load_X0_add : GoodIn wsX1_load wsX0_add := goodIn_r _ [43, 44, 45, 46, 47, 42, 48, 8, 9, 10, 65, 66] (by decide +kernel) (by decide +kernel)
set_option maxRecDepth 20000 in
theorem gX1_load_X0_add : GoodIn wsX1_load (wsV RX1 142 RX0 yX0_add wsX0_add) := goodIn_app (goodIn_of _ (by decide +kernel)) ggX1_load_X0_add
theorem dX1_load_0 : decode cX1_load 0 = .ok (.iload_n 1, 1) := by decide +kernel
theorem dX1_load_1 : decode cX1_load 1 = .ok (.invokestatic 129, 3) := by decide +kernel
theorem dX1_load_4 : decode cX1_load 4 = .ok (.ifCond .eq 10, 3) := by decide +kernel
theorem dX1_load_7 : decode cX1_load 7 = .ok (.iload_n 2, 1) := by decide +kernel
theorem dX1_load_8 : decode cX1_load 8 = .ok (.invokestatic 109, 3) := by decide +kernel
theorem dX1_load_11 : decode cX1_load 11 = .ok (.ifCond .ne 6, 3) := by decide +kernel
theorem dX1_load_14 : decode cX1_load 14 = .ok (.ldc 77, 2) := by decide +kernel
theorem dX1_load_16 : decode cX1_load 16 = .ok (.ireturn, 1) := by decide +kernel
theorem dX1_load_17 : decode cX1_load 17 = .ok (.aload_n 0, 1) := by decide +kernel
theorem dX1_load_18 : decode cX1_load 18 = .ok (.invokevirtual 105, 3) := by decide +kernel
theorem dX1_load_21 : decode cX1_load 21 = .ok (.istore_n 3, 1) := by decide +kernel
theorem dX1_load_22 : decode cX1_load 22 = .ok (.bipush 100, 2) := by decide +kernel
theorem dX1_load_24 : decode cX1_load 24 = .ok (.aload_n 0, 1) := by decide +kernel
theorem dX1_load_25 : decode cX1_load 25 = .ok (.getfield 12, 3) := by decide +kernel
theorem dX1_load_28 : decode cX1_load 28 = .ok (.iload_n 3, 1) := by decide +kernel
theorem dX1_load_29 : decode cX1_load 29 = .ok (.invokevirtual 132, 3) := by decide +kernel
theorem dX1_load_32 : decode cX1_load 32 = .ok (.iload_n 2, 1) := by decide +kernel
theorem dX1_load_33 : decode cX1_load 33 = .ok (.isub, 1) := by decide +kernel
theorem dX1_load_34 : decode cX1_load 34 = .ok (.imul, 1) := by decide +kernel
end
section
theorem dX1_load_35 : decode cX1_load 35 = .ok (.iload_n 1, 1) := by decide +kernel
theorem dX1_load_36 : decode cX1_load 36 = .ok (.idiv, 1) := by decide +kernel
theorem dX1_load_37 : decode cX1_load 37 = .ok (.istore 4, 2) := by decide +kernel
theorem dX1_load_39 : decode cX1_load 39 = .ok (.aload_n 0, 1) := by decide +kernel
theorem dX1_load_40 : decode cX1_load 40 = .ok (.getfield 21, 3) := by decide +kernel
theorem dX1_load_43 : decode cX1_load 43 = .ok (.iload_n 1, 1) := by decide +kernel
theorem dX1_load_44 : decode cX1_load 44 = .ok (.invokestatic 136, 3) := by decide +kernel
theorem dX1_load_47 : decode cX1_load 47 = .ok (.iload_n 3, 1) := by decide +kernel
theorem dX1_load_48 : decode cX1_load 48 = .ok (.invokestatic 139, 3) := by decide +kernel
theorem dX1_load_51 : decode cX1_load 51 = .ok (.iload 4, 2) := by decide +kernel
theorem dX1_load_53 : decode cX1_load 53 = .ok (.invokevirtual 142, 3) := by decide +kernel
theorem dX1_load_56 : decode cX1_load 56 = .ok (.iload 4, 2) := by decide +kernel
theorem dX1_load_58 : decode cX1_load 58 = .ok (.ireturn, 1) := by decide +kernel
set_option maxRecDepth 20000 in
theorem ggX1_tell_X1_middle : GoodIn wsX1_tell wsX1_middle := goodIn_r _ [17, 3, 4, 1, 2, 18, 19, 20, 21, 22, 23, 24, 25, 26, 27, 28, 29, 30, 31, 32, 33, 34, 35, 36] (by decide +kernel) (by decide +kernel)
set_option maxRecDepth 20000 in
theorem gX1_tell_X1_middle : GoodIn wsX1_tell (wsV RX1 105 RX1 yX1_middle wsX1_middle) := goodIn_app (goodIn_of _ (by decide +kernel)) ggX1_tell_X1_middle
theorem dX1_tell_0 : decode cX1_tell 0 = .ok (.iload_n 1, 1) := by decide +kernel
theorem dX1_tell_1 : decode cX1_tell 1 = .ok (.tableswitch 123 0 11 #[63, 68, 73, 78, 83, 88, 93, 98, 103, 108, 113, 118], 63) := by decide +kernel
theorem dX1_tell_64 : decode cX1_tell 64 = .ok (.aload_n 0, 1) := by decide +kernel
theorem dX1_tell_65 : decode cX1_tell 65 = .ok (.getfield 58, 3) := by decide +kernel
theorem dX1_tell_68 : decode cX1_tell 68 = .ok (.ireturn, 1) := by decide +kernel
theorem dX1_tell_69 : decode cX1_tell 69 = .ok (.aload_n 0, 1) := by decide +kernel
theorem dX1_tell_70 : decode cX1_tell 70 = .ok (.getfield 25, 3) := by decide +kernel
theorem dX1_tell_73 : decode cX1_tell 73 = .ok (.ireturn, 1) := by decide +kernel
theorem dX1_tell_74 : decode cX1_tell 74 = .ok (.aload_n 0, 1) := by decide +kernel
theorem dX1_tell_75 : decode cX1_tell 75 = .ok (.getfield 29, 3) := by decide +kernel
theorem dX1_tell_78 : decode cX1_tell 78 = .ok (.ireturn, 1) := by decide +kernel
theorem dX1_tell_79 : decode cX1_tell 79 = .ok (.aload_n 0, 1) := by decide +kernel
theorem dX1_tell_80 : decode cX1_tell 80 = .ok (.getfield 32, 3) := by decide +kernel
theorem dX1_tell_83 : decode cX1_tell 83 = .ok (.ireturn, 1) := by decide +kernel
theorem dX1_tell_84 : decode cX1_tell 84 = .ok (.aload_n 0, 1) := by decide +kernel
theorem dX1_tell_85 : decode cX1_tell 85 = .ok (.invokevirtual 105, 3) := by decide +kernel
theorem dX1_tell_88 : decode cX1_tell 88 = .ok (.ireturn, 1) := by decide +kernel
theorem dX1_tell_89 : decode cX1_tell 89 = .ok (.aload_n 0, 1) := by decide +kernel
theorem dX1_tell_90 : decode cX1_tell 90 = .ok (.getfield 48, 3) := by decide +kernel
theorem dX1_tell_93 : decode cX1_tell 93 = .ok (.ireturn, 1) := by decide +kernel
theorem dX1_tell_94 : decode cX1_tell 94 = .ok (.aload_n 0, 1) := by decide +kernel
theorem dX1_tell_95 : decode cX1_tell 95 = .ok (.getfield 61, 3) := by decide +kernel
theorem dX1_tell_98 : decode cX1_tell 98 = .ok (.ireturn, 1) := by decide +kernel
theorem dX1_tell_99 : decode cX1_tell 99 = .ok (.aload_n 0, 1) := by decide +kernel
theorem dX1_tell_100 : decode cX1_tell 100 = .ok (.getfield 64, 3) := by decide +kernel
theorem dX1_tell_103 : decode cX1_tell 103 = .ok (.ireturn, 1) := by decide +kernel
theorem dX1_tell_104 : decode cX1_tell 104 = .ok (.aload_n 0, 1) := by decide +kernel
theorem dX1_tell_105 : decode cX1_tell 105 = .ok (.getfield 70, 3) := by decide +kernel
theorem dX1_tell_108 : decode cX1_tell 108 = .ok (.ireturn, 1) := by decide +kernel
theorem dX1_tell_109 : decode cX1_tell 109 = .ok (.aload_n 0, 1) := by decide +kernel
theorem dX1_tell_110 : decode cX1_tell 110 = .ok (.getfield 67, 3) := by decide +kernel
theorem dX1_tell_113 : decode cX1_tell 113 = .ok (.ireturn, 1) := by decide +kernel
theorem dX1_tell_114 : decode cX1_tell 114 = .ok (.aload_n 0, 1) := by decide +kernel
theorem dX1_tell_115 : decode cX1_tell 115 = .ok (.getfield 42, 3) := by decide +kernel
theorem dX1_tell_118 : decode cX1_tell 118 = .ok (.ireturn, 1) := by decide +kernel
theorem dX1_tell_119 : decode cX1_tell 119 = .ok (.aload_n 0, 1) := by decide +kernel
theorem dX1_tell_120 : decode cX1_tell 120 = .ok (.getfield 45, 3) := by decide +kernel
theorem dX1_tell_123 : decode cX1_tell 123 = .ok (.ireturn, 1) := by decide +kernel
theorem dX1_tell_124 : decode cX1_tell 124 = .ok (.ldc 77, 2) := by decide +kernel
theorem dX1_tell_126 : decode cX1_tell 126 = .ok (.ireturn, 1) := by decide +kernel
set_option maxRecDepth 20000 in
theorem ggX1_restVoltage_X2_voltsAt : GoodIn wsX1_restVoltage wsX2_voltsAt := goodIn_r _ [6, 7, 8, 24] (by decide +kernel) (by decide +kernel)
set_option maxRecDepth 20000 in
theorem gX1_restVoltage_X2_voltsAt : GoodIn wsX1_restVoltage (wsV RX1 132 RX2 yX2_voltsAt wsX2_voltsAt) := goodIn_app (goodIn_of _ (by decide +kernel)) ggX1_restVoltage_X2_voltsAt
theorem dX1_restVoltage_0 : decode cX1_restVoltage 0 = .ok (.aload_n 0, 1) := by decide +kernel
theorem dX1_restVoltage_1 : decode cX1_restVoltage 1 = .ok (.getfield 12, 3) := by decide +kernel
theorem dX1_restVoltage_4 : decode cX1_restVoltage 4 = .ok (.iload_n 1, 1) := by decide +kernel
theorem dX1_restVoltage_5 : decode cX1_restVoltage 5 = .ok (.invokevirtual 132, 3) := by decide +kernel
theorem dX1_restVoltage_8 : decode cX1_restVoltage 8 = .ok (.ireturn, 1) := by decide +kernel
set_option maxRecDepth 20000 in
theorem ggX1_restBound_X1_isVoltage : GoodIn wsX1_restBound wsX1_isVoltage := goodIn_r _ [15, 16, 17, 18] (by decide +kernel) (by decide +kernel)
set_option maxRecDepth 20000 in
theorem gX1_restBound_X1_isVoltage : GoodIn wsX1_restBound (va_wsS RX1 109 yX1_isVoltage wsX1_isVoltage) := goodIn_app (goodIn_of _ (by decide +kernel)) ggX1_restBound_X1_isVoltage
set_option maxRecDepth 20000 in
theorem ggX1_restBound_X5_within : GoodIn wsX1_restBound wsX5_within := goodIn_r _ [18] (by decide +kernel) (by decide +kernel)
set_option maxRecDepth 20000 in
theorem gX1_restBound_X5_within_n81 : GoodIn wsX1_restBound (wsX5_within) := ggX1_restBound_X5_within
set_option maxRecDepth 20000 in
theorem ggX1_restBound_X2_leastReaching : GoodIn wsX1_restBound wsX2_leastReaching := goodIn_r _ [23, 24, 25, 26, 27, 22, 28, 29, 30, 31, 32, 33, 34, 54] (by decide +kernel) (by decide +kernel)
set_option maxRecDepth 20000 in
theorem gX1_restBound_X2_leastReaching : GoodIn wsX1_restBound (wsV RX1 146 RX2 yX2_leastReaching wsX2_leastReaching) := goodIn_app (goodIn_of _ (by decide +kernel)) ggX1_restBound_X2_leastReaching
set_option maxRecDepth 20000 in
theorem ggX1_restBound_X2_greatestWithin : GoodIn wsX1_restBound wsX2_greatestWithin := goodIn_r _ [38, 24, 25, 26, 27, 22, 28, 29, 30, 31, 32, 33, 34, 54] (by decide +kernel) (by decide +kernel)
set_option maxRecDepth 20000 in
theorem gX1_restBound_X2_greatestWithin : GoodIn wsX1_restBound (wsV RX1 149 RX2 yX2_greatestWithin wsX2_greatestWithin) := goodIn_app (goodIn_of _ (by decide +kernel)) ggX1_restBound_X2_greatestWithin
theorem dX1_restBound_0 : decode cX1_restBound 0 = .ok (.iload_n 1, 1) := by decide +kernel
theorem dX1_restBound_1 : decode cX1_restBound 1 = .ok (.invokestatic 109, 3) := by decide +kernel
theorem dX1_restBound_4 : decode cX1_restBound 4 = .ok (.ifCond .eq 12, 3) := by decide +kernel
theorem dX1_restBound_7 : decode cX1_restBound 7 = .ok (.iload_n 2, 1) := by decide +kernel
theorem dX1_restBound_8 : decode cX1_restBound 8 = .ok (.iconst 0, 1) := by decide +kernel
theorem dX1_restBound_9 : decode cX1_restBound 9 = .ok (.iconst 1, 1) := by decide +kernel
theorem dX1_restBound_10 : decode cX1_restBound 10 = .ok (.invokestatic 81, 3) := by decide +kernel
theorem dX1_restBound_13 : decode cX1_restBound 13 = .ok (.ifCond .ne 6, 3) := by decide +kernel
theorem dX1_restBound_16 : decode cX1_restBound 16 = .ok (.ldc 77, 2) := by decide +kernel
theorem dX1_restBound_18 : decode cX1_restBound 18 = .ok (.ireturn, 1) := by decide +kernel
theorem dX1_restBound_19 : decode cX1_restBound 19 = .ok (.aload_n 0, 1) := by decide +kernel
theorem dX1_restBound_20 : decode cX1_restBound 20 = .ok (.getfield 12, 3) := by decide +kernel
theorem dX1_restBound_23 : decode cX1_restBound 23 = .ok (.iload_n 1, 1) := by decide +kernel
theorem dX1_restBound_24 : decode cX1_restBound 24 = .ok (.aload_n 0, 1) := by decide +kernel
theorem dX1_restBound_25 : decode cX1_restBound 25 = .ok (.getfield 38, 3) := by decide +kernel
theorem dX1_restBound_28 : decode cX1_restBound 28 = .ok (.isub, 1) := by decide +kernel
theorem dX1_restBound_29 : decode cX1_restBound 29 = .ok (.invokevirtual 146, 3) := by decide +kernel
theorem dX1_restBound_32 : decode cX1_restBound 32 = .ok (.istore_n 3, 1) := by decide +kernel
theorem dX1_restBound_33 : decode cX1_restBound 33 = .ok (.aload_n 0, 1) := by decide +kernel
theorem dX1_restBound_34 : decode cX1_restBound 34 = .ok (.getfield 12, 3) := by decide +kernel
theorem dX1_restBound_37 : decode cX1_restBound 37 = .ok (.iload_n 1, 1) := by decide +kernel
theorem dX1_restBound_38 : decode cX1_restBound 38 = .ok (.aload_n 0, 1) := by decide +kernel
theorem dX1_restBound_39 : decode cX1_restBound 39 = .ok (.getfield 38, 3) := by decide +kernel
theorem dX1_restBound_42 : decode cX1_restBound 42 = .ok (.iadd, 1) := by decide +kernel
theorem dX1_restBound_43 : decode cX1_restBound 43 = .ok (.invokevirtual 149, 3) := by decide +kernel
theorem dX1_restBound_46 : decode cX1_restBound 46 = .ok (.istore 4, 2) := by decide +kernel
theorem dX1_restBound_48 : decode cX1_restBound 48 = .ok (.iload_n 3, 1) := by decide +kernel
theorem dX1_restBound_49 : decode cX1_restBound 49 = .ok (.ldc 41, 2) := by decide +kernel
theorem dX1_restBound_51 : decode cX1_restBound 51 = .ok (.if_icmp .eq 10, 3) := by decide +kernel
theorem dX1_restBound_54 : decode cX1_restBound 54 = .ok (.iload 4, 2) := by decide +kernel
theorem dX1_restBound_56 : decode cX1_restBound 56 = .ok (.ldc 41, 2) := by decide +kernel
theorem dX1_restBound_58 : decode cX1_restBound 58 = .ok (.if_icmp .ne 14, 3) := by decide +kernel
theorem dX1_restBound_61 : decode cX1_restBound 61 = .ok (.iload_n 2, 1) := by decide +kernel
theorem dX1_restBound_62 : decode cX1_restBound 62 = .ok (.ifCond .ne 7, 3) := by decide +kernel
theorem dX1_restBound_65 : decode cX1_restBound 65 = .ok (.iload_n 3, 1) := by decide +kernel
theorem dX1_restBound_66 : decode cX1_restBound 66 = .ok (.goto 5, 3) := by decide +kernel
theorem dX1_restBound_69 : decode cX1_restBound 69 = .ok (.iload 4, 2) := by decide +kernel
theorem dX1_restBound_71 : decode cX1_restBound 71 = .ok (.ireturn, 1) := by decide +kernel
theorem dX1_restBound_72 : decode cX1_restBound 72 = .ok (.iload_n 2, 1) := by decide +kernel
theorem dX1_restBound_73 : decode cX1_restBound 73 = .ok (.ifCond .ne 12, 3) := by decide +kernel
theorem dX1_restBound_76 : decode cX1_restBound 76 = .ok (.iload_n 3, 1) := by decide +kernel
theorem dX1_restBound_77 : decode cX1_restBound 77 = .ok (.iload 4, 2) := by decide +kernel
theorem dX1_restBound_79 : decode cX1_restBound 79 = .ok (.invokestatic 94, 3) := by decide +kernel
theorem dX1_restBound_82 : decode cX1_restBound 82 = .ok (.goto 9, 3) := by decide +kernel
theorem dX1_restBound_85 : decode cX1_restBound 85 = .ok (.iload_n 3, 1) := by decide +kernel
theorem dX1_restBound_86 : decode cX1_restBound 86 = .ok (.iload 4, 2) := by decide +kernel
theorem dX1_restBound_88 : decode cX1_restBound 88 = .ok (.invokestatic 89, 3) := by decide +kernel
theorem dX1_restBound_91 : decode cX1_restBound 91 = .ok (.ireturn, 1) := by decide +kernel
set_option maxRecDepth 20000 in
theorem ggX1_tellBand_X5_within : GoodIn wsX1_tellBand wsX5_within := goodIn_r _ [5] (by decide +kernel) (by decide +kernel)
set_option maxRecDepth 20000 in
theorem gX1_tellBand_X5_within_n81 : GoodIn wsX1_tellBand (wsX5_within) := ggX1_tellBand_X5_within
set_option maxRecDepth 20000 in
theorem ggX1_tellBand_X0_resistance : GoodIn wsX1_tellBand wsX0_resistance := goodIn_r _ [10, 11, 12, 13, 14, 15, 16, 9, 17, 3, 4, 5, 37, 38] (by decide +kernel) (by decide +kernel)
set_option maxRecDepth 20000 in
theorem gX1_tellBand_X0_resistance : GoodIn wsX1_tellBand (wsV RX1 152 RX0 yX0_resistance wsX0_resistance) := goodIn_app (goodIn_of _ (by decide +kernel)) ggX1_tellBand_X0_resistance
set_option maxRecDepth 20000 in
theorem ggX1_tellBand_X0_howMany : GoodIn wsX1_tellBand wsX0_howMany := goodIn_r _ [21, 12, 11, 15, 16, 9, 17, 3, 4, 5, 37, 38] (by decide +kernel) (by decide +kernel)
set_option maxRecDepth 20000 in
theorem gX1_tellBand_X0_howMany : GoodIn wsX1_tellBand (wsV RX1 155 RX0 yX0_howMany wsX0_howMany) := goodIn_app (goodIn_of _ (by decide +kernel)) ggX1_tellBand_X0_howMany
theorem dX1_tellBand_0 : decode cX1_tellBand 0 = .ok (.iload_n 3, 1) := by decide +kernel
theorem dX1_tellBand_1 : decode cX1_tellBand 1 = .ok (.iconst 0, 1) := by decide +kernel
theorem dX1_tellBand_2 : decode cX1_tellBand 2 = .ok (.iconst 1, 1) := by decide +kernel
theorem dX1_tellBand_3 : decode cX1_tellBand 3 = .ok (.invokestatic 81, 3) := by decide +kernel
theorem dX1_tellBand_6 : decode cX1_tellBand 6 = .ok (.ifCond .ne 6, 3) := by decide +kernel
theorem dX1_tellBand_9 : decode cX1_tellBand 9 = .ok (.ldc 77, 2) := by decide +kernel
theorem dX1_tellBand_11 : decode cX1_tellBand 11 = .ok (.ireturn, 1) := by decide +kernel
theorem dX1_tellBand_12 : decode cX1_tellBand 12 = .ok (.iload_n 3, 1) := by decide +kernel
theorem dX1_tellBand_13 : decode cX1_tellBand 13 = .ok (.ifCond .ne 15, 3) := by decide +kernel
theorem dX1_tellBand_16 : decode cX1_tellBand 16 = .ok (.aload_n 0, 1) := by decide +kernel
theorem dX1_tellBand_17 : decode cX1_tellBand 17 = .ok (.getfield 21, 3) := by decide +kernel
theorem dX1_tellBand_20 : decode cX1_tellBand 20 = .ok (.iload_n 1, 1) := by decide +kernel
theorem dX1_tellBand_21 : decode cX1_tellBand 21 = .ok (.iload_n 2, 1) := by decide +kernel
theorem dX1_tellBand_22 : decode cX1_tellBand 22 = .ok (.invokevirtual 152, 3) := by decide +kernel
theorem dX1_tellBand_25 : decode cX1_tellBand 25 = .ok (.goto 12, 3) := by decide +kernel
theorem dX1_tellBand_28 : decode cX1_tellBand 28 = .ok (.aload_n 0, 1) := by decide +kernel
theorem dX1_tellBand_29 : decode cX1_tellBand 29 = .ok (.getfield 21, 3) := by decide +kernel
theorem dX1_tellBand_32 : decode cX1_tellBand 32 = .ok (.iload_n 1, 1) := by decide +kernel
theorem dX1_tellBand_33 : decode cX1_tellBand 33 = .ok (.iload_n 2, 1) := by decide +kernel
theorem dX1_tellBand_34 : decode cX1_tellBand 34 = .ok (.invokevirtual 155, 3) := by decide +kernel
theorem dX1_tellBand_37 : decode cX1_tellBand 37 = .ok (.ireturn, 1) := by decide +kernel
set_option maxRecDepth 20000 in
theorem ggX1_usedBands_X0_used : GoodIn wsX1_usedBands wsX0_used := goodIn_r _ [6, 7, 23, 24] (by decide +kernel) (by decide +kernel)
set_option maxRecDepth 20000 in
theorem gX1_usedBands_X0_used : GoodIn wsX1_usedBands (wsV RX1 158 RX0 yX0_used wsX0_used) := goodIn_app (goodIn_of _ (by decide +kernel)) ggX1_usedBands_X0_used
theorem dX1_usedBands_0 : decode cX1_usedBands 0 = .ok (.aload_n 0, 1) := by decide +kernel
theorem dX1_usedBands_1 : decode cX1_usedBands 1 = .ok (.getfield 21, 3) := by decide +kernel
theorem dX1_usedBands_4 : decode cX1_usedBands 4 = .ok (.invokevirtual 158, 3) := by decide +kernel
theorem dX1_usedBands_7 : decode cX1_usedBands 7 = .ok (.ireturn, 1) := by decide +kernel
set_option maxRecDepth 20000 in
theorem ggX1_lasting_X5_within : GoodIn wsX1_lasting wsX5_within := goodIn_r _ [8] (by decide +kernel) (by decide +kernel)
set_option maxRecDepth 20000 in
theorem gX1_lasting_X5_within_n81 : GoodIn wsX1_lasting (wsX5_within) := ggX1_lasting_X5_within
theorem dX1_lasting_0 : decode cX1_lasting 0 = .ok (.iload_n 1, 1) := by decide +kernel
theorem dX1_lasting_1 : decode cX1_lasting 1 = .ok (.iconst 1, 1) := by decide +kernel
theorem dX1_lasting_2 : decode cX1_lasting 2 = .ok (.bipush 99, 2) := by decide +kernel
theorem dX1_lasting_4 : decode cX1_lasting 4 = .ok (.invokestatic 81, 3) := by decide +kernel
theorem dX1_lasting_7 : decode cX1_lasting 7 = .ok (.ifCond .eq 12, 3) := by decide +kernel
theorem dX1_lasting_10 : decode cX1_lasting 10 = .ok (.iload_n 2, 1) := by decide +kernel
theorem dX1_lasting_11 : decode cX1_lasting 11 = .ok (.iconst 0, 1) := by decide +kernel
theorem dX1_lasting_12 : decode cX1_lasting 12 = .ok (.iconst 1, 1) := by decide +kernel
theorem dX1_lasting_13 : decode cX1_lasting 13 = .ok (.invokestatic 81, 3) := by decide +kernel
theorem dX1_lasting_16 : decode cX1_lasting 16 = .ok (.ifCond .ne 6, 3) := by decide +kernel
theorem dX1_lasting_19 : decode cX1_lasting 19 = .ok (.ldc 77, 2) := by decide +kernel
theorem dX1_lasting_21 : decode cX1_lasting 21 = .ok (.ireturn, 1) := by decide +kernel
theorem dX1_lasting_22 : decode cX1_lasting 22 = .ok (.iload_n 2, 1) := by decide +kernel
theorem dX1_lasting_23 : decode cX1_lasting 23 = .ok (.ifCond .ne 15, 3) := by decide +kernel
theorem dX1_lasting_26 : decode cX1_lasting 26 = .ok (.aload_n 0, 1) := by decide +kernel
theorem dX1_lasting_27 : decode cX1_lasting 27 = .ok (.getfield 58, 3) := by decide +kernel
theorem dX1_lasting_30 : decode cX1_lasting 30 = .ok (.iload_n 1, 1) := by decide +kernel
theorem dX1_lasting_31 : decode cX1_lasting 31 = .ok (.aload_n 0, 1) := by decide +kernel
theorem dX1_lasting_32 : decode cX1_lasting 32 = .ok (.getfield 35, 3) := by decide +kernel
theorem dX1_lasting_35 : decode cX1_lasting 35 = .ok (.iadd, 1) := by decide +kernel
theorem dX1_lasting_36 : decode cX1_lasting 36 = .ok (.idiv, 1) := by decide +kernel
theorem dX1_lasting_37 : decode cX1_lasting 37 = .ok (.ireturn, 1) := by decide +kernel
theorem dX1_lasting_38 : decode cX1_lasting 38 = .ok (.iload_n 1, 1) := by decide +kernel
theorem dX1_lasting_39 : decode cX1_lasting 39 = .ok (.aload_n 0, 1) := by decide +kernel
theorem dX1_lasting_40 : decode cX1_lasting 40 = .ok (.getfield 35, 3) := by decide +kernel
theorem dX1_lasting_43 : decode cX1_lasting 43 = .ok (.if_icmp .gt 8, 3) := by decide +kernel
theorem dX1_lasting_46 : decode cX1_lasting 46 = .ok (.ldc 41, 2) := by decide +kernel
theorem dX1_lasting_48 : decode cX1_lasting 48 = .ok (.goto 14, 3) := by decide +kernel
theorem dX1_lasting_51 : decode cX1_lasting 51 = .ok (.aload_n 0, 1) := by decide +kernel
theorem dX1_lasting_52 : decode cX1_lasting 52 = .ok (.getfield 25, 3) := by decide +kernel
theorem dX1_lasting_55 : decode cX1_lasting 55 = .ok (.iload_n 1, 1) := by decide +kernel
theorem dX1_lasting_56 : decode cX1_lasting 56 = .ok (.aload_n 0, 1) := by decide +kernel
theorem dX1_lasting_57 : decode cX1_lasting 57 = .ok (.getfield 35, 3) := by decide +kernel
theorem dX1_lasting_60 : decode cX1_lasting 60 = .ok (.isub, 1) := by decide +kernel
theorem dX1_lasting_61 : decode cX1_lasting 61 = .ok (.idiv, 1) := by decide +kernel
theorem dX1_lasting_62 : decode cX1_lasting 62 = .ok (.ireturn, 1) := by decide +kernel
set_option maxRecDepth 20000 in
theorem ggX1_loadedVoltage_X1_isLoad : GoodIn wsX1_loadedVoltage wsX1_isLoad := goodIn_r _ [9, 10, 11, 12] (by decide +kernel) (by decide +kernel)
set_option maxRecDepth 20000 in
theorem gX1_loadedVoltage_X1_isLoad : GoodIn wsX1_loadedVoltage (va_wsS RX1 129 yX1_isLoad wsX1_isLoad) := goodIn_app (goodIn_of _ (by decide +kernel)) ggX1_loadedVoltage_X1_isLoad
set_option maxRecDepth 20000 in
theorem ggX1_loadedVoltage_X1_middle : GoodIn wsX1_loadedVoltage wsX1_middle := goodIn_r _ [16, 17, 18, 19, 20, 21, 22, 23, 24, 50, 51, 52, 53, 54, 55, 56, 57, 58, 59, 60, 61, 62, 63, 64] (by decide +kernel) (by decide +kernel)
set_option maxRecDepth 20000 in
theorem gX1_loadedVoltage_X1_middle : GoodIn wsX1_loadedVoltage (wsV RX1 105 RX1 yX1_middle wsX1_middle) := goodIn_app (goodIn_of _ (by decide +kernel)) ggX1_loadedVoltage_X1_middle
set_option maxRecDepth 20000 in
theorem ggX1_loadedVoltage_X1_signOf : GoodIn wsX1_loadedVoltage wsX1_signOf := goodIn_r _ [27] (by decide +kernel) (by decide +kernel)
set_option maxRecDepth 20000 in
theorem gX1_loadedVoltage_X1_signOf : GoodIn wsX1_loadedVoltage (va_wsS RX1 136 yX1_signOf wsX1_signOf) := goodIn_app (goodIn_of _ (by decide +kernel)) ggX1_loadedVoltage_X1_signOf
set_option maxRecDepth 20000 in
theorem ggX1_loadedVoltage_X1_tenthOf : GoodIn wsX1_loadedVoltage wsX1_tenthOf := goodIn_r _ [30] (by decide +kernel) (by decide +kernel)
set_option maxRecDepth 20000 in
theorem gX1_loadedVoltage_X1_tenthOf : GoodIn wsX1_loadedVoltage (va_wsS RX1 139 yX1_tenthOf wsX1_tenthOf) := goodIn_app (goodIn_of _ (by decide +kernel)) ggX1_loadedVoltage_X1_tenthOf
set_option maxRecDepth 20000 in
theorem ggX1_loadedVoltage_X0_resistance : GoodIn wsX1_loadedVoltage wsX0_resistance := goodIn_r _ [35, 36, 37, 38, 39, 40, 41, 34, 42, 10, 11, 12, 65, 66] (by decide +kernel) (by decide +kernel)
set_option maxRecDepth 20000 in
theorem gX1_loadedVoltage_X0_resistance : GoodIn wsX1_loadedVoltage (wsV RX1 152 RX0 yX0_resistance wsX0_resistance) := goodIn_app (goodIn_of _ (by decide +kernel)) ggX1_loadedVoltage_X0_resistance
set_option maxRecDepth 20000 in
theorem ggX1_loadedVoltage_X2_voltsAt : GoodIn wsX1_loadedVoltage wsX2_voltsAt := goodIn_r _ [47, 48, 49, 67] (by decide +kernel) (by decide +kernel)
set_option maxRecDepth 20000 in
theorem gX1_loadedVoltage_X2_voltsAt : GoodIn wsX1_loadedVoltage (wsV RX1 132 RX2 yX2_voltsAt wsX2_voltsAt) := goodIn_app (goodIn_of _ (by decide +kernel)) ggX1_loadedVoltage_X2_voltsAt
theorem dX1_loadedVoltage_0 : decode cX1_loadedVoltage 0 = .ok (.iload_n 1, 1) := by decide +kernel
theorem dX1_loadedVoltage_1 : decode cX1_loadedVoltage 1 = .ok (.invokestatic 129, 3) := by decide +kernel
theorem dX1_loadedVoltage_4 : decode cX1_loadedVoltage 4 = .ok (.ifCond .ne 6, 3) := by decide +kernel
theorem dX1_loadedVoltage_7 : decode cX1_loadedVoltage 7 = .ok (.ldc 77, 2) := by decide +kernel
theorem dX1_loadedVoltage_9 : decode cX1_loadedVoltage 9 = .ok (.ireturn, 1) := by decide +kernel
theorem dX1_loadedVoltage_10 : decode cX1_loadedVoltage 10 = .ok (.aload_n 0, 1) := by decide +kernel
theorem dX1_loadedVoltage_11 : decode cX1_loadedVoltage 11 = .ok (.invokevirtual 105, 3) := by decide +kernel
theorem dX1_loadedVoltage_14 : decode cX1_loadedVoltage 14 = .ok (.istore_n 2, 1) := by decide +kernel
theorem dX1_loadedVoltage_15 : decode cX1_loadedVoltage 15 = .ok (.aload_n 0, 1) := by decide +kernel
theorem dX1_loadedVoltage_16 : decode cX1_loadedVoltage 16 = .ok (.getfield 21, 3) := by decide +kernel
theorem dX1_loadedVoltage_19 : decode cX1_loadedVoltage 19 = .ok (.iload_n 1, 1) := by decide +kernel
theorem dX1_loadedVoltage_20 : decode cX1_loadedVoltage 20 = .ok (.invokestatic 136, 3) := by decide +kernel
theorem dX1_loadedVoltage_23 : decode cX1_loadedVoltage 23 = .ok (.iload_n 2, 1) := by decide +kernel
theorem dX1_loadedVoltage_24 : decode cX1_loadedVoltage 24 = .ok (.invokestatic 139, 3) := by decide +kernel
theorem dX1_loadedVoltage_27 : decode cX1_loadedVoltage 27 = .ok (.invokevirtual 152, 3) := by decide +kernel
theorem dX1_loadedVoltage_30 : decode cX1_loadedVoltage 30 = .ok (.istore_n 3, 1) := by decide +kernel
theorem dX1_loadedVoltage_31 : decode cX1_loadedVoltage 31 = .ok (.iload_n 3, 1) := by decide +kernel
theorem dX1_loadedVoltage_32 : decode cX1_loadedVoltage 32 = .ok (.ldc 41, 2) := by decide +kernel
theorem dX1_loadedVoltage_34 : decode cX1_loadedVoltage 34 = .ok (.if_icmp .ne 6, 3) := by decide +kernel
theorem dX1_loadedVoltage_37 : decode cX1_loadedVoltage 37 = .ok (.ldc 97, 2) := by decide +kernel
theorem dX1_loadedVoltage_39 : decode cX1_loadedVoltage 39 = .ok (.ireturn, 1) := by decide +kernel
theorem dX1_loadedVoltage_40 : decode cX1_loadedVoltage 40 = .ok (.aload_n 0, 1) := by decide +kernel
theorem dX1_loadedVoltage_41 : decode cX1_loadedVoltage 41 = .ok (.getfield 12, 3) := by decide +kernel
theorem dX1_loadedVoltage_44 : decode cX1_loadedVoltage 44 = .ok (.iload_n 2, 1) := by decide +kernel
theorem dX1_loadedVoltage_45 : decode cX1_loadedVoltage 45 = .ok (.invokevirtual 132, 3) := by decide +kernel
theorem dX1_loadedVoltage_48 : decode cX1_loadedVoltage 48 = .ok (.iload_n 1, 1) := by decide +kernel
theorem dX1_loadedVoltage_49 : decode cX1_loadedVoltage 49 = .ok (.iload_n 3, 1) := by decide +kernel
theorem dX1_loadedVoltage_50 : decode cX1_loadedVoltage 50 = .ok (.imul, 1) := by decide +kernel
theorem dX1_loadedVoltage_51 : decode cX1_loadedVoltage 51 = .ok (.bipush 100, 2) := by decide +kernel
theorem dX1_loadedVoltage_53 : decode cX1_loadedVoltage 53 = .ok (.idiv, 1) := by decide +kernel
theorem dX1_loadedVoltage_54 : decode cX1_loadedVoltage 54 = .ok (.isub, 1) := by decide +kernel
theorem dX1_loadedVoltage_55 : decode cX1_loadedVoltage 55 = .ok (.ireturn, 1) := by decide +kernel
set_option maxRecDepth 20000 in
theorem ggX1_tellSetting_X5_within : GoodIn wsX1_tellSetting wsX5_within := goodIn_r _ [7] (by decide +kernel) (by decide +kernel)
set_option maxRecDepth 20000 in
theorem gX1_tellSetting_X5_within_n81 : GoodIn wsX1_tellSetting (wsX5_within) := ggX1_tellSetting_X5_within
set_option maxRecDepth 20000 in
theorem ggX1_tellSetting_X2_point : GoodIn wsX1_tellSetting wsX2_point := goodIn_r _ [12, 13, 14, 5, 6, 7, 30] (by decide +kernel) (by decide +kernel)
set_option maxRecDepth 20000 in
theorem gX1_tellSetting_X2_point : GoodIn wsX1_tellSetting (wsV RX1 161 RX2 yX2_point wsX2_point) := goodIn_app (goodIn_of _ (by decide +kernel)) ggX1_tellSetting_X2_point
theorem dX1_tellSetting_0 : decode cX1_tellSetting 0 = .ok (.iload_n 1, 1) := by decide +kernel
theorem dX1_tellSetting_1 : decode cX1_tellSetting 1 = .ok (.lookupswitch 37 #[(0, 27), (1, 32)], 27) := by decide +kernel
theorem dX1_tellSetting_28 : decode cX1_tellSetting 28 = .ok (.aload_n 0, 1) := by decide +kernel
theorem dX1_tellSetting_29 : decode cX1_tellSetting 29 = .ok (.getfield 35, 3) := by decide +kernel
theorem dX1_tellSetting_32 : decode cX1_tellSetting 32 = .ok (.ireturn, 1) := by decide +kernel
theorem dX1_tellSetting_33 : decode cX1_tellSetting 33 = .ok (.aload_n 0, 1) := by decide +kernel
theorem dX1_tellSetting_34 : decode cX1_tellSetting 34 = .ok (.getfield 38, 3) := by decide +kernel
theorem dX1_tellSetting_37 : decode cX1_tellSetting 37 = .ok (.ireturn, 1) := by decide +kernel
theorem dX1_tellSetting_38 : decode cX1_tellSetting 38 = .ok (.iload_n 1, 1) := by decide +kernel
theorem dX1_tellSetting_39 : decode cX1_tellSetting 39 = .ok (.iconst 2, 1) := by decide +kernel
theorem dX1_tellSetting_40 : decode cX1_tellSetting 40 = .ok (.bipush 12, 2) := by decide +kernel
theorem dX1_tellSetting_42 : decode cX1_tellSetting 42 = .ok (.invokestatic 81, 3) := by decide +kernel
theorem dX1_tellSetting_45 : decode cX1_tellSetting 45 = .ok (.ifCond .eq 16, 3) := by decide +kernel
theorem dX1_tellSetting_48 : decode cX1_tellSetting 48 = .ok (.aload_n 0, 1) := by decide +kernel
theorem dX1_tellSetting_49 : decode cX1_tellSetting 49 = .ok (.getfield 12, 3) := by decide +kernel
theorem dX1_tellSetting_52 : decode cX1_tellSetting 52 = .ok (.iload_n 1, 1) := by decide +kernel
theorem dX1_tellSetting_53 : decode cX1_tellSetting 53 = .ok (.iconst 2, 1) := by decide +kernel
theorem dX1_tellSetting_54 : decode cX1_tellSetting 54 = .ok (.isub, 1) := by decide +kernel
theorem dX1_tellSetting_55 : decode cX1_tellSetting 55 = .ok (.invokevirtual 161, 3) := by decide +kernel
theorem dX1_tellSetting_58 : decode cX1_tellSetting 58 = .ok (.goto 5, 3) := by decide +kernel
theorem dX1_tellSetting_61 : decode cX1_tellSetting 61 = .ok (.ldc 77, 2) := by decide +kernel
theorem dX1_tellSetting_63 : decode cX1_tellSetting 63 = .ok (.ireturn, 1) := by decide +kernel
theorem dX1_middle_0 : decode cX1_middle 0 = .ok (.aload_n 0, 1) := by decide +kernel
theorem dX1_middle_1 : decode cX1_middle 1 = .ok (.getfield 29, 3) := by decide +kernel
theorem dX1_middle_4 : decode cX1_middle 4 = .ok (.aload_n 0, 1) := by decide +kernel
theorem dX1_middle_5 : decode cX1_middle 5 = .ok (.getfield 32, 3) := by decide +kernel
theorem dX1_middle_8 : decode cX1_middle 8 = .ok (.iadd, 1) := by decide +kernel
theorem dX1_middle_9 : decode cX1_middle 9 = .ok (.istore_n 1, 1) := by decide +kernel
theorem dX1_middle_10 : decode cX1_middle 10 = .ok (.iload_n 1, 1) := by decide +kernel
theorem dX1_middle_11 : decode cX1_middle 11 = .ok (.ifCond .gt 5, 3) := by decide +kernel
theorem dX1_middle_14 : decode cX1_middle 14 = .ok (.iconst 0, 1) := by decide +kernel
theorem dX1_middle_15 : decode cX1_middle 15 = .ok (.ireturn, 1) := by decide +kernel
theorem dX1_middle_16 : decode cX1_middle 16 = .ok (.sipush 1000, 3) := by decide +kernel
theorem dX1_middle_19 : decode cX1_middle 19 = .ok (.aload_n 0, 1) := by decide +kernel
theorem dX1_middle_20 : decode cX1_middle 20 = .ok (.getfield 58, 3) := by decide +kernel
theorem dX1_middle_23 : decode cX1_middle 23 = .ok (.aload_n 0, 1) := by decide +kernel
theorem dX1_middle_24 : decode cX1_middle 24 = .ok (.getfield 25, 3) := by decide +kernel
theorem dX1_middle_27 : decode cX1_middle 27 = .ok (.iadd, 1) := by decide +kernel
theorem dX1_middle_28 : decode cX1_middle 28 = .ok (.imul, 1) := by decide +kernel
theorem dX1_middle_29 : decode cX1_middle 29 = .ok (.iload_n 1, 1) := by decide +kernel
theorem dX1_middle_30 : decode cX1_middle 30 = .ok (.idiv, 1) := by decide +kernel
theorem dX1_middle_31 : decode cX1_middle 31 = .ok (.sipush 1000, 3) := by decide +kernel
theorem dX1_middle_34 : decode cX1_middle 34 = .ok (.invokestatic 94, 3) := by decide +kernel
theorem dX1_middle_37 : decode cX1_middle 37 = .ok (.ireturn, 1) := by decide +kernel
theorem dX1_signOf_0 : decode cX1_signOf 0 = .ok (.iload_n 0, 1) := by decide +kernel
theorem dX1_signOf_1 : decode cX1_signOf 1 = .ok (.ifCond .le 7, 3) := by decide +kernel
theorem dX1_signOf_4 : decode cX1_signOf 4 = .ok (.iconst 0, 1) := by decide +kernel
theorem dX1_signOf_5 : decode cX1_signOf 5 = .ok (.goto 4, 3) := by decide +kernel
theorem dX1_signOf_8 : decode cX1_signOf 8 = .ok (.iconst 1, 1) := by decide +kernel
theorem dX1_signOf_9 : decode cX1_signOf 9 = .ok (.ireturn, 1) := by decide +kernel
theorem dX1_tenthOf_0 : decode cX1_tenthOf 0 = .ok (.iload_n 0, 1) := by decide +kernel
theorem dX1_tenthOf_1 : decode cX1_tenthOf 1 = .ok (.bipush 100, 2) := by decide +kernel
theorem dX1_tenthOf_3 : decode cX1_tenthOf 3 = .ok (.idiv, 1) := by decide +kernel
theorem dX1_tenthOf_4 : decode cX1_tenthOf 4 = .ok (.ireturn, 1) := by decide +kernel
set_option maxRecDepth 20000 in
theorem ggX1_isLoad_X5_within : GoodIn wsX1_isLoad wsX5_within := goodIn_r _ [3] (by decide +kernel) (by decide +kernel)
set_option maxRecDepth 20000 in
theorem gX1_isLoad_X5_within_n81 : GoodIn wsX1_isLoad (wsX5_within) := ggX1_isLoad_X5_within
theorem dX1_isLoad_0 : decode cX1_isLoad 0 = .ok (.iload_n 0, 1) := by decide +kernel
theorem dX1_isLoad_1 : decode cX1_isLoad 1 = .ok (.ifCond .eq 18, 3) := by decide +kernel
theorem dX1_isLoad_4 : decode cX1_isLoad 4 = .ok (.iload_n 0, 1) := by decide +kernel
theorem dX1_isLoad_5 : decode cX1_isLoad 5 = .ok (.bipush (-99), 2) := by decide +kernel
theorem dX1_isLoad_7 : decode cX1_isLoad 7 = .ok (.bipush 99, 2) := by decide +kernel
theorem dX1_isLoad_9 : decode cX1_isLoad 9 = .ok (.invokestatic 81, 3) := by decide +kernel
theorem dX1_isLoad_12 : decode cX1_isLoad 12 = .ok (.ifCond .eq 7, 3) := by decide +kernel
theorem dX1_isLoad_15 : decode cX1_isLoad 15 = .ok (.iconst 1, 1) := by decide +kernel
theorem dX1_isLoad_16 : decode cX1_isLoad 16 = .ok (.goto 4, 3) := by decide +kernel
theorem dX1_isLoad_19 : decode cX1_isLoad 19 = .ok (.iconst 0, 1) := by decide +kernel
theorem dX1_isLoad_20 : decode cX1_isLoad 20 = .ok (.ireturn, 1) := by decide +kernel
set_option maxRecDepth 20000 in
theorem ggX1_isVoltage_X5_within : GoodIn wsX1_isVoltage wsX5_within := goodIn_r _ [3] (by decide +kernel) (by decide +kernel)
set_option maxRecDepth 20000 in
theorem gX1_isVoltage_X5_within_n81 : GoodIn wsX1_isVoltage (wsX5_within) := ggX1_isVoltage_X5_within
theorem dX1_isVoltage_0 : decode cX1_isVoltage 0 = .ok (.iload_n 0, 1) := by decide +kernel
theorem dX1_isVoltage_1 : decode cX1_isVoltage 1 = .ok (.iconst 0, 1) := by decide +kernel
theorem dX1_isVoltage_2 : decode cX1_isVoltage 2 = .ok (.sipush 9999, 3) := by decide +kernel
theorem dX1_isVoltage_5 : decode cX1_isVoltage 5 = .ok (.invokestatic 81, 3) := by decide +kernel
theorem dX1_isVoltage_8 : decode cX1_isVoltage 8 = .ok (.ireturn, 1) := by decide +kernel
set_option maxRecDepth 20000 in
theorem ggX1_isRange_X5_within : GoodIn wsX1_isRange wsX5_within := goodIn_r _ [4] (by decide +kernel) (by decide +kernel)
set_option maxRecDepth 20000 in
theorem gX1_isRange_X5_within_n81 : GoodIn wsX1_isRange (wsX5_within) := ggX1_isRange_X5_within
theorem dX1_isRange_0 : decode cX1_isRange 0 = .ok (.iload_n 0, 1) := by decide +kernel
theorem dX1_isRange_1 : decode cX1_isRange 1 = .ok (.iconst 0, 1) := by decide +kernel
theorem dX1_isRange_2 : decode cX1_isRange 2 = .ok (.ldc 164, 2) := by decide +kernel
theorem dX1_isRange_4 : decode cX1_isRange 4 = .ok (.invokestatic 81, 3) := by decide +kernel
theorem dX1_isRange_7 : decode cX1_isRange 7 = .ok (.ifCond .eq 22, 3) := by decide +kernel
theorem dX1_isRange_10 : decode cX1_isRange 10 = .ok (.iload_n 1, 1) := by decide +kernel
theorem dX1_isRange_11 : decode cX1_isRange 11 = .ok (.iconst 0, 1) := by decide +kernel
theorem dX1_isRange_12 : decode cX1_isRange 12 = .ok (.ldc 164, 2) := by decide +kernel
theorem dX1_isRange_14 : decode cX1_isRange 14 = .ok (.invokestatic 81, 3) := by decide +kernel
theorem dX1_isRange_17 : decode cX1_isRange 17 = .ok (.ifCond .eq 12, 3) := by decide +kernel
theorem dX1_isRange_20 : decode cX1_isRange 20 = .ok (.iload_n 0, 1) := by decide +kernel
theorem dX1_isRange_21 : decode cX1_isRange 21 = .ok (.iload_n 1, 1) := by decide +kernel
theorem dX1_isRange_22 : decode cX1_isRange 22 = .ok (.if_icmp .gt 7, 3) := by decide +kernel
theorem dX1_isRange_25 : decode cX1_isRange 25 = .ok (.iconst 1, 1) := by decide +kernel
theorem dX1_isRange_26 : decode cX1_isRange 26 = .ok (.goto 4, 3) := by decide +kernel
theorem dX1_isRange_29 : decode cX1_isRange 29 = .ok (.iconst 0, 1) := by decide +kernel
theorem dX1_isRange_30 : decode cX1_isRange 30 = .ok (.ireturn, 1) := by decide +kernel
theorem dX2_init_0 : decode cX2_init 0 = .ok (.aload_n 0, 1) := by decide +kernel
theorem dX2_init_1 : decode cX2_init 1 = .ok (.invokespecial 3, 3) := by decide +kernel
theorem dX2_init_4 : decode cX2_init 4 = .ok (.aload_n 0, 1) := by decide +kernel
theorem dX2_init_5 : decode cX2_init 5 = .ok (.bipush 11, 2) := by decide +kernel
theorem dX2_init_7 : decode cX2_init 7 = .ok (.newarray .int, 2) := by decide +kernel
theorem dX2_init_9 : decode cX2_init 9 = .ok (.putfield 11, 3) := by decide +kernel
theorem dX2_init_12 : decode cX2_init 12 = .ok (.iconst 0, 1) := by decide +kernel
theorem dX2_init_13 : decode cX2_init 13 = .ok (.istore_n 1, 1) := by decide +kernel
theorem dX2_init_14 : decode cX2_init 14 = .ok (.iload_n 1, 1) := by decide +kernel
theorem dX2_init_15 : decode cX2_init 15 = .ok (.bipush 11, 2) := by decide +kernel
theorem dX2_init_17 : decode cX2_init 17 = .ok (.if_icmp .ge 23, 3) := by decide +kernel
theorem dX2_init_20 : decode cX2_init 20 = .ok (.aload_n 0, 1) := by decide +kernel
theorem dX2_init_21 : decode cX2_init 21 = .ok (.getfield 11, 3) := by decide +kernel
theorem dX2_init_24 : decode cX2_init 24 = .ok (.iload_n 1, 1) := by decide +kernel
theorem dX2_init_25 : decode cX2_init 25 = .ok (.sipush 3000, 3) := by decide +kernel
theorem dX2_init_28 : decode cX2_init 28 = .ok (.bipush 100, 2) := by decide +kernel
theorem dX2_init_30 : decode cX2_init 30 = .ok (.iload_n 1, 1) := by decide +kernel
theorem dX2_init_31 : decode cX2_init 31 = .ok (.imul, 1) := by decide +kernel
theorem dX2_init_32 : decode cX2_init 32 = .ok (.iadd, 1) := by decide +kernel
theorem dX2_init_33 : decode cX2_init 33 = .ok (.iastore, 1) := by decide +kernel
theorem dX2_init_34 : decode cX2_init 34 = .ok (.iinc 1 1, 3) := by decide +kernel
theorem dX2_init_37 : decode cX2_init 37 = .ok (.goto (-23), 3) := by decide +kernel
theorem dX2_init_40 : decode cX2_init 40 = .ok (.return_, 1) := by decide +kernel
theorem dX2_copyFrom_0 : decode cX2_copyFrom 0 = .ok (.aload_n 1, 1) := by decide +kernel
theorem dX2_copyFrom_1 : decode cX2_copyFrom 1 = .ok (.getfield 11, 3) := by decide +kernel
theorem dX2_copyFrom_4 : decode cX2_copyFrom 4 = .ok (.iconst 0, 1) := by decide +kernel
theorem dX2_copyFrom_5 : decode cX2_copyFrom 5 = .ok (.aload_n 0, 1) := by decide +kernel
theorem dX2_copyFrom_6 : decode cX2_copyFrom 6 = .ok (.getfield 11, 3) := by decide +kernel
theorem dX2_copyFrom_9 : decode cX2_copyFrom 9 = .ok (.iconst 0, 1) := by decide +kernel
theorem dX2_copyFrom_10 : decode cX2_copyFrom 10 = .ok (.bipush 11, 2) := by decide +kernel
theorem dX2_copyFrom_12 : decode cX2_copyFrom 12 = .ok (.invokestatic 15, 3) := by decide +kernel
theorem dX2_copyFrom_15 : decode cX2_copyFrom 15 = .ok (.return_, 1) := by decide +kernel
set_option maxRecDepth 20000 in
theorem ggX2_point_X5_within : GoodIn wsX2_point wsX5_within := goodIn_r _ [5] (by decide +kernel) (by decide +kernel)
set_option maxRecDepth 20000 in
theorem gX2_point_X5_within_n21 : GoodIn wsX2_point (wsX5_within) := ggX2_point_X5_within
theorem dX2_point_0 : decode cX2_point 0 = .ok (.iload_n 1, 1) := by decide +kernel
theorem dX2_point_1 : decode cX2_point 1 = .ok (.iconst 0, 1) := by decide +kernel
theorem dX2_point_2 : decode cX2_point 2 = .ok (.bipush 10, 2) := by decide +kernel
theorem dX2_point_4 : decode cX2_point 4 = .ok (.invokestatic 21, 3) := by decide +kernel
theorem dX2_point_7 : decode cX2_point 7 = .ok (.ifCond .eq 12, 3) := by decide +kernel
theorem dX2_point_10 : decode cX2_point 10 = .ok (.aload_n 0, 1) := by decide +kernel
theorem dX2_point_11 : decode cX2_point 11 = .ok (.getfield 11, 3) := by decide +kernel
theorem dX2_point_14 : decode cX2_point 14 = .ok (.iload_n 1, 1) := by decide +kernel
theorem dX2_point_15 : decode cX2_point 15 = .ok (.iaload, 1) := by decide +kernel
theorem dX2_point_16 : decode cX2_point 16 = .ok (.goto 5, 3) := by decide +kernel
theorem dX2_point_19 : decode cX2_point 19 = .ok (.ldc 25, 2) := by decide +kernel
theorem dX2_point_21 : decode cX2_point 21 = .ok (.ireturn, 1) := by decide +kernel
set_option maxRecDepth 20000 in
theorem ggX2_putPoint_X5_within : GoodIn wsX2_putPoint wsX5_within := goodIn_r _ [6] (by decide +kernel) (by decide +kernel)
set_option maxRecDepth 20000 in
theorem gX2_putPoint_X5_within_n21 : GoodIn wsX2_putPoint (wsX5_within) := ggX2_putPoint_X5_within
theorem dX2_putPoint_0 : decode cX2_putPoint 0 = .ok (.iload_n 1, 1) := by decide +kernel
theorem dX2_putPoint_1 : decode cX2_putPoint 1 = .ok (.iconst 0, 1) := by decide +kernel
theorem dX2_putPoint_2 : decode cX2_putPoint 2 = .ok (.bipush 10, 2) := by decide +kernel
theorem dX2_putPoint_4 : decode cX2_putPoint 4 = .ok (.invokestatic 21, 3) := by decide +kernel
theorem dX2_putPoint_7 : decode cX2_putPoint 7 = .ok (.ifCond .eq 14, 3) := by decide +kernel
theorem dX2_putPoint_10 : decode cX2_putPoint 10 = .ok (.iload_n 2, 1) := by decide +kernel
theorem dX2_putPoint_11 : decode cX2_putPoint 11 = .ok (.iconst 0, 1) := by decide +kernel
theorem dX2_putPoint_12 : decode cX2_putPoint 12 = .ok (.sipush 9999, 3) := by decide +kernel
theorem dX2_putPoint_15 : decode cX2_putPoint 15 = .ok (.invokestatic 21, 3) := by decide +kernel
theorem dX2_putPoint_18 : decode cX2_putPoint 18 = .ok (.ifCond .ne 6, 3) := by decide +kernel
theorem dX2_putPoint_21 : decode cX2_putPoint 21 = .ok (.ldc 25, 2) := by decide +kernel
theorem dX2_putPoint_23 : decode cX2_putPoint 23 = .ok (.ireturn, 1) := by decide +kernel
theorem dX2_putPoint_24 : decode cX2_putPoint 24 = .ok (.iload_n 1, 1) := by decide +kernel
theorem dX2_putPoint_25 : decode cX2_putPoint 25 = .ok (.ifCond .le 15, 3) := by decide +kernel
theorem dX2_putPoint_28 : decode cX2_putPoint 28 = .ok (.aload_n 0, 1) := by decide +kernel
theorem dX2_putPoint_29 : decode cX2_putPoint 29 = .ok (.getfield 11, 3) := by decide +kernel
theorem dX2_putPoint_32 : decode cX2_putPoint 32 = .ok (.iload_n 1, 1) := by decide +kernel
theorem dX2_putPoint_33 : decode cX2_putPoint 33 = .ok (.iconst 1, 1) := by decide +kernel
theorem dX2_putPoint_34 : decode cX2_putPoint 34 = .ok (.isub, 1) := by decide +kernel
theorem dX2_putPoint_35 : decode cX2_putPoint 35 = .ok (.iaload, 1) := by decide +kernel
theorem dX2_putPoint_36 : decode cX2_putPoint 36 = .ok (.iload_n 2, 1) := by decide +kernel
theorem dX2_putPoint_37 : decode cX2_putPoint 37 = .ok (.if_icmp .ge 21, 3) := by decide +kernel
theorem dX2_putPoint_40 : decode cX2_putPoint 40 = .ok (.iload_n 1, 1) := by decide +kernel
theorem dX2_putPoint_41 : decode cX2_putPoint 41 = .ok (.bipush 10, 2) := by decide +kernel
theorem dX2_putPoint_43 : decode cX2_putPoint 43 = .ok (.if_icmp .ge 18, 3) := by decide +kernel
theorem dX2_putPoint_46 : decode cX2_putPoint 46 = .ok (.aload_n 0, 1) := by decide +kernel
theorem dX2_putPoint_47 : decode cX2_putPoint 47 = .ok (.getfield 11, 3) := by decide +kernel
theorem dX2_putPoint_50 : decode cX2_putPoint 50 = .ok (.iload_n 1, 1) := by decide +kernel
theorem dX2_putPoint_51 : decode cX2_putPoint 51 = .ok (.iconst 1, 1) := by decide +kernel
theorem dX2_putPoint_52 : decode cX2_putPoint 52 = .ok (.iadd, 1) := by decide +kernel
theorem dX2_putPoint_53 : decode cX2_putPoint 53 = .ok (.iaload, 1) := by decide +kernel
theorem dX2_putPoint_54 : decode cX2_putPoint 54 = .ok (.iload_n 2, 1) := by decide +kernel
theorem dX2_putPoint_55 : decode cX2_putPoint 55 = .ok (.if_icmp .gt 6, 3) := by decide +kernel
theorem dX2_putPoint_58 : decode cX2_putPoint 58 = .ok (.ldc 26, 2) := by decide +kernel
theorem dX2_putPoint_60 : decode cX2_putPoint 60 = .ok (.ireturn, 1) := by decide +kernel
theorem dX2_putPoint_61 : decode cX2_putPoint 61 = .ok (.aload_n 0, 1) := by decide +kernel
theorem dX2_putPoint_62 : decode cX2_putPoint 62 = .ok (.getfield 11, 3) := by decide +kernel
theorem dX2_putPoint_65 : decode cX2_putPoint 65 = .ok (.iload_n 1, 1) := by decide +kernel
theorem dX2_putPoint_66 : decode cX2_putPoint 66 = .ok (.iaload, 1) := by decide +kernel
theorem dX2_putPoint_67 : decode cX2_putPoint 67 = .ok (.istore_n 3, 1) := by decide +kernel
theorem dX2_putPoint_68 : decode cX2_putPoint 68 = .ok (.aload_n 0, 1) := by decide +kernel
theorem dX2_putPoint_69 : decode cX2_putPoint 69 = .ok (.getfield 11, 3) := by decide +kernel
theorem dX2_putPoint_72 : decode cX2_putPoint 72 = .ok (.iload_n 1, 1) := by decide +kernel
theorem dX2_putPoint_73 : decode cX2_putPoint 73 = .ok (.iload_n 2, 1) := by decide +kernel
theorem dX2_putPoint_74 : decode cX2_putPoint 74 = .ok (.iastore, 1) := by decide +kernel
theorem dX2_putPoint_75 : decode cX2_putPoint 75 = .ok (.iload_n 3, 1) := by decide +kernel
theorem dX2_putPoint_76 : decode cX2_putPoint 76 = .ok (.ireturn, 1) := by decide +kernel
theorem dX2_voltsAt_0 : decode cX2_voltsAt 0 = .ok (.iload_n 1, 1) := by decide +kernel
theorem dX2_voltsAt_1 : decode cX2_voltsAt 1 = .ok (.ifCond .lt 10, 3) := by decide +kernel
theorem dX2_voltsAt_4 : decode cX2_voltsAt 4 = .ok (.iload_n 1, 1) := by decide +kernel
theorem dX2_voltsAt_5 : decode cX2_voltsAt 5 = .ok (.sipush 1000, 3) := by decide +kernel
theorem dX2_voltsAt_8 : decode cX2_voltsAt 8 = .ok (.if_icmp .le 6, 3) := by decide +kernel
theorem dX2_voltsAt_11 : decode cX2_voltsAt 11 = .ok (.ldc 25, 2) := by decide +kernel
theorem dX2_voltsAt_13 : decode cX2_voltsAt 13 = .ok (.ireturn, 1) := by decide +kernel
theorem dX2_voltsAt_14 : decode cX2_voltsAt 14 = .ok (.iload_n 1, 1) := by decide +kernel
theorem dX2_voltsAt_15 : decode cX2_voltsAt 15 = .ok (.sipush 1000, 3) := by decide +kernel
theorem dX2_voltsAt_18 : decode cX2_voltsAt 18 = .ok (.if_icmp .ne 8, 3) := by decide +kernel
theorem dX2_voltsAt_21 : decode cX2_voltsAt 21 = .ok (.bipush 9, 2) := by decide +kernel
theorem dX2_voltsAt_23 : decode cX2_voltsAt 23 = .ok (.goto 7, 3) := by decide +kernel
theorem dX2_voltsAt_26 : decode cX2_voltsAt 26 = .ok (.iload_n 1, 1) := by decide +kernel
theorem dX2_voltsAt_27 : decode cX2_voltsAt 27 = .ok (.bipush 100, 2) := by decide +kernel
theorem dX2_voltsAt_29 : decode cX2_voltsAt 29 = .ok (.idiv, 1) := by decide +kernel
theorem dX2_voltsAt_30 : decode cX2_voltsAt 30 = .ok (.istore_n 2, 1) := by decide +kernel
theorem dX2_voltsAt_31 : decode cX2_voltsAt 31 = .ok (.aload_n 0, 1) := by decide +kernel
theorem dX2_voltsAt_32 : decode cX2_voltsAt 32 = .ok (.getfield 11, 3) := by decide +kernel
theorem dX2_voltsAt_35 : decode cX2_voltsAt 35 = .ok (.iload_n 2, 1) := by decide +kernel
theorem dX2_voltsAt_36 : decode cX2_voltsAt 36 = .ok (.iaload, 1) := by decide +kernel
theorem dX2_voltsAt_37 : decode cX2_voltsAt 37 = .ok (.aload_n 0, 1) := by decide +kernel
theorem dX2_voltsAt_38 : decode cX2_voltsAt 38 = .ok (.getfield 11, 3) := by decide +kernel
theorem dX2_voltsAt_41 : decode cX2_voltsAt 41 = .ok (.iload_n 2, 1) := by decide +kernel
theorem dX2_voltsAt_42 : decode cX2_voltsAt 42 = .ok (.iconst 1, 1) := by decide +kernel
theorem dX2_voltsAt_43 : decode cX2_voltsAt 43 = .ok (.iadd, 1) := by decide +kernel
theorem dX2_voltsAt_44 : decode cX2_voltsAt 44 = .ok (.iaload, 1) := by decide +kernel
theorem dX2_voltsAt_45 : decode cX2_voltsAt 45 = .ok (.aload_n 0, 1) := by decide +kernel
theorem dX2_voltsAt_46 : decode cX2_voltsAt 46 = .ok (.getfield 11, 3) := by decide +kernel
theorem dX2_voltsAt_49 : decode cX2_voltsAt 49 = .ok (.iload_n 2, 1) := by decide +kernel
theorem dX2_voltsAt_50 : decode cX2_voltsAt 50 = .ok (.iaload, 1) := by decide +kernel
theorem dX2_voltsAt_51 : decode cX2_voltsAt 51 = .ok (.isub, 1) := by decide +kernel
theorem dX2_voltsAt_52 : decode cX2_voltsAt 52 = .ok (.iload_n 1, 1) := by decide +kernel
theorem dX2_voltsAt_53 : decode cX2_voltsAt 53 = .ok (.bipush 100, 2) := by decide +kernel
theorem dX2_voltsAt_55 : decode cX2_voltsAt 55 = .ok (.iload_n 2, 1) := by decide +kernel
theorem dX2_voltsAt_56 : decode cX2_voltsAt 56 = .ok (.imul, 1) := by decide +kernel
theorem dX2_voltsAt_57 : decode cX2_voltsAt 57 = .ok (.isub, 1) := by decide +kernel
theorem dX2_voltsAt_58 : decode cX2_voltsAt 58 = .ok (.imul, 1) := by decide +kernel
theorem dX2_voltsAt_59 : decode cX2_voltsAt 59 = .ok (.bipush 100, 2) := by decide +kernel
theorem dX2_voltsAt_61 : decode cX2_voltsAt 61 = .ok (.idiv, 1) := by decide +kernel
theorem dX2_voltsAt_62 : decode cX2_voltsAt 62 = .ok (.iadd, 1) := by decide +kernel
theorem dX2_voltsAt_63 : decode cX2_voltsAt 63 = .ok (.ireturn, 1) := by decide +kernel
set_option maxRecDepth 20000 in
theorem ggX2_leastReaching_X2_placesBelow : GoodIn wsX2_leastReaching wsX2_placesBelow := goodIn_r _ [6, 7, 8, 9, 5, 10, 11, 12, 13] (by decide +kernel) (by decide +kernel)
set_option maxRecDepth 20000 in
theorem gX2_leastReaching_X2_placesBelow : GoodIn wsX2_leastReaching (wsV RX2 27 RX2 yX2_placesBelow wsX2_placesBelow) := goodIn_app (goodIn_of _ (by decide +kernel)) ggX2_leastReaching_X2_placesBelow
theorem dX2_leastReaching_0 : decode cX2_leastReaching 0 = .ok (.aload_n 0, 1) := by decide +kernel
theorem dX2_leastReaching_1 : decode cX2_leastReaching 1 = .ok (.iload_n 1, 1) := by decide +kernel
theorem dX2_leastReaching_2 : decode cX2_leastReaching 2 = .ok (.invokevirtual 27, 3) := by decide +kernel
theorem dX2_leastReaching_5 : decode cX2_leastReaching 5 = .ok (.istore_n 2, 1) := by decide +kernel
theorem dX2_leastReaching_6 : decode cX2_leastReaching 6 = .ok (.iload_n 2, 1) := by decide +kernel
theorem dX2_leastReaching_7 : decode cX2_leastReaching 7 = .ok (.sipush 1000, 3) := by decide +kernel
theorem dX2_leastReaching_10 : decode cX2_leastReaching 10 = .ok (.if_icmp .le 8, 3) := by decide +kernel
theorem dX2_leastReaching_13 : decode cX2_leastReaching 13 = .ok (.ldc 31, 2) := by decide +kernel
theorem dX2_leastReaching_15 : decode cX2_leastReaching 15 = .ok (.goto 4, 3) := by decide +kernel
theorem dX2_leastReaching_18 : decode cX2_leastReaching 18 = .ok (.iload_n 2, 1) := by decide +kernel
theorem dX2_leastReaching_19 : decode cX2_leastReaching 19 = .ok (.ireturn, 1) := by decide +kernel
set_option maxRecDepth 20000 in
theorem ggX2_greatestWithin_X2_placesBelow : GoodIn wsX2_greatestWithin wsX2_placesBelow := goodIn_r _ [6, 7, 8, 9, 5, 10, 11, 12, 13] (by decide +kernel) (by decide +kernel)
set_option maxRecDepth 20000 in
theorem gX2_greatestWithin_X2_placesBelow : GoodIn wsX2_greatestWithin (wsV RX2 27 RX2 yX2_placesBelow wsX2_placesBelow) := goodIn_app (goodIn_of _ (by decide +kernel)) ggX2_greatestWithin_X2_placesBelow
theorem dX2_greatestWithin_0 : decode cX2_greatestWithin 0 = .ok (.aload_n 0, 1) := by decide +kernel
theorem dX2_greatestWithin_1 : decode cX2_greatestWithin 1 = .ok (.iload_n 1, 1) := by decide +kernel
theorem dX2_greatestWithin_2 : decode cX2_greatestWithin 2 = .ok (.iconst 1, 1) := by decide +kernel
theorem dX2_greatestWithin_3 : decode cX2_greatestWithin 3 = .ok (.iadd, 1) := by decide +kernel
theorem dX2_greatestWithin_4 : decode cX2_greatestWithin 4 = .ok (.invokevirtual 27, 3) := by decide +kernel
theorem dX2_greatestWithin_7 : decode cX2_greatestWithin 7 = .ok (.istore_n 2, 1) := by decide +kernel
theorem dX2_greatestWithin_8 : decode cX2_greatestWithin 8 = .ok (.iload_n 2, 1) := by decide +kernel
theorem dX2_greatestWithin_9 : decode cX2_greatestWithin 9 = .ok (.ifCond .ne 8, 3) := by decide +kernel
theorem dX2_greatestWithin_12 : decode cX2_greatestWithin 12 = .ok (.ldc 31, 2) := by decide +kernel
theorem dX2_greatestWithin_14 : decode cX2_greatestWithin 14 = .ok (.goto 6, 3) := by decide +kernel
theorem dX2_greatestWithin_17 : decode cX2_greatestWithin 17 = .ok (.iload_n 2, 1) := by decide +kernel
theorem dX2_greatestWithin_18 : decode cX2_greatestWithin 18 = .ok (.iconst 1, 1) := by decide +kernel
theorem dX2_greatestWithin_19 : decode cX2_greatestWithin 19 = .ok (.isub, 1) := by decide +kernel
theorem dX2_greatestWithin_20 : decode cX2_greatestWithin 20 = .ok (.ireturn, 1) := by decide +kernel
set_option maxRecDepth 20000 in
theorem ggX2_placesBelow_X2_voltsAt : GoodIn wsX2_placesBelow wsX2_voltsAt := goodIn_r _ [5, 6, 7, 8] (by decide +kernel) (by decide +kernel)
set_option maxRecDepth 20000 in
theorem gX2_placesBelow_X2_voltsAt : GoodIn wsX2_placesBelow (wsV RX2 32 RX2 yX2_voltsAt wsX2_voltsAt) := goodIn_app (goodIn_of _ (by decide +kernel)) ggX2_placesBelow_X2_voltsAt
theorem dX2_placesBelow_0 : decode cX2_placesBelow 0 = .ok (.iconst 0, 1) := by decide +kernel
theorem dX2_placesBelow_1 : decode cX2_placesBelow 1 = .ok (.istore_n 2, 1) := by decide +kernel
theorem dX2_placesBelow_2 : decode cX2_placesBelow 2 = .ok (.sipush 512, 3) := by decide +kernel
theorem dX2_placesBelow_5 : decode cX2_placesBelow 5 = .ok (.istore_n 3, 1) := by decide +kernel
theorem dX2_placesBelow_6 : decode cX2_placesBelow 6 = .ok (.iload_n 3, 1) := by decide +kernel
theorem dX2_placesBelow_7 : decode cX2_placesBelow 7 = .ok (.ifCond .le 38, 3) := by decide +kernel
theorem dX2_placesBelow_10 : decode cX2_placesBelow 10 = .ok (.iload_n 2, 1) := by decide +kernel
theorem dX2_placesBelow_11 : decode cX2_placesBelow 11 = .ok (.iload_n 3, 1) := by decide +kernel
theorem dX2_placesBelow_12 : decode cX2_placesBelow 12 = .ok (.iadd, 1) := by decide +kernel
theorem dX2_placesBelow_13 : decode cX2_placesBelow 13 = .ok (.istore 4, 2) := by decide +kernel
theorem dX2_placesBelow_15 : decode cX2_placesBelow 15 = .ok (.iload 4, 2) := by decide +kernel
theorem dX2_placesBelow_17 : decode cX2_placesBelow 17 = .ok (.sipush 1001, 3) := by decide +kernel
theorem dX2_placesBelow_20 : decode cX2_placesBelow 20 = .ok (.if_icmp .gt 18, 3) := by decide +kernel
theorem dX2_placesBelow_23 : decode cX2_placesBelow 23 = .ok (.aload_n 0, 1) := by decide +kernel
theorem dX2_placesBelow_24 : decode cX2_placesBelow 24 = .ok (.iload 4, 2) := by decide +kernel
theorem dX2_placesBelow_26 : decode cX2_placesBelow 26 = .ok (.iconst 1, 1) := by decide +kernel
theorem dX2_placesBelow_27 : decode cX2_placesBelow 27 = .ok (.isub, 1) := by decide +kernel
theorem dX2_placesBelow_28 : decode cX2_placesBelow 28 = .ok (.invokevirtual 32, 3) := by decide +kernel
theorem dX2_placesBelow_31 : decode cX2_placesBelow 31 = .ok (.iload_n 1, 1) := by decide +kernel
theorem dX2_placesBelow_32 : decode cX2_placesBelow 32 = .ok (.if_icmp .ge 6, 3) := by decide +kernel
theorem dX2_placesBelow_35 : decode cX2_placesBelow 35 = .ok (.iload 4, 2) := by decide +kernel
theorem dX2_placesBelow_37 : decode cX2_placesBelow 37 = .ok (.istore_n 2, 1) := by decide +kernel
theorem dX2_placesBelow_38 : decode cX2_placesBelow 38 = .ok (.iload_n 3, 1) := by decide +kernel
theorem dX2_placesBelow_39 : decode cX2_placesBelow 39 = .ok (.iconst 2, 1) := by decide +kernel
theorem dX2_placesBelow_40 : decode cX2_placesBelow 40 = .ok (.idiv, 1) := by decide +kernel
theorem dX2_placesBelow_41 : decode cX2_placesBelow 41 = .ok (.istore_n 3, 1) := by decide +kernel
theorem dX2_placesBelow_42 : decode cX2_placesBelow 42 = .ok (.goto (-36), 3) := by decide +kernel
theorem dX2_placesBelow_45 : decode cX2_placesBelow 45 = .ok (.iload_n 2, 1) := by decide +kernel
theorem dX2_placesBelow_46 : decode cX2_placesBelow 46 = .ok (.ireturn, 1) := by decide +kernel
set_option maxRecDepth 20000 in
theorem ggX3_init_X1_init : GoodIn wsX3_init wsX1_init := goodIn_r _ [10, 11, 2, 3, 12, 13, 14, 15, 16, 17, 18, 19, 20, 21, 22, 23, 24, 25, 26, 27, 28, 29, 30, 31, 32, 33, 34, 35, 36, 37, 38, 39, 40, 41, 60, 45, 46, 47, 48, 49, 50, 51, 52, 53, 54, 55, 56, 57, 58, 59, 61, 62] (by decide +kernel) (by decide +kernel)
set_option maxRecDepth 20000 in
theorem gX3_init_X1_init : GoodIn wsX3_init (wsX1_init) := ggX3_init_X1_init
theorem dX3_init_0 : decode cX3_init 0 = .ok (.aload_n 0, 1) := by decide +kernel
theorem dX3_init_1 : decode cX3_init 1 = .ok (.invokespecial 3, 3) := by decide +kernel
theorem dX3_init_4 : decode cX3_init 4 = .ok (.aload_n 0, 1) := by decide +kernel
theorem dX3_init_5 : decode cX3_init 5 = .ok (.bipush 6, 2) := by decide +kernel
theorem dX3_init_7 : decode cX3_init 7 = .ok (.anewarray 9, 3) := by decide +kernel
theorem dX3_init_10 : decode cX3_init 10 = .ok (.putfield 11, 3) := by decide +kernel
theorem dX3_init_13 : decode cX3_init 13 = .ok (.iconst 0, 1) := by decide +kernel
theorem dX3_init_14 : decode cX3_init 14 = .ok (.istore_n 1, 1) := by decide +kernel
theorem dX3_init_15 : decode cX3_init 15 = .ok (.iload_n 1, 1) := by decide +kernel
theorem dX3_init_16 : decode cX3_init 16 = .ok (.bipush 6, 2) := by decide +kernel
theorem dX3_init_18 : decode cX3_init 18 = .ok (.if_icmp .ge 22, 3) := by decide +kernel
theorem dX3_init_21 : decode cX3_init 21 = .ok (.aload_n 0, 1) := by decide +kernel
theorem dX3_init_22 : decode cX3_init 22 = .ok (.getfield 11, 3) := by decide +kernel
theorem dX3_init_25 : decode cX3_init 25 = .ok (.iload_n 1, 1) := by decide +kernel
theorem dX3_init_26 : decode cX3_init 26 = .ok (.new 9, 3) := by decide +kernel
theorem dX3_init_29 : decode cX3_init 29 = .ok (.dup, 1) := by decide +kernel
theorem dX3_init_30 : decode cX3_init 30 = .ok (.invokespecial 15, 3) := by decide +kernel
theorem dX3_init_33 : decode cX3_init 33 = .ok (.aastore, 1) := by decide +kernel
theorem dX3_init_34 : decode cX3_init 34 = .ok (.iinc 1 1, 3) := by decide +kernel
theorem dX3_init_37 : decode cX3_init 37 = .ok (.goto (-22), 3) := by decide +kernel
theorem dX3_init_40 : decode cX3_init 40 = .ok (.return_, 1) := by decide +kernel
theorem dX3_size_0 : decode cX3_size 0 = .ok (.aload_n 0, 1) := by decide +kernel
theorem dX3_size_1 : decode cX3_size 1 = .ok (.getfield 16, 3) := by decide +kernel
theorem dX3_size_4 : decode cX3_size 4 = .ok (.ireturn, 1) := by decide +kernel
set_option maxRecDepth 20000 in
theorem ggX3_mark_X1_copyFrom : GoodIn wsX3_mark wsX1_copyFrom := goodIn_r _ [7, 8, 9, 10, 11, 12, 13, 14, 15, 16, 17, 18, 19, 20, 21, 22, 23, 24, 25, 26, 27, 28, 29, 30, 31, 32, 33, 34, 35, 36, 37, 38, 39, 40, 44, 45, 46, 47, 48, 49, 50, 51, 52, 53, 54, 55, 56, 57, 58, 59, 60, 61] (by decide +kernel) (by decide +kernel)
set_option maxRecDepth 20000 in
theorem gX3_mark_X1_copyFrom : GoodIn wsX3_mark (wsV RX3 23 RX1 yX1_copyFrom wsX1_copyFrom) := goodIn_app (goodIn_of _ (by decide +kernel)) ggX3_mark_X1_copyFrom
theorem dX3_mark_0 : decode cX3_mark 0 = .ok (.aload_n 0, 1) := by decide +kernel
theorem dX3_mark_1 : decode cX3_mark 1 = .ok (.getfield 11, 3) := by decide +kernel
theorem dX3_mark_4 : decode cX3_mark 4 = .ok (.aload_n 0, 1) := by decide +kernel
theorem dX3_mark_5 : decode cX3_mark 5 = .ok (.getfield 20, 3) := by decide +kernel
theorem dX3_mark_8 : decode cX3_mark 8 = .ok (.aaload, 1) := by decide +kernel
theorem dX3_mark_9 : decode cX3_mark 9 = .ok (.aload_n 1, 1) := by decide +kernel
theorem dX3_mark_10 : decode cX3_mark 10 = .ok (.invokevirtual 23, 3) := by decide +kernel
theorem dX3_mark_13 : decode cX3_mark 13 = .ok (.return_, 1) := by decide +kernel
set_option maxRecDepth 20000 in
theorem ggX3_restoreMarked_X1_copyFrom : GoodIn wsX3_restoreMarked wsX1_copyFrom := goodIn_r _ [7, 8, 9, 10, 11, 12, 13, 14, 15, 16, 17, 18, 19, 20, 21, 22, 23, 24, 25, 26, 27, 28, 29, 30, 31, 32, 33, 34, 35, 36, 37, 38, 39, 40, 44, 45, 46, 47, 48, 49, 50, 51, 52, 53, 54, 55, 56, 57, 58, 59, 60, 61] (by decide +kernel) (by decide +kernel)
set_option maxRecDepth 20000 in
theorem gX3_restoreMarked_X1_copyFrom : GoodIn wsX3_restoreMarked (wsV RX3 23 RX1 yX1_copyFrom wsX1_copyFrom) := goodIn_app (goodIn_of _ (by decide +kernel)) ggX3_restoreMarked_X1_copyFrom
theorem dX3_restoreMarked_0 : decode cX3_restoreMarked 0 = .ok (.aload_n 1, 1) := by decide +kernel
theorem dX3_restoreMarked_1 : decode cX3_restoreMarked 1 = .ok (.aload_n 0, 1) := by decide +kernel
theorem dX3_restoreMarked_2 : decode cX3_restoreMarked 2 = .ok (.getfield 11, 3) := by decide +kernel
theorem dX3_restoreMarked_5 : decode cX3_restoreMarked 5 = .ok (.aload_n 0, 1) := by decide +kernel
theorem dX3_restoreMarked_6 : decode cX3_restoreMarked 6 = .ok (.getfield 20, 3) := by decide +kernel
theorem dX3_restoreMarked_9 : decode cX3_restoreMarked 9 = .ok (.aaload, 1) := by decide +kernel
theorem dX3_restoreMarked_10 : decode cX3_restoreMarked 10 = .ok (.invokevirtual 23, 3) := by decide +kernel
theorem dX3_restoreMarked_13 : decode cX3_restoreMarked 13 = .ok (.return_, 1) := by decide +kernel
theorem dX3_keepMarked_0 : decode cX3_keepMarked 0 = .ok (.aload_n 0, 1) := by decide +kernel
theorem dX3_keepMarked_1 : decode cX3_keepMarked 1 = .ok (.aload_n 0, 1) := by decide +kernel
theorem dX3_keepMarked_2 : decode cX3_keepMarked 2 = .ok (.getfield 20, 3) := by decide +kernel
theorem dX3_keepMarked_5 : decode cX3_keepMarked 5 = .ok (.iconst 1, 1) := by decide +kernel
theorem dX3_keepMarked_6 : decode cX3_keepMarked 6 = .ok (.iadd, 1) := by decide +kernel
theorem dX3_keepMarked_7 : decode cX3_keepMarked 7 = .ok (.bipush 6, 2) := by decide +kernel
theorem dX3_keepMarked_9 : decode cX3_keepMarked 9 = .ok (.irem, 1) := by decide +kernel
theorem dX3_keepMarked_10 : decode cX3_keepMarked 10 = .ok (.putfield 20, 3) := by decide +kernel
theorem dX3_keepMarked_13 : decode cX3_keepMarked 13 = .ok (.aload_n 0, 1) := by decide +kernel
theorem dX3_keepMarked_14 : decode cX3_keepMarked 14 = .ok (.aload_n 0, 1) := by decide +kernel
theorem dX3_keepMarked_15 : decode cX3_keepMarked 15 = .ok (.getfield 16, 3) := by decide +kernel
theorem dX3_keepMarked_18 : decode cX3_keepMarked 18 = .ok (.iconst 1, 1) := by decide +kernel
theorem dX3_keepMarked_19 : decode cX3_keepMarked 19 = .ok (.iadd, 1) := by decide +kernel
theorem dX3_keepMarked_20 : decode cX3_keepMarked 20 = .ok (.iconst 5, 1) := by decide +kernel
theorem dX3_keepMarked_21 : decode cX3_keepMarked 21 = .ok (.invokestatic 27, 3) := by decide +kernel
theorem dX3_keepMarked_24 : decode cX3_keepMarked 24 = .ok (.putfield 16, 3) := by decide +kernel
theorem dX3_keepMarked_27 : decode cX3_keepMarked 27 = .ok (.return_, 1) := by decide +kernel
set_option maxRecDepth 20000 in
theorem ggX3_takeBack_X3_restoreMarked : GoodIn wsX3_takeBack wsX3_restoreMarked := goodIn_r _ [7, 8, 2, 9, 10, 11, 12, 13, 14, 15, 16, 17, 18, 19, 20, 21, 22, 23, 24, 25, 26, 27, 28, 29, 30, 31, 32, 33, 34, 35, 36, 37, 38, 39, 40, 41, 42, 43, 44, 45, 46, 47, 48, 49, 50, 51, 52, 53, 54, 55, 56, 57, 58, 59, 60, 61, 62, 63, 64, 65, 66, 67] (by decide +kernel) (by decide +kernel)
set_option maxRecDepth 20000 in
theorem gX3_takeBack_X3_restoreMarked : GoodIn wsX3_takeBack (wsV RX3 33 RX3 yX3_restoreMarked wsX3_restoreMarked) := goodIn_app (goodIn_of _ (by decide +kernel)) ggX3_takeBack_X3_restoreMarked
theorem dX3_takeBack_0 : decode cX3_takeBack 0 = .ok (.aload_n 0, 1) := by decide +kernel
theorem dX3_takeBack_1 : decode cX3_takeBack 1 = .ok (.getfield 16, 3) := by decide +kernel
theorem dX3_takeBack_4 : decode cX3_takeBack 4 = .ok (.ifCond .le 34, 3) := by decide +kernel
theorem dX3_takeBack_7 : decode cX3_takeBack 7 = .ok (.aload_n 0, 1) := by decide +kernel
theorem dX3_takeBack_8 : decode cX3_takeBack 8 = .ok (.aload_n 0, 1) := by decide +kernel
theorem dX3_takeBack_9 : decode cX3_takeBack 9 = .ok (.getfield 20, 3) := by decide +kernel
theorem dX3_takeBack_12 : decode cX3_takeBack 12 = .ok (.bipush 6, 2) := by decide +kernel
theorem dX3_takeBack_14 : decode cX3_takeBack 14 = .ok (.iadd, 1) := by decide +kernel
theorem dX3_takeBack_15 : decode cX3_takeBack 15 = .ok (.iconst 1, 1) := by decide +kernel
theorem dX3_takeBack_16 : decode cX3_takeBack 16 = .ok (.isub, 1) := by decide +kernel
theorem dX3_takeBack_17 : decode cX3_takeBack 17 = .ok (.bipush 6, 2) := by decide +kernel
theorem dX3_takeBack_19 : decode cX3_takeBack 19 = .ok (.irem, 1) := by decide +kernel
theorem dX3_takeBack_20 : decode cX3_takeBack 20 = .ok (.putfield 20, 3) := by decide +kernel
theorem dX3_takeBack_23 : decode cX3_takeBack 23 = .ok (.aload_n 0, 1) := by decide +kernel
theorem dX3_takeBack_24 : decode cX3_takeBack 24 = .ok (.dup, 1) := by decide +kernel
theorem dX3_takeBack_25 : decode cX3_takeBack 25 = .ok (.getfield 16, 3) := by decide +kernel
theorem dX3_takeBack_28 : decode cX3_takeBack 28 = .ok (.iconst 1, 1) := by decide +kernel
theorem dX3_takeBack_29 : decode cX3_takeBack 29 = .ok (.isub, 1) := by decide +kernel
theorem dX3_takeBack_30 : decode cX3_takeBack 30 = .ok (.putfield 16, 3) := by decide +kernel
theorem dX3_takeBack_33 : decode cX3_takeBack 33 = .ok (.aload_n 0, 1) := by decide +kernel
theorem dX3_takeBack_34 : decode cX3_takeBack 34 = .ok (.aload_n 1, 1) := by decide +kernel
theorem dX3_takeBack_35 : decode cX3_takeBack 35 = .ok (.invokevirtual 33, 3) := by decide +kernel
theorem dX3_takeBack_38 : decode cX3_takeBack 38 = .ok (.return_, 1) := by decide +kernel
theorem dX4_init_0 : decode cX4_init 0 = .ok (.aload_n 0, 1) := by decide +kernel
theorem dX4_init_1 : decode cX4_init 1 = .ok (.invokespecial 5, 3) := by decide +kernel
theorem dX4_init_4 : decode cX4_init 4 = .ok (.aload_n 0, 1) := by decide +kernel
theorem dX4_init_5 : decode cX4_init 5 = .ok (.bipush 120, 2) := by decide +kernel
theorem dX4_init_7 : decode cX4_init 7 = .ok (.newarray .byte, 2) := by decide +kernel
theorem dX4_init_9 : decode cX4_init 9 = .ok (.putfield 11, 3) := by decide +kernel
theorem dX4_init_12 : decode cX4_init 12 = .ok (.aload_n 0, 1) := by decide +kernel
theorem dX4_init_13 : decode cX4_init 13 = .ok (.bipush 40, 2) := by decide +kernel
theorem dX4_init_15 : decode cX4_init 15 = .ok (.newarray .int, 2) := by decide +kernel
theorem dX4_init_17 : decode cX4_init 17 = .ok (.putfield 15, 3) := by decide +kernel
theorem dX4_init_20 : decode cX4_init 20 = .ok (.aload_n 0, 1) := by decide +kernel
theorem dX4_init_21 : decode cX4_init 21 = .ok (.bipush 40, 2) := by decide +kernel
theorem dX4_init_23 : decode cX4_init 23 = .ok (.newarray .int, 2) := by decide +kernel
theorem dX4_init_25 : decode cX4_init 25 = .ok (.putfield 19, 3) := by decide +kernel
theorem dX4_init_28 : decode cX4_init 28 = .ok (.aload_n 0, 1) := by decide +kernel
theorem dX4_init_29 : decode cX4_init 29 = .ok (.bipush 40, 2) := by decide +kernel
theorem dX4_init_31 : decode cX4_init 31 = .ok (.newarray .int, 2) := by decide +kernel
theorem dX4_init_33 : decode cX4_init 33 = .ok (.putfield 22, 3) := by decide +kernel
theorem dX4_init_36 : decode cX4_init 36 = .ok (.return_, 1) := by decide +kernel
theorem dX4_length_0 : decode cX4_length 0 = .ok (.aload_n 0, 1) := by decide +kernel
theorem dX4_length_1 : decode cX4_length 1 = .ok (.getfield 25, 3) := by decide +kernel
theorem dX4_length_4 : decode cX4_length 4 = .ok (.ireturn, 1) := by decide +kernel
set_option maxRecDepth 20000 in
theorem ggX4_append_X5_within : GoodIn wsX4_append wsX5_within := goodIn_r _ [7] (by decide +kernel) (by decide +kernel)
set_option maxRecDepth 20000 in
theorem gX4_append_X5_within_n29 : GoodIn wsX4_append (wsX5_within) := ggX4_append_X5_within
theorem dX4_append_0 : decode cX4_append 0 = .ok (.iload_n 1, 1) := by decide +kernel
theorem dX4_append_1 : decode cX4_append 1 = .ok (.iconst 0, 1) := by decide +kernel
theorem dX4_append_2 : decode cX4_append 2 = .ok (.bipush 127, 2) := by decide +kernel
theorem dX4_append_4 : decode cX4_append 4 = .ok (.invokestatic 29, 3) := by decide +kernel
theorem dX4_append_7 : decode cX4_append 7 = .ok (.ifCond .ne 6, 3) := by decide +kernel
theorem dX4_append_10 : decode cX4_append 10 = .ok (.ldc 33, 2) := by decide +kernel
theorem dX4_append_12 : decode cX4_append 12 = .ok (.ireturn, 1) := by decide +kernel
theorem dX4_append_13 : decode cX4_append 13 = .ok (.aload_n 0, 1) := by decide +kernel
theorem dX4_append_14 : decode cX4_append 14 = .ok (.getfield 25, 3) := by decide +kernel
theorem dX4_append_17 : decode cX4_append 17 = .ok (.bipush 120, 2) := by decide +kernel
theorem dX4_append_19 : decode cX4_append 19 = .ok (.if_icmp .lt 6, 3) := by decide +kernel
theorem dX4_append_22 : decode cX4_append 22 = .ok (.ldc 34, 2) := by decide +kernel
theorem dX4_append_24 : decode cX4_append 24 = .ok (.ireturn, 1) := by decide +kernel
theorem dX4_append_25 : decode cX4_append 25 = .ok (.aload_n 0, 1) := by decide +kernel
theorem dX4_append_26 : decode cX4_append 26 = .ok (.getfield 11, 3) := by decide +kernel
theorem dX4_append_29 : decode cX4_append 29 = .ok (.aload_n 0, 1) := by decide +kernel
theorem dX4_append_30 : decode cX4_append 30 = .ok (.getfield 25, 3) := by decide +kernel
theorem dX4_append_33 : decode cX4_append 33 = .ok (.iload_n 1, 1) := by decide +kernel
theorem dX4_append_34 : decode cX4_append 34 = .ok (.i2b, 1) := by decide +kernel
theorem dX4_append_35 : decode cX4_append 35 = .ok (.bastore, 1) := by decide +kernel
theorem dX4_append_36 : decode cX4_append 36 = .ok (.aload_n 0, 1) := by decide +kernel
theorem dX4_append_37 : decode cX4_append 37 = .ok (.dup, 1) := by decide +kernel
theorem dX4_append_38 : decode cX4_append 38 = .ok (.getfield 25, 3) := by decide +kernel
theorem dX4_append_41 : decode cX4_append 41 = .ok (.iconst 1, 1) := by decide +kernel
theorem dX4_append_42 : decode cX4_append 42 = .ok (.iadd, 1) := by decide +kernel
theorem dX4_append_43 : decode cX4_append 43 = .ok (.putfield 25, 3) := by decide +kernel
theorem dX4_append_46 : decode cX4_append 46 = .ok (.aload_n 0, 1) := by decide +kernel
theorem dX4_append_47 : decode cX4_append 47 = .ok (.getfield 25, 3) := by decide +kernel
theorem dX4_append_50 : decode cX4_append 50 = .ok (.ireturn, 1) := by decide +kernel
theorem dX4_empty_0 : decode cX4_empty 0 = .ok (.aload_n 0, 1) := by decide +kernel
theorem dX4_empty_1 : decode cX4_empty 1 = .ok (.getfield 25, 3) := by decide +kernel
theorem dX4_empty_4 : decode cX4_empty 4 = .ok (.istore_n 1, 1) := by decide +kernel
theorem dX4_empty_5 : decode cX4_empty 5 = .ok (.aload_n 0, 1) := by decide +kernel
theorem dX4_empty_6 : decode cX4_empty 6 = .ok (.iconst 0, 1) := by decide +kernel
theorem dX4_empty_7 : decode cX4_empty 7 = .ok (.putfield 25, 3) := by decide +kernel
theorem dX4_empty_10 : decode cX4_empty 10 = .ok (.iload_n 1, 1) := by decide +kernel
theorem dX4_empty_11 : decode cX4_empty 11 = .ok (.ireturn, 1) := by decide +kernel
theorem dX4_orders_0 : decode cX4_orders 0 = .ok (.aload_n 0, 1) := by decide +kernel
theorem dX4_orders_1 : decode cX4_orders 1 = .ok (.getfield 35, 3) := by decide +kernel
theorem dX4_orders_4 : decode cX4_orders 4 = .ok (.ireturn, 1) := by decide +kernel
theorem dX4_place_0 : decode cX4_place 0 = .ok (.aload_n 0, 1) := by decide +kernel
theorem dX4_place_1 : decode cX4_place 1 = .ok (.getfield 38, 3) := by decide +kernel
theorem dX4_place_4 : decode cX4_place 4 = .ok (.ireturn, 1) := by decide +kernel
set_option maxRecDepth 20000 in
theorem ggX4_kindOf_X5_within : GoodIn wsX4_kindOf wsX5_within := goodIn_r _ [5] (by decide +kernel) (by decide +kernel)
set_option maxRecDepth 20000 in
theorem gX4_kindOf_X5_within_n29 : GoodIn wsX4_kindOf (wsX5_within) := ggX4_kindOf_X5_within
theorem dX4_kindOf_0 : decode cX4_kindOf 0 = .ok (.iload_n 1, 1) := by decide +kernel
theorem dX4_kindOf_1 : decode cX4_kindOf 1 = .ok (.iconst 0, 1) := by decide +kernel
theorem dX4_kindOf_2 : decode cX4_kindOf 2 = .ok (.aload_n 0, 1) := by decide +kernel
theorem dX4_kindOf_3 : decode cX4_kindOf 3 = .ok (.getfield 35, 3) := by decide +kernel
theorem dX4_kindOf_6 : decode cX4_kindOf 6 = .ok (.iconst 1, 1) := by decide +kernel
theorem dX4_kindOf_7 : decode cX4_kindOf 7 = .ok (.isub, 1) := by decide +kernel
theorem dX4_kindOf_8 : decode cX4_kindOf 8 = .ok (.invokestatic 29, 3) := by decide +kernel
theorem dX4_kindOf_11 : decode cX4_kindOf 11 = .ok (.ifCond .eq 12, 3) := by decide +kernel
theorem dX4_kindOf_14 : decode cX4_kindOf 14 = .ok (.aload_n 0, 1) := by decide +kernel
theorem dX4_kindOf_15 : decode cX4_kindOf 15 = .ok (.getfield 15, 3) := by decide +kernel
theorem dX4_kindOf_18 : decode cX4_kindOf 18 = .ok (.iload_n 1, 1) := by decide +kernel
theorem dX4_kindOf_19 : decode cX4_kindOf 19 = .ok (.iaload, 1) := by decide +kernel
theorem dX4_kindOf_20 : decode cX4_kindOf 20 = .ok (.goto 4, 3) := by decide +kernel
theorem dX4_kindOf_23 : decode cX4_kindOf 23 = .ok (.iconst 0, 1) := by decide +kernel
theorem dX4_kindOf_24 : decode cX4_kindOf 24 = .ok (.ireturn, 1) := by decide +kernel
set_option maxRecDepth 20000 in
theorem ggX4_firstOf_X5_within : GoodIn wsX4_firstOf wsX5_within := goodIn_r _ [5] (by decide +kernel) (by decide +kernel)
set_option maxRecDepth 20000 in
theorem gX4_firstOf_X5_within_n29 : GoodIn wsX4_firstOf (wsX5_within) := ggX4_firstOf_X5_within
theorem dX4_firstOf_0 : decode cX4_firstOf 0 = .ok (.iload_n 1, 1) := by decide +kernel
theorem dX4_firstOf_1 : decode cX4_firstOf 1 = .ok (.iconst 0, 1) := by decide +kernel
theorem dX4_firstOf_2 : decode cX4_firstOf 2 = .ok (.aload_n 0, 1) := by decide +kernel
theorem dX4_firstOf_3 : decode cX4_firstOf 3 = .ok (.getfield 35, 3) := by decide +kernel
theorem dX4_firstOf_6 : decode cX4_firstOf 6 = .ok (.iconst 1, 1) := by decide +kernel
theorem dX4_firstOf_7 : decode cX4_firstOf 7 = .ok (.isub, 1) := by decide +kernel
theorem dX4_firstOf_8 : decode cX4_firstOf 8 = .ok (.invokestatic 29, 3) := by decide +kernel
theorem dX4_firstOf_11 : decode cX4_firstOf 11 = .ok (.ifCond .eq 12, 3) := by decide +kernel
theorem dX4_firstOf_14 : decode cX4_firstOf 14 = .ok (.aload_n 0, 1) := by decide +kernel
theorem dX4_firstOf_15 : decode cX4_firstOf 15 = .ok (.getfield 19, 3) := by decide +kernel
theorem dX4_firstOf_18 : decode cX4_firstOf 18 = .ok (.iload_n 1, 1) := by decide +kernel
theorem dX4_firstOf_19 : decode cX4_firstOf 19 = .ok (.iaload, 1) := by decide +kernel
theorem dX4_firstOf_20 : decode cX4_firstOf 20 = .ok (.goto 4, 3) := by decide +kernel
theorem dX4_firstOf_23 : decode cX4_firstOf 23 = .ok (.iconst 0, 1) := by decide +kernel
theorem dX4_firstOf_24 : decode cX4_firstOf 24 = .ok (.ireturn, 1) := by decide +kernel
set_option maxRecDepth 20000 in
theorem ggX4_secondOf_X5_within : GoodIn wsX4_secondOf wsX5_within := goodIn_r _ [5] (by decide +kernel) (by decide +kernel)
set_option maxRecDepth 20000 in
theorem gX4_secondOf_X5_within_n29 : GoodIn wsX4_secondOf (wsX5_within) := ggX4_secondOf_X5_within
theorem dX4_secondOf_0 : decode cX4_secondOf 0 = .ok (.iload_n 1, 1) := by decide +kernel
theorem dX4_secondOf_1 : decode cX4_secondOf 1 = .ok (.iconst 0, 1) := by decide +kernel
theorem dX4_secondOf_2 : decode cX4_secondOf 2 = .ok (.aload_n 0, 1) := by decide +kernel
theorem dX4_secondOf_3 : decode cX4_secondOf 3 = .ok (.getfield 35, 3) := by decide +kernel
theorem dX4_secondOf_6 : decode cX4_secondOf 6 = .ok (.iconst 1, 1) := by decide +kernel
theorem dX4_secondOf_7 : decode cX4_secondOf 7 = .ok (.isub, 1) := by decide +kernel
theorem dX4_secondOf_8 : decode cX4_secondOf 8 = .ok (.invokestatic 29, 3) := by decide +kernel
theorem dX4_secondOf_11 : decode cX4_secondOf 11 = .ok (.ifCond .eq 12, 3) := by decide +kernel
theorem dX4_secondOf_14 : decode cX4_secondOf 14 = .ok (.aload_n 0, 1) := by decide +kernel
theorem dX4_secondOf_15 : decode cX4_secondOf 15 = .ok (.getfield 22, 3) := by decide +kernel
theorem dX4_secondOf_18 : decode cX4_secondOf 18 = .ok (.iload_n 1, 1) := by decide +kernel
theorem dX4_secondOf_19 : decode cX4_secondOf 19 = .ok (.iaload, 1) := by decide +kernel
theorem dX4_secondOf_20 : decode cX4_secondOf 20 = .ok (.goto 4, 3) := by decide +kernel
theorem dX4_secondOf_23 : decode cX4_secondOf 23 = .ok (.iconst 0, 1) := by decide +kernel
theorem dX4_secondOf_24 : decode cX4_secondOf 24 = .ok (.ireturn, 1) := by decide +kernel
set_option maxRecDepth 20000 in
theorem ggX4_read_X4_skipBlanks : GoodIn wsX4_read wsX4_skipBlanks := goodIn_r _ [8, 1, 3, 9, 10, 11, 7, 12, 13, 35, 36, 37, 38, 39, 40, 41, 42] (by decide +kernel) (by decide +kernel)
set_option maxRecDepth 20000 in
theorem gX4_read_X4_skipBlanks : GoodIn wsX4_read (wsV RX4 41 RX4 yX4_skipBlanks wsX4_skipBlanks) := goodIn_app (goodIn_of _ (by decide +kernel)) ggX4_read_X4_skipBlanks
set_option maxRecDepth 20000 in
theorem ggX4_read_X4_readOrder : GoodIn wsX4_read wsX4_readOrder := goodIn_r _ [17, 2, 1, 18, 19, 20, 21, 9, 10, 11, 7, 12, 3, 13, 22, 23, 24, 25, 26, 27, 28, 29, 30, 31, 4, 5, 6, 8, 32, 33, 34, 35, 36, 37, 38, 39, 40, 41, 42] (by decide +kernel) (by decide +kernel)
set_option maxRecDepth 20000 in
theorem gX4_read_X4_readOrder : GoodIn wsX4_read (wsV RX4 44 RX4 yX4_readOrder wsX4_readOrder) := goodIn_app (goodIn_of _ (by decide +kernel)) ggX4_read_X4_readOrder
theorem dX4_read_0 : decode cX4_read 0 = .ok (.aload_n 0, 1) := by decide +kernel
theorem dX4_read_1 : decode cX4_read 1 = .ok (.iconst 0, 1) := by decide +kernel
theorem dX4_read_2 : decode cX4_read 2 = .ok (.putfield 38, 3) := by decide +kernel
theorem dX4_read_5 : decode cX4_read 5 = .ok (.aload_n 0, 1) := by decide +kernel
theorem dX4_read_6 : decode cX4_read 6 = .ok (.iconst 0, 1) := by decide +kernel
theorem dX4_read_7 : decode cX4_read 7 = .ok (.putfield 35, 3) := by decide +kernel
theorem dX4_read_10 : decode cX4_read 10 = .ok (.aload_n 0, 1) := by decide +kernel
theorem dX4_read_11 : decode cX4_read 11 = .ok (.invokevirtual 41, 3) := by decide +kernel
theorem dX4_read_14 : decode cX4_read 14 = .ok (.iconst 0, 1) := by decide +kernel
theorem dX4_read_15 : decode cX4_read 15 = .ok (.istore_n 1, 1) := by decide +kernel
theorem dX4_read_16 : decode cX4_read 16 = .ok (.iload_n 1, 1) := by decide +kernel
theorem dX4_read_17 : decode cX4_read 17 = .ok (.bipush 40, 2) := by decide +kernel
theorem dX4_read_19 : decode cX4_read 19 = .ok (.if_icmp .ge 33, 3) := by decide +kernel
theorem dX4_read_22 : decode cX4_read 22 = .ok (.aload_n 0, 1) := by decide +kernel
theorem dX4_read_23 : decode cX4_read 23 = .ok (.getfield 38, 3) := by decide +kernel
theorem dX4_read_26 : decode cX4_read 26 = .ok (.aload_n 0, 1) := by decide +kernel
theorem dX4_read_27 : decode cX4_read 27 = .ok (.getfield 25, 3) := by decide +kernel
theorem dX4_read_30 : decode cX4_read 30 = .ok (.if_icmp .ge 22, 3) := by decide +kernel
theorem dX4_read_33 : decode cX4_read 33 = .ok (.aload_n 0, 1) := by decide +kernel
theorem dX4_read_34 : decode cX4_read 34 = .ok (.invokevirtual 44, 3) := by decide +kernel
end
section
theorem dX4_read_37 : decode cX4_read 37 = .ok (.ifCond .ne 5, 3) := by decide +kernel
theorem dX4_read_40 : decode cX4_read 40 = .ok (.iconst 0, 1) := by decide +kernel
theorem dX4_read_41 : decode cX4_read 41 = .ok (.ireturn, 1) := by decide +kernel
theorem dX4_read_42 : decode cX4_read 42 = .ok (.aload_n 0, 1) := by decide +kernel
theorem dX4_read_43 : decode cX4_read 43 = .ok (.invokevirtual 41, 3) := by decide +kernel
theorem dX4_read_46 : decode cX4_read 46 = .ok (.iinc 1 1, 3) := by decide +kernel
theorem dX4_read_49 : decode cX4_read 49 = .ok (.goto (-33), 3) := by decide +kernel
theorem dX4_read_52 : decode cX4_read 52 = .ok (.aload_n 0, 1) := by decide +kernel
theorem dX4_read_53 : decode cX4_read 53 = .ok (.getfield 35, 3) := by decide +kernel
theorem dX4_read_56 : decode cX4_read 56 = .ok (.ifCond .le 18, 3) := by decide +kernel
theorem dX4_read_59 : decode cX4_read 59 = .ok (.aload_n 0, 1) := by decide +kernel
theorem dX4_read_60 : decode cX4_read 60 = .ok (.getfield 38, 3) := by decide +kernel
theorem dX4_read_63 : decode cX4_read 63 = .ok (.aload_n 0, 1) := by decide +kernel
theorem dX4_read_64 : decode cX4_read 64 = .ok (.getfield 25, 3) := by decide +kernel
theorem dX4_read_67 : decode cX4_read 67 = .ok (.if_icmp .lt 7, 3) := by decide +kernel
theorem dX4_read_70 : decode cX4_read 70 = .ok (.iconst 1, 1) := by decide +kernel
theorem dX4_read_71 : decode cX4_read 71 = .ok (.goto 4, 3) := by decide +kernel
theorem dX4_read_74 : decode cX4_read 74 = .ok (.iconst 0, 1) := by decide +kernel
theorem dX4_read_75 : decode cX4_read 75 = .ok (.ireturn, 1) := by decide +kernel
set_option maxRecDepth 20000 in
theorem ggX4_readOrder_X4_here : GoodIn wsX4_readOrder wsX4_here := goodIn_r _ [11, 2, 12, 13, 31, 32, 33, 34, 35, 36, 37, 38] (by decide +kernel) (by decide +kernel)
set_option maxRecDepth 20000 in
theorem gX4_readOrder_X4_here : GoodIn wsX4_readOrder (wsV RX4 48 RX4 yX4_here wsX4_here) := goodIn_app (goodIn_of _ (by decide +kernel)) ggX4_readOrder_X4_here
set_option maxRecDepth 20000 in
theorem ggX4_readOrder_X4_isKind : GoodIn wsX4_readOrder wsX4_isKind := goodIn_r _ [16, 17, 18, 10, 19] (by decide +kernel) (by decide +kernel)
set_option maxRecDepth 20000 in
theorem gX4_readOrder_X4_isKind : GoodIn wsX4_readOrder (va_wsS RX4 52 yX4_isKind wsX4_isKind) := goodIn_app (goodIn_of _ (by decide +kernel)) ggX4_readOrder_X4_isKind
set_option maxRecDepth 20000 in
theorem ggX4_readOrder_X4_readNumber : GoodIn wsX4_readOrder wsX4_readNumber := goodIn_r _ [23, 2, 3, 24, 25, 26, 10, 27, 12, 7, 8, 9, 11, 13, 28, 29, 30, 31, 32, 33, 34, 35, 36, 37, 38] (by decide +kernel) (by decide +kernel)
set_option maxRecDepth 20000 in
theorem gX4_readOrder_X4_readNumber : GoodIn wsX4_readOrder (wsV RX4 56 RX4 yX4_readNumber wsX4_readNumber) := goodIn_app (goodIn_of _ (by decide +kernel)) ggX4_readOrder_X4_readNumber
set_option maxRecDepth 20000 in
theorem ggX4_readOrder_X4_hasSecond : GoodIn wsX4_readOrder wsX4_hasSecond := goodIn_r _ [19] (by decide +kernel) (by decide +kernel)
set_option maxRecDepth 20000 in
theorem gX4_readOrder_X4_hasSecond : GoodIn wsX4_readOrder (va_wsS RX4 63 yX4_hasSecond wsX4_hasSecond) := goodIn_app (goodIn_of _ (by decide +kernel)) ggX4_readOrder_X4_hasSecond
set_option maxRecDepth 20000 in
theorem ggX4_readOrder_X4_skipBlanks : GoodIn wsX4_readOrder wsX4_skipBlanks := goodIn_r _ [27, 2, 12, 7, 8, 9, 10, 11, 13, 31, 32, 33, 34, 35, 36, 37, 38] (by decide +kernel) (by decide +kernel)
set_option maxRecDepth 20000 in
theorem gX4_readOrder_X4_skipBlanks : GoodIn wsX4_readOrder (wsV RX4 41 RX4 yX4_skipBlanks wsX4_skipBlanks) := goodIn_app (goodIn_of _ (by decide +kernel)) ggX4_readOrder_X4_skipBlanks
theorem dX4_readOrder_0 : decode cX4_readOrder 0 = .ok (.aload_n 0, 1) := by decide +kernel
theorem dX4_readOrder_1 : decode cX4_readOrder 1 = .ok (.invokevirtual 48, 3) := by decide +kernel
theorem dX4_readOrder_4 : decode cX4_readOrder 4 = .ok (.istore_n 1, 1) := by decide +kernel
theorem dX4_readOrder_5 : decode cX4_readOrder 5 = .ok (.iload_n 1, 1) := by decide +kernel
theorem dX4_readOrder_6 : decode cX4_readOrder 6 = .ok (.invokestatic 52, 3) := by decide +kernel
theorem dX4_readOrder_9 : decode cX4_readOrder 9 = .ok (.ifCond .eq 12, 3) := by decide +kernel
theorem dX4_readOrder_12 : decode cX4_readOrder 12 = .ok (.aload_n 0, 1) := by decide +kernel
theorem dX4_readOrder_13 : decode cX4_readOrder 13 = .ok (.getfield 35, 3) := by decide +kernel
theorem dX4_readOrder_16 : decode cX4_readOrder 16 = .ok (.bipush 40, 2) := by decide +kernel
theorem dX4_readOrder_18 : decode cX4_readOrder 18 = .ok (.if_icmp .lt 5, 3) := by decide +kernel
theorem dX4_readOrder_21 : decode cX4_readOrder 21 = .ok (.iconst 0, 1) := by decide +kernel
theorem dX4_readOrder_22 : decode cX4_readOrder 22 = .ok (.ireturn, 1) := by decide +kernel
theorem dX4_readOrder_23 : decode cX4_readOrder 23 = .ok (.aload_n 0, 1) := by decide +kernel
theorem dX4_readOrder_24 : decode cX4_readOrder 24 = .ok (.dup, 1) := by decide +kernel
theorem dX4_readOrder_25 : decode cX4_readOrder 25 = .ok (.getfield 38, 3) := by decide +kernel
theorem dX4_readOrder_28 : decode cX4_readOrder 28 = .ok (.iconst 1, 1) := by decide +kernel
theorem dX4_readOrder_29 : decode cX4_readOrder 29 = .ok (.iadd, 1) := by decide +kernel
theorem dX4_readOrder_30 : decode cX4_readOrder 30 = .ok (.putfield 38, 3) := by decide +kernel
theorem dX4_readOrder_33 : decode cX4_readOrder 33 = .ok (.aload_n 0, 1) := by decide +kernel
theorem dX4_readOrder_34 : decode cX4_readOrder 34 = .ok (.iload_n 1, 1) := by decide +kernel
theorem dX4_readOrder_35 : decode cX4_readOrder 35 = .ok (.bipush 112, 2) := by decide +kernel
theorem dX4_readOrder_37 : decode cX4_readOrder 37 = .ok (.if_icmp .eq 9, 3) := by decide +kernel
theorem dX4_readOrder_40 : decode cX4_readOrder 40 = .ok (.iload_n 1, 1) := by decide +kernel
theorem dX4_readOrder_41 : decode cX4_readOrder 41 = .ok (.bipush 108, 2) := by decide +kernel
theorem dX4_readOrder_43 : decode cX4_readOrder 43 = .ok (.if_icmp .ne 7, 3) := by decide +kernel
theorem dX4_readOrder_46 : decode cX4_readOrder 46 = .ok (.iconst 1, 1) := by decide +kernel
theorem dX4_readOrder_47 : decode cX4_readOrder 47 = .ok (.goto 4, 3) := by decide +kernel
theorem dX4_readOrder_50 : decode cX4_readOrder 50 = .ok (.iconst 0, 1) := by decide +kernel
theorem dX4_readOrder_51 : decode cX4_readOrder 51 = .ok (.invokevirtual 56, 3) := by decide +kernel
theorem dX4_readOrder_54 : decode cX4_readOrder 54 = .ok (.ifCond .ne 5, 3) := by decide +kernel
theorem dX4_readOrder_57 : decode cX4_readOrder 57 = .ok (.iconst 0, 1) := by decide +kernel
theorem dX4_readOrder_58 : decode cX4_readOrder 58 = .ok (.ireturn, 1) := by decide +kernel
theorem dX4_readOrder_59 : decode cX4_readOrder 59 = .ok (.aload_n 0, 1) := by decide +kernel
theorem dX4_readOrder_60 : decode cX4_readOrder 60 = .ok (.getfield 60, 3) := by decide +kernel
theorem dX4_readOrder_63 : decode cX4_readOrder 63 = .ok (.istore_n 2, 1) := by decide +kernel
theorem dX4_readOrder_64 : decode cX4_readOrder 64 = .ok (.iload_n 1, 1) := by decide +kernel
theorem dX4_readOrder_65 : decode cX4_readOrder 65 = .ok (.invokestatic 63, 3) := by decide +kernel
theorem dX4_readOrder_68 : decode cX4_readOrder 68 = .ok (.ifCond .eq 13, 3) := by decide +kernel
theorem dX4_readOrder_71 : decode cX4_readOrder 71 = .ok (.aload_n 0, 1) := by decide +kernel
theorem dX4_readOrder_72 : decode cX4_readOrder 72 = .ok (.iconst 0, 1) := by decide +kernel
theorem dX4_readOrder_73 : decode cX4_readOrder 73 = .ok (.invokevirtual 56, 3) := by decide +kernel
theorem dX4_readOrder_76 : decode cX4_readOrder 76 = .ok (.ifCond .ne 5, 3) := by decide +kernel
theorem dX4_readOrder_79 : decode cX4_readOrder 79 = .ok (.iconst 0, 1) := by decide +kernel
theorem dX4_readOrder_80 : decode cX4_readOrder 80 = .ok (.ireturn, 1) := by decide +kernel
theorem dX4_readOrder_81 : decode cX4_readOrder 81 = .ok (.aload_n 0, 1) := by decide +kernel
theorem dX4_readOrder_82 : decode cX4_readOrder 82 = .ok (.invokevirtual 41, 3) := by decide +kernel
theorem dX4_readOrder_85 : decode cX4_readOrder 85 = .ok (.aload_n 0, 1) := by decide +kernel
theorem dX4_readOrder_86 : decode cX4_readOrder 86 = .ok (.invokevirtual 48, 3) := by decide +kernel
theorem dX4_readOrder_89 : decode cX4_readOrder 89 = .ok (.bipush 59, 2) := by decide +kernel
theorem dX4_readOrder_91 : decode cX4_readOrder 91 = .ok (.if_icmp .eq 5, 3) := by decide +kernel
theorem dX4_readOrder_94 : decode cX4_readOrder 94 = .ok (.iconst 0, 1) := by decide +kernel
theorem dX4_readOrder_95 : decode cX4_readOrder 95 = .ok (.ireturn, 1) := by decide +kernel
theorem dX4_readOrder_96 : decode cX4_readOrder 96 = .ok (.aload_n 0, 1) := by decide +kernel
theorem dX4_readOrder_97 : decode cX4_readOrder 97 = .ok (.dup, 1) := by decide +kernel
theorem dX4_readOrder_98 : decode cX4_readOrder 98 = .ok (.getfield 38, 3) := by decide +kernel
theorem dX4_readOrder_101 : decode cX4_readOrder 101 = .ok (.iconst 1, 1) := by decide +kernel
theorem dX4_readOrder_102 : decode cX4_readOrder 102 = .ok (.iadd, 1) := by decide +kernel
theorem dX4_readOrder_103 : decode cX4_readOrder 103 = .ok (.putfield 38, 3) := by decide +kernel
theorem dX4_readOrder_106 : decode cX4_readOrder 106 = .ok (.aload_n 0, 1) := by decide +kernel
theorem dX4_readOrder_107 : decode cX4_readOrder 107 = .ok (.getfield 15, 3) := by decide +kernel
theorem dX4_readOrder_110 : decode cX4_readOrder 110 = .ok (.aload_n 0, 1) := by decide +kernel
theorem dX4_readOrder_111 : decode cX4_readOrder 111 = .ok (.getfield 35, 3) := by decide +kernel
theorem dX4_readOrder_114 : decode cX4_readOrder 114 = .ok (.iload_n 1, 1) := by decide +kernel
theorem dX4_readOrder_115 : decode cX4_readOrder 115 = .ok (.iastore, 1) := by decide +kernel
theorem dX4_readOrder_116 : decode cX4_readOrder 116 = .ok (.aload_n 0, 1) := by decide +kernel
theorem dX4_readOrder_117 : decode cX4_readOrder 117 = .ok (.getfield 19, 3) := by decide +kernel
theorem dX4_readOrder_120 : decode cX4_readOrder 120 = .ok (.aload_n 0, 1) := by decide +kernel
theorem dX4_readOrder_121 : decode cX4_readOrder 121 = .ok (.getfield 35, 3) := by decide +kernel
theorem dX4_readOrder_124 : decode cX4_readOrder 124 = .ok (.iload_n 2, 1) := by decide +kernel
theorem dX4_readOrder_125 : decode cX4_readOrder 125 = .ok (.iastore, 1) := by decide +kernel
theorem dX4_readOrder_126 : decode cX4_readOrder 126 = .ok (.aload_n 0, 1) := by decide +kernel
theorem dX4_readOrder_127 : decode cX4_readOrder 127 = .ok (.getfield 22, 3) := by decide +kernel
theorem dX4_readOrder_130 : decode cX4_readOrder 130 = .ok (.aload_n 0, 1) := by decide +kernel
theorem dX4_readOrder_131 : decode cX4_readOrder 131 = .ok (.getfield 35, 3) := by decide +kernel
theorem dX4_readOrder_134 : decode cX4_readOrder 134 = .ok (.aload_n 0, 1) := by decide +kernel
theorem dX4_readOrder_135 : decode cX4_readOrder 135 = .ok (.getfield 60, 3) := by decide +kernel
theorem dX4_readOrder_138 : decode cX4_readOrder 138 = .ok (.iastore, 1) := by decide +kernel
theorem dX4_readOrder_139 : decode cX4_readOrder 139 = .ok (.aload_n 0, 1) := by decide +kernel
theorem dX4_readOrder_140 : decode cX4_readOrder 140 = .ok (.dup, 1) := by decide +kernel
theorem dX4_readOrder_141 : decode cX4_readOrder 141 = .ok (.getfield 35, 3) := by decide +kernel
theorem dX4_readOrder_144 : decode cX4_readOrder 144 = .ok (.iconst 1, 1) := by decide +kernel
theorem dX4_readOrder_145 : decode cX4_readOrder 145 = .ok (.iadd, 1) := by decide +kernel
theorem dX4_readOrder_146 : decode cX4_readOrder 146 = .ok (.putfield 35, 3) := by decide +kernel
theorem dX4_readOrder_149 : decode cX4_readOrder 149 = .ok (.iconst 1, 1) := by decide +kernel
theorem dX4_readOrder_150 : decode cX4_readOrder 150 = .ok (.ireturn, 1) := by decide +kernel
set_option maxRecDepth 20000 in
theorem ggX4_readNumber_X4_skipBlanks : GoodIn wsX4_readNumber wsX4_skipBlanks := goodIn_r _ [7, 1, 8, 9, 10, 11, 6, 12, 13, 17, 18, 19, 20, 21, 22, 23, 24] (by decide +kernel) (by decide +kernel)
set_option maxRecDepth 20000 in
theorem gX4_readNumber_X4_skipBlanks : GoodIn wsX4_readNumber (wsV RX4 41 RX4 yX4_skipBlanks wsX4_skipBlanks) := goodIn_app (goodIn_of _ (by decide +kernel)) ggX4_readNumber_X4_skipBlanks
set_option maxRecDepth 20000 in
theorem ggX4_readNumber_X4_here : GoodIn wsX4_readNumber wsX4_here := goodIn_r _ [12, 1, 8, 13, 17, 18, 19, 20, 21, 22, 23, 24] (by decide +kernel) (by decide +kernel)
set_option maxRecDepth 20000 in
theorem gX4_readNumber_X4_here : GoodIn wsX4_readNumber (wsV RX4 48 RX4 yX4_here wsX4_here) := goodIn_app (goodIn_of _ (by decide +kernel)) ggX4_readNumber_X4_here
set_option maxRecDepth 20000 in
theorem ggX4_readNumber_X4_isFigure : GoodIn wsX4_readNumber wsX4_isFigure := goodIn_r _ [16] (by decide +kernel) (by decide +kernel)
set_option maxRecDepth 20000 in
theorem gX4_readNumber_X4_isFigure : GoodIn wsX4_readNumber (va_wsS RX4 66 yX4_isFigure wsX4_isFigure) := goodIn_app (goodIn_of _ (by decide +kernel)) ggX4_readNumber_X4_isFigure
theorem dX4_readNumber_0 : decode cX4_readNumber 0 = .ok (.aload_n 0, 1) := by decide +kernel
theorem dX4_readNumber_1 : decode cX4_readNumber 1 = .ok (.invokevirtual 41, 3) := by decide +kernel
theorem dX4_readNumber_4 : decode cX4_readNumber 4 = .ok (.iload_n 1, 1) := by decide +kernel
theorem dX4_readNumber_5 : decode cX4_readNumber 5 = .ok (.ifCond .eq 16, 3) := by decide +kernel
theorem dX4_readNumber_8 : decode cX4_readNumber 8 = .ok (.aload_n 0, 1) := by decide +kernel
theorem dX4_readNumber_9 : decode cX4_readNumber 9 = .ok (.invokevirtual 48, 3) := by decide +kernel
theorem dX4_readNumber_12 : decode cX4_readNumber 12 = .ok (.bipush 45, 2) := by decide +kernel
theorem dX4_readNumber_14 : decode cX4_readNumber 14 = .ok (.if_icmp .ne 7, 3) := by decide +kernel
theorem dX4_readNumber_17 : decode cX4_readNumber 17 = .ok (.iconst 1, 1) := by decide +kernel
theorem dX4_readNumber_18 : decode cX4_readNumber 18 = .ok (.goto 4, 3) := by decide +kernel
theorem dX4_readNumber_21 : decode cX4_readNumber 21 = .ok (.iconst 0, 1) := by decide +kernel
theorem dX4_readNumber_22 : decode cX4_readNumber 22 = .ok (.istore_n 2, 1) := by decide +kernel
theorem dX4_readNumber_23 : decode cX4_readNumber 23 = .ok (.iload_n 2, 1) := by decide +kernel
theorem dX4_readNumber_24 : decode cX4_readNumber 24 = .ok (.ifCond .eq 13, 3) := by decide +kernel
theorem dX4_readNumber_27 : decode cX4_readNumber 27 = .ok (.aload_n 0, 1) := by decide +kernel
theorem dX4_readNumber_28 : decode cX4_readNumber 28 = .ok (.dup, 1) := by decide +kernel
theorem dX4_readNumber_29 : decode cX4_readNumber 29 = .ok (.getfield 38, 3) := by decide +kernel
theorem dX4_readNumber_32 : decode cX4_readNumber 32 = .ok (.iconst 1, 1) := by decide +kernel
theorem dX4_readNumber_33 : decode cX4_readNumber 33 = .ok (.iadd, 1) := by decide +kernel
theorem dX4_readNumber_34 : decode cX4_readNumber 34 = .ok (.putfield 38, 3) := by decide +kernel
theorem dX4_readNumber_37 : decode cX4_readNumber 37 = .ok (.aload_n 0, 1) := by decide +kernel
theorem dX4_readNumber_38 : decode cX4_readNumber 38 = .ok (.invokevirtual 48, 3) := by decide +kernel
theorem dX4_readNumber_41 : decode cX4_readNumber 41 = .ok (.invokestatic 66, 3) := by decide +kernel
theorem dX4_readNumber_44 : decode cX4_readNumber 44 = .ok (.ifCond .ne 5, 3) := by decide +kernel
theorem dX4_readNumber_47 : decode cX4_readNumber 47 = .ok (.iconst 0, 1) := by decide +kernel
theorem dX4_readNumber_48 : decode cX4_readNumber 48 = .ok (.ireturn, 1) := by decide +kernel
theorem dX4_readNumber_49 : decode cX4_readNumber 49 = .ok (.iconst 0, 1) := by decide +kernel
theorem dX4_readNumber_50 : decode cX4_readNumber 50 = .ok (.istore_n 3, 1) := by decide +kernel
theorem dX4_readNumber_51 : decode cX4_readNumber 51 = .ok (.iconst 0, 1) := by decide +kernel
theorem dX4_readNumber_52 : decode cX4_readNumber 52 = .ok (.istore 4, 2) := by decide +kernel
theorem dX4_readNumber_54 : decode cX4_readNumber 54 = .ok (.iload 4, 2) := by decide +kernel
theorem dX4_readNumber_56 : decode cX4_readNumber 56 = .ok (.iconst 4, 1) := by decide +kernel
theorem dX4_readNumber_57 : decode cX4_readNumber 57 = .ok (.if_icmp .ge 42, 3) := by decide +kernel
theorem dX4_readNumber_60 : decode cX4_readNumber 60 = .ok (.aload_n 0, 1) := by decide +kernel
theorem dX4_readNumber_61 : decode cX4_readNumber 61 = .ok (.invokevirtual 48, 3) := by decide +kernel
theorem dX4_readNumber_64 : decode cX4_readNumber 64 = .ok (.invokestatic 66, 3) := by decide +kernel
theorem dX4_readNumber_67 : decode cX4_readNumber 67 = .ok (.ifCond .eq 32, 3) := by decide +kernel
theorem dX4_readNumber_70 : decode cX4_readNumber 70 = .ok (.bipush 10, 2) := by decide +kernel
theorem dX4_readNumber_72 : decode cX4_readNumber 72 = .ok (.iload_n 3, 1) := by decide +kernel
theorem dX4_readNumber_73 : decode cX4_readNumber 73 = .ok (.imul, 1) := by decide +kernel
theorem dX4_readNumber_74 : decode cX4_readNumber 74 = .ok (.aload_n 0, 1) := by decide +kernel
theorem dX4_readNumber_75 : decode cX4_readNumber 75 = .ok (.invokevirtual 48, 3) := by decide +kernel
theorem dX4_readNumber_78 : decode cX4_readNumber 78 = .ok (.iadd, 1) := by decide +kernel
theorem dX4_readNumber_79 : decode cX4_readNumber 79 = .ok (.bipush 48, 2) := by decide +kernel
theorem dX4_readNumber_81 : decode cX4_readNumber 81 = .ok (.isub, 1) := by decide +kernel
theorem dX4_readNumber_82 : decode cX4_readNumber 82 = .ok (.istore_n 3, 1) := by decide +kernel
theorem dX4_readNumber_83 : decode cX4_readNumber 83 = .ok (.aload_n 0, 1) := by decide +kernel
theorem dX4_readNumber_84 : decode cX4_readNumber 84 = .ok (.dup, 1) := by decide +kernel
theorem dX4_readNumber_85 : decode cX4_readNumber 85 = .ok (.getfield 38, 3) := by decide +kernel
theorem dX4_readNumber_88 : decode cX4_readNumber 88 = .ok (.iconst 1, 1) := by decide +kernel
theorem dX4_readNumber_89 : decode cX4_readNumber 89 = .ok (.iadd, 1) := by decide +kernel
theorem dX4_readNumber_90 : decode cX4_readNumber 90 = .ok (.putfield 38, 3) := by decide +kernel
theorem dX4_readNumber_93 : decode cX4_readNumber 93 = .ok (.iinc 4 1, 3) := by decide +kernel
theorem dX4_readNumber_96 : decode cX4_readNumber 96 = .ok (.goto (-42), 3) := by decide +kernel
theorem dX4_readNumber_99 : decode cX4_readNumber 99 = .ok (.aload_n 0, 1) := by decide +kernel
theorem dX4_readNumber_100 : decode cX4_readNumber 100 = .ok (.iload_n 2, 1) := by decide +kernel
theorem dX4_readNumber_101 : decode cX4_readNumber 101 = .ok (.ifCond .eq 8, 3) := by decide +kernel
theorem dX4_readNumber_104 : decode cX4_readNumber 104 = .ok (.iload_n 3, 1) := by decide +kernel
theorem dX4_readNumber_105 : decode cX4_readNumber 105 = .ok (.ineg, 1) := by decide +kernel
theorem dX4_readNumber_106 : decode cX4_readNumber 106 = .ok (.goto 4, 3) := by decide +kernel
theorem dX4_readNumber_109 : decode cX4_readNumber 109 = .ok (.iload_n 3, 1) := by decide +kernel
theorem dX4_readNumber_110 : decode cX4_readNumber 110 = .ok (.putfield 60, 3) := by decide +kernel
theorem dX4_readNumber_113 : decode cX4_readNumber 113 = .ok (.aload_n 0, 1) := by decide +kernel
theorem dX4_readNumber_114 : decode cX4_readNumber 114 = .ok (.invokevirtual 48, 3) := by decide +kernel
theorem dX4_readNumber_117 : decode cX4_readNumber 117 = .ok (.invokestatic 66, 3) := by decide +kernel
theorem dX4_readNumber_120 : decode cX4_readNumber 120 = .ok (.ifCond .ne 7, 3) := by decide +kernel
theorem dX4_readNumber_123 : decode cX4_readNumber 123 = .ok (.iconst 1, 1) := by decide +kernel
theorem dX4_readNumber_124 : decode cX4_readNumber 124 = .ok (.goto 4, 3) := by decide +kernel
theorem dX4_readNumber_127 : decode cX4_readNumber 127 = .ok (.iconst 0, 1) := by decide +kernel
theorem dX4_readNumber_128 : decode cX4_readNumber 128 = .ok (.ireturn, 1) := by decide +kernel
set_option maxRecDepth 20000 in
theorem ggX4_skipBlanks_X4_here : GoodIn wsX4_skipBlanks wsX4_here := goodIn_r _ [7, 1, 2, 8, 9, 10, 11, 12, 13, 14, 15, 16] (by decide +kernel) (by decide +kernel)
set_option maxRecDepth 20000 in
theorem gX4_skipBlanks_X4_here : GoodIn wsX4_skipBlanks (wsV RX4 48 RX4 yX4_here wsX4_here) := goodIn_app (goodIn_of _ (by decide +kernel)) ggX4_skipBlanks_X4_here
theorem dX4_skipBlanks_0 : decode cX4_skipBlanks 0 = .ok (.aload_n 0, 1) := by decide +kernel
theorem dX4_skipBlanks_1 : decode cX4_skipBlanks 1 = .ok (.getfield 38, 3) := by decide +kernel
theorem dX4_skipBlanks_4 : decode cX4_skipBlanks 4 = .ok (.aload_n 0, 1) := by decide +kernel
theorem dX4_skipBlanks_5 : decode cX4_skipBlanks 5 = .ok (.getfield 25, 3) := by decide +kernel
theorem dX4_skipBlanks_8 : decode cX4_skipBlanks 8 = .ok (.if_icmp .ge 25, 3) := by decide +kernel
theorem dX4_skipBlanks_11 : decode cX4_skipBlanks 11 = .ok (.aload_n 0, 1) := by decide +kernel
theorem dX4_skipBlanks_12 : decode cX4_skipBlanks 12 = .ok (.invokevirtual 48, 3) := by decide +kernel
theorem dX4_skipBlanks_15 : decode cX4_skipBlanks 15 = .ok (.bipush 32, 2) := by decide +kernel
theorem dX4_skipBlanks_17 : decode cX4_skipBlanks 17 = .ok (.if_icmp .ne 16, 3) := by decide +kernel
theorem dX4_skipBlanks_20 : decode cX4_skipBlanks 20 = .ok (.aload_n 0, 1) := by decide +kernel
theorem dX4_skipBlanks_21 : decode cX4_skipBlanks 21 = .ok (.dup, 1) := by decide +kernel
theorem dX4_skipBlanks_22 : decode cX4_skipBlanks 22 = .ok (.getfield 38, 3) := by decide +kernel
theorem dX4_skipBlanks_25 : decode cX4_skipBlanks 25 = .ok (.iconst 1, 1) := by decide +kernel
theorem dX4_skipBlanks_26 : decode cX4_skipBlanks 26 = .ok (.iadd, 1) := by decide +kernel
theorem dX4_skipBlanks_27 : decode cX4_skipBlanks 27 = .ok (.putfield 38, 3) := by decide +kernel
theorem dX4_skipBlanks_30 : decode cX4_skipBlanks 30 = .ok (.goto (-30), 3) := by decide +kernel
theorem dX4_skipBlanks_33 : decode cX4_skipBlanks 33 = .ok (.return_, 1) := by decide +kernel
theorem dX4_here_0 : decode cX4_here 0 = .ok (.aload_n 0, 1) := by decide +kernel
theorem dX4_here_1 : decode cX4_here 1 = .ok (.getfield 38, 3) := by decide +kernel
theorem dX4_here_4 : decode cX4_here 4 = .ok (.aload_n 0, 1) := by decide +kernel
theorem dX4_here_5 : decode cX4_here 5 = .ok (.getfield 25, 3) := by decide +kernel
theorem dX4_here_8 : decode cX4_here 8 = .ok (.if_icmp .ge 15, 3) := by decide +kernel
theorem dX4_here_11 : decode cX4_here 11 = .ok (.aload_n 0, 1) := by decide +kernel
theorem dX4_here_12 : decode cX4_here 12 = .ok (.getfield 11, 3) := by decide +kernel
theorem dX4_here_15 : decode cX4_here 15 = .ok (.aload_n 0, 1) := by decide +kernel
theorem dX4_here_16 : decode cX4_here 16 = .ok (.getfield 38, 3) := by decide +kernel
theorem dX4_here_19 : decode cX4_here 19 = .ok (.baload, 1) := by decide +kernel
theorem dX4_here_20 : decode cX4_here 20 = .ok (.goto 4, 3) := by decide +kernel
theorem dX4_here_23 : decode cX4_here 23 = .ok (.iconst (-1), 1) := by decide +kernel
theorem dX4_here_24 : decode cX4_here 24 = .ok (.ireturn, 1) := by decide +kernel
set_option maxRecDepth 20000 in
theorem ggX4_isKind_X4_hasSecond : GoodIn wsX4_isKind wsX4_hasSecond := goodIn_r _ [4] (by decide +kernel) (by decide +kernel)
set_option maxRecDepth 20000 in
theorem gX4_isKind_X4_hasSecond : GoodIn wsX4_isKind (va_wsS RX4 63 yX4_hasSecond wsX4_hasSecond) := goodIn_app (goodIn_of _ (by decide +kernel)) ggX4_isKind_X4_hasSecond
theorem dX4_isKind_0 : decode cX4_isKind 0 = .ok (.iload_n 0, 1) := by decide +kernel
theorem dX4_isKind_1 : decode cX4_isKind 1 = .ok (.bipush 114, 2) := by decide +kernel
theorem dX4_isKind_3 : decode cX4_isKind 3 = .ok (.if_icmp .eq 22, 3) := by decide +kernel
theorem dX4_isKind_6 : decode cX4_isKind 6 = .ok (.iload_n 0, 1) := by decide +kernel
theorem dX4_isKind_7 : decode cX4_isKind 7 = .ok (.bipush 111, 2) := by decide +kernel
theorem dX4_isKind_9 : decode cX4_isKind 9 = .ok (.if_icmp .eq 16, 3) := by decide +kernel
theorem dX4_isKind_12 : decode cX4_isKind 12 = .ok (.iload_n 0, 1) := by decide +kernel
theorem dX4_isKind_13 : decode cX4_isKind 13 = .ok (.bipush 103, 2) := by decide +kernel
theorem dX4_isKind_15 : decode cX4_isKind 15 = .ok (.if_icmp .eq 10, 3) := by decide +kernel
theorem dX4_isKind_18 : decode cX4_isKind 18 = .ok (.iload_n 0, 1) := by decide +kernel
theorem dX4_isKind_19 : decode cX4_isKind 19 = .ok (.invokestatic 63, 3) := by decide +kernel
theorem dX4_isKind_22 : decode cX4_isKind 22 = .ok (.ifCond .eq 7, 3) := by decide +kernel
theorem dX4_isKind_25 : decode cX4_isKind 25 = .ok (.iconst 1, 1) := by decide +kernel
theorem dX4_isKind_26 : decode cX4_isKind 26 = .ok (.goto 4, 3) := by decide +kernel
theorem dX4_isKind_29 : decode cX4_isKind 29 = .ok (.iconst 0, 1) := by decide +kernel
theorem dX4_isKind_30 : decode cX4_isKind 30 = .ok (.ireturn, 1) := by decide +kernel
theorem dX4_hasSecond_0 : decode cX4_hasSecond 0 = .ok (.iload_n 0, 1) := by decide +kernel
theorem dX4_hasSecond_1 : decode cX4_hasSecond 1 = .ok (.bipush 112, 2) := by decide +kernel
theorem dX4_hasSecond_3 : decode cX4_hasSecond 3 = .ok (.if_icmp .eq 15, 3) := by decide +kernel
theorem dX4_hasSecond_6 : decode cX4_hasSecond 6 = .ok (.iload_n 0, 1) := by decide +kernel
theorem dX4_hasSecond_7 : decode cX4_hasSecond 7 = .ok (.bipush 108, 2) := by decide +kernel
theorem dX4_hasSecond_9 : decode cX4_hasSecond 9 = .ok (.if_icmp .eq 9, 3) := by decide +kernel
theorem dX4_hasSecond_12 : decode cX4_hasSecond 12 = .ok (.iload_n 0, 1) := by decide +kernel
theorem dX4_hasSecond_13 : decode cX4_hasSecond 13 = .ok (.bipush 99, 2) := by decide +kernel
theorem dX4_hasSecond_15 : decode cX4_hasSecond 15 = .ok (.if_icmp .ne 7, 3) := by decide +kernel
theorem dX4_hasSecond_18 : decode cX4_hasSecond 18 = .ok (.iconst 1, 1) := by decide +kernel
theorem dX4_hasSecond_19 : decode cX4_hasSecond 19 = .ok (.goto 4, 3) := by decide +kernel
theorem dX4_hasSecond_22 : decode cX4_hasSecond 22 = .ok (.iconst 0, 1) := by decide +kernel
theorem dX4_hasSecond_23 : decode cX4_hasSecond 23 = .ok (.ireturn, 1) := by decide +kernel
theorem dX4_isFigure_0 : decode cX4_isFigure 0 = .ok (.iload_n 0, 1) := by decide +kernel
theorem dX4_isFigure_1 : decode cX4_isFigure 1 = .ok (.bipush 48, 2) := by decide +kernel
theorem dX4_isFigure_3 : decode cX4_isFigure 3 = .ok (.if_icmp .lt 13, 3) := by decide +kernel
theorem dX4_isFigure_6 : decode cX4_isFigure 6 = .ok (.iload_n 0, 1) := by decide +kernel
theorem dX4_isFigure_7 : decode cX4_isFigure 7 = .ok (.bipush 57, 2) := by decide +kernel
theorem dX4_isFigure_9 : decode cX4_isFigure 9 = .ok (.if_icmp .gt 7, 3) := by decide +kernel
theorem dX4_isFigure_12 : decode cX4_isFigure 12 = .ok (.iconst 1, 1) := by decide +kernel
theorem dX4_isFigure_13 : decode cX4_isFigure 13 = .ok (.goto 4, 3) := by decide +kernel
theorem dX4_isFigure_16 : decode cX4_isFigure 16 = .ok (.iconst 0, 1) := by decide +kernel
theorem dX4_isFigure_17 : decode cX4_isFigure 17 = .ok (.ireturn, 1) := by decide +kernel
set_option maxRecDepth 20000 in
theorem ggX5_init_X1_init : GoodIn wsX5_init wsX1_init := goodIn_r _ [18, 19, 2, 3, 20, 21, 22, 23, 24, 25, 26, 27, 28, 29, 30, 31, 32, 33, 34, 35, 36, 37, 38, 39, 40, 41, 42, 43, 44, 45, 46, 47, 48, 49, 98, 66, 67, 68, 69, 70, 71, 72, 73, 74, 75, 76, 77, 78, 79, 80, 99, 100] (by decide +kernel) (by decide +kernel)
set_option maxRecDepth 20000 in
theorem gX5_init_X1_init : GoodIn wsX5_init (wsX1_init) := ggX5_init_X1_init
set_option maxRecDepth 20000 in
theorem ggX5_init_X3_init : GoodIn wsX5_init wsX3_init := goodIn_r _ [52, 53, 2, 3, 54, 55, 5, 6, 56, 17, 18, 19, 20, 21, 22, 23, 24, 25, 26, 27, 28, 29, 30, 31, 32, 33, 34, 35, 36, 37, 38, 39, 40, 41, 42, 43, 44, 45, 46, 47, 48, 49, 87, 88, 89, 66, 67, 68, 69, 70, 71, 72, 73, 74, 75, 76, 77, 78, 79, 80, 98, 99, 100] (by decide +kernel) (by decide +kernel)
set_option maxRecDepth 20000 in
theorem gX5_init_X3_init : GoodIn wsX5_init (wsX3_init) := ggX5_init_X3_init
set_option maxRecDepth 20000 in
theorem ggX5_init_X4_init : GoodIn wsX5_init wsX4_init := goodIn_r _ [59, 60, 2, 3, 61, 62, 41, 63, 64, 65, 90, 91, 92, 93, 94, 95, 96, 97] (by decide +kernel) (by decide +kernel)
set_option maxRecDepth 20000 in
theorem gX5_init_X4_init : GoodIn wsX5_init (wsX4_init) := ggX5_init_X4_init
theorem dX5_init_0 : decode cX5_init 0 = .ok (.aload_n 0, 1) := by decide +kernel
theorem dX5_init_1 : decode cX5_init 1 = .ok (.invokespecial 1, 3) := by decide +kernel
theorem dX5_init_4 : decode cX5_init 4 = .ok (.aload_n 0, 1) := by decide +kernel
theorem dX5_init_5 : decode cX5_init 5 = .ok (.new 7, 3) := by decide +kernel
theorem dX5_init_8 : decode cX5_init 8 = .ok (.dup, 1) := by decide +kernel
theorem dX5_init_9 : decode cX5_init 9 = .ok (.invokespecial 9, 3) := by decide +kernel
theorem dX5_init_12 : decode cX5_init 12 = .ok (.putfield 10, 3) := by decide +kernel
theorem dX5_init_15 : decode cX5_init 15 = .ok (.aload_n 0, 1) := by decide +kernel
theorem dX5_init_16 : decode cX5_init 16 = .ok (.new 16, 3) := by decide +kernel
theorem dX5_init_19 : decode cX5_init 19 = .ok (.dup, 1) := by decide +kernel
theorem dX5_init_20 : decode cX5_init 20 = .ok (.invokespecial 18, 3) := by decide +kernel
theorem dX5_init_23 : decode cX5_init 23 = .ok (.putfield 19, 3) := by decide +kernel
theorem dX5_init_26 : decode cX5_init 26 = .ok (.aload_n 0, 1) := by decide +kernel
theorem dX5_init_27 : decode cX5_init 27 = .ok (.new 23, 3) := by decide +kernel
theorem dX5_init_30 : decode cX5_init 30 = .ok (.dup, 1) := by decide +kernel
theorem dX5_init_31 : decode cX5_init 31 = .ok (.invokespecial 25, 3) := by decide +kernel
theorem dX5_init_34 : decode cX5_init 34 = .ok (.putfield 26, 3) := by decide +kernel
theorem dX5_init_37 : decode cX5_init 37 = .ok (.return_, 1) := by decide +kernel
set_option maxRecDepth 20000 in
theorem ggX5_begins_X3_mark : GoodIn wsX5_begins wsX3_mark := goodIn_r _ [7, 8, 9, 10, 11, 12, 13, 14, 15, 16, 17, 18, 19, 20, 21, 22, 23, 24, 25, 26, 27, 28, 29, 30, 31, 32, 33, 34, 35, 36, 37, 38, 39, 40, 41, 42, 43, 44, 45, 46, 47, 97, 98, 99, 100, 101, 102, 103, 104, 105, 106, 107, 108, 109, 110, 111, 112, 113, 114, 115, 116, 117] (by decide +kernel) (by decide +kernel)
set_option maxRecDepth 20000 in
theorem gX5_begins_X3_mark : GoodIn wsX5_begins (wsV RX5 30 RX3 yX3_mark wsX3_mark) := goodIn_app (goodIn_of _ (by decide +kernel)) ggX5_begins_X3_mark
set_option maxRecDepth 20000 in
theorem ggX5_begins_X1_begin : GoodIn wsX5_begins wsX1_begin := goodIn_r _ [51, 52, 19, 20, 17, 18, 23, 24, 25, 53, 26, 27, 28, 29, 16, 54, 55, 13, 56, 57, 58, 59, 60, 61, 62, 63, 43, 64, 45, 47, 100, 101, 102, 103, 104, 105, 106, 107, 108, 109, 110, 111, 112, 113, 114, 116, 117] (by decide +kernel) (by decide +kernel)
set_option maxRecDepth 20000 in
theorem gX5_begins_X1_begin : GoodIn wsX5_begins (wsV RX5 34 RX1 yX1_begin wsX1_begin) := goodIn_app (goodIn_of _ (by decide +kernel)) ggX5_begins_X1_begin
set_option maxRecDepth 20000 in
theorem ggX5_begins_X5_settled : GoodIn wsX5_begins wsX5_settled := goodIn_r _ [68, 1, 69, 70, 59, 71, 72, 73, 74, 75, 76, 77, 6, 78, 9, 79, 80, 81, 82, 83, 84, 85, 86, 87, 88, 89, 90, 91, 92, 93, 94, 95, 96, 97, 98, 99] (by decide +kernel) (by decide +kernel)
set_option maxRecDepth 20000 in
theorem gX5_begins_X5_settled : GoodIn wsX5_begins (wsV RX5 38 RX5 yX5_settled wsX5_settled) := goodIn_app (goodIn_of _ (by decide +kernel)) ggX5_begins_X5_settled
theorem dX5_begins_0 : decode cX5_begins 0 = .ok (.aload_n 0, 1) := by decide +kernel
theorem dX5_begins_1 : decode cX5_begins 1 = .ok (.getfield 19, 3) := by decide +kernel
theorem dX5_begins_4 : decode cX5_begins 4 = .ok (.aload_n 0, 1) := by decide +kernel
theorem dX5_begins_5 : decode cX5_begins 5 = .ok (.getfield 10, 3) := by decide +kernel
theorem dX5_begins_8 : decode cX5_begins 8 = .ok (.invokevirtual 30, 3) := by decide +kernel
theorem dX5_begins_11 : decode cX5_begins 11 = .ok (.aload_n 0, 1) := by decide +kernel
theorem dX5_begins_12 : decode cX5_begins 12 = .ok (.aload_n 0, 1) := by decide +kernel
theorem dX5_begins_13 : decode cX5_begins 13 = .ok (.getfield 10, 3) := by decide +kernel
theorem dX5_begins_16 : decode cX5_begins 16 = .ok (.iload_n 1, 1) := by decide +kernel
theorem dX5_begins_17 : decode cX5_begins 17 = .ok (.iload_n 2, 1) := by decide +kernel
theorem dX5_begins_18 : decode cX5_begins 18 = .ok (.invokevirtual 34, 3) := by decide +kernel
theorem dX5_begins_21 : decode cX5_begins 21 = .ok (.invokevirtual 38, 3) := by decide +kernel
theorem dX5_begins_24 : decode cX5_begins 24 = .ok (.ireturn, 1) := by decide +kernel
set_option maxRecDepth 20000 in
theorem ggX5_holds_X3_mark : GoodIn wsX5_holds wsX3_mark := goodIn_r _ [7, 8, 9, 10, 11, 12, 13, 14, 15, 16, 17, 18, 19, 20, 21, 22, 23, 24, 25, 26, 27, 28, 29, 30, 31, 32, 33, 34, 35, 36, 37, 38, 39, 40, 41, 42, 43, 44, 45, 46, 47, 92, 93, 94, 95, 96, 97, 98, 99, 100, 101, 102, 103, 104, 105, 106, 107, 108, 109, 110, 111, 112] (by decide +kernel) (by decide +kernel)
set_option maxRecDepth 20000 in
theorem gX5_holds_X3_mark : GoodIn wsX5_holds (wsV RX5 30 RX3 yX3_mark wsX3_mark) := goodIn_app (goodIn_of _ (by decide +kernel)) ggX5_holds_X3_mark
set_option maxRecDepth 20000 in
theorem ggX5_holds_X1_hold : GoodIn wsX5_holds wsX1_hold := goodIn_r _ [51, 20, 52, 18, 17, 53, 54, 13, 55, 56, 57, 58, 59, 95, 96, 97, 98, 99, 100, 101, 102, 103, 104, 105, 106, 107, 108, 109] (by decide +kernel) (by decide +kernel)
set_option maxRecDepth 20000 in
theorem gX5_holds_X1_hold : GoodIn wsX5_holds (wsV RX5 42 RX1 yX1_hold wsX1_hold) := goodIn_app (goodIn_of _ (by decide +kernel)) ggX5_holds_X1_hold
set_option maxRecDepth 20000 in
theorem ggX5_holds_X5_settled : GoodIn wsX5_holds wsX5_settled := goodIn_r _ [63, 1, 64, 65, 58, 66, 67, 68, 69, 70, 71, 72, 6, 73, 9, 74, 75, 76, 77, 78, 79, 80, 81, 82, 83, 84, 85, 86, 87, 88, 89, 90, 91, 92, 93, 94] (by decide +kernel) (by decide +kernel)
set_option maxRecDepth 20000 in
theorem gX5_holds_X5_settled : GoodIn wsX5_holds (wsV RX5 38 RX5 yX5_settled wsX5_settled) := goodIn_app (goodIn_of _ (by decide +kernel)) ggX5_holds_X5_settled
theorem dX5_holds_0 : decode cX5_holds 0 = .ok (.aload_n 0, 1) := by decide +kernel
theorem dX5_holds_1 : decode cX5_holds 1 = .ok (.getfield 19, 3) := by decide +kernel
theorem dX5_holds_4 : decode cX5_holds 4 = .ok (.aload_n 0, 1) := by decide +kernel
theorem dX5_holds_5 : decode cX5_holds 5 = .ok (.getfield 10, 3) := by decide +kernel
theorem dX5_holds_8 : decode cX5_holds 8 = .ok (.invokevirtual 30, 3) := by decide +kernel
theorem dX5_holds_11 : decode cX5_holds 11 = .ok (.aload_n 0, 1) := by decide +kernel
theorem dX5_holds_12 : decode cX5_holds 12 = .ok (.aload_n 0, 1) := by decide +kernel
theorem dX5_holds_13 : decode cX5_holds 13 = .ok (.getfield 10, 3) := by decide +kernel
theorem dX5_holds_16 : decode cX5_holds 16 = .ok (.iload_n 1, 1) := by decide +kernel
theorem dX5_holds_17 : decode cX5_holds 17 = .ok (.iload_n 2, 1) := by decide +kernel
theorem dX5_holds_18 : decode cX5_holds 18 = .ok (.invokevirtual 42, 3) := by decide +kernel
theorem dX5_holds_21 : decode cX5_holds 21 = .ok (.invokevirtual 38, 3) := by decide +kernel
theorem dX5_holds_24 : decode cX5_holds 24 = .ok (.ireturn, 1) := by decide +kernel
set_option maxRecDepth 20000 in
theorem ggX5_offset_X3_mark : GoodIn wsX5_offset wsX3_mark := goodIn_r _ [7, 8, 9, 10, 11, 12, 13, 14, 15, 16, 17, 18, 19, 20, 21, 22, 23, 24, 25, 26, 27, 28, 29, 30, 31, 32, 33, 34, 35, 36, 37, 38, 39, 40, 41, 42, 43, 44, 45, 46, 47, 88, 89, 90, 91, 92, 93, 94, 95, 96, 97, 98, 99, 100, 101, 102, 103, 104, 105, 106, 107, 108] (by decide +kernel) (by decide +kernel)
set_option maxRecDepth 20000 in
theorem gX5_offset_X3_mark : GoodIn wsX5_offset (wsV RX5 30 RX3 yX3_mark wsX3_mark) := goodIn_app (goodIn_of _ (by decide +kernel)) ggX5_offset_X3_mark
set_option maxRecDepth 20000 in
theorem ggX5_offset_X1_putOffset : GoodIn wsX5_offset wsX1_putOffset := goodIn_r _ [51, 52, 21, 53, 54, 55, 91, 92, 93, 94, 95, 96, 97, 98, 99, 100, 101, 102, 103, 104, 105] (by decide +kernel) (by decide +kernel)
set_option maxRecDepth 20000 in
theorem gX5_offset_X1_putOffset : GoodIn wsX5_offset (wsV RX5 45 RX1 yX1_putOffset wsX1_putOffset) := goodIn_app (goodIn_of _ (by decide +kernel)) ggX5_offset_X1_putOffset
set_option maxRecDepth 20000 in
theorem ggX5_offset_X5_settled : GoodIn wsX5_offset wsX5_settled := goodIn_r _ [59, 1, 60, 61, 54, 62, 63, 64, 65, 66, 67, 68, 6, 69, 9, 70, 71, 72, 73, 74, 75, 76, 77, 78, 79, 80, 81, 82, 83, 84, 85, 86, 87, 88, 89, 90] (by decide +kernel) (by decide +kernel)
set_option maxRecDepth 20000 in
theorem gX5_offset_X5_settled : GoodIn wsX5_offset (wsV RX5 38 RX5 yX5_settled wsX5_settled) := goodIn_app (goodIn_of _ (by decide +kernel)) ggX5_offset_X5_settled
theorem dX5_offset_0 : decode cX5_offset 0 = .ok (.aload_n 0, 1) := by decide +kernel
theorem dX5_offset_1 : decode cX5_offset 1 = .ok (.getfield 19, 3) := by decide +kernel
theorem dX5_offset_4 : decode cX5_offset 4 = .ok (.aload_n 0, 1) := by decide +kernel
theorem dX5_offset_5 : decode cX5_offset 5 = .ok (.getfield 10, 3) := by decide +kernel
theorem dX5_offset_8 : decode cX5_offset 8 = .ok (.invokevirtual 30, 3) := by decide +kernel
theorem dX5_offset_11 : decode cX5_offset 11 = .ok (.aload_n 0, 1) := by decide +kernel
theorem dX5_offset_12 : decode cX5_offset 12 = .ok (.aload_n 0, 1) := by decide +kernel
theorem dX5_offset_13 : decode cX5_offset 13 = .ok (.getfield 10, 3) := by decide +kernel
theorem dX5_offset_16 : decode cX5_offset 16 = .ok (.iload_n 1, 1) := by decide +kernel
theorem dX5_offset_17 : decode cX5_offset 17 = .ok (.invokevirtual 45, 3) := by decide +kernel
theorem dX5_offset_20 : decode cX5_offset 20 = .ok (.invokevirtual 38, 3) := by decide +kernel
theorem dX5_offset_23 : decode cX5_offset 23 = .ok (.ireturn, 1) := by decide +kernel
set_option maxRecDepth 20000 in
theorem ggX5_clings_X3_mark : GoodIn wsX5_clings wsX3_mark := goodIn_r _ [7, 8, 9, 10, 11, 12, 13, 14, 15, 16, 17, 18, 19, 20, 21, 22, 23, 24, 25, 26, 27, 28, 29, 30, 31, 32, 33, 34, 35, 36, 37, 38, 39, 40, 41, 42, 43, 44, 45, 46, 47, 88, 89, 90, 91, 92, 93, 94, 95, 96, 97, 98, 99, 100, 101, 102, 103, 104, 105, 106, 107, 108] (by decide +kernel) (by decide +kernel)
set_option maxRecDepth 20000 in
theorem gX5_clings_X3_mark : GoodIn wsX5_clings (wsV RX5 30 RX3 yX3_mark wsX3_mark) := goodIn_app (goodIn_of _ (by decide +kernel)) ggX5_clings_X3_mark
set_option maxRecDepth 20000 in
theorem ggX5_clings_X1_putCling : GoodIn wsX5_clings wsX1_putCling := goodIn_r _ [51, 52, 22, 53, 54, 55, 91, 92, 93, 94, 95, 96, 97, 98, 99, 100, 101, 102, 103, 104, 105] (by decide +kernel) (by decide +kernel)
set_option maxRecDepth 20000 in
theorem gX5_clings_X1_putCling : GoodIn wsX5_clings (wsV RX5 48 RX1 yX1_putCling wsX1_putCling) := goodIn_app (goodIn_of _ (by decide +kernel)) ggX5_clings_X1_putCling
set_option maxRecDepth 20000 in
theorem ggX5_clings_X5_settled : GoodIn wsX5_clings wsX5_settled := goodIn_r _ [59, 1, 60, 61, 54, 62, 63, 64, 65, 66, 67, 68, 6, 69, 9, 70, 71, 72, 73, 74, 75, 76, 77, 78, 79, 80, 81, 82, 83, 84, 85, 86, 87, 88, 89, 90] (by decide +kernel) (by decide +kernel)
set_option maxRecDepth 20000 in
theorem gX5_clings_X5_settled : GoodIn wsX5_clings (wsV RX5 38 RX5 yX5_settled wsX5_settled) := goodIn_app (goodIn_of _ (by decide +kernel)) ggX5_clings_X5_settled
theorem dX5_clings_0 : decode cX5_clings 0 = .ok (.aload_n 0, 1) := by decide +kernel
theorem dX5_clings_1 : decode cX5_clings 1 = .ok (.getfield 19, 3) := by decide +kernel
theorem dX5_clings_4 : decode cX5_clings 4 = .ok (.aload_n 0, 1) := by decide +kernel
theorem dX5_clings_5 : decode cX5_clings 5 = .ok (.getfield 10, 3) := by decide +kernel
theorem dX5_clings_8 : decode cX5_clings 8 = .ok (.invokevirtual 30, 3) := by decide +kernel
theorem dX5_clings_11 : decode cX5_clings 11 = .ok (.aload_n 0, 1) := by decide +kernel
theorem dX5_clings_12 : decode cX5_clings 12 = .ok (.aload_n 0, 1) := by decide +kernel
theorem dX5_clings_13 : decode cX5_clings 13 = .ok (.getfield 10, 3) := by decide +kernel
theorem dX5_clings_16 : decode cX5_clings 16 = .ok (.iload_n 1, 1) := by decide +kernel
theorem dX5_clings_17 : decode cX5_clings 17 = .ok (.invokevirtual 48, 3) := by decide +kernel
theorem dX5_clings_20 : decode cX5_clings 20 = .ok (.invokevirtual 38, 3) := by decide +kernel
theorem dX5_clings_23 : decode cX5_clings 23 = .ok (.ireturn, 1) := by decide +kernel
set_option maxRecDepth 20000 in
theorem ggX5_curve_X3_mark : GoodIn wsX5_curve wsX3_mark := goodIn_r _ [7, 8, 9, 10, 11, 12, 13, 14, 15, 16, 17, 18, 19, 20, 21, 22, 23, 24, 25, 26, 27, 28, 29, 30, 31, 32, 33, 34, 35, 36, 37, 38, 39, 40, 41, 42, 43, 44, 45, 46, 47, 93, 94, 95, 96, 97, 98, 99, 100, 101, 102, 103, 104, 105, 106, 107, 108, 109, 110, 111, 112, 113] (by decide +kernel) (by decide +kernel)
set_option maxRecDepth 20000 in
theorem gX5_curve_X3_mark : GoodIn wsX5_curve (wsV RX5 30 RX3 yX3_mark wsX3_mark) := goodIn_app (goodIn_of _ (by decide +kernel)) ggX5_curve_X3_mark
set_option maxRecDepth 20000 in
theorem ggX5_curve_X1_putPoint : GoodIn wsX5_curve wsX1_putPoint := goodIn_r _ [51, 15, 52, 53, 54, 33, 55, 56, 35, 57, 58, 59, 60, 96, 97, 98, 99, 100, 101, 102, 103, 104, 105, 106, 107, 108, 109, 110, 111] (by decide +kernel) (by decide +kernel)
set_option maxRecDepth 20000 in
theorem gX5_curve_X1_putPoint : GoodIn wsX5_curve (wsV RX5 51 RX1 yX1_putPoint wsX1_putPoint) := goodIn_app (goodIn_of _ (by decide +kernel)) ggX5_curve_X1_putPoint
set_option maxRecDepth 20000 in
theorem ggX5_curve_X5_settled : GoodIn wsX5_curve wsX5_settled := goodIn_r _ [64, 1, 65, 66, 59, 67, 68, 69, 70, 71, 72, 73, 6, 74, 9, 75, 76, 77, 78, 79, 80, 81, 82, 83, 84, 85, 86, 87, 88, 89, 90, 91, 92, 93, 94, 95] (by decide +kernel) (by decide +kernel)
set_option maxRecDepth 20000 in
theorem gX5_curve_X5_settled : GoodIn wsX5_curve (wsV RX5 38 RX5 yX5_settled wsX5_settled) := goodIn_app (goodIn_of _ (by decide +kernel)) ggX5_curve_X5_settled
theorem dX5_curve_0 : decode cX5_curve 0 = .ok (.aload_n 0, 1) := by decide +kernel
theorem dX5_curve_1 : decode cX5_curve 1 = .ok (.getfield 19, 3) := by decide +kernel
theorem dX5_curve_4 : decode cX5_curve 4 = .ok (.aload_n 0, 1) := by decide +kernel
theorem dX5_curve_5 : decode cX5_curve 5 = .ok (.getfield 10, 3) := by decide +kernel
theorem dX5_curve_8 : decode cX5_curve 8 = .ok (.invokevirtual 30, 3) := by decide +kernel
theorem dX5_curve_11 : decode cX5_curve 11 = .ok (.aload_n 0, 1) := by decide +kernel
theorem dX5_curve_12 : decode cX5_curve 12 = .ok (.aload_n 0, 1) := by decide +kernel
theorem dX5_curve_13 : decode cX5_curve 13 = .ok (.getfield 10, 3) := by decide +kernel
theorem dX5_curve_16 : decode cX5_curve 16 = .ok (.iload_n 1, 1) := by decide +kernel
theorem dX5_curve_17 : decode cX5_curve 17 = .ok (.iload_n 2, 1) := by decide +kernel
theorem dX5_curve_18 : decode cX5_curve 18 = .ok (.invokevirtual 51, 3) := by decide +kernel
theorem dX5_curve_21 : decode cX5_curve 21 = .ok (.invokevirtual 38, 3) := by decide +kernel
theorem dX5_curve_24 : decode cX5_curve 24 = .ok (.ireturn, 1) := by decide +kernel
set_option maxRecDepth 20000 in
theorem ggX5_passes_X3_mark : GoodIn wsX5_passes wsX3_mark := goodIn_r _ [7, 8, 9, 10, 11, 12, 13, 14, 15, 16, 17, 18, 19, 20, 21, 22, 23, 24, 25, 26, 27, 28, 29, 30, 31, 32, 33, 34, 35, 36, 37, 38, 39, 40, 41, 42, 43, 44, 45, 46, 47, 105, 106, 107, 108, 109, 110, 111, 112, 113, 114, 115, 116, 117, 118, 119, 120, 121, 122, 123, 124, 125] (by decide +kernel) (by decide +kernel)
set_option maxRecDepth 20000 in
theorem gX5_passes_X3_mark : GoodIn wsX5_passes (wsV RX5 30 RX3 yX3_mark wsX3_mark) := goodIn_app (goodIn_of _ (by decide +kernel)) ggX5_passes_X3_mark
set_option maxRecDepth 20000 in
theorem ggX5_passes_X1_pass : GoodIn wsX5_passes wsX1_pass := goodIn_r _ [51, 52, 17, 21, 53, 54, 55, 56, 18, 20, 57, 58, 59, 60, 23, 24, 61, 62, 63, 64, 65, 66, 13, 67, 29, 68, 69, 70, 71, 19, 72, 73, 74, 75, 108, 109, 110, 111, 112, 113, 114, 115, 116, 117, 118, 119, 120, 121, 122] (by decide +kernel) (by decide +kernel)
set_option maxRecDepth 20000 in
theorem gX5_passes_X1_pass : GoodIn wsX5_passes (wsV RX5 54 RX1 yX1_pass wsX1_pass) := goodIn_app (goodIn_of _ (by decide +kernel)) ggX5_passes_X1_pass
set_option maxRecDepth 20000 in
theorem ggX5_passes_X5_settled : GoodIn wsX5_passes wsX5_settled := goodIn_r _ [79, 1, 80, 81, 62, 82, 83, 84, 85, 86, 87, 88, 6, 89, 9, 90, 91, 58, 55, 59, 92, 93, 94, 95, 96, 97, 98, 99, 100, 101, 102, 103, 104, 105, 106, 107] (by decide +kernel) (by decide +kernel)
set_option maxRecDepth 20000 in
theorem gX5_passes_X5_settled : GoodIn wsX5_passes (wsV RX5 38 RX5 yX5_settled wsX5_settled) := goodIn_app (goodIn_of _ (by decide +kernel)) ggX5_passes_X5_settled
theorem dX5_passes_0 : decode cX5_passes 0 = .ok (.aload_n 0, 1) := by decide +kernel
theorem dX5_passes_1 : decode cX5_passes 1 = .ok (.getfield 19, 3) := by decide +kernel
theorem dX5_passes_4 : decode cX5_passes 4 = .ok (.aload_n 0, 1) := by decide +kernel
theorem dX5_passes_5 : decode cX5_passes 5 = .ok (.getfield 10, 3) := by decide +kernel
theorem dX5_passes_8 : decode cX5_passes 8 = .ok (.invokevirtual 30, 3) := by decide +kernel
theorem dX5_passes_11 : decode cX5_passes 11 = .ok (.aload_n 0, 1) := by decide +kernel
theorem dX5_passes_12 : decode cX5_passes 12 = .ok (.aload_n 0, 1) := by decide +kernel
theorem dX5_passes_13 : decode cX5_passes 13 = .ok (.getfield 10, 3) := by decide +kernel
theorem dX5_passes_16 : decode cX5_passes 16 = .ok (.iload_n 1, 1) := by decide +kernel
theorem dX5_passes_17 : decode cX5_passes 17 = .ok (.iload_n 2, 1) := by decide +kernel
theorem dX5_passes_18 : decode cX5_passes 18 = .ok (.invokevirtual 54, 3) := by decide +kernel
theorem dX5_passes_21 : decode cX5_passes 21 = .ok (.invokevirtual 38, 3) := by decide +kernel
theorem dX5_passes_24 : decode cX5_passes 24 = .ok (.ireturn, 1) := by decide +kernel
set_option maxRecDepth 20000 in
theorem ggX5_rests_X3_mark : GoodIn wsX5_rests wsX3_mark := goodIn_r _ [7, 8, 9, 10, 11, 12, 13, 14, 15, 16, 17, 18, 19, 20, 21, 22, 23, 24, 25, 26, 27, 28, 29, 30, 31, 32, 33, 34, 35, 36, 37, 38, 39, 40, 41, 42, 43, 44, 45, 46, 47, 138, 139, 140, 141, 142, 143, 144, 145, 146, 147, 148, 149, 150, 151, 152, 153, 154, 155, 156, 157, 158] (by decide +kernel) (by decide +kernel)
set_option maxRecDepth 20000 in
theorem gX5_rests_X3_mark : GoodIn wsX5_rests (wsV RX5 30 RX3 yX3_mark wsX3_mark) := goodIn_app (goodIn_of _ (by decide +kernel)) ggX5_rests_X3_mark
set_option maxRecDepth 20000 in
theorem ggX5_rests_X1_rest : GoodIn wsX5_rests wsX1_rest := goodIn_r _ [51, 52, 53, 54, 25, 18, 20, 55, 56, 57, 58, 17, 23, 24, 26, 27, 59, 60, 13, 61, 62, 63, 64, 65, 66, 67, 68, 15, 22, 69, 70, 71, 72, 73, 74, 33, 75, 76, 77, 78, 79, 80, 81, 82, 83, 84, 85, 35, 86, 87, 88, 89, 90, 91, 92, 93, 21, 19, 94, 95, 96, 97, 98, 99, 100, 28, 101, 102, 103, 104, 105, 106, 107, 108, 29, 141, 142, 143, 144, 145, 146, 147, 148, 149, 150, 151, 152, 153, 154, 155, 156] (by decide +kernel) (by decide +kernel)
set_option maxRecDepth 20000 in
theorem gX5_rests_X1_rest : GoodIn wsX5_rests (wsV RX5 57 RX1 yX1_rest wsX1_rest) := goodIn_app (goodIn_of _ (by decide +kernel)) ggX5_rests_X1_rest
set_option maxRecDepth 20000 in
theorem ggX5_rests_X5_settled : GoodIn wsX5_rests wsX5_settled := goodIn_r _ [112, 1, 113, 114, 63, 115, 116, 117, 118, 119, 120, 121, 6, 122, 9, 123, 124, 56, 57, 58, 125, 126, 127, 128, 129, 130, 131, 132, 133, 134, 135, 136, 137, 138, 139, 140] (by decide +kernel) (by decide +kernel)
set_option maxRecDepth 20000 in
theorem gX5_rests_X5_settled : GoodIn wsX5_rests (wsV RX5 38 RX5 yX5_settled wsX5_settled) := goodIn_app (goodIn_of _ (by decide +kernel)) ggX5_rests_X5_settled
theorem dX5_rests_0 : decode cX5_rests 0 = .ok (.aload_n 0, 1) := by decide +kernel
theorem dX5_rests_1 : decode cX5_rests 1 = .ok (.getfield 19, 3) := by decide +kernel
theorem dX5_rests_4 : decode cX5_rests 4 = .ok (.aload_n 0, 1) := by decide +kernel
theorem dX5_rests_5 : decode cX5_rests 5 = .ok (.getfield 10, 3) := by decide +kernel
theorem dX5_rests_8 : decode cX5_rests 8 = .ok (.invokevirtual 30, 3) := by decide +kernel
theorem dX5_rests_11 : decode cX5_rests 11 = .ok (.aload_n 0, 1) := by decide +kernel
theorem dX5_rests_12 : decode cX5_rests 12 = .ok (.aload_n 0, 1) := by decide +kernel
theorem dX5_rests_13 : decode cX5_rests 13 = .ok (.getfield 10, 3) := by decide +kernel
theorem dX5_rests_16 : decode cX5_rests 16 = .ok (.iload_n 1, 1) := by decide +kernel
theorem dX5_rests_17 : decode cX5_rests 17 = .ok (.invokevirtual 57, 3) := by decide +kernel
theorem dX5_rests_20 : decode cX5_rests 20 = .ok (.invokevirtual 38, 3) := by decide +kernel
theorem dX5_rests_23 : decode cX5_rests 23 = .ok (.ireturn, 1) := by decide +kernel
set_option maxRecDepth 20000 in
theorem ggX5_loads_X3_mark : GoodIn wsX5_loads wsX3_mark := goodIn_r _ [7, 8, 9, 10, 11, 12, 13, 14, 15, 16, 17, 18, 19, 20, 21, 22, 23, 24, 25, 26, 27, 28, 29, 30, 31, 32, 33, 34, 35, 36, 37, 38, 39, 40, 41, 42, 43, 44, 45, 46, 47, 117, 118, 119, 120, 121, 122, 123, 124, 125, 126, 127, 128, 129, 130, 131, 132, 133, 134, 135, 136, 137] (by decide +kernel) (by decide +kernel)
set_option maxRecDepth 20000 in
theorem gX5_loads_X3_mark : GoodIn wsX5_loads (wsV RX5 30 RX3 yX3_mark wsX3_mark) := goodIn_app (goodIn_of _ (by decide +kernel)) ggX5_loads_X3_mark
set_option maxRecDepth 20000 in
theorem ggX5_loads_X1_load : GoodIn wsX5_loads wsX1_load := goodIn_r _ [51, 52, 15, 16, 53, 54, 13, 55, 56, 57, 58, 59, 60, 61, 62, 63, 64, 65, 19, 20, 17, 18, 66, 67, 68, 69, 70, 71, 72, 33, 73, 74, 35, 75, 76, 77, 78, 79, 80, 81, 82, 83, 43, 84, 45, 47, 85, 86, 87, 120, 121, 122, 123, 124, 125, 126, 127, 128, 129, 130, 131, 132, 133, 134, 135, 136, 137] (by decide +kernel) (by decide +kernel)
set_option maxRecDepth 20000 in
theorem gX5_loads_X1_load : GoodIn wsX5_loads (wsV RX5 60 RX1 yX1_load wsX1_load) := goodIn_app (goodIn_of _ (by decide +kernel)) ggX5_loads_X1_load
set_option maxRecDepth 20000 in
theorem ggX5_loads_X5_settled : GoodIn wsX5_loads wsX5_settled := goodIn_r _ [91, 1, 92, 93, 57, 94, 95, 96, 97, 98, 99, 100, 6, 101, 9, 102, 103, 67, 68, 69, 104, 105, 106, 107, 108, 109, 110, 111, 112, 113, 114, 115, 116, 117, 118, 119] (by decide +kernel) (by decide +kernel)
set_option maxRecDepth 20000 in
theorem gX5_loads_X5_settled : GoodIn wsX5_loads (wsV RX5 38 RX5 yX5_settled wsX5_settled) := goodIn_app (goodIn_of _ (by decide +kernel)) ggX5_loads_X5_settled
theorem dX5_loads_0 : decode cX5_loads 0 = .ok (.aload_n 0, 1) := by decide +kernel
theorem dX5_loads_1 : decode cX5_loads 1 = .ok (.getfield 19, 3) := by decide +kernel
theorem dX5_loads_4 : decode cX5_loads 4 = .ok (.aload_n 0, 1) := by decide +kernel
theorem dX5_loads_5 : decode cX5_loads 5 = .ok (.getfield 10, 3) := by decide +kernel
theorem dX5_loads_8 : decode cX5_loads 8 = .ok (.invokevirtual 30, 3) := by decide +kernel
theorem dX5_loads_11 : decode cX5_loads 11 = .ok (.aload_n 0, 1) := by decide +kernel
theorem dX5_loads_12 : decode cX5_loads 12 = .ok (.aload_n 0, 1) := by decide +kernel
theorem dX5_loads_13 : decode cX5_loads 13 = .ok (.getfield 10, 3) := by decide +kernel
theorem dX5_loads_16 : decode cX5_loads 16 = .ok (.iload_n 1, 1) := by decide +kernel
theorem dX5_loads_17 : decode cX5_loads 17 = .ok (.iload_n 2, 1) := by decide +kernel
theorem dX5_loads_18 : decode cX5_loads 18 = .ok (.invokevirtual 60, 3) := by decide +kernel
theorem dX5_loads_21 : decode cX5_loads 21 = .ok (.invokevirtual 38, 3) := by decide +kernel
theorem dX5_loads_24 : decode cX5_loads 24 = .ok (.ireturn, 1) := by decide +kernel
set_option maxRecDepth 20000 in
theorem ggX5_told_X5_within : GoodIn wsX5_told wsX5_within := goodIn_r _ [6] (by decide +kernel) (by decide +kernel)
set_option maxRecDepth 20000 in
theorem gX5_told_X5_within : GoodIn wsX5_told (va_wsS RX5 63 yX5_within wsX5_within) := goodIn_app (goodIn_of _ (by decide +kernel)) ggX5_told_X5_within
set_option maxRecDepth 20000 in
theorem ggX5_told_X5_counted : GoodIn wsX5_told wsX5_counted := goodIn_r _ [10, 1, 11, 12, 13, 14, 15, 41, 42, 43, 44, 45, 46] (by decide +kernel) (by decide +kernel)
set_option maxRecDepth 20000 in
theorem gX5_told_X5_counted : GoodIn wsX5_told (wsV RX5 68 RX5 yX5_counted wsX5_counted) := goodIn_app (goodIn_of _ (by decide +kernel)) ggX5_told_X5_counted
set_option maxRecDepth 20000 in
theorem ggX5_told_X1_tell : GoodIn wsX5_told wsX1_tell := goodIn_r _ [20, 21, 22, 23, 24, 25, 26, 27, 28, 29, 30, 31, 32, 33, 34, 35, 19, 36, 37, 38, 39, 40, 47, 48, 49, 50, 51, 52, 53, 54, 55, 56, 57, 58, 59, 60, 61] (by decide +kernel) (by decide +kernel)
set_option maxRecDepth 20000 in
theorem gX5_told_X1_tell : GoodIn wsX5_told (wsV RX5 71 RX1 yX1_tell wsX1_tell) := goodIn_app (goodIn_of _ (by decide +kernel)) ggX5_told_X1_tell
theorem dX5_told_0 : decode cX5_told 0 = .ok (.iload_n 1, 1) := by decide +kernel
theorem dX5_told_1 : decode cX5_told 1 = .ok (.iconst 0, 1) := by decide +kernel
theorem dX5_told_2 : decode cX5_told 2 = .ok (.bipush 11, 2) := by decide +kernel
theorem dX5_told_4 : decode cX5_told 4 = .ok (.invokestatic 63, 3) := by decide +kernel
theorem dX5_told_7 : decode cX5_told 7 = .ok (.ifCond .ne 10, 3) := by decide +kernel
theorem dX5_told_10 : decode cX5_told 10 = .ok (.aload_n 0, 1) := by decide +kernel
theorem dX5_told_11 : decode cX5_told 11 = .ok (.ldc 67, 2) := by decide +kernel
theorem dX5_told_13 : decode cX5_told 13 = .ok (.invokevirtual 68, 3) := by decide +kernel
theorem dX5_told_16 : decode cX5_told 16 = .ok (.ireturn, 1) := by decide +kernel
theorem dX5_told_17 : decode cX5_told 17 = .ok (.aload_n 0, 1) := by decide +kernel
theorem dX5_told_18 : decode cX5_told 18 = .ok (.getfield 10, 3) := by decide +kernel
theorem dX5_told_21 : decode cX5_told 21 = .ok (.iload_n 1, 1) := by decide +kernel
theorem dX5_told_22 : decode cX5_told 22 = .ok (.invokevirtual 71, 3) := by decide +kernel
theorem dX5_told_25 : decode cX5_told 25 = .ok (.ireturn, 1) := by decide +kernel
set_option maxRecDepth 20000 in
theorem ggX5_volts_X1_restVoltage : GoodIn wsX5_volts wsX1_restVoltage := goodIn_r _ [6, 7, 8, 9, 10, 11, 12, 13, 14, 32, 33, 34, 35, 36, 37, 38, 39, 40, 41, 42, 43, 44, 45, 46, 47] (by decide +kernel) (by decide +kernel)
set_option maxRecDepth 20000 in
theorem gX5_volts_X1_restVoltage : GoodIn wsX5_volts (wsV RX5 74 RX1 yX1_restVoltage wsX1_restVoltage) := goodIn_app (goodIn_of _ (by decide +kernel)) ggX5_volts_X1_restVoltage
set_option maxRecDepth 20000 in
theorem ggX5_volts_X5_counted : GoodIn wsX5_volts wsX5_counted := goodIn_r _ [19, 20, 21, 22, 23, 24, 25, 26, 27, 28, 29, 30, 31] (by decide +kernel) (by decide +kernel)
set_option maxRecDepth 20000 in
theorem gX5_volts_X5_counted : GoodIn wsX5_volts (wsV RX5 68 RX5 yX5_counted wsX5_counted) := goodIn_app (goodIn_of _ (by decide +kernel)) ggX5_volts_X5_counted
theorem dX5_volts_0 : decode cX5_volts 0 = .ok (.aload_n 0, 1) := by decide +kernel
theorem dX5_volts_1 : decode cX5_volts 1 = .ok (.aload_n 0, 1) := by decide +kernel
theorem dX5_volts_2 : decode cX5_volts 2 = .ok (.getfield 10, 3) := by decide +kernel
theorem dX5_volts_5 : decode cX5_volts 5 = .ok (.iload_n 1, 1) := by decide +kernel
theorem dX5_volts_6 : decode cX5_volts 6 = .ok (.invokevirtual 74, 3) := by decide +kernel
theorem dX5_volts_9 : decode cX5_volts 9 = .ok (.invokevirtual 68, 3) := by decide +kernel
theorem dX5_volts_12 : decode cX5_volts 12 = .ok (.ireturn, 1) := by decide +kernel
set_option maxRecDepth 20000 in
theorem ggX5_inverse_X1_restBound : GoodIn wsX5_inverse wsX1_restBound := goodIn_r _ [6, 7, 8, 9, 10, 11, 12, 13, 14, 15, 16, 17, 18, 19, 5, 20, 21, 22, 23, 24, 25, 26, 27, 28, 29, 30, 31, 32, 33, 34, 35, 36, 37, 38, 39, 40, 41, 42, 43, 60, 61, 62, 63, 64, 65, 66, 67, 68, 69, 70, 71, 72, 73, 74, 75] (by decide +kernel) (by decide +kernel)
set_option maxRecDepth 20000 in
theorem gX5_inverse_X1_restBound : GoodIn wsX5_inverse (wsV RX5 77 RX1 yX1_restBound wsX1_restBound) := goodIn_app (goodIn_of _ (by decide +kernel)) ggX5_inverse_X1_restBound
set_option maxRecDepth 20000 in
theorem ggX5_inverse_X5_counted : GoodIn wsX5_inverse wsX5_counted := goodIn_r _ [47, 48, 49, 50, 51, 52, 53, 54, 55, 56, 57, 58, 59] (by decide +kernel) (by decide +kernel)
set_option maxRecDepth 20000 in
theorem gX5_inverse_X5_counted : GoodIn wsX5_inverse (wsV RX5 68 RX5 yX5_counted wsX5_counted) := goodIn_app (goodIn_of _ (by decide +kernel)) ggX5_inverse_X5_counted
theorem dX5_inverse_0 : decode cX5_inverse 0 = .ok (.aload_n 0, 1) := by decide +kernel
theorem dX5_inverse_1 : decode cX5_inverse 1 = .ok (.aload_n 0, 1) := by decide +kernel
theorem dX5_inverse_2 : decode cX5_inverse 2 = .ok (.getfield 10, 3) := by decide +kernel
theorem dX5_inverse_5 : decode cX5_inverse 5 = .ok (.iload_n 1, 1) := by decide +kernel
theorem dX5_inverse_6 : decode cX5_inverse 6 = .ok (.iload_n 2, 1) := by decide +kernel
theorem dX5_inverse_7 : decode cX5_inverse 7 = .ok (.invokevirtual 77, 3) := by decide +kernel
theorem dX5_inverse_10 : decode cX5_inverse 10 = .ok (.invokevirtual 68, 3) := by decide +kernel
theorem dX5_inverse_13 : decode cX5_inverse 13 = .ok (.ireturn, 1) := by decide +kernel
set_option maxRecDepth 20000 in
theorem ggX5_band_X1_tellBand : GoodIn wsX5_band wsX1_tellBand := goodIn_r _ [6, 7, 8, 9, 10, 11, 12, 13, 14, 15, 16, 17, 18, 19, 20, 21, 22, 23, 24, 25, 26, 27, 44, 45, 46, 47, 48, 49, 50, 51, 52, 53, 54, 55, 56, 57, 58, 59, 60] (by decide +kernel) (by decide +kernel)
set_option maxRecDepth 20000 in
theorem gX5_band_X1_tellBand : GoodIn wsX5_band (wsV RX5 80 RX1 yX1_tellBand wsX1_tellBand) := goodIn_app (goodIn_of _ (by decide +kernel)) ggX5_band_X1_tellBand
set_option maxRecDepth 20000 in
theorem ggX5_band_X5_counted : GoodIn wsX5_band wsX5_counted := goodIn_r _ [31, 32, 33, 34, 35, 36, 37, 38, 39, 40, 41, 42, 43] (by decide +kernel) (by decide +kernel)
set_option maxRecDepth 20000 in
theorem gX5_band_X5_counted : GoodIn wsX5_band (wsV RX5 68 RX5 yX5_counted wsX5_counted) := goodIn_app (goodIn_of _ (by decide +kernel)) ggX5_band_X5_counted
theorem dX5_band_0 : decode cX5_band 0 = .ok (.aload_n 0, 1) := by decide +kernel
theorem dX5_band_1 : decode cX5_band 1 = .ok (.aload_n 0, 1) := by decide +kernel
theorem dX5_band_2 : decode cX5_band 2 = .ok (.getfield 10, 3) := by decide +kernel
theorem dX5_band_5 : decode cX5_band 5 = .ok (.iload_n 1, 1) := by decide +kernel
theorem dX5_band_6 : decode cX5_band 6 = .ok (.iload_n 2, 1) := by decide +kernel
theorem dX5_band_7 : decode cX5_band 7 = .ok (.iload_n 3, 1) := by decide +kernel
theorem dX5_band_8 : decode cX5_band 8 = .ok (.invokevirtual 80, 3) := by decide +kernel
theorem dX5_band_11 : decode cX5_band 11 = .ok (.invokevirtual 68, 3) := by decide +kernel
theorem dX5_band_14 : decode cX5_band 14 = .ok (.ireturn, 1) := by decide +kernel
set_option maxRecDepth 20000 in
theorem ggX5_bands_X1_usedBands : GoodIn wsX5_bands wsX1_usedBands := goodIn_r _ [6, 7, 8, 9, 10, 11, 12, 13, 20, 21, 22, 23, 24, 25, 26, 27, 28, 29, 30, 31, 32, 33, 34, 35, 36] (by decide +kernel) (by decide +kernel)
set_option maxRecDepth 20000 in
theorem gX5_bands_X1_usedBands : GoodIn wsX5_bands (wsV RX5 84 RX1 yX1_usedBands wsX1_usedBands) := goodIn_app (goodIn_of _ (by decide +kernel)) ggX5_bands_X1_usedBands
theorem dX5_bands_0 : decode cX5_bands 0 = .ok (.aload_n 0, 1) := by decide +kernel
theorem dX5_bands_1 : decode cX5_bands 1 = .ok (.getfield 10, 3) := by decide +kernel
theorem dX5_bands_4 : decode cX5_bands 4 = .ok (.invokevirtual 84, 3) := by decide +kernel
theorem dX5_bands_7 : decode cX5_bands 7 = .ok (.ireturn, 1) := by decide +kernel
set_option maxRecDepth 20000 in
theorem ggX5_lasts_X1_lasting : GoodIn wsX5_lasts wsX1_lasting := goodIn_r _ [6, 7, 8, 9, 10, 11, 12, 13, 14, 31, 32, 33, 34, 35, 36, 37, 38, 39, 40, 41, 42, 43, 44, 45] (by decide +kernel) (by decide +kernel)
set_option maxRecDepth 20000 in
theorem gX5_lasts_X1_lasting : GoodIn wsX5_lasts (wsV RX5 88 RX1 yX1_lasting wsX1_lasting) := goodIn_app (goodIn_of _ (by decide +kernel)) ggX5_lasts_X1_lasting
set_option maxRecDepth 20000 in
theorem ggX5_lasts_X5_counted : GoodIn wsX5_lasts wsX5_counted := goodIn_r _ [18, 19, 20, 21, 22, 23, 24, 25, 26, 27, 28, 29, 30] (by decide +kernel) (by decide +kernel)
set_option maxRecDepth 20000 in
theorem gX5_lasts_X5_counted : GoodIn wsX5_lasts (wsV RX5 68 RX5 yX5_counted wsX5_counted) := goodIn_app (goodIn_of _ (by decide +kernel)) ggX5_lasts_X5_counted
theorem dX5_lasts_0 : decode cX5_lasts 0 = .ok (.aload_n 0, 1) := by decide +kernel
theorem dX5_lasts_1 : decode cX5_lasts 1 = .ok (.aload_n 0, 1) := by decide +kernel
theorem dX5_lasts_2 : decode cX5_lasts 2 = .ok (.getfield 10, 3) := by decide +kernel
theorem dX5_lasts_5 : decode cX5_lasts 5 = .ok (.iload_n 1, 1) := by decide +kernel
theorem dX5_lasts_6 : decode cX5_lasts 6 = .ok (.iload_n 2, 1) := by decide +kernel
theorem dX5_lasts_7 : decode cX5_lasts 7 = .ok (.invokevirtual 88, 3) := by decide +kernel
theorem dX5_lasts_10 : decode cX5_lasts 10 = .ok (.invokevirtual 68, 3) := by decide +kernel
theorem dX5_lasts_13 : decode cX5_lasts 13 = .ok (.ireturn, 1) := by decide +kernel
set_option maxRecDepth 20000 in
theorem ggX5_under_X1_loadedVoltage : GoodIn wsX5_under wsX1_loadedVoltage := goodIn_r _ [6, 7, 8, 9, 10, 11, 12, 13, 5, 14, 15, 16, 17, 18, 19, 20, 21, 22, 23, 24, 25, 26, 27, 28, 29, 30, 31, 32, 33, 34, 35, 36, 37, 38, 39, 40, 41, 42, 43, 44, 45, 46, 47, 48, 49, 50, 51, 52, 53, 54, 71, 72, 73, 74, 75, 76, 77, 78, 79, 80, 81, 82, 83, 84, 85, 86, 87, 88] (by decide +kernel) (by decide +kernel)
set_option maxRecDepth 20000 in
theorem gX5_under_X1_loadedVoltage : GoodIn wsX5_under (wsV RX5 91 RX1 yX1_loadedVoltage wsX1_loadedVoltage) := goodIn_app (goodIn_of _ (by decide +kernel)) ggX5_under_X1_loadedVoltage
set_option maxRecDepth 20000 in
theorem ggX5_under_X5_counted : GoodIn wsX5_under wsX5_counted := goodIn_r _ [58, 59, 60, 61, 62, 63, 64, 65, 66, 67, 68, 69, 70] (by decide +kernel) (by decide +kernel)
set_option maxRecDepth 20000 in
theorem gX5_under_X5_counted : GoodIn wsX5_under (wsV RX5 68 RX5 yX5_counted wsX5_counted) := goodIn_app (goodIn_of _ (by decide +kernel)) ggX5_under_X5_counted
theorem dX5_under_0 : decode cX5_under 0 = .ok (.aload_n 0, 1) := by decide +kernel
theorem dX5_under_1 : decode cX5_under 1 = .ok (.aload_n 0, 1) := by decide +kernel
theorem dX5_under_2 : decode cX5_under 2 = .ok (.getfield 10, 3) := by decide +kernel
theorem dX5_under_5 : decode cX5_under 5 = .ok (.iload_n 1, 1) := by decide +kernel
theorem dX5_under_6 : decode cX5_under 6 = .ok (.invokevirtual 91, 3) := by decide +kernel
theorem dX5_under_9 : decode cX5_under 9 = .ok (.invokevirtual 68, 3) := by decide +kernel
theorem dX5_under_12 : decode cX5_under 12 = .ok (.ireturn, 1) := by decide +kernel
set_option maxRecDepth 20000 in
theorem ggX5_setting_X1_tellSetting : GoodIn wsX5_setting wsX1_tellSetting := goodIn_r _ [6, 7, 8, 9, 10, 11, 12, 13, 14, 15, 16, 17, 18, 19, 20, 37, 38, 39, 40, 41, 42, 43, 44, 45, 46, 47, 48, 49, 50, 51, 52] (by decide +kernel) (by decide +kernel)
set_option maxRecDepth 20000 in
theorem gX5_setting_X1_tellSetting : GoodIn wsX5_setting (wsV RX5 94 RX1 yX1_tellSetting wsX1_tellSetting) := goodIn_app (goodIn_of _ (by decide +kernel)) ggX5_setting_X1_tellSetting
set_option maxRecDepth 20000 in
theorem ggX5_setting_X5_counted : GoodIn wsX5_setting wsX5_counted := goodIn_r _ [24, 25, 26, 27, 28, 29, 30, 31, 32, 33, 34, 35, 36] (by decide +kernel) (by decide +kernel)
set_option maxRecDepth 20000 in
theorem gX5_setting_X5_counted : GoodIn wsX5_setting (wsV RX5 68 RX5 yX5_counted wsX5_counted) := goodIn_app (goodIn_of _ (by decide +kernel)) ggX5_setting_X5_counted
theorem dX5_setting_0 : decode cX5_setting 0 = .ok (.aload_n 0, 1) := by decide +kernel
theorem dX5_setting_1 : decode cX5_setting 1 = .ok (.aload_n 0, 1) := by decide +kernel
theorem dX5_setting_2 : decode cX5_setting 2 = .ok (.getfield 10, 3) := by decide +kernel
theorem dX5_setting_5 : decode cX5_setting 5 = .ok (.iload_n 1, 1) := by decide +kernel
theorem dX5_setting_6 : decode cX5_setting 6 = .ok (.invokevirtual 94, 3) := by decide +kernel
theorem dX5_setting_9 : decode cX5_setting 9 = .ok (.invokevirtual 68, 3) := by decide +kernel
theorem dX5_setting_12 : decode cX5_setting 12 = .ok (.ireturn, 1) := by decide +kernel
set_option maxRecDepth 20000 in
theorem ggX5_type_X4_append : GoodIn wsX5_type wsX4_append := goodIn_r _ [6, 7, 8, 9, 10, 11, 12, 13, 30, 31, 32, 33, 34, 35, 36, 37] (by decide +kernel) (by decide +kernel)
set_option maxRecDepth 20000 in
theorem gX5_type_X4_append : GoodIn wsX5_type (wsV RX5 97 RX4 yX4_append wsX4_append) := goodIn_app (goodIn_of _ (by decide +kernel)) ggX5_type_X4_append
set_option maxRecDepth 20000 in
theorem ggX5_type_X5_counted : GoodIn wsX5_type wsX5_counted := goodIn_r _ [17, 18, 19, 20, 21, 22, 23, 24, 25, 26, 27, 28, 29] (by decide +kernel) (by decide +kernel)
set_option maxRecDepth 20000 in
theorem gX5_type_X5_counted : GoodIn wsX5_type (wsV RX5 68 RX5 yX5_counted wsX5_counted) := goodIn_app (goodIn_of _ (by decide +kernel)) ggX5_type_X5_counted
theorem dX5_type_0 : decode cX5_type 0 = .ok (.aload_n 0, 1) := by decide +kernel
theorem dX5_type_1 : decode cX5_type 1 = .ok (.aload_n 0, 1) := by decide +kernel
theorem dX5_type_2 : decode cX5_type 2 = .ok (.getfield 26, 3) := by decide +kernel
theorem dX5_type_5 : decode cX5_type 5 = .ok (.iload_n 1, 1) := by decide +kernel
theorem dX5_type_6 : decode cX5_type 6 = .ok (.invokevirtual 97, 3) := by decide +kernel
theorem dX5_type_9 : decode cX5_type 9 = .ok (.invokevirtual 68, 3) := by decide +kernel
theorem dX5_type_12 : decode cX5_type 12 = .ok (.ireturn, 1) := by decide +kernel
set_option maxRecDepth 20000 in
theorem ggX5_clear_X4_empty : GoodIn wsX5_clear wsX4_empty := goodIn_r _ [6, 7, 14, 15, 16, 17, 18, 19, 20, 21] (by decide +kernel) (by decide +kernel)
set_option maxRecDepth 20000 in
theorem gX5_clear_X4_empty : GoodIn wsX5_clear (wsV RX5 100 RX4 yX4_empty wsX4_empty) := goodIn_app (goodIn_of _ (by decide +kernel)) ggX5_clear_X4_empty
theorem dX5_clear_0 : decode cX5_clear 0 = .ok (.aload_n 0, 1) := by decide +kernel
theorem dX5_clear_1 : decode cX5_clear 1 = .ok (.getfield 26, 3) := by decide +kernel
theorem dX5_clear_4 : decode cX5_clear 4 = .ok (.invokevirtual 100, 3) := by decide +kernel
theorem dX5_clear_7 : decode cX5_clear 7 = .ok (.ireturn, 1) := by decide +kernel
set_option maxRecDepth 20000 in
theorem ggX5_does_X4_read : GoodIn wsX5_does wsX4_read := goodIn_r _ [8, 9, 10, 11, 12, 13, 14, 7, 15, 16, 17, 18, 19, 20, 21, 22, 23, 24, 25, 26, 27, 28, 29, 30, 31, 32, 33, 34, 35, 36, 37, 38, 39, 40, 41, 244, 245, 246, 247, 248, 249, 250, 251] (by decide +kernel) (by decide +kernel)
set_option maxRecDepth 20000 in
theorem gX5_does_X4_read : GoodIn wsX5_does (wsV RX5 103 RX4 yX4_read wsX4_read) := goodIn_app (goodIn_of _ (by decide +kernel)) ggX5_does_X4_read
set_option maxRecDepth 20000 in
theorem ggX5_does_X4_place : GoodIn wsX5_does wsX4_place := goodIn_r _ [45, 9, 244, 245, 246, 247, 248, 249, 250, 251] (by decide +kernel) (by decide +kernel)
set_option maxRecDepth 20000 in
theorem gX5_does_X4_place : GoodIn wsX5_does (wsV RX5 107 RX4 yX4_place wsX4_place) := goodIn_app (goodIn_of _ (by decide +kernel)) ggX5_does_X4_place
set_option maxRecDepth 20000 in
theorem ggX5_does_X3_mark : GoodIn wsX5_does wsX3_mark := goodIn_r _ [50, 51, 52, 53, 54, 55, 56, 57, 58, 59, 60, 61, 62, 63, 64, 65, 66, 67, 68, 69, 70, 71, 72, 73, 74, 75, 76, 77, 78, 79, 80, 81, 82, 83, 84, 85, 86, 87, 88, 89, 90, 252, 253, 254, 255, 256, 257, 258, 259, 260, 261, 262, 263, 264, 265, 266, 267, 268, 269, 270, 271, 272] (by decide +kernel) (by decide +kernel)
set_option maxRecDepth 20000 in
theorem gX5_does_X3_mark : GoodIn wsX5_does (wsV RX5 30 RX3 yX3_mark wsX3_mark) := goodIn_app (goodIn_of _ (by decide +kernel)) ggX5_does_X3_mark
set_option maxRecDepth 20000 in
theorem ggX5_does_X4_orders : GoodIn wsX5_does wsX4_orders := goodIn_r _ [94, 10, 244, 245, 246, 247, 248, 249, 250, 251] (by decide +kernel) (by decide +kernel)
set_option maxRecDepth 20000 in
theorem gX5_does_X4_orders : GoodIn wsX5_does (wsV RX5 110 RX4 yX4_orders wsX4_orders) := goodIn_app (goodIn_of _ (by decide +kernel)) ggX5_does_X4_orders
set_option maxRecDepth 20000 in
theorem ggX5_does_X5_obey : GoodIn wsX5_does wsX5_obey := goodIn_r _ [99, 1, 3, 100, 101, 102, 103, 7, 104, 10, 27, 105, 98, 106, 107, 108, 109, 110, 28, 111, 112, 113, 114, 26, 115, 116, 117, 56, 118, 119, 60, 64, 120, 121, 122, 123, 61, 63, 124, 125, 126, 127, 66, 67, 128, 129, 130, 131, 72, 132, 133, 134, 135, 62, 136, 137, 138, 139, 140, 141, 142, 143, 144, 68, 69, 70, 145, 146, 147, 148, 149, 150, 151, 58, 65, 152, 153, 154, 76, 155, 156, 157, 158, 159, 160, 161, 162, 163, 164, 165, 78, 166, 167, 168, 169, 170, 171, 172, 173, 174, 175, 176, 177, 178, 179, 180, 71, 181, 182, 183, 184, 185, 186, 187, 188, 59, 189, 190, 191, 192, 193, 194, 195, 196, 197, 198, 199, 200, 201, 86, 202, 88, 90, 203, 204, 205, 206, 207, 208, 209, 210, 211, 212, 213, 214, 215, 216, 217, 218, 219, 220, 221, 222, 238, 239, 240, 241, 242, 243, 244, 245, 246, 247, 248, 249, 250, 251, 255, 256, 257, 258, 259, 260, 261, 262, 263, 264, 265, 266, 267, 268, 269, 270, 271, 272] (by decide +kernel) (by decide +kernel)
set_option maxRecDepth 20000 in
theorem gX5_does_X5_obey : GoodIn wsX5_does (wsV RX5 113 RX5 yX5_obey wsX5_obey) := goodIn_app (goodIn_of _ (by decide +kernel)) ggX5_does_X5_obey
set_option maxRecDepth 20000 in
theorem ggX5_does_X5_isRefusal : GoodIn wsX5_does wsX5_isRefusal := goodIn_r _ [225, 100, 226, 227] (by decide +kernel) (by decide +kernel)
set_option maxRecDepth 20000 in
theorem gX5_does_X5_isRefusal : GoodIn wsX5_does (va_wsS RX5 116 yX5_isRefusal wsX5_isRefusal) := goodIn_app (goodIn_of _ (by decide +kernel)) ggX5_does_X5_isRefusal
set_option maxRecDepth 20000 in
theorem ggX5_does_X3_restoreMarked : GoodIn wsX5_does wsX3_restoreMarked := goodIn_r _ [231, 51, 52, 53, 54, 55, 56, 57, 58, 59, 60, 61, 62, 63, 64, 65, 66, 67, 68, 69, 70, 71, 72, 73, 74, 75, 76, 77, 78, 79, 80, 81, 82, 83, 84, 85, 86, 87, 88, 89, 90, 252, 253, 254, 255, 256, 257, 258, 259, 260, 261, 262, 263, 264, 265, 266, 267, 268, 269, 270, 271, 272] (by decide +kernel) (by decide +kernel)
set_option maxRecDepth 20000 in
theorem gX5_does_X3_restoreMarked : GoodIn wsX5_does (wsV RX5 120 RX3 yX3_restoreMarked wsX3_restoreMarked) := goodIn_app (goodIn_of _ (by decide +kernel)) ggX5_does_X3_restoreMarked
set_option maxRecDepth 20000 in
theorem ggX5_does_X3_keepMarked : GoodIn wsX5_does wsX3_keepMarked := goodIn_r _ [235, 52, 236, 237, 125, 122, 126, 252, 253, 254] (by decide +kernel) (by decide +kernel)
set_option maxRecDepth 20000 in
theorem gX5_does_X3_keepMarked : GoodIn wsX5_does (wsV RX5 123 RX3 yX3_keepMarked wsX3_keepMarked) := goodIn_app (goodIn_of _ (by decide +kernel)) ggX5_does_X3_keepMarked
theorem dX5_does_0 : decode cX5_does 0 = .ok (.aload_n 0, 1) := by decide +kernel
theorem dX5_does_1 : decode cX5_does 1 = .ok (.getfield 26, 3) := by decide +kernel
theorem dX5_does_4 : decode cX5_does 4 = .ok (.invokevirtual 103, 3) := by decide +kernel
theorem dX5_does_7 : decode cX5_does 7 = .ok (.ifCond .ne 14, 3) := by decide +kernel
theorem dX5_does_10 : decode cX5_does 10 = .ok (.bipush (-10), 2) := by decide +kernel
theorem dX5_does_12 : decode cX5_does 12 = .ok (.aload_n 0, 1) := by decide +kernel
theorem dX5_does_13 : decode cX5_does 13 = .ok (.getfield 26, 3) := by decide +kernel
theorem dX5_does_16 : decode cX5_does 16 = .ok (.invokevirtual 107, 3) := by decide +kernel
theorem dX5_does_19 : decode cX5_does 19 = .ok (.isub, 1) := by decide +kernel
theorem dX5_does_20 : decode cX5_does 20 = .ok (.ireturn, 1) := by decide +kernel
theorem dX5_does_21 : decode cX5_does 21 = .ok (.aload_n 0, 1) := by decide +kernel
theorem dX5_does_22 : decode cX5_does 22 = .ok (.getfield 19, 3) := by decide +kernel
theorem dX5_does_25 : decode cX5_does 25 = .ok (.aload_n 0, 1) := by decide +kernel
theorem dX5_does_26 : decode cX5_does 26 = .ok (.getfield 10, 3) := by decide +kernel
theorem dX5_does_29 : decode cX5_does 29 = .ok (.invokevirtual 30, 3) := by decide +kernel
theorem dX5_does_32 : decode cX5_does 32 = .ok (.iconst 0, 1) := by decide +kernel
theorem dX5_does_33 : decode cX5_does 33 = .ok (.istore_n 1, 1) := by decide +kernel
theorem dX5_does_34 : decode cX5_does 34 = .ok (.iload_n 1, 1) := by decide +kernel
theorem dX5_does_35 : decode cX5_does 35 = .ok (.aload_n 0, 1) := by decide +kernel
theorem dX5_does_36 : decode cX5_does 36 = .ok (.getfield 26, 3) := by decide +kernel
theorem dX5_does_39 : decode cX5_does 39 = .ok (.invokevirtual 110, 3) := by decide +kernel
theorem dX5_does_42 : decode cX5_does 42 = .ok (.if_icmp .ge 37, 3) := by decide +kernel
theorem dX5_does_45 : decode cX5_does 45 = .ok (.aload_n 0, 1) := by decide +kernel
theorem dX5_does_46 : decode cX5_does 46 = .ok (.iload_n 1, 1) := by decide +kernel
theorem dX5_does_47 : decode cX5_does 47 = .ok (.invokevirtual 113, 3) := by decide +kernel
theorem dX5_does_50 : decode cX5_does 50 = .ok (.invokestatic 116, 3) := by decide +kernel
theorem dX5_does_53 : decode cX5_does 53 = .ok (.ifCond .eq 20, 3) := by decide +kernel
theorem dX5_does_56 : decode cX5_does 56 = .ok (.aload_n 0, 1) := by decide +kernel
theorem dX5_does_57 : decode cX5_does 57 = .ok (.getfield 19, 3) := by decide +kernel
theorem dX5_does_60 : decode cX5_does 60 = .ok (.aload_n 0, 1) := by decide +kernel
theorem dX5_does_61 : decode cX5_does 61 = .ok (.getfield 10, 3) := by decide +kernel
theorem dX5_does_64 : decode cX5_does 64 = .ok (.invokevirtual 120, 3) := by decide +kernel
theorem dX5_does_67 : decode cX5_does 67 = .ok (.sipush (-1000), 3) := by decide +kernel
theorem dX5_does_70 : decode cX5_does 70 = .ok (.iload_n 1, 1) := by decide +kernel
theorem dX5_does_71 : decode cX5_does 71 = .ok (.isub, 1) := by decide +kernel
theorem dX5_does_72 : decode cX5_does 72 = .ok (.ireturn, 1) := by decide +kernel
theorem dX5_does_73 : decode cX5_does 73 = .ok (.iinc 1 1, 3) := by decide +kernel
theorem dX5_does_76 : decode cX5_does 76 = .ok (.goto (-42), 3) := by decide +kernel
theorem dX5_does_79 : decode cX5_does 79 = .ok (.aload_n 0, 1) := by decide +kernel
theorem dX5_does_80 : decode cX5_does 80 = .ok (.getfield 19, 3) := by decide +kernel
theorem dX5_does_83 : decode cX5_does 83 = .ok (.invokevirtual 123, 3) := by decide +kernel
theorem dX5_does_86 : decode cX5_does 86 = .ok (.aload_n 0, 1) := by decide +kernel
theorem dX5_does_87 : decode cX5_does 87 = .ok (.getfield 26, 3) := by decide +kernel
theorem dX5_does_90 : decode cX5_does 90 = .ok (.invokevirtual 110, 3) := by decide +kernel
theorem dX5_does_93 : decode cX5_does 93 = .ok (.ireturn, 1) := by decide +kernel
set_option maxRecDepth 20000 in
theorem ggX5_back_X3_size : GoodIn wsX5_back wsX3_size := goodIn_r _ [8, 9, 74, 75, 76] (by decide +kernel) (by decide +kernel)
set_option maxRecDepth 20000 in
theorem gX5_back_X3_size : GoodIn wsX5_back (wsV RX5 126 RX3 yX3_size wsX3_size) := goodIn_app (goodIn_of _ (by decide +kernel)) ggX5_back_X3_size
set_option maxRecDepth 20000 in
theorem ggX5_back_X5_counted : GoodIn wsX5_back wsX5_counted := goodIn_r _ [14, 15, 16, 2, 17, 18, 19, 68, 69, 70, 71, 72, 73] (by decide +kernel) (by decide +kernel)
set_option maxRecDepth 20000 in
theorem gX5_back_X5_counted : GoodIn wsX5_back (wsV RX5 68 RX5 yX5_counted wsX5_counted) := goodIn_app (goodIn_of _ (by decide +kernel)) ggX5_back_X5_counted
set_option maxRecDepth 20000 in
theorem ggX5_back_X3_takeBack : GoodIn wsX5_back wsX3_takeBack := goodIn_r _ [23, 9, 24, 25, 26, 27, 7, 28, 29, 30, 31, 32, 33, 34, 35, 36, 37, 38, 39, 40, 41, 42, 43, 44, 45, 46, 47, 48, 49, 50, 51, 52, 53, 54, 55, 56, 57, 58, 59, 60, 61, 62, 63, 64, 65, 66, 67, 74, 75, 76, 77, 78, 79, 80, 81, 82, 83, 84, 85, 86, 87, 88, 89, 90, 91, 92, 93, 94] (by decide +kernel) (by decide +kernel)
set_option maxRecDepth 20000 in
theorem gX5_back_X3_takeBack : GoodIn wsX5_back (wsV RX5 130 RX3 yX3_takeBack wsX3_takeBack) := goodIn_app (goodIn_of _ (by decide +kernel)) ggX5_back_X3_takeBack
theorem dX5_back_0 : decode cX5_back 0 = .ok (.aload_n 0, 1) := by decide +kernel
theorem dX5_back_1 : decode cX5_back 1 = .ok (.getfield 19, 3) := by decide +kernel
theorem dX5_back_4 : decode cX5_back 4 = .ok (.invokevirtual 126, 3) := by decide +kernel
theorem dX5_back_7 : decode cX5_back 7 = .ok (.ifCond .ne 10, 3) := by decide +kernel
theorem dX5_back_10 : decode cX5_back 10 = .ok (.aload_n 0, 1) := by decide +kernel
theorem dX5_back_11 : decode cX5_back 11 = .ok (.ldc 129, 2) := by decide +kernel
theorem dX5_back_13 : decode cX5_back 13 = .ok (.invokevirtual 68, 3) := by decide +kernel
theorem dX5_back_16 : decode cX5_back 16 = .ok (.ireturn, 1) := by decide +kernel
theorem dX5_back_17 : decode cX5_back 17 = .ok (.aload_n 0, 1) := by decide +kernel
theorem dX5_back_18 : decode cX5_back 18 = .ok (.getfield 19, 3) := by decide +kernel
theorem dX5_back_21 : decode cX5_back 21 = .ok (.aload_n 0, 1) := by decide +kernel
theorem dX5_back_22 : decode cX5_back 22 = .ok (.getfield 10, 3) := by decide +kernel
theorem dX5_back_25 : decode cX5_back 25 = .ok (.invokevirtual 130, 3) := by decide +kernel
theorem dX5_back_28 : decode cX5_back 28 = .ok (.aload_n 0, 1) := by decide +kernel
theorem dX5_back_29 : decode cX5_back 29 = .ok (.getfield 19, 3) := by decide +kernel
theorem dX5_back_32 : decode cX5_back 32 = .ok (.invokevirtual 126, 3) := by decide +kernel
theorem dX5_back_35 : decode cX5_back 35 = .ok (.ireturn, 1) := by decide +kernel
set_option maxRecDepth 20000 in
theorem ggX5_refused_X4_length : GoodIn wsX5_refused wsX4_length := goodIn_r _ [11, 12, 32, 33, 34, 35, 36, 37, 38, 39] (by decide +kernel) (by decide +kernel)
set_option maxRecDepth 20000 in
theorem gX5_refused_X4_length : GoodIn wsX5_refused (wsV RX5 143 RX4 yX4_length wsX4_length) := goodIn_app (goodIn_of _ (by decide +kernel)) ggX5_refused_X4_length
set_option maxRecDepth 20000 in
theorem ggX5_refused_X3_size : GoodIn wsX5_refused wsX3_size := goodIn_r _ [17, 18, 40, 41, 42] (by decide +kernel) (by decide +kernel)
set_option maxRecDepth 20000 in
theorem gX5_refused_X3_size : GoodIn wsX5_refused (wsV RX5 126 RX3 yX3_size wsX3_size) := goodIn_app (goodIn_of _ (by decide +kernel)) ggX5_refused_X3_size
set_option maxRecDepth 20000 in
theorem ggX5_refused_X5_counted : GoodIn wsX5_refused wsX5_counted := goodIn_r _ [23, 6, 1, 24, 2, 25, 3, 26, 27, 28, 29, 30, 31] (by decide +kernel) (by decide +kernel)
set_option maxRecDepth 20000 in
theorem gX5_refused_X5_counted : GoodIn wsX5_refused (wsV RX5 68 RX5 yX5_counted wsX5_counted) := goodIn_app (goodIn_of _ (by decide +kernel)) ggX5_refused_X5_counted
theorem dX5_refused_0 : decode cX5_refused 0 = .ok (.iload_n 1, 1) := by decide +kernel
theorem dX5_refused_1 : decode cX5_refused 1 = .ok (.tableswitch 66 0 4 #[35, 40, 45, 50, 58], 35) := by decide +kernel
theorem dX5_refused_36 : decode cX5_refused 36 = .ok (.aload_n 0, 1) := by decide +kernel
theorem dX5_refused_37 : decode cX5_refused 37 = .ok (.getfield 133, 3) := by decide +kernel
theorem dX5_refused_40 : decode cX5_refused 40 = .ok (.ireturn, 1) := by decide +kernel
theorem dX5_refused_41 : decode cX5_refused 41 = .ok (.aload_n 0, 1) := by decide +kernel
theorem dX5_refused_42 : decode cX5_refused 42 = .ok (.getfield 137, 3) := by decide +kernel
theorem dX5_refused_45 : decode cX5_refused 45 = .ok (.ireturn, 1) := by decide +kernel
theorem dX5_refused_46 : decode cX5_refused 46 = .ok (.aload_n 0, 1) := by decide +kernel
theorem dX5_refused_47 : decode cX5_refused 47 = .ok (.getfield 140, 3) := by decide +kernel
theorem dX5_refused_50 : decode cX5_refused 50 = .ok (.ireturn, 1) := by decide +kernel
theorem dX5_refused_51 : decode cX5_refused 51 = .ok (.aload_n 0, 1) := by decide +kernel
theorem dX5_refused_52 : decode cX5_refused 52 = .ok (.getfield 26, 3) := by decide +kernel
theorem dX5_refused_55 : decode cX5_refused 55 = .ok (.invokevirtual 143, 3) := by decide +kernel
theorem dX5_refused_58 : decode cX5_refused 58 = .ok (.ireturn, 1) := by decide +kernel
theorem dX5_refused_59 : decode cX5_refused 59 = .ok (.aload_n 0, 1) := by decide +kernel
theorem dX5_refused_60 : decode cX5_refused 60 = .ok (.getfield 19, 3) := by decide +kernel
theorem dX5_refused_63 : decode cX5_refused 63 = .ok (.invokevirtual 126, 3) := by decide +kernel
theorem dX5_refused_66 : decode cX5_refused 66 = .ok (.ireturn, 1) := by decide +kernel
theorem dX5_refused_67 : decode cX5_refused 67 = .ok (.aload_n 0, 1) := by decide +kernel
theorem dX5_refused_68 : decode cX5_refused 68 = .ok (.ldc 67, 2) := by decide +kernel
theorem dX5_refused_70 : decode cX5_refused 70 = .ok (.invokevirtual 68, 3) := by decide +kernel
theorem dX5_refused_73 : decode cX5_refused 73 = .ok (.ireturn, 1) := by decide +kernel
set_option maxRecDepth 20000 in
theorem ggX5_digest_X5_refused : GoodIn wsX5_digest wsX5_refused := goodIn_r _ [7, 8, 9, 10, 11, 12, 13, 14, 15, 16, 17, 18, 19, 20, 21, 22, 23, 24, 25, 26, 27, 28, 6, 29, 30, 31, 129, 130, 131, 132, 133, 134, 135, 136, 137, 138, 139, 140, 141, 142, 143, 144, 145] (by decide +kernel) (by decide +kernel)
set_option maxRecDepth 20000 in
theorem gX5_digest_X5_refused : GoodIn wsX5_digest (wsV RX5 150 RX5 yX5_refused wsX5_refused) := goodIn_app (goodIn_of _ (by decide +kernel)) ggX5_digest_X5_refused
set_option maxRecDepth 20000 in
theorem ggX5_digest_X5_told : GoodIn wsX5_digest wsX5_told := goodIn_r _ [35, 13, 36, 37, 38, 6, 39, 26, 27, 28, 29, 8, 30, 9, 31, 10, 40, 41, 42, 43, 44, 45, 46, 47, 48, 49, 50, 51, 52, 53, 54, 55, 56, 57, 58, 59, 60, 61, 62, 63, 64, 129, 130, 131, 132, 133, 134, 146, 147, 148, 149, 150, 151, 152, 153, 154, 155, 156, 157, 158, 159, 160] (by decide +kernel) (by decide +kernel)
set_option maxRecDepth 20000 in
theorem gX5_digest_X5_told : GoodIn wsX5_digest (wsV RX5 153 RX5 yX5_told wsX5_told) := goodIn_app (goodIn_of _ (by decide +kernel)) ggX5_digest_X5_told
set_option maxRecDepth 20000 in
theorem ggX5_digest_X5_setting : GoodIn wsX5_digest wsX5_setting := goodIn_r _ [68, 36, 69, 70, 71, 43, 72, 73, 74, 75, 56, 38, 6, 39, 76, 77, 78, 79, 80, 81, 82, 26, 27, 28, 29, 13, 8, 30, 9, 31, 10, 129, 130, 131, 132, 133, 134, 146, 147, 148, 149, 150, 151, 152, 153, 154, 155, 156, 157, 158, 159, 160, 161] (by decide +kernel) (by decide +kernel)
set_option maxRecDepth 20000 in
theorem gX5_digest_X5_setting : GoodIn wsX5_digest (wsV RX5 156 RX5 yX5_setting wsX5_setting) := goodIn_app (goodIn_of _ (by decide +kernel)) ggX5_digest_X5_setting
set_option maxRecDepth 20000 in
theorem ggX5_digest_X5_bands : GoodIn wsX5_digest wsX5_bands := goodIn_r _ [86, 36, 87, 88, 89, 43, 90, 91, 92, 93, 94, 95, 96, 97, 129, 130, 131, 132, 133, 134, 146, 147, 148, 149, 150, 151, 152, 153, 154, 155, 156, 157, 158, 159, 160, 162, 163] (by decide +kernel) (by decide +kernel)
set_option maxRecDepth 20000 in
theorem gX5_digest_X5_bands : GoodIn wsX5_digest (wsV RX5 159 RX5 yX5_bands wsX5_bands) := goodIn_app (goodIn_of _ (by decide +kernel)) ggX5_digest_X5_bands
set_option maxRecDepth 20000 in
theorem ggX5_digest_X5_band : GoodIn wsX5_digest wsX5_band := goodIn_r _ [101, 36, 102, 103, 104, 43, 105, 56, 91, 38, 6, 39, 106, 107, 108, 95, 109, 110, 97, 111, 112, 113, 114, 115, 116, 117, 118, 119, 26, 27, 28, 29, 13, 8, 30, 9, 31, 10, 129, 130, 131, 132, 133, 134, 146, 147, 148, 149, 150, 151, 152, 153, 154, 155, 156, 157, 158, 159, 160, 162, 163] (by decide +kernel) (by decide +kernel)
set_option maxRecDepth 20000 in
theorem gX5_digest_X5_band : GoodIn wsX5_digest (wsV RX5 164 RX5 yX5_band wsX5_band) := goodIn_app (goodIn_of _ (by decide +kernel)) ggX5_digest_X5_band
set_option maxRecDepth 20000 in
theorem ggX5_digest_X5_lasts : GoodIn wsX5_digest wsX5_lasts := goodIn_r _ [123, 36, 124, 125, 126, 43, 127, 56, 45, 73, 128, 46, 38, 6, 39, 26, 27, 28, 29, 13, 8, 30, 9, 31, 10, 129, 130, 131, 132, 133, 134, 146, 147, 148, 149, 150, 151, 152, 153, 154, 155, 156, 157, 158, 159, 160] (by decide +kernel) (by decide +kernel)
set_option maxRecDepth 20000 in
theorem gX5_digest_X5_lasts : GoodIn wsX5_digest (wsV RX5 167 RX5 yX5_lasts wsX5_lasts) := goodIn_app (goodIn_of _ (by decide +kernel)) ggX5_digest_X5_lasts
theorem dX5_digest_0 : decode cX5_digest 0 = .ok (.ldc2_w 146, 3) := by decide +kernel
theorem dX5_digest_3 : decode cX5_digest 3 = .ok (.lstore_n 1, 1) := by decide +kernel
theorem dX5_digest_4 : decode cX5_digest 4 = .ok (.iconst 0, 1) := by decide +kernel
theorem dX5_digest_5 : decode cX5_digest 5 = .ok (.istore_n 3, 1) := by decide +kernel
end
section
theorem dX5_digest_6 : decode cX5_digest 6 = .ok (.iload_n 3, 1) := by decide +kernel
theorem dX5_digest_7 : decode cX5_digest 7 = .ok (.iconst 5, 1) := by decide +kernel
theorem dX5_digest_8 : decode cX5_digest 8 = .ok (.if_icmp .ge 22, 3) := by decide +kernel
theorem dX5_digest_11 : decode cX5_digest 11 = .ok (.ldc2_w 148, 3) := by decide +kernel
theorem dX5_digest_14 : decode cX5_digest 14 = .ok (.lload_n 1, 1) := by decide +kernel
theorem dX5_digest_15 : decode cX5_digest 15 = .ok (.lmul, 1) := by decide +kernel
theorem dX5_digest_16 : decode cX5_digest 16 = .ok (.aload_n 0, 1) := by decide +kernel
theorem dX5_digest_17 : decode cX5_digest 17 = .ok (.iload_n 3, 1) := by decide +kernel
theorem dX5_digest_18 : decode cX5_digest 18 = .ok (.invokevirtual 150, 3) := by decide +kernel
theorem dX5_digest_21 : decode cX5_digest 21 = .ok (.i2l, 1) := by decide +kernel
theorem dX5_digest_22 : decode cX5_digest 22 = .ok (.ladd, 1) := by decide +kernel
theorem dX5_digest_23 : decode cX5_digest 23 = .ok (.lstore_n 1, 1) := by decide +kernel
theorem dX5_digest_24 : decode cX5_digest 24 = .ok (.iinc 3 1, 3) := by decide +kernel
theorem dX5_digest_27 : decode cX5_digest 27 = .ok (.goto (-21), 3) := by decide +kernel
theorem dX5_digest_30 : decode cX5_digest 30 = .ok (.iconst 0, 1) := by decide +kernel
theorem dX5_digest_31 : decode cX5_digest 31 = .ok (.istore_n 3, 1) := by decide +kernel
theorem dX5_digest_32 : decode cX5_digest 32 = .ok (.iload_n 3, 1) := by decide +kernel
theorem dX5_digest_33 : decode cX5_digest 33 = .ok (.bipush 12, 2) := by decide +kernel
theorem dX5_digest_35 : decode cX5_digest 35 = .ok (.if_icmp .ge 22, 3) := by decide +kernel
theorem dX5_digest_38 : decode cX5_digest 38 = .ok (.ldc2_w 148, 3) := by decide +kernel
theorem dX5_digest_41 : decode cX5_digest 41 = .ok (.lload_n 1, 1) := by decide +kernel
theorem dX5_digest_42 : decode cX5_digest 42 = .ok (.lmul, 1) := by decide +kernel
theorem dX5_digest_43 : decode cX5_digest 43 = .ok (.aload_n 0, 1) := by decide +kernel
theorem dX5_digest_44 : decode cX5_digest 44 = .ok (.iload_n 3, 1) := by decide +kernel
theorem dX5_digest_45 : decode cX5_digest 45 = .ok (.invokevirtual 153, 3) := by decide +kernel
theorem dX5_digest_48 : decode cX5_digest 48 = .ok (.i2l, 1) := by decide +kernel
theorem dX5_digest_49 : decode cX5_digest 49 = .ok (.ladd, 1) := by decide +kernel
theorem dX5_digest_50 : decode cX5_digest 50 = .ok (.lstore_n 1, 1) := by decide +kernel
theorem dX5_digest_51 : decode cX5_digest 51 = .ok (.iinc 3 1, 3) := by decide +kernel
theorem dX5_digest_54 : decode cX5_digest 54 = .ok (.goto (-22), 3) := by decide +kernel
theorem dX5_digest_57 : decode cX5_digest 57 = .ok (.iconst 0, 1) := by decide +kernel
theorem dX5_digest_58 : decode cX5_digest 58 = .ok (.istore_n 3, 1) := by decide +kernel
theorem dX5_digest_59 : decode cX5_digest 59 = .ok (.iload_n 3, 1) := by decide +kernel
theorem dX5_digest_60 : decode cX5_digest 60 = .ok (.bipush 13, 2) := by decide +kernel
theorem dX5_digest_62 : decode cX5_digest 62 = .ok (.if_icmp .ge 22, 3) := by decide +kernel
theorem dX5_digest_65 : decode cX5_digest 65 = .ok (.ldc2_w 148, 3) := by decide +kernel
theorem dX5_digest_68 : decode cX5_digest 68 = .ok (.lload_n 1, 1) := by decide +kernel
theorem dX5_digest_69 : decode cX5_digest 69 = .ok (.lmul, 1) := by decide +kernel
theorem dX5_digest_70 : decode cX5_digest 70 = .ok (.aload_n 0, 1) := by decide +kernel
theorem dX5_digest_71 : decode cX5_digest 71 = .ok (.iload_n 3, 1) := by decide +kernel
theorem dX5_digest_72 : decode cX5_digest 72 = .ok (.invokevirtual 156, 3) := by decide +kernel
theorem dX5_digest_75 : decode cX5_digest 75 = .ok (.i2l, 1) := by decide +kernel
theorem dX5_digest_76 : decode cX5_digest 76 = .ok (.ladd, 1) := by decide +kernel
theorem dX5_digest_77 : decode cX5_digest 77 = .ok (.lstore_n 1, 1) := by decide +kernel
theorem dX5_digest_78 : decode cX5_digest 78 = .ok (.iinc 3 1, 3) := by decide +kernel
theorem dX5_digest_81 : decode cX5_digest 81 = .ok (.goto (-22), 3) := by decide +kernel
theorem dX5_digest_84 : decode cX5_digest 84 = .ok (.ldc2_w 148, 3) := by decide +kernel
theorem dX5_digest_87 : decode cX5_digest 87 = .ok (.lload_n 1, 1) := by decide +kernel
theorem dX5_digest_88 : decode cX5_digest 88 = .ok (.lmul, 1) := by decide +kernel
theorem dX5_digest_89 : decode cX5_digest 89 = .ok (.aload_n 0, 1) := by decide +kernel
theorem dX5_digest_90 : decode cX5_digest 90 = .ok (.invokevirtual 159, 3) := by decide +kernel
theorem dX5_digest_93 : decode cX5_digest 93 = .ok (.i2l, 1) := by decide +kernel
theorem dX5_digest_94 : decode cX5_digest 94 = .ok (.ladd, 1) := by decide +kernel
theorem dX5_digest_95 : decode cX5_digest 95 = .ok (.lstore_n 1, 1) := by decide +kernel
theorem dX5_digest_96 : decode cX5_digest 96 = .ok (.iconst 0, 1) := by decide +kernel
theorem dX5_digest_97 : decode cX5_digest 97 = .ok (.istore_n 3, 1) := by decide +kernel
theorem dX5_digest_98 : decode cX5_digest 98 = .ok (.iload_n 3, 1) := by decide +kernel
theorem dX5_digest_99 : decode cX5_digest 99 = .ok (.iconst 2, 1) := by decide +kernel
theorem dX5_digest_100 : decode cX5_digest 100 = .ok (.if_icmp .ge 57, 3) := by decide +kernel
theorem dX5_digest_103 : decode cX5_digest 103 = .ok (.iconst 0, 1) := by decide +kernel
theorem dX5_digest_104 : decode cX5_digest 104 = .ok (.istore 4, 2) := by decide +kernel
theorem dX5_digest_106 : decode cX5_digest 106 = .ok (.iload 4, 2) := by decide +kernel
theorem dX5_digest_108 : decode cX5_digest 108 = .ok (.bipush 11, 2) := by decide +kernel
theorem dX5_digest_110 : decode cX5_digest 110 = .ok (.if_icmp .ge 41, 3) := by decide +kernel
theorem dX5_digest_113 : decode cX5_digest 113 = .ok (.ldc2_w 148, 3) := by decide +kernel
theorem dX5_digest_116 : decode cX5_digest 116 = .ok (.lload_n 1, 1) := by decide +kernel
theorem dX5_digest_117 : decode cX5_digest 117 = .ok (.lmul, 1) := by decide +kernel
theorem dX5_digest_118 : decode cX5_digest 118 = .ok (.aload_n 0, 1) := by decide +kernel
theorem dX5_digest_119 : decode cX5_digest 119 = .ok (.iload_n 3, 1) := by decide +kernel
theorem dX5_digest_120 : decode cX5_digest 120 = .ok (.iload 4, 2) := by decide +kernel
theorem dX5_digest_122 : decode cX5_digest 122 = .ok (.iconst 0, 1) := by decide +kernel
theorem dX5_digest_123 : decode cX5_digest 123 = .ok (.invokevirtual 164, 3) := by decide +kernel
theorem dX5_digest_126 : decode cX5_digest 126 = .ok (.i2l, 1) := by decide +kernel
theorem dX5_digest_127 : decode cX5_digest 127 = .ok (.ladd, 1) := by decide +kernel
theorem dX5_digest_128 : decode cX5_digest 128 = .ok (.lstore_n 1, 1) := by decide +kernel
theorem dX5_digest_129 : decode cX5_digest 129 = .ok (.ldc2_w 148, 3) := by decide +kernel
theorem dX5_digest_132 : decode cX5_digest 132 = .ok (.lload_n 1, 1) := by decide +kernel
theorem dX5_digest_133 : decode cX5_digest 133 = .ok (.lmul, 1) := by decide +kernel
theorem dX5_digest_134 : decode cX5_digest 134 = .ok (.aload_n 0, 1) := by decide +kernel
theorem dX5_digest_135 : decode cX5_digest 135 = .ok (.iload_n 3, 1) := by decide +kernel
theorem dX5_digest_136 : decode cX5_digest 136 = .ok (.iload 4, 2) := by decide +kernel
theorem dX5_digest_138 : decode cX5_digest 138 = .ok (.iconst 1, 1) := by decide +kernel
theorem dX5_digest_139 : decode cX5_digest 139 = .ok (.invokevirtual 164, 3) := by decide +kernel
theorem dX5_digest_142 : decode cX5_digest 142 = .ok (.i2l, 1) := by decide +kernel
theorem dX5_digest_143 : decode cX5_digest 143 = .ok (.ladd, 1) := by decide +kernel
theorem dX5_digest_144 : decode cX5_digest 144 = .ok (.lstore_n 1, 1) := by decide +kernel
theorem dX5_digest_145 : decode cX5_digest 145 = .ok (.iinc 4 1, 3) := by decide +kernel
theorem dX5_digest_148 : decode cX5_digest 148 = .ok (.goto (-42), 3) := by decide +kernel
theorem dX5_digest_151 : decode cX5_digest 151 = .ok (.iinc 3 1, 3) := by decide +kernel
theorem dX5_digest_154 : decode cX5_digest 154 = .ok (.goto (-56), 3) := by decide +kernel
theorem dX5_digest_157 : decode cX5_digest 157 = .ok (.iconst 1, 1) := by decide +kernel
theorem dX5_digest_158 : decode cX5_digest 158 = .ok (.istore_n 3, 1) := by decide +kernel
theorem dX5_digest_159 : decode cX5_digest 159 = .ok (.iload_n 3, 1) := by decide +kernel
theorem dX5_digest_160 : decode cX5_digest 160 = .ok (.iconst 3, 1) := by decide +kernel
theorem dX5_digest_161 : decode cX5_digest 161 = .ok (.if_icmp .gt 37, 3) := by decide +kernel
theorem dX5_digest_164 : decode cX5_digest 164 = .ok (.ldc2_w 148, 3) := by decide +kernel
theorem dX5_digest_167 : decode cX5_digest 167 = .ok (.lload_n 1, 1) := by decide +kernel
theorem dX5_digest_168 : decode cX5_digest 168 = .ok (.lmul, 1) := by decide +kernel
theorem dX5_digest_169 : decode cX5_digest 169 = .ok (.aload_n 0, 1) := by decide +kernel
theorem dX5_digest_170 : decode cX5_digest 170 = .ok (.iload_n 3, 1) := by decide +kernel
theorem dX5_digest_171 : decode cX5_digest 171 = .ok (.iconst 0, 1) := by decide +kernel
theorem dX5_digest_172 : decode cX5_digest 172 = .ok (.invokevirtual 167, 3) := by decide +kernel
theorem dX5_digest_175 : decode cX5_digest 175 = .ok (.i2l, 1) := by decide +kernel
theorem dX5_digest_176 : decode cX5_digest 176 = .ok (.ladd, 1) := by decide +kernel
theorem dX5_digest_177 : decode cX5_digest 177 = .ok (.lstore_n 1, 1) := by decide +kernel
theorem dX5_digest_178 : decode cX5_digest 178 = .ok (.ldc2_w 148, 3) := by decide +kernel
theorem dX5_digest_181 : decode cX5_digest 181 = .ok (.lload_n 1, 1) := by decide +kernel
theorem dX5_digest_182 : decode cX5_digest 182 = .ok (.lmul, 1) := by decide +kernel
theorem dX5_digest_183 : decode cX5_digest 183 = .ok (.aload_n 0, 1) := by decide +kernel
theorem dX5_digest_184 : decode cX5_digest 184 = .ok (.iload_n 3, 1) := by decide +kernel
theorem dX5_digest_185 : decode cX5_digest 185 = .ok (.iconst 1, 1) := by decide +kernel
theorem dX5_digest_186 : decode cX5_digest 186 = .ok (.invokevirtual 167, 3) := by decide +kernel
theorem dX5_digest_189 : decode cX5_digest 189 = .ok (.i2l, 1) := by decide +kernel
theorem dX5_digest_190 : decode cX5_digest 190 = .ok (.ladd, 1) := by decide +kernel
theorem dX5_digest_191 : decode cX5_digest 191 = .ok (.lstore_n 1, 1) := by decide +kernel
theorem dX5_digest_192 : decode cX5_digest 192 = .ok (.iinc 3 1, 3) := by decide +kernel
theorem dX5_digest_195 : decode cX5_digest 195 = .ok (.goto (-36), 3) := by decide +kernel
theorem dX5_digest_198 : decode cX5_digest 198 = .ok (.lload_n 1, 1) := by decide +kernel
theorem dX5_digest_199 : decode cX5_digest 199 = .ok (.lreturn, 1) := by decide +kernel
set_option maxRecDepth 20000 in
theorem ggX5_settled_X5_isRefusal : GoodIn wsX5_settled wsX5_isRefusal := goodIn_r _ [5, 6, 7, 8] (by decide +kernel) (by decide +kernel)
set_option maxRecDepth 20000 in
theorem gX5_settled_X5_isRefusal : GoodIn wsX5_settled (va_wsS RX5 116 yX5_isRefusal wsX5_isRefusal) := goodIn_app (goodIn_of _ (by decide +kernel)) ggX5_settled_X5_isRefusal
set_option maxRecDepth 20000 in
theorem ggX5_settled_X3_keepMarked : GoodIn wsX5_settled wsX3_keepMarked := goodIn_r _ [13, 14, 15, 16, 17, 18, 19, 33, 34, 35] (by decide +kernel) (by decide +kernel)
set_option maxRecDepth 20000 in
theorem gX5_settled_X3_keepMarked : GoodIn wsX5_settled (wsV RX5 123 RX3 yX3_keepMarked wsX3_keepMarked) := goodIn_app (goodIn_of _ (by decide +kernel)) ggX5_settled_X3_keepMarked
set_option maxRecDepth 20000 in
theorem ggX5_settled_X5_counted : GoodIn wsX5_settled wsX5_counted := goodIn_r _ [23, 6, 24, 7, 25, 8, 26, 27, 28, 29, 30, 31, 32] (by decide +kernel) (by decide +kernel)
set_option maxRecDepth 20000 in
theorem gX5_settled_X5_counted : GoodIn wsX5_settled (wsV RX5 68 RX5 yX5_counted wsX5_counted) := goodIn_app (goodIn_of _ (by decide +kernel)) ggX5_settled_X5_counted
theorem dX5_settled_0 : decode cX5_settled 0 = .ok (.iload_n 1, 1) := by decide +kernel
theorem dX5_settled_1 : decode cX5_settled 1 = .ok (.invokestatic 116, 3) := by decide +kernel
theorem dX5_settled_4 : decode cX5_settled 4 = .ok (.ifCond .ne 10, 3) := by decide +kernel
theorem dX5_settled_7 : decode cX5_settled 7 = .ok (.aload_n 0, 1) := by decide +kernel
theorem dX5_settled_8 : decode cX5_settled 8 = .ok (.getfield 19, 3) := by decide +kernel
theorem dX5_settled_11 : decode cX5_settled 11 = .ok (.invokevirtual 123, 3) := by decide +kernel
theorem dX5_settled_14 : decode cX5_settled 14 = .ok (.aload_n 0, 1) := by decide +kernel
theorem dX5_settled_15 : decode cX5_settled 15 = .ok (.iload_n 1, 1) := by decide +kernel
theorem dX5_settled_16 : decode cX5_settled 16 = .ok (.invokevirtual 68, 3) := by decide +kernel
theorem dX5_settled_19 : decode cX5_settled 19 = .ok (.ireturn, 1) := by decide +kernel
theorem dX5_counted_0 : decode cX5_counted 0 = .ok (.iload_n 1, 1) := by decide +kernel
theorem dX5_counted_1 : decode cX5_counted 1 = .ok (.ldc 67, 2) := by decide +kernel
theorem dX5_counted_3 : decode cX5_counted 3 = .ok (.if_icmp .ne 16, 3) := by decide +kernel
theorem dX5_counted_6 : decode cX5_counted 6 = .ok (.aload_n 0, 1) := by decide +kernel
theorem dX5_counted_7 : decode cX5_counted 7 = .ok (.dup, 1) := by decide +kernel
theorem dX5_counted_8 : decode cX5_counted 8 = .ok (.getfield 133, 3) := by decide +kernel
theorem dX5_counted_11 : decode cX5_counted 11 = .ok (.iconst 1, 1) := by decide +kernel
theorem dX5_counted_12 : decode cX5_counted 12 = .ok (.iadd, 1) := by decide +kernel
theorem dX5_counted_13 : decode cX5_counted 13 = .ok (.putfield 133, 3) := by decide +kernel
theorem dX5_counted_16 : decode cX5_counted 16 = .ok (.goto 38, 3) := by decide +kernel
theorem dX5_counted_19 : decode cX5_counted 19 = .ok (.iload_n 1, 1) := by decide +kernel
theorem dX5_counted_20 : decode cX5_counted 20 = .ok (.ldc 129, 2) := by decide +kernel
theorem dX5_counted_22 : decode cX5_counted 22 = .ok (.if_icmp .ne 16, 3) := by decide +kernel
theorem dX5_counted_25 : decode cX5_counted 25 = .ok (.aload_n 0, 1) := by decide +kernel
theorem dX5_counted_26 : decode cX5_counted 26 = .ok (.dup, 1) := by decide +kernel
theorem dX5_counted_27 : decode cX5_counted 27 = .ok (.getfield 137, 3) := by decide +kernel
theorem dX5_counted_30 : decode cX5_counted 30 = .ok (.iconst 1, 1) := by decide +kernel
theorem dX5_counted_31 : decode cX5_counted 31 = .ok (.iadd, 1) := by decide +kernel
theorem dX5_counted_32 : decode cX5_counted 32 = .ok (.putfield 137, 3) := by decide +kernel
theorem dX5_counted_35 : decode cX5_counted 35 = .ok (.goto 19, 3) := by decide +kernel
theorem dX5_counted_38 : decode cX5_counted 38 = .ok (.iload_n 1, 1) := by decide +kernel
theorem dX5_counted_39 : decode cX5_counted 39 = .ok (.ldc 170, 2) := by decide +kernel
theorem dX5_counted_41 : decode cX5_counted 41 = .ok (.if_icmp .ne 13, 3) := by decide +kernel
theorem dX5_counted_44 : decode cX5_counted 44 = .ok (.aload_n 0, 1) := by decide +kernel
theorem dX5_counted_45 : decode cX5_counted 45 = .ok (.dup, 1) := by decide +kernel
theorem dX5_counted_46 : decode cX5_counted 46 = .ok (.getfield 140, 3) := by decide +kernel
theorem dX5_counted_49 : decode cX5_counted 49 = .ok (.iconst 1, 1) := by decide +kernel
theorem dX5_counted_50 : decode cX5_counted 50 = .ok (.iadd, 1) := by decide +kernel
theorem dX5_counted_51 : decode cX5_counted 51 = .ok (.putfield 140, 3) := by decide +kernel
theorem dX5_counted_54 : decode cX5_counted 54 = .ok (.iload_n 1, 1) := by decide +kernel
theorem dX5_counted_55 : decode cX5_counted 55 = .ok (.ireturn, 1) := by decide +kernel
set_option maxRecDepth 20000 in
theorem ggX5_obey_X4_firstOf : GoodIn wsX5_obey wsX4_firstOf := goodIn_r _ [8, 9, 10, 11, 12, 13, 159, 160, 161, 162, 163, 164, 165, 166] (by decide +kernel) (by decide +kernel)
set_option maxRecDepth 20000 in
theorem gX5_obey_X4_firstOf : GoodIn wsX5_obey (wsV RX5 171 RX4 yX4_firstOf wsX4_firstOf) := goodIn_app (goodIn_of _ (by decide +kernel)) ggX5_obey_X4_firstOf
set_option maxRecDepth 20000 in
theorem ggX5_obey_X4_secondOf : GoodIn wsX5_obey wsX4_secondOf := goodIn_r _ [17, 9, 18, 11, 12, 13, 159, 160, 161, 162, 163, 164, 165, 166] (by decide +kernel) (by decide +kernel)
set_option maxRecDepth 20000 in
theorem gX5_obey_X4_secondOf : GoodIn wsX5_obey (wsV RX5 174 RX4 yX4_secondOf wsX4_secondOf) := goodIn_app (goodIn_of _ (by decide +kernel)) ggX5_obey_X4_secondOf
set_option maxRecDepth 20000 in
theorem ggX5_obey_X4_kindOf : GoodIn wsX5_obey wsX4_kindOf := goodIn_r _ [22, 9, 23, 11, 12, 13, 159, 160, 161, 162, 163, 164, 165, 166] (by decide +kernel) (by decide +kernel)
set_option maxRecDepth 20000 in
theorem gX5_obey_X4_kindOf : GoodIn wsX5_obey (wsV RX5 177 RX4 yX4_kindOf wsX4_kindOf) := goodIn_app (goodIn_of _ (by decide +kernel)) ggX5_obey_X4_kindOf
set_option maxRecDepth 20000 in
theorem ggX5_obey_X1_pass : GoodIn wsX5_obey wsX1_pass := goodIn_r _ [28, 29, 30, 31, 32, 33, 34, 35, 36, 37, 38, 39, 40, 41, 42, 43, 11, 12, 13, 44, 45, 46, 27, 47, 48, 49, 50, 51, 52, 53, 54, 55, 56, 57, 167, 168, 169, 170, 171, 172, 173, 174, 175, 176, 177, 178, 179, 180, 181] (by decide +kernel) (by decide +kernel)
set_option maxRecDepth 20000 in
theorem gX5_obey_X1_pass : GoodIn wsX5_obey (wsV RX5 54 RX1 yX1_pass wsX1_pass) := goodIn_app (goodIn_of _ (by decide +kernel)) ggX5_obey_X1_pass
set_option maxRecDepth 20000 in
theorem ggX5_obey_X1_rest : GoodIn wsX5_obey wsX1_rest := goodIn_r _ [61, 29, 62, 41, 63, 36, 37, 38, 39, 34, 40, 30, 42, 43, 64, 65, 66, 67, 27, 68, 11, 12, 13, 69, 70, 71, 72, 73, 74, 32, 33, 35, 75, 76, 77, 78, 79, 80, 81, 82, 83, 84, 85, 86, 87, 88, 89, 90, 91, 92, 93, 94, 95, 96, 97, 98, 31, 53, 99, 100, 101, 102, 103, 104, 105, 106, 107, 108, 109, 110, 54, 55, 56, 57, 48, 167, 168, 169, 170, 171, 172, 173, 174, 175, 176, 177, 178, 179, 180, 181, 182] (by decide +kernel) (by decide +kernel)
set_option maxRecDepth 20000 in
theorem gX5_obey_X1_rest : GoodIn wsX5_obey (wsV RX5 57 RX1 yX1_rest wsX1_rest) := goodIn_app (goodIn_of _ (by decide +kernel)) ggX5_obey_X1_rest
set_option maxRecDepth 20000 in
theorem ggX5_obey_X1_load : GoodIn wsX5_obey wsX1_load := goodIn_r _ [114, 29, 73, 115, 116, 117, 27, 118, 11, 12, 13, 66, 67, 68, 49, 50, 51, 52, 53, 37, 30, 36, 38, 39, 34, 40, 119, 86, 87, 78, 88, 89, 90, 120, 121, 122, 123, 124, 125, 126, 127, 128, 129, 130, 131, 132, 133, 134, 135, 167, 168, 169, 170, 171, 172, 173, 174, 175, 176, 177, 178, 179, 180, 181, 182, 183, 184] (by decide +kernel) (by decide +kernel)
set_option maxRecDepth 20000 in
theorem gX5_obey_X1_load : GoodIn wsX5_obey (wsV RX5 60 RX1 yX1_load wsX1_load) := goodIn_app (goodIn_of _ (by decide +kernel)) ggX5_obey_X1_load
set_option maxRecDepth 20000 in
theorem ggX5_obey_X1_putOffset : GoodIn wsX5_obey wsX1_putOffset := goodIn_r _ [139, 29, 31, 11, 12, 13, 167, 168, 169, 170, 171, 172, 173, 174, 175, 176, 177, 178, 179, 180, 181] (by decide +kernel) (by decide +kernel)
set_option maxRecDepth 20000 in
theorem gX5_obey_X1_putOffset : GoodIn wsX5_obey (wsV RX5 45 RX1 yX1_putOffset wsX1_putOffset) := goodIn_app (goodIn_of _ (by decide +kernel)) ggX5_obey_X1_putOffset
set_option maxRecDepth 20000 in
theorem ggX5_obey_X1_putCling : GoodIn wsX5_obey wsX1_putCling := goodIn_r _ [143, 29, 74, 11, 12, 13, 167, 168, 169, 170, 171, 172, 173, 174, 175, 176, 177, 178, 179, 180, 181] (by decide +kernel) (by decide +kernel)
set_option maxRecDepth 20000 in
theorem gX5_obey_X1_putCling : GoodIn wsX5_obey (wsV RX5 48 RX1 yX1_putCling wsX1_putCling) := goodIn_app (goodIn_of _ (by decide +kernel)) ggX5_obey_X1_putCling
set_option maxRecDepth 20000 in
theorem ggX5_obey_X1_putPoint : GoodIn wsX5_obey wsX1_putPoint := goodIn_r _ [147, 73, 148, 149, 150, 78, 151, 89, 90, 152, 11, 12, 13, 167, 168, 169, 170, 171, 172, 173, 174, 175, 176, 177, 178, 179, 180, 181, 182] (by decide +kernel) (by decide +kernel)
set_option maxRecDepth 20000 in
theorem gX5_obey_X1_putPoint : GoodIn wsX5_obey (wsV RX5 51 RX1 yX1_putPoint wsX1_putPoint) := goodIn_app (goodIn_of _ (by decide +kernel)) ggX5_obey_X1_putPoint
theorem dX5_obey_0 : decode cX5_obey 0 = .ok (.aload_n 0, 1) := by decide +kernel
theorem dX5_obey_1 : decode cX5_obey 1 = .ok (.getfield 26, 3) := by decide +kernel
theorem dX5_obey_4 : decode cX5_obey 4 = .ok (.iload_n 1, 1) := by decide +kernel
theorem dX5_obey_5 : decode cX5_obey 5 = .ok (.invokevirtual 171, 3) := by decide +kernel
theorem dX5_obey_8 : decode cX5_obey 8 = .ok (.istore_n 2, 1) := by decide +kernel
theorem dX5_obey_9 : decode cX5_obey 9 = .ok (.aload_n 0, 1) := by decide +kernel
theorem dX5_obey_10 : decode cX5_obey 10 = .ok (.getfield 26, 3) := by decide +kernel
theorem dX5_obey_13 : decode cX5_obey 13 = .ok (.iload_n 1, 1) := by decide +kernel
theorem dX5_obey_14 : decode cX5_obey 14 = .ok (.invokevirtual 174, 3) := by decide +kernel
theorem dX5_obey_17 : decode cX5_obey 17 = .ok (.istore_n 3, 1) := by decide +kernel
theorem dX5_obey_18 : decode cX5_obey 18 = .ok (.aload_n 0, 1) := by decide +kernel
theorem dX5_obey_19 : decode cX5_obey 19 = .ok (.getfield 26, 3) := by decide +kernel
theorem dX5_obey_22 : decode cX5_obey 22 = .ok (.iload_n 1, 1) := by decide +kernel
theorem dX5_obey_23 : decode cX5_obey 23 = .ok (.invokevirtual 177, 3) := by decide +kernel
theorem dX5_obey_26 : decode cX5_obey 26 = .ok (.tableswitch 135 99 114 #[125, 135, 135, 135, 116, 135, 135, 135, 135, 97, 135, 135, 107, 78, 135, 88], 78) := by decide +kernel
theorem dX5_obey_104 : decode cX5_obey 104 = .ok (.aload_n 0, 1) := by decide +kernel
theorem dX5_obey_105 : decode cX5_obey 105 = .ok (.getfield 10, 3) := by decide +kernel
theorem dX5_obey_108 : decode cX5_obey 108 = .ok (.iload_n 2, 1) := by decide +kernel
theorem dX5_obey_109 : decode cX5_obey 109 = .ok (.iload_n 3, 1) := by decide +kernel
theorem dX5_obey_110 : decode cX5_obey 110 = .ok (.invokevirtual 54, 3) := by decide +kernel
theorem dX5_obey_113 : decode cX5_obey 113 = .ok (.ireturn, 1) := by decide +kernel
theorem dX5_obey_114 : decode cX5_obey 114 = .ok (.aload_n 0, 1) := by decide +kernel
theorem dX5_obey_115 : decode cX5_obey 115 = .ok (.getfield 10, 3) := by decide +kernel
theorem dX5_obey_118 : decode cX5_obey 118 = .ok (.iload_n 2, 1) := by decide +kernel
theorem dX5_obey_119 : decode cX5_obey 119 = .ok (.invokevirtual 57, 3) := by decide +kernel
theorem dX5_obey_122 : decode cX5_obey 122 = .ok (.ireturn, 1) := by decide +kernel
theorem dX5_obey_123 : decode cX5_obey 123 = .ok (.aload_n 0, 1) := by decide +kernel
theorem dX5_obey_124 : decode cX5_obey 124 = .ok (.getfield 10, 3) := by decide +kernel
theorem dX5_obey_127 : decode cX5_obey 127 = .ok (.iload_n 2, 1) := by decide +kernel
theorem dX5_obey_128 : decode cX5_obey 128 = .ok (.iload_n 3, 1) := by decide +kernel
theorem dX5_obey_129 : decode cX5_obey 129 = .ok (.invokevirtual 60, 3) := by decide +kernel
theorem dX5_obey_132 : decode cX5_obey 132 = .ok (.ireturn, 1) := by decide +kernel
theorem dX5_obey_133 : decode cX5_obey 133 = .ok (.aload_n 0, 1) := by decide +kernel
theorem dX5_obey_134 : decode cX5_obey 134 = .ok (.getfield 10, 3) := by decide +kernel
theorem dX5_obey_137 : decode cX5_obey 137 = .ok (.iload_n 2, 1) := by decide +kernel
theorem dX5_obey_138 : decode cX5_obey 138 = .ok (.invokevirtual 45, 3) := by decide +kernel
theorem dX5_obey_141 : decode cX5_obey 141 = .ok (.ireturn, 1) := by decide +kernel
theorem dX5_obey_142 : decode cX5_obey 142 = .ok (.aload_n 0, 1) := by decide +kernel
theorem dX5_obey_143 : decode cX5_obey 143 = .ok (.getfield 10, 3) := by decide +kernel
theorem dX5_obey_146 : decode cX5_obey 146 = .ok (.iload_n 2, 1) := by decide +kernel
theorem dX5_obey_147 : decode cX5_obey 147 = .ok (.invokevirtual 48, 3) := by decide +kernel
theorem dX5_obey_150 : decode cX5_obey 150 = .ok (.ireturn, 1) := by decide +kernel
theorem dX5_obey_151 : decode cX5_obey 151 = .ok (.aload_n 0, 1) := by decide +kernel
theorem dX5_obey_152 : decode cX5_obey 152 = .ok (.getfield 10, 3) := by decide +kernel
theorem dX5_obey_155 : decode cX5_obey 155 = .ok (.iload_n 2, 1) := by decide +kernel
theorem dX5_obey_156 : decode cX5_obey 156 = .ok (.iload_n 3, 1) := by decide +kernel
theorem dX5_obey_157 : decode cX5_obey 157 = .ok (.invokevirtual 51, 3) := by decide +kernel
theorem dX5_obey_160 : decode cX5_obey 160 = .ok (.ireturn, 1) := by decide +kernel
theorem dX5_obey_161 : decode cX5_obey 161 = .ok (.ldc 67, 2) := by decide +kernel
theorem dX5_obey_163 : decode cX5_obey 163 = .ok (.ireturn, 1) := by decide +kernel
theorem dX5_isRefusal_0 : decode cX5_isRefusal 0 = .ok (.iload_n 0, 1) := by decide +kernel
theorem dX5_isRefusal_1 : decode cX5_isRefusal 1 = .ok (.ldc 67, 2) := by decide +kernel
theorem dX5_isRefusal_3 : decode cX5_isRefusal 3 = .ok (.if_icmp .eq 15, 3) := by decide +kernel
theorem dX5_isRefusal_6 : decode cX5_isRefusal 6 = .ok (.iload_n 0, 1) := by decide +kernel
theorem dX5_isRefusal_7 : decode cX5_isRefusal 7 = .ok (.ldc 129, 2) := by decide +kernel
theorem dX5_isRefusal_9 : decode cX5_isRefusal 9 = .ok (.if_icmp .eq 9, 3) := by decide +kernel
theorem dX5_isRefusal_12 : decode cX5_isRefusal 12 = .ok (.iload_n 0, 1) := by decide +kernel
theorem dX5_isRefusal_13 : decode cX5_isRefusal 13 = .ok (.ldc 170, 2) := by decide +kernel
theorem dX5_isRefusal_15 : decode cX5_isRefusal 15 = .ok (.if_icmp .ne 7, 3) := by decide +kernel
theorem dX5_isRefusal_18 : decode cX5_isRefusal 18 = .ok (.iconst 1, 1) := by decide +kernel
theorem dX5_isRefusal_19 : decode cX5_isRefusal 19 = .ok (.goto 4, 3) := by decide +kernel
theorem dX5_isRefusal_22 : decode cX5_isRefusal 22 = .ok (.iconst 0, 1) := by decide +kernel
theorem dX5_isRefusal_23 : decode cX5_isRefusal 23 = .ok (.ireturn, 1) := by decide +kernel
theorem dX5_within_0 : decode cX5_within 0 = .ok (.iload_n 0, 1) := by decide +kernel
theorem dX5_within_1 : decode cX5_within 1 = .ok (.iload_n 1, 1) := by decide +kernel
theorem dX5_within_2 : decode cX5_within 2 = .ok (.if_icmp .lt 12, 3) := by decide +kernel
theorem dX5_within_5 : decode cX5_within 5 = .ok (.iload_n 0, 1) := by decide +kernel
theorem dX5_within_6 : decode cX5_within 6 = .ok (.iload_n 2, 1) := by decide +kernel
theorem dX5_within_7 : decode cX5_within 7 = .ok (.if_icmp .gt 7, 3) := by decide +kernel
theorem dX5_within_10 : decode cX5_within 10 = .ok (.iconst 1, 1) := by decide +kernel
theorem dX5_within_11 : decode cX5_within 11 = .ok (.goto 4, 3) := by decide +kernel
theorem dX5_within_14 : decode cX5_within 14 = .ok (.iconst 0, 1) := by decide +kernel
theorem dX5_within_15 : decode cX5_within 15 = .ok (.ireturn, 1) := by decide +kernel
theorem dX6_init_0 : decode cX6_init 0 = .ok (.aload_n 0, 1) := by decide +kernel
theorem dX6_init_1 : decode cX6_init 1 = .ok (.invokespecial 1, 3) := by decide +kernel
theorem dX6_init_4 : decode cX6_init 4 = .ok (.aload_n 0, 1) := by decide +kernel
theorem dX6_init_5 : decode cX6_init 5 = .ok (.bipush 68, 2) := by decide +kernel
theorem dX6_init_7 : decode cX6_init 7 = .ok (.newarray .long, 2) := by decide +kernel
theorem dX6_init_9 : decode cX6_init 9 = .ok (.putfield 7, 3) := by decide +kernel
theorem dX6_init_12 : decode cX6_init 12 = .ok (.aload_n 0, 1) := by decide +kernel
theorem dX6_init_13 : decode cX6_init 13 = .ok (.bipush 68, 2) := by decide +kernel
theorem dX6_init_15 : decode cX6_init 15 = .ok (.newarray .long, 2) := by decide +kernel
theorem dX6_init_17 : decode cX6_init 17 = .ok (.putfield 13, 3) := by decide +kernel
theorem dX6_init_20 : decode cX6_init 20 = .ok (.aload_n 0, 1) := by decide +kernel
theorem dX6_init_21 : decode cX6_init 21 = .ok (.sipush 340, 3) := by decide +kernel
theorem dX6_init_24 : decode cX6_init 24 = .ok (.newarray .long, 2) := by decide +kernel
theorem dX6_init_26 : decode cX6_init 26 = .ok (.putfield 16, 3) := by decide +kernel
theorem dX6_init_29 : decode cX6_init 29 = .ok (.aload_n 0, 1) := by decide +kernel
theorem dX6_init_30 : decode cX6_init 30 = .ok (.iconst 3, 1) := by decide +kernel
theorem dX6_init_31 : decode cX6_init 31 = .ok (.newarray .int, 2) := by decide +kernel
theorem dX6_init_33 : decode cX6_init 33 = .ok (.putfield 19, 3) := by decide +kernel
theorem dX6_init_36 : decode cX6_init 36 = .ok (.aload_n 0, 1) := by decide +kernel
theorem dX6_init_37 : decode cX6_init 37 = .ok (.bipush 120, 2) := by decide +kernel
theorem dX6_init_39 : decode cX6_init 39 = .ok (.newarray .int, 2) := by decide +kernel
theorem dX6_init_41 : decode cX6_init 41 = .ok (.putfield 23, 3) := by decide +kernel
theorem dX6_init_44 : decode cX6_init 44 = .ok (.aload_n 0, 1) := by decide +kernel
theorem dX6_init_45 : decode cX6_init 45 = .ok (.bipush 60, 2) := by decide +kernel
theorem dX6_init_47 : decode cX6_init 47 = .ok (.newarray .int, 2) := by decide +kernel
theorem dX6_init_49 : decode cX6_init 49 = .ok (.putfield 26, 3) := by decide +kernel
theorem dX6_init_52 : decode cX6_init 52 = .ok (.aload_n 0, 1) := by decide +kernel
theorem dX6_init_53 : decode cX6_init 53 = .ok (.bipush 120, 2) := by decide +kernel
theorem dX6_init_55 : decode cX6_init 55 = .ok (.newarray .int, 2) := by decide +kernel
theorem dX6_init_57 : decode cX6_init 57 = .ok (.putfield 29, 3) := by decide +kernel
theorem dX6_init_60 : decode cX6_init 60 = .ok (.aload_n 0, 1) := by decide +kernel
theorem dX6_init_61 : decode cX6_init 61 = .ok (.getfield 7, 3) := by decide +kernel
theorem dX6_init_64 : decode cX6_init 64 = .ok (.iconst 1, 1) := by decide +kernel
theorem dX6_init_65 : decode cX6_init 65 = .ok (.ldc2_w 32, 3) := by decide +kernel
theorem dX6_init_68 : decode cX6_init 68 = .ok (.lastore, 1) := by decide +kernel
theorem dX6_init_69 : decode cX6_init 69 = .ok (.aload_n 0, 1) := by decide +kernel
theorem dX6_init_70 : decode cX6_init 70 = .ok (.getfield 7, 3) := by decide +kernel
theorem dX6_init_73 : decode cX6_init 73 = .ok (.iconst 2, 1) := by decide +kernel
theorem dX6_init_74 : decode cX6_init 74 = .ok (.ldc2_w 34, 3) := by decide +kernel
theorem dX6_init_77 : decode cX6_init 77 = .ok (.lastore, 1) := by decide +kernel
theorem dX6_init_78 : decode cX6_init 78 = .ok (.aload_n 0, 1) := by decide +kernel
theorem dX6_init_79 : decode cX6_init 79 = .ok (.getfield 7, 3) := by decide +kernel
theorem dX6_init_82 : decode cX6_init 82 = .ok (.iconst 3, 1) := by decide +kernel
theorem dX6_init_83 : decode cX6_init 83 = .ok (.ldc2_w 32, 3) := by decide +kernel
theorem dX6_init_86 : decode cX6_init 86 = .ok (.lastore, 1) := by decide +kernel
theorem dX6_init_87 : decode cX6_init 87 = .ok (.aload_n 0, 1) := by decide +kernel
theorem dX6_init_88 : decode cX6_init 88 = .ok (.getfield 7, 3) := by decide +kernel
theorem dX6_init_91 : decode cX6_init 91 = .ok (.iconst 4, 1) := by decide +kernel
theorem dX6_init_92 : decode cX6_init 92 = .ok (.ldc2_w 36, 3) := by decide +kernel
theorem dX6_init_95 : decode cX6_init 95 = .ok (.lastore, 1) := by decide +kernel
theorem dX6_init_96 : decode cX6_init 96 = .ok (.aload_n 0, 1) := by decide +kernel
theorem dX6_init_97 : decode cX6_init 97 = .ok (.getfield 7, 3) := by decide +kernel
theorem dX6_init_100 : decode cX6_init 100 = .ok (.bipush 9, 2) := by decide +kernel
theorem dX6_init_102 : decode cX6_init 102 = .ok (.ldc2_w 38, 3) := by decide +kernel
theorem dX6_init_105 : decode cX6_init 105 = .ok (.lastore, 1) := by decide +kernel
theorem dX6_init_106 : decode cX6_init 106 = .ok (.aload_n 0, 1) := by decide +kernel
theorem dX6_init_107 : decode cX6_init 107 = .ok (.getfield 7, 3) := by decide +kernel
theorem dX6_init_110 : decode cX6_init 110 = .ok (.bipush 10, 2) := by decide +kernel
theorem dX6_init_112 : decode cX6_init 112 = .ok (.ldc2_w 38, 3) := by decide +kernel
theorem dX6_init_115 : decode cX6_init 115 = .ok (.lastore, 1) := by decide +kernel
theorem dX6_init_116 : decode cX6_init 116 = .ok (.aload_n 0, 1) := by decide +kernel
theorem dX6_init_117 : decode cX6_init 117 = .ok (.getfield 7, 3) := by decide +kernel
theorem dX6_init_120 : decode cX6_init 120 = .ok (.bipush 11, 2) := by decide +kernel
theorem dX6_init_122 : decode cX6_init 122 = .ok (.lconst 1, 1) := by decide +kernel
theorem dX6_init_123 : decode cX6_init 123 = .ok (.lastore, 1) := by decide +kernel
theorem dX6_init_124 : decode cX6_init 124 = .ok (.aload_n 0, 1) := by decide +kernel
theorem dX6_init_125 : decode cX6_init 125 = .ok (.getfield 7, 3) := by decide +kernel
theorem dX6_init_128 : decode cX6_init 128 = .ok (.bipush 12, 2) := by decide +kernel
theorem dX6_init_130 : decode cX6_init 130 = .ok (.ldc2_w 40, 3) := by decide +kernel
theorem dX6_init_133 : decode cX6_init 133 = .ok (.lastore, 1) := by decide +kernel
theorem dX6_init_134 : decode cX6_init 134 = .ok (.iconst 0, 1) := by decide +kernel
theorem dX6_init_135 : decode cX6_init 135 = .ok (.istore_n 1, 1) := by decide +kernel
theorem dX6_init_136 : decode cX6_init 136 = .ok (.iload_n 1, 1) := by decide +kernel
theorem dX6_init_137 : decode cX6_init 137 = .ok (.bipush 11, 2) := by decide +kernel
theorem dX6_init_139 : decode cX6_init 139 = .ok (.if_icmp .ge 28, 3) := by decide +kernel
theorem dX6_init_142 : decode cX6_init 142 = .ok (.aload_n 0, 1) := by decide +kernel
theorem dX6_init_143 : decode cX6_init 143 = .ok (.getfield 7, 3) := by decide +kernel
theorem dX6_init_146 : decode cX6_init 146 = .ok (.bipush 13, 2) := by decide +kernel
theorem dX6_init_148 : decode cX6_init 148 = .ok (.iload_n 1, 1) := by decide +kernel
theorem dX6_init_149 : decode cX6_init 149 = .ok (.iadd, 1) := by decide +kernel
theorem dX6_init_150 : decode cX6_init 150 = .ok (.ldc2_w 42, 3) := by decide +kernel
theorem dX6_init_153 : decode cX6_init 153 = .ok (.ldc2_w 36, 3) := by decide +kernel
theorem dX6_init_156 : decode cX6_init 156 = .ok (.iload_n 1, 1) := by decide +kernel
theorem dX6_init_157 : decode cX6_init 157 = .ok (.i2l, 1) := by decide +kernel
theorem dX6_init_158 : decode cX6_init 158 = .ok (.lmul, 1) := by decide +kernel
theorem dX6_init_159 : decode cX6_init 159 = .ok (.ladd, 1) := by decide +kernel
theorem dX6_init_160 : decode cX6_init 160 = .ok (.lastore, 1) := by decide +kernel
theorem dX6_init_161 : decode cX6_init 161 = .ok (.iinc 1 1, 3) := by decide +kernel
theorem dX6_init_164 : decode cX6_init 164 = .ok (.goto (-28), 3) := by decide +kernel
theorem dX6_init_167 : decode cX6_init 167 = .ok (.return_, 1) := by decide +kernel
theorem dX6_in_0 : decode cX6_in 0 = .ok (.lload_n 0, 1) := by decide +kernel
theorem dX6_in_1 : decode cX6_in 1 = .ok (.lload_n 2, 1) := by decide +kernel
theorem dX6_in_2 : decode cX6_in 2 = .ok (.lcmp, 1) := by decide +kernel
theorem dX6_in_3 : decode cX6_in 3 = .ok (.ifCond .lt 14, 3) := by decide +kernel
theorem dX6_in_6 : decode cX6_in 6 = .ok (.lload_n 0, 1) := by decide +kernel
theorem dX6_in_7 : decode cX6_in 7 = .ok (.lload 4, 2) := by decide +kernel
theorem dX6_in_9 : decode cX6_in 9 = .ok (.lcmp, 1) := by decide +kernel
theorem dX6_in_10 : decode cX6_in 10 = .ok (.ifCond .gt 7, 3) := by decide +kernel
theorem dX6_in_13 : decode cX6_in 13 = .ok (.iconst 1, 1) := by decide +kernel
theorem dX6_in_14 : decode cX6_in 14 = .ok (.goto 4, 3) := by decide +kernel
theorem dX6_in_17 : decode cX6_in 17 = .ok (.iconst 0, 1) := by decide +kernel
theorem dX6_in_18 : decode cX6_in 18 = .ok (.ireturn, 1) := by decide +kernel
theorem dX6_refuses_0 : decode cX6_refuses 0 = .ok (.aload_n 0, 1) := by decide +kernel
theorem dX6_refuses_1 : decode cX6_refuses 1 = .ok (.getfield 19, 3) := by decide +kernel
theorem dX6_refuses_4 : decode cX6_refuses 4 = .ok (.ldc 44, 2) := by decide +kernel
theorem dX6_refuses_6 : decode cX6_refuses 6 = .ok (.iload_n 1, 1) := by decide +kernel
theorem dX6_refuses_7 : decode cX6_refuses 7 = .ok (.isub, 1) := by decide +kernel
theorem dX6_refuses_8 : decode cX6_refuses 8 = .ok (.dup2, 1) := by decide +kernel
theorem dX6_refuses_9 : decode cX6_refuses 9 = .ok (.iaload, 1) := by decide +kernel
theorem dX6_refuses_10 : decode cX6_refuses 10 = .ok (.iconst 1, 1) := by decide +kernel
theorem dX6_refuses_11 : decode cX6_refuses 11 = .ok (.iadd, 1) := by decide +kernel
theorem dX6_refuses_12 : decode cX6_refuses 12 = .ok (.iastore, 1) := by decide +kernel
theorem dX6_refuses_13 : decode cX6_refuses 13 = .ok (.iload_n 1, 1) := by decide +kernel
theorem dX6_refuses_14 : decode cX6_refuses 14 = .ok (.ireturn, 1) := by decide +kernel
theorem dX6_laysAside_0 : decode cX6_laysAside 0 = .ok (.iconst 0, 1) := by decide +kernel
theorem dX6_laysAside_1 : decode cX6_laysAside 1 = .ok (.istore_n 1, 1) := by decide +kernel
theorem dX6_laysAside_2 : decode cX6_laysAside 2 = .ok (.iload_n 1, 1) := by decide +kernel
theorem dX6_laysAside_3 : decode cX6_laysAside 3 = .ok (.bipush 68, 2) := by decide +kernel
theorem dX6_laysAside_5 : decode cX6_laysAside 5 = .ok (.if_icmp .ge 21, 3) := by decide +kernel
theorem dX6_laysAside_8 : decode cX6_laysAside 8 = .ok (.aload_n 0, 1) := by decide +kernel
theorem dX6_laysAside_9 : decode cX6_laysAside 9 = .ok (.getfield 13, 3) := by decide +kernel
theorem dX6_laysAside_12 : decode cX6_laysAside 12 = .ok (.iload_n 1, 1) := by decide +kernel
theorem dX6_laysAside_13 : decode cX6_laysAside 13 = .ok (.aload_n 0, 1) := by decide +kernel
theorem dX6_laysAside_14 : decode cX6_laysAside 14 = .ok (.getfield 7, 3) := by decide +kernel
theorem dX6_laysAside_17 : decode cX6_laysAside 17 = .ok (.iload_n 1, 1) := by decide +kernel
theorem dX6_laysAside_18 : decode cX6_laysAside 18 = .ok (.laload, 1) := by decide +kernel
theorem dX6_laysAside_19 : decode cX6_laysAside 19 = .ok (.lastore, 1) := by decide +kernel
theorem dX6_laysAside_20 : decode cX6_laysAside 20 = .ok (.iinc 1 1, 3) := by decide +kernel
theorem dX6_laysAside_23 : decode cX6_laysAside 23 = .ok (.goto (-21), 3) := by decide +kernel
theorem dX6_laysAside_26 : decode cX6_laysAside 26 = .ok (.return_, 1) := by decide +kernel
theorem dX6_remembers_0 : decode cX6_remembers 0 = .ok (.aload_n 0, 1) := by decide +kernel
theorem dX6_remembers_1 : decode cX6_remembers 1 = .ok (.getfield 45, 3) := by decide +kernel
theorem dX6_remembers_4 : decode cX6_remembers 4 = .ok (.iconst 5, 1) := by decide +kernel
theorem dX6_remembers_5 : decode cX6_remembers 5 = .ok (.if_icmp .ne 43, 3) := by decide +kernel
theorem dX6_remembers_8 : decode cX6_remembers 8 = .ok (.iconst 0, 1) := by decide +kernel
theorem dX6_remembers_9 : decode cX6_remembers 9 = .ok (.istore_n 1, 1) := by decide +kernel
theorem dX6_remembers_10 : decode cX6_remembers 10 = .ok (.iload_n 1, 1) := by decide +kernel
theorem dX6_remembers_11 : decode cX6_remembers 11 = .ok (.sipush 272, 3) := by decide +kernel
theorem dX6_remembers_14 : decode cX6_remembers 14 = .ok (.if_icmp .ge 24, 3) := by decide +kernel
theorem dX6_remembers_17 : decode cX6_remembers 17 = .ok (.aload_n 0, 1) := by decide +kernel
theorem dX6_remembers_18 : decode cX6_remembers 18 = .ok (.getfield 16, 3) := by decide +kernel
theorem dX6_remembers_21 : decode cX6_remembers 21 = .ok (.iload_n 1, 1) := by decide +kernel
theorem dX6_remembers_22 : decode cX6_remembers 22 = .ok (.aload_n 0, 1) := by decide +kernel
theorem dX6_remembers_23 : decode cX6_remembers 23 = .ok (.getfield 16, 3) := by decide +kernel
theorem dX6_remembers_26 : decode cX6_remembers 26 = .ok (.iload_n 1, 1) := by decide +kernel
theorem dX6_remembers_27 : decode cX6_remembers 27 = .ok (.bipush 68, 2) := by decide +kernel
theorem dX6_remembers_29 : decode cX6_remembers 29 = .ok (.iadd, 1) := by decide +kernel
theorem dX6_remembers_30 : decode cX6_remembers 30 = .ok (.laload, 1) := by decide +kernel
theorem dX6_remembers_31 : decode cX6_remembers 31 = .ok (.lastore, 1) := by decide +kernel
theorem dX6_remembers_32 : decode cX6_remembers 32 = .ok (.iinc 1 1, 3) := by decide +kernel
theorem dX6_remembers_35 : decode cX6_remembers 35 = .ok (.goto (-25), 3) := by decide +kernel
theorem dX6_remembers_38 : decode cX6_remembers 38 = .ok (.aload_n 0, 1) := by decide +kernel
theorem dX6_remembers_39 : decode cX6_remembers 39 = .ok (.dup, 1) := by decide +kernel
theorem dX6_remembers_40 : decode cX6_remembers 40 = .ok (.getfield 45, 3) := by decide +kernel
theorem dX6_remembers_43 : decode cX6_remembers 43 = .ok (.iconst 1, 1) := by decide +kernel
theorem dX6_remembers_44 : decode cX6_remembers 44 = .ok (.isub, 1) := by decide +kernel
theorem dX6_remembers_45 : decode cX6_remembers 45 = .ok (.putfield 45, 3) := by decide +kernel
theorem dX6_remembers_48 : decode cX6_remembers 48 = .ok (.iconst 0, 1) := by decide +kernel
theorem dX6_remembers_49 : decode cX6_remembers 49 = .ok (.istore_n 1, 1) := by decide +kernel
theorem dX6_remembers_50 : decode cX6_remembers 50 = .ok (.iload_n 1, 1) := by decide +kernel
theorem dX6_remembers_51 : decode cX6_remembers 51 = .ok (.bipush 68, 2) := by decide +kernel
theorem dX6_remembers_53 : decode cX6_remembers 53 = .ok (.if_icmp .ge 29, 3) := by decide +kernel
theorem dX6_remembers_56 : decode cX6_remembers 56 = .ok (.aload_n 0, 1) := by decide +kernel
theorem dX6_remembers_57 : decode cX6_remembers 57 = .ok (.getfield 16, 3) := by decide +kernel
theorem dX6_remembers_60 : decode cX6_remembers 60 = .ok (.bipush 68, 2) := by decide +kernel
theorem dX6_remembers_62 : decode cX6_remembers 62 = .ok (.aload_n 0, 1) := by decide +kernel
theorem dX6_remembers_63 : decode cX6_remembers 63 = .ok (.getfield 45, 3) := by decide +kernel
theorem dX6_remembers_66 : decode cX6_remembers 66 = .ok (.imul, 1) := by decide +kernel
theorem dX6_remembers_67 : decode cX6_remembers 67 = .ok (.iload_n 1, 1) := by decide +kernel
theorem dX6_remembers_68 : decode cX6_remembers 68 = .ok (.iadd, 1) := by decide +kernel
theorem dX6_remembers_69 : decode cX6_remembers 69 = .ok (.aload_n 0, 1) := by decide +kernel
theorem dX6_remembers_70 : decode cX6_remembers 70 = .ok (.getfield 13, 3) := by decide +kernel
theorem dX6_remembers_73 : decode cX6_remembers 73 = .ok (.iload_n 1, 1) := by decide +kernel
theorem dX6_remembers_74 : decode cX6_remembers 74 = .ok (.laload, 1) := by decide +kernel
theorem dX6_remembers_75 : decode cX6_remembers 75 = .ok (.lastore, 1) := by decide +kernel
theorem dX6_remembers_76 : decode cX6_remembers 76 = .ok (.iinc 1 1, 3) := by decide +kernel
theorem dX6_remembers_79 : decode cX6_remembers 79 = .ok (.goto (-29), 3) := by decide +kernel
theorem dX6_remembers_82 : decode cX6_remembers 82 = .ok (.aload_n 0, 1) := by decide +kernel
theorem dX6_remembers_83 : decode cX6_remembers 83 = .ok (.dup, 1) := by decide +kernel
theorem dX6_remembers_84 : decode cX6_remembers 84 = .ok (.getfield 45, 3) := by decide +kernel
theorem dX6_remembers_87 : decode cX6_remembers 87 = .ok (.iconst 1, 1) := by decide +kernel
theorem dX6_remembers_88 : decode cX6_remembers 88 = .ok (.iadd, 1) := by decide +kernel
theorem dX6_remembers_89 : decode cX6_remembers 89 = .ok (.putfield 45, 3) := by decide +kernel
theorem dX6_remembers_92 : decode cX6_remembers 92 = .ok (.return_, 1) := by decide +kernel
set_option maxRecDepth 20000 in
theorem ggX6_back_X6_refuses : GoodIn wsX6_back wsX6_refuses := goodIn_r _ [9, 10, 11, 12, 13, 14, 15, 16, 17, 18, 19, 20, 21, 22, 23, 24, 25, 26] (by decide +kernel) (by decide +kernel)
set_option maxRecDepth 20000 in
theorem gX6_back_X6_refuses : GoodIn wsX6_back (wsV RX6 50 RX6 yX6_refuses wsX6_refuses) := goodIn_app (goodIn_of _ (by decide +kernel)) ggX6_back_X6_refuses
theorem dX6_back_0 : decode cX6_back 0 = .ok (.aload_n 0, 1) := by decide +kernel
theorem dX6_back_1 : decode cX6_back 1 = .ok (.getfield 45, 3) := by decide +kernel
theorem dX6_back_4 : decode cX6_back 4 = .ok (.ifCond .ne 10, 3) := by decide +kernel
theorem dX6_back_7 : decode cX6_back 7 = .ok (.aload_n 0, 1) := by decide +kernel
theorem dX6_back_8 : decode cX6_back 8 = .ok (.ldc 49, 2) := by decide +kernel
theorem dX6_back_10 : decode cX6_back 10 = .ok (.invokevirtual 50, 3) := by decide +kernel
theorem dX6_back_13 : decode cX6_back 13 = .ok (.ireturn, 1) := by decide +kernel
theorem dX6_back_14 : decode cX6_back 14 = .ok (.aload_n 0, 1) := by decide +kernel
theorem dX6_back_15 : decode cX6_back 15 = .ok (.dup, 1) := by decide +kernel
theorem dX6_back_16 : decode cX6_back 16 = .ok (.getfield 45, 3) := by decide +kernel
theorem dX6_back_19 : decode cX6_back 19 = .ok (.iconst 1, 1) := by decide +kernel
theorem dX6_back_20 : decode cX6_back 20 = .ok (.isub, 1) := by decide +kernel
theorem dX6_back_21 : decode cX6_back 21 = .ok (.putfield 45, 3) := by decide +kernel
theorem dX6_back_24 : decode cX6_back 24 = .ok (.iconst 0, 1) := by decide +kernel
theorem dX6_back_25 : decode cX6_back 25 = .ok (.istore_n 1, 1) := by decide +kernel
theorem dX6_back_26 : decode cX6_back 26 = .ok (.iload_n 1, 1) := by decide +kernel
theorem dX6_back_27 : decode cX6_back 27 = .ok (.bipush 68, 2) := by decide +kernel
theorem dX6_back_29 : decode cX6_back 29 = .ok (.if_icmp .ge 29, 3) := by decide +kernel
theorem dX6_back_32 : decode cX6_back 32 = .ok (.aload_n 0, 1) := by decide +kernel
theorem dX6_back_33 : decode cX6_back 33 = .ok (.getfield 7, 3) := by decide +kernel
theorem dX6_back_36 : decode cX6_back 36 = .ok (.iload_n 1, 1) := by decide +kernel
theorem dX6_back_37 : decode cX6_back 37 = .ok (.aload_n 0, 1) := by decide +kernel
theorem dX6_back_38 : decode cX6_back 38 = .ok (.getfield 16, 3) := by decide +kernel
theorem dX6_back_41 : decode cX6_back 41 = .ok (.bipush 68, 2) := by decide +kernel
theorem dX6_back_43 : decode cX6_back 43 = .ok (.aload_n 0, 1) := by decide +kernel
theorem dX6_back_44 : decode cX6_back 44 = .ok (.getfield 45, 3) := by decide +kernel
theorem dX6_back_47 : decode cX6_back 47 = .ok (.imul, 1) := by decide +kernel
theorem dX6_back_48 : decode cX6_back 48 = .ok (.iload_n 1, 1) := by decide +kernel
theorem dX6_back_49 : decode cX6_back 49 = .ok (.iadd, 1) := by decide +kernel
theorem dX6_back_50 : decode cX6_back 50 = .ok (.laload, 1) := by decide +kernel
theorem dX6_back_51 : decode cX6_back 51 = .ok (.lastore, 1) := by decide +kernel
theorem dX6_back_52 : decode cX6_back 52 = .ok (.iinc 1 1, 3) := by decide +kernel
theorem dX6_back_55 : decode cX6_back 55 = .ok (.goto (-29), 3) := by decide +kernel
theorem dX6_back_58 : decode cX6_back 58 = .ok (.aload_n 0, 1) := by decide +kernel
theorem dX6_back_59 : decode cX6_back 59 = .ok (.getfield 45, 3) := by decide +kernel
theorem dX6_back_62 : decode cX6_back 62 = .ok (.ireturn, 1) := by decide +kernel
set_option maxRecDepth 20000 in
theorem ggX6_finished_X6_refuses : GoodIn wsX6_finished wsX6_refuses := goodIn_r _ [6, 7, 1, 15, 16, 17, 18, 19, 20, 21, 22, 23, 24, 25, 26, 27, 28, 29] (by decide +kernel) (by decide +kernel)
set_option maxRecDepth 20000 in
theorem gX6_finished_X6_refuses : GoodIn wsX6_finished (wsV RX6 50 RX6 yX6_refuses wsX6_refuses) := goodIn_app (goodIn_of _ (by decide +kernel)) ggX6_finished_X6_refuses
set_option maxRecDepth 20000 in
theorem ggX6_finished_X6_remembers : GoodIn wsX6_finished wsX6_remembers := goodIn_r _ [11, 12, 13, 14, 15, 16, 17, 18, 19, 20, 21, 22, 23, 24, 25, 26, 27, 28, 29] (by decide +kernel) (by decide +kernel)
set_option maxRecDepth 20000 in
theorem gX6_finished_X6_remembers : GoodIn wsX6_finished (wsV RX6 54 RX6 yX6_remembers wsX6_remembers) := goodIn_app (goodIn_of _ (by decide +kernel)) ggX6_finished_X6_remembers
theorem dX6_finished_0 : decode cX6_finished 0 = .ok (.iload_n 1, 1) := by decide +kernel
theorem dX6_finished_1 : decode cX6_finished 1 = .ok (.ldc 44, 2) := by decide +kernel
theorem dX6_finished_3 : decode cX6_finished 3 = .ok (.if_icmp .gt 9, 3) := by decide +kernel
theorem dX6_finished_6 : decode cX6_finished 6 = .ok (.aload_n 0, 1) := by decide +kernel
theorem dX6_finished_7 : decode cX6_finished 7 = .ok (.iload_n 1, 1) := by decide +kernel
theorem dX6_finished_8 : decode cX6_finished 8 = .ok (.invokevirtual 50, 3) := by decide +kernel
theorem dX6_finished_11 : decode cX6_finished 11 = .ok (.ireturn, 1) := by decide +kernel
theorem dX6_finished_12 : decode cX6_finished 12 = .ok (.aload_n 0, 1) := by decide +kernel
theorem dX6_finished_13 : decode cX6_finished 13 = .ok (.invokevirtual 54, 3) := by decide +kernel
theorem dX6_finished_16 : decode cX6_finished 16 = .ok (.iload_n 1, 1) := by decide +kernel
theorem dX6_finished_17 : decode cX6_finished 17 = .ok (.ireturn, 1) := by decide +kernel
theorem dX6_voltsAt_0 : decode cX6_voltsAt 0 = .ok (.iload_n 1, 1) := by decide +kernel
theorem dX6_voltsAt_1 : decode cX6_voltsAt 1 = .ok (.sipush 1000, 3) := by decide +kernel
theorem dX6_voltsAt_4 : decode cX6_voltsAt 4 = .ok (.if_icmp .ne 8, 3) := by decide +kernel
theorem dX6_voltsAt_7 : decode cX6_voltsAt 7 = .ok (.bipush 9, 2) := by decide +kernel
theorem dX6_voltsAt_9 : decode cX6_voltsAt 9 = .ok (.goto 7, 3) := by decide +kernel
theorem dX6_voltsAt_12 : decode cX6_voltsAt 12 = .ok (.iload_n 1, 1) := by decide +kernel
theorem dX6_voltsAt_13 : decode cX6_voltsAt 13 = .ok (.bipush 100, 2) := by decide +kernel
theorem dX6_voltsAt_15 : decode cX6_voltsAt 15 = .ok (.idiv, 1) := by decide +kernel
theorem dX6_voltsAt_16 : decode cX6_voltsAt 16 = .ok (.istore_n 2, 1) := by decide +kernel
theorem dX6_voltsAt_17 : decode cX6_voltsAt 17 = .ok (.aload_n 0, 1) := by decide +kernel
theorem dX6_voltsAt_18 : decode cX6_voltsAt 18 = .ok (.getfield 7, 3) := by decide +kernel
theorem dX6_voltsAt_21 : decode cX6_voltsAt 21 = .ok (.bipush 13, 2) := by decide +kernel
theorem dX6_voltsAt_23 : decode cX6_voltsAt 23 = .ok (.iload_n 2, 1) := by decide +kernel
theorem dX6_voltsAt_24 : decode cX6_voltsAt 24 = .ok (.iadd, 1) := by decide +kernel
theorem dX6_voltsAt_25 : decode cX6_voltsAt 25 = .ok (.laload, 1) := by decide +kernel
theorem dX6_voltsAt_26 : decode cX6_voltsAt 26 = .ok (.lstore_n 3, 1) := by decide +kernel
theorem dX6_voltsAt_27 : decode cX6_voltsAt 27 = .ok (.lload_n 3, 1) := by decide +kernel
theorem dX6_voltsAt_28 : decode cX6_voltsAt 28 = .ok (.aload_n 0, 1) := by decide +kernel
theorem dX6_voltsAt_29 : decode cX6_voltsAt 29 = .ok (.getfield 7, 3) := by decide +kernel
theorem dX6_voltsAt_32 : decode cX6_voltsAt 32 = .ok (.bipush 13, 2) := by decide +kernel
theorem dX6_voltsAt_34 : decode cX6_voltsAt 34 = .ok (.iload_n 2, 1) := by decide +kernel
theorem dX6_voltsAt_35 : decode cX6_voltsAt 35 = .ok (.iadd, 1) := by decide +kernel
theorem dX6_voltsAt_36 : decode cX6_voltsAt 36 = .ok (.iconst 1, 1) := by decide +kernel
theorem dX6_voltsAt_37 : decode cX6_voltsAt 37 = .ok (.iadd, 1) := by decide +kernel
theorem dX6_voltsAt_38 : decode cX6_voltsAt 38 = .ok (.laload, 1) := by decide +kernel
theorem dX6_voltsAt_39 : decode cX6_voltsAt 39 = .ok (.lload_n 3, 1) := by decide +kernel
theorem dX6_voltsAt_40 : decode cX6_voltsAt 40 = .ok (.lsub, 1) := by decide +kernel
theorem dX6_voltsAt_41 : decode cX6_voltsAt 41 = .ok (.iload_n 1, 1) := by decide +kernel
theorem dX6_voltsAt_42 : decode cX6_voltsAt 42 = .ok (.bipush 100, 2) := by decide +kernel
theorem dX6_voltsAt_44 : decode cX6_voltsAt 44 = .ok (.iload_n 2, 1) := by decide +kernel
theorem dX6_voltsAt_45 : decode cX6_voltsAt 45 = .ok (.imul, 1) := by decide +kernel
theorem dX6_voltsAt_46 : decode cX6_voltsAt 46 = .ok (.isub, 1) := by decide +kernel
theorem dX6_voltsAt_47 : decode cX6_voltsAt 47 = .ok (.i2l, 1) := by decide +kernel
theorem dX6_voltsAt_48 : decode cX6_voltsAt 48 = .ok (.lmul, 1) := by decide +kernel
theorem dX6_voltsAt_49 : decode cX6_voltsAt 49 = .ok (.ldc2_w 36, 3) := by decide +kernel
theorem dX6_voltsAt_52 : decode cX6_voltsAt 52 = .ok (.ldiv, 1) := by decide +kernel
theorem dX6_voltsAt_53 : decode cX6_voltsAt 53 = .ok (.ladd, 1) := by decide +kernel
theorem dX6_voltsAt_54 : decode cX6_voltsAt 54 = .ok (.l2i, 1) := by decide +kernel
theorem dX6_voltsAt_55 : decode cX6_voltsAt 55 = .ok (.ireturn, 1) := by decide +kernel
set_option maxRecDepth 20000 in
theorem ggX6_turns_X6_voltsAt : GoodIn wsX6_turns wsX6_voltsAt := goodIn_r _ [9, 1, 10, 11, 12, 13, 14, 15, 16, 17, 18, 19, 20, 21, 22, 23, 24, 25] (by decide +kernel) (by decide +kernel)
set_option maxRecDepth 20000 in
theorem gX6_turns_X6_voltsAt : GoodIn wsX6_turns (wsV RX6 64 RX6 yX6_voltsAt wsX6_voltsAt) := goodIn_app (goodIn_of _ (by decide +kernel)) ggX6_turns_X6_voltsAt
theorem dX6_turns_0 : decode cX6_turns 0 = .ok (.aload_n 0, 1) := by decide +kernel
theorem dX6_turns_1 : decode cX6_turns 1 = .ok (.getfield 7, 3) := by decide +kernel
theorem dX6_turns_4 : decode cX6_turns 4 = .ok (.bipush 12, 2) := by decide +kernel
theorem dX6_turns_6 : decode cX6_turns 6 = .ok (.laload, 1) := by decide +kernel
theorem dX6_turns_7 : decode cX6_turns 7 = .ok (.l2i, 1) := by decide +kernel
theorem dX6_turns_8 : decode cX6_turns 8 = .ok (.istore_n 2, 1) := by decide +kernel
theorem dX6_turns_9 : decode cX6_turns 9 = .ok (.aload_n 0, 1) := by decide +kernel
theorem dX6_turns_10 : decode cX6_turns 10 = .ok (.ldc 57, 2) := by decide +kernel
theorem dX6_turns_12 : decode cX6_turns 12 = .ok (.putfield 58, 3) := by decide +kernel
theorem dX6_turns_15 : decode cX6_turns 15 = .ok (.aload_n 0, 1) := by decide +kernel
theorem dX6_turns_16 : decode cX6_turns 16 = .ok (.ldc 57, 2) := by decide +kernel
theorem dX6_turns_18 : decode cX6_turns 18 = .ok (.putfield 61, 3) := by decide +kernel
theorem dX6_turns_21 : decode cX6_turns 21 = .ok (.iconst 0, 1) := by decide +kernel
theorem dX6_turns_22 : decode cX6_turns 22 = .ok (.istore_n 3, 1) := by decide +kernel
theorem dX6_turns_23 : decode cX6_turns 23 = .ok (.iload_n 3, 1) := by decide +kernel
theorem dX6_turns_24 : decode cX6_turns 24 = .ok (.sipush 1000, 3) := by decide +kernel
theorem dX6_turns_27 : decode cX6_turns 27 = .ok (.if_icmp .gt 65, 3) := by decide +kernel
theorem dX6_turns_30 : decode cX6_turns 30 = .ok (.aload_n 0, 1) := by decide +kernel
theorem dX6_turns_31 : decode cX6_turns 31 = .ok (.iload_n 3, 1) := by decide +kernel
theorem dX6_turns_32 : decode cX6_turns 32 = .ok (.invokevirtual 64, 3) := by decide +kernel
theorem dX6_turns_35 : decode cX6_turns 35 = .ok (.istore 4, 2) := by decide +kernel
theorem dX6_turns_37 : decode cX6_turns 37 = .ok (.aload_n 0, 1) := by decide +kernel
theorem dX6_turns_38 : decode cX6_turns 38 = .ok (.aload_n 0, 1) := by decide +kernel
theorem dX6_turns_39 : decode cX6_turns 39 = .ok (.getfield 58, 3) := by decide +kernel
theorem dX6_turns_42 : decode cX6_turns 42 = .ok (.ldc 57, 2) := by decide +kernel
theorem dX6_turns_44 : decode cX6_turns 44 = .ok (.if_icmp .ne 15, 3) := by decide +kernel
theorem dX6_turns_47 : decode cX6_turns 47 = .ok (.iload 4, 2) := by decide +kernel
theorem dX6_turns_49 : decode cX6_turns 49 = .ok (.iload_n 2, 1) := by decide +kernel
theorem dX6_turns_50 : decode cX6_turns 50 = .ok (.iadd, 1) := by decide +kernel
theorem dX6_turns_51 : decode cX6_turns 51 = .ok (.iload_n 1, 1) := by decide +kernel
theorem dX6_turns_52 : decode cX6_turns 52 = .ok (.if_icmp .lt 7, 3) := by decide +kernel
theorem dX6_turns_55 : decode cX6_turns 55 = .ok (.iload_n 3, 1) := by decide +kernel
theorem dX6_turns_56 : decode cX6_turns 56 = .ok (.goto 7, 3) := by decide +kernel
theorem dX6_turns_59 : decode cX6_turns 59 = .ok (.aload_n 0, 1) := by decide +kernel
theorem dX6_turns_60 : decode cX6_turns 60 = .ok (.getfield 58, 3) := by decide +kernel
theorem dX6_turns_63 : decode cX6_turns 63 = .ok (.putfield 58, 3) := by decide +kernel
theorem dX6_turns_66 : decode cX6_turns 66 = .ok (.aload_n 0, 1) := by decide +kernel
theorem dX6_turns_67 : decode cX6_turns 67 = .ok (.iload 4, 2) := by decide +kernel
theorem dX6_turns_69 : decode cX6_turns 69 = .ok (.iload_n 2, 1) := by decide +kernel
theorem dX6_turns_70 : decode cX6_turns 70 = .ok (.isub, 1) := by decide +kernel
theorem dX6_turns_71 : decode cX6_turns 71 = .ok (.iload_n 1, 1) := by decide +kernel
theorem dX6_turns_72 : decode cX6_turns 72 = .ok (.if_icmp .gt 7, 3) := by decide +kernel
theorem dX6_turns_75 : decode cX6_turns 75 = .ok (.iload_n 3, 1) := by decide +kernel
theorem dX6_turns_76 : decode cX6_turns 76 = .ok (.goto 7, 3) := by decide +kernel
theorem dX6_turns_79 : decode cX6_turns 79 = .ok (.aload_n 0, 1) := by decide +kernel
theorem dX6_turns_80 : decode cX6_turns 80 = .ok (.getfield 61, 3) := by decide +kernel
theorem dX6_turns_83 : decode cX6_turns 83 = .ok (.putfield 61, 3) := by decide +kernel
theorem dX6_turns_86 : decode cX6_turns 86 = .ok (.iinc 3 1, 3) := by decide +kernel
theorem dX6_turns_89 : decode cX6_turns 89 = .ok (.goto (-66), 3) := by decide +kernel
theorem dX6_turns_92 : decode cX6_turns 92 = .ok (.aload_n 0, 1) := by decide +kernel
theorem dX6_turns_93 : decode cX6_turns 93 = .ok (.getfield 58, 3) := by decide +kernel
theorem dX6_turns_96 : decode cX6_turns 96 = .ok (.ldc 57, 2) := by decide +kernel
theorem dX6_turns_98 : decode cX6_turns 98 = .ok (.if_icmp .eq 41, 3) := by decide +kernel
theorem dX6_turns_101 : decode cX6_turns 101 = .ok (.aload_n 0, 1) := by decide +kernel
theorem dX6_turns_102 : decode cX6_turns 102 = .ok (.getfield 61, 3) := by decide +kernel
theorem dX6_turns_105 : decode cX6_turns 105 = .ok (.ldc 57, 2) := by decide +kernel
theorem dX6_turns_107 : decode cX6_turns 107 = .ok (.if_icmp .eq 32, 3) := by decide +kernel
theorem dX6_turns_110 : decode cX6_turns 110 = .ok (.aload_n 0, 1) := by decide +kernel
theorem dX6_turns_111 : decode cX6_turns 111 = .ok (.getfield 58, 3) := by decide +kernel
theorem dX6_turns_114 : decode cX6_turns 114 = .ok (.aload_n 0, 1) := by decide +kernel
theorem dX6_turns_115 : decode cX6_turns 115 = .ok (.getfield 61, 3) := by decide +kernel
theorem dX6_turns_118 : decode cX6_turns 118 = .ok (.if_icmp .le 21, 3) := by decide +kernel
theorem dX6_turns_121 : decode cX6_turns 121 = .ok (.aload_n 0, 1) := by decide +kernel
theorem dX6_turns_122 : decode cX6_turns 122 = .ok (.getfield 58, 3) := by decide +kernel
theorem dX6_turns_125 : decode cX6_turns 125 = .ok (.istore_n 3, 1) := by decide +kernel
theorem dX6_turns_126 : decode cX6_turns 126 = .ok (.aload_n 0, 1) := by decide +kernel
theorem dX6_turns_127 : decode cX6_turns 127 = .ok (.aload_n 0, 1) := by decide +kernel
theorem dX6_turns_128 : decode cX6_turns 128 = .ok (.getfield 61, 3) := by decide +kernel
theorem dX6_turns_131 : decode cX6_turns 131 = .ok (.putfield 58, 3) := by decide +kernel
theorem dX6_turns_134 : decode cX6_turns 134 = .ok (.aload_n 0, 1) := by decide +kernel
theorem dX6_turns_135 : decode cX6_turns 135 = .ok (.iload_n 3, 1) := by decide +kernel
theorem dX6_turns_136 : decode cX6_turns 136 = .ok (.putfield 61, 3) := by decide +kernel
theorem dX6_turns_139 : decode cX6_turns 139 = .ok (.return_, 1) := by decide +kernel
theorem dX6_middle_0 : decode cX6_middle 0 = .ok (.aload_n 0, 1) := by decide +kernel
theorem dX6_middle_1 : decode cX6_middle 1 = .ok (.getfield 7, 3) := by decide +kernel
theorem dX6_middle_4 : decode cX6_middle 4 = .ok (.iconst 2, 1) := by decide +kernel
theorem dX6_middle_5 : decode cX6_middle 5 = .ok (.laload, 1) := by decide +kernel
theorem dX6_middle_6 : decode cX6_middle 6 = .ok (.aload_n 0, 1) := by decide +kernel
theorem dX6_middle_7 : decode cX6_middle 7 = .ok (.getfield 7, 3) := by decide +kernel
theorem dX6_middle_10 : decode cX6_middle 10 = .ok (.iconst 3, 1) := by decide +kernel
theorem dX6_middle_11 : decode cX6_middle 11 = .ok (.laload, 1) := by decide +kernel
theorem dX6_middle_12 : decode cX6_middle 12 = .ok (.ladd, 1) := by decide +kernel
theorem dX6_middle_13 : decode cX6_middle 13 = .ok (.lstore_n 1, 1) := by decide +kernel
theorem dX6_middle_14 : decode cX6_middle 14 = .ok (.lload_n 1, 1) := by decide +kernel
theorem dX6_middle_15 : decode cX6_middle 15 = .ok (.lconst 0, 1) := by decide +kernel
theorem dX6_middle_16 : decode cX6_middle 16 = .ok (.lcmp, 1) := by decide +kernel
theorem dX6_middle_17 : decode cX6_middle 17 = .ok (.ifCond .ne 5, 3) := by decide +kernel
theorem dX6_middle_20 : decode cX6_middle 20 = .ok (.iconst 0, 1) := by decide +kernel
theorem dX6_middle_21 : decode cX6_middle 21 = .ok (.ireturn, 1) := by decide +kernel
theorem dX6_middle_22 : decode cX6_middle 22 = .ok (.ldc2_w 32, 3) := by decide +kernel
theorem dX6_middle_25 : decode cX6_middle 25 = .ok (.aload_n 0, 1) := by decide +kernel
theorem dX6_middle_26 : decode cX6_middle 26 = .ok (.getfield 7, 3) := by decide +kernel
theorem dX6_middle_29 : decode cX6_middle 29 = .ok (.iconst 0, 1) := by decide +kernel
theorem dX6_middle_30 : decode cX6_middle 30 = .ok (.laload, 1) := by decide +kernel
theorem dX6_middle_31 : decode cX6_middle 31 = .ok (.aload_n 0, 1) := by decide +kernel
theorem dX6_middle_32 : decode cX6_middle 32 = .ok (.getfield 7, 3) := by decide +kernel
theorem dX6_middle_35 : decode cX6_middle 35 = .ok (.iconst 1, 1) := by decide +kernel
theorem dX6_middle_36 : decode cX6_middle 36 = .ok (.laload, 1) := by decide +kernel
theorem dX6_middle_37 : decode cX6_middle 37 = .ok (.ladd, 1) := by decide +kernel
theorem dX6_middle_38 : decode cX6_middle 38 = .ok (.lmul, 1) := by decide +kernel
theorem dX6_middle_39 : decode cX6_middle 39 = .ok (.lload_n 1, 1) := by decide +kernel
theorem dX6_middle_40 : decode cX6_middle 40 = .ok (.ldiv, 1) := by decide +kernel
theorem dX6_middle_41 : decode cX6_middle 41 = .ok (.lstore_n 3, 1) := by decide +kernel
theorem dX6_middle_42 : decode cX6_middle 42 = .ok (.lload_n 3, 1) := by decide +kernel
theorem dX6_middle_43 : decode cX6_middle 43 = .ok (.ldc2_w 32, 3) := by decide +kernel
theorem dX6_middle_46 : decode cX6_middle 46 = .ok (.lcmp, 1) := by decide +kernel
theorem dX6_middle_47 : decode cX6_middle 47 = .ok (.ifCond .le 9, 3) := by decide +kernel
theorem dX6_middle_50 : decode cX6_middle 50 = .ok (.sipush 1000, 3) := by decide +kernel
theorem dX6_middle_53 : decode cX6_middle 53 = .ok (.goto 5, 3) := by decide +kernel
theorem dX6_middle_56 : decode cX6_middle 56 = .ok (.lload_n 3, 1) := by decide +kernel
theorem dX6_middle_57 : decode cX6_middle 57 = .ok (.l2i, 1) := by decide +kernel
theorem dX6_middle_58 : decode cX6_middle 58 = .ok (.ireturn, 1) := by decide +kernel
set_option maxRecDepth 20000 in
theorem ggX6_putCapacity_X6_in : GoodIn wsX6_putCapacity wsX6_in := goodIn_r _ [9] (by decide +kernel) (by decide +kernel)
set_option maxRecDepth 20000 in
theorem gX6_putCapacity_X6_in : GoodIn wsX6_putCapacity (va_wsS RX6 69 yX6_in wsX6_in) := goodIn_app (goodIn_of _ (by decide +kernel)) ggX6_putCapacity_X6_in
theorem dX6_putCapacity_0 : decode cX6_putCapacity 0 = .ok (.iload_n 1, 1) := by decide +kernel
theorem dX6_putCapacity_1 : decode cX6_putCapacity 1 = .ok (.i2l, 1) := by decide +kernel
theorem dX6_putCapacity_2 : decode cX6_putCapacity 2 = .ok (.lconst 0, 1) := by decide +kernel
theorem dX6_putCapacity_3 : decode cX6_putCapacity 3 = .ok (.ldc2_w 67, 3) := by decide +kernel
theorem dX6_putCapacity_6 : decode cX6_putCapacity 6 = .ok (.invokestatic 69, 3) := by decide +kernel
theorem dX6_putCapacity_9 : decode cX6_putCapacity 9 = .ok (.ifCond .eq 16, 3) := by decide +kernel
theorem dX6_putCapacity_12 : decode cX6_putCapacity 12 = .ok (.iload_n 2, 1) := by decide +kernel
theorem dX6_putCapacity_13 : decode cX6_putCapacity 13 = .ok (.i2l, 1) := by decide +kernel
theorem dX6_putCapacity_14 : decode cX6_putCapacity 14 = .ok (.iload_n 1, 1) := by decide +kernel
theorem dX6_putCapacity_15 : decode cX6_putCapacity 15 = .ok (.i2l, 1) := by decide +kernel
theorem dX6_putCapacity_16 : decode cX6_putCapacity 16 = .ok (.ldc2_w 67, 3) := by decide +kernel
theorem dX6_putCapacity_19 : decode cX6_putCapacity 19 = .ok (.invokestatic 69, 3) := by decide +kernel
theorem dX6_putCapacity_22 : decode cX6_putCapacity 22 = .ok (.ifCond .ne 6, 3) := by decide +kernel
theorem dX6_putCapacity_25 : decode cX6_putCapacity 25 = .ok (.ldc 44, 2) := by decide +kernel
theorem dX6_putCapacity_27 : decode cX6_putCapacity 27 = .ok (.ireturn, 1) := by decide +kernel
theorem dX6_putCapacity_28 : decode cX6_putCapacity 28 = .ok (.aload_n 0, 1) := by decide +kernel
theorem dX6_putCapacity_29 : decode cX6_putCapacity 29 = .ok (.getfield 7, 3) := by decide +kernel
theorem dX6_putCapacity_32 : decode cX6_putCapacity 32 = .ok (.iconst 2, 1) := by decide +kernel
theorem dX6_putCapacity_33 : decode cX6_putCapacity 33 = .ok (.laload, 1) := by decide +kernel
theorem dX6_putCapacity_34 : decode cX6_putCapacity 34 = .ok (.l2i, 1) := by decide +kernel
theorem dX6_putCapacity_35 : decode cX6_putCapacity 35 = .ok (.istore_n 3, 1) := by decide +kernel
theorem dX6_putCapacity_36 : decode cX6_putCapacity 36 = .ok (.aload_n 0, 1) := by decide +kernel
theorem dX6_putCapacity_37 : decode cX6_putCapacity 37 = .ok (.getfield 7, 3) := by decide +kernel
theorem dX6_putCapacity_40 : decode cX6_putCapacity 40 = .ok (.iconst 2, 1) := by decide +kernel
theorem dX6_putCapacity_41 : decode cX6_putCapacity 41 = .ok (.iload_n 1, 1) := by decide +kernel
theorem dX6_putCapacity_42 : decode cX6_putCapacity 42 = .ok (.i2l, 1) := by decide +kernel
theorem dX6_putCapacity_43 : decode cX6_putCapacity 43 = .ok (.lastore, 1) := by decide +kernel
theorem dX6_putCapacity_44 : decode cX6_putCapacity 44 = .ok (.aload_n 0, 1) := by decide +kernel
theorem dX6_putCapacity_45 : decode cX6_putCapacity 45 = .ok (.getfield 7, 3) := by decide +kernel
theorem dX6_putCapacity_48 : decode cX6_putCapacity 48 = .ok (.iconst 3, 1) := by decide +kernel
theorem dX6_putCapacity_49 : decode cX6_putCapacity 49 = .ok (.iload_n 2, 1) := by decide +kernel
theorem dX6_putCapacity_50 : decode cX6_putCapacity 50 = .ok (.i2l, 1) := by decide +kernel
theorem dX6_putCapacity_51 : decode cX6_putCapacity 51 = .ok (.lastore, 1) := by decide +kernel
theorem dX6_putCapacity_52 : decode cX6_putCapacity 52 = .ok (.aload_n 0, 1) := by decide +kernel
theorem dX6_putCapacity_53 : decode cX6_putCapacity 53 = .ok (.getfield 7, 3) := by decide +kernel
theorem dX6_putCapacity_56 : decode cX6_putCapacity 56 = .ok (.iconst 0, 1) := by decide +kernel
theorem dX6_putCapacity_57 : decode cX6_putCapacity 57 = .ok (.lconst 0, 1) := by decide +kernel
theorem dX6_putCapacity_58 : decode cX6_putCapacity 58 = .ok (.lastore, 1) := by decide +kernel
theorem dX6_putCapacity_59 : decode cX6_putCapacity 59 = .ok (.aload_n 0, 1) := by decide +kernel
theorem dX6_putCapacity_60 : decode cX6_putCapacity 60 = .ok (.getfield 7, 3) := by decide +kernel
theorem dX6_putCapacity_63 : decode cX6_putCapacity 63 = .ok (.iconst 1, 1) := by decide +kernel
theorem dX6_putCapacity_64 : decode cX6_putCapacity 64 = .ok (.iload_n 2, 1) := by decide +kernel
theorem dX6_putCapacity_65 : decode cX6_putCapacity 65 = .ok (.i2l, 1) := by decide +kernel
theorem dX6_putCapacity_66 : decode cX6_putCapacity 66 = .ok (.lastore, 1) := by decide +kernel
theorem dX6_putCapacity_67 : decode cX6_putCapacity 67 = .ok (.aload_n 0, 1) := by decide +kernel
theorem dX6_putCapacity_68 : decode cX6_putCapacity 68 = .ok (.getfield 7, 3) := by decide +kernel
theorem dX6_putCapacity_71 : decode cX6_putCapacity 71 = .ok (.iconst 4, 1) := by decide +kernel
theorem dX6_putCapacity_72 : decode cX6_putCapacity 72 = .ok (.ldc2_w 36, 3) := by decide +kernel
theorem dX6_putCapacity_75 : decode cX6_putCapacity 75 = .ok (.lastore, 1) := by decide +kernel
theorem dX6_putCapacity_76 : decode cX6_putCapacity 76 = .ok (.iconst 5, 1) := by decide +kernel
theorem dX6_putCapacity_77 : decode cX6_putCapacity 77 = .ok (.istore 4, 2) := by decide +kernel
theorem dX6_putCapacity_79 : decode cX6_putCapacity 79 = .ok (.iload 4, 2) := by decide +kernel
theorem dX6_putCapacity_81 : decode cX6_putCapacity 81 = .ok (.bipush 9, 2) := by decide +kernel
theorem dX6_putCapacity_83 : decode cX6_putCapacity 83 = .ok (.if_icmp .ge 17, 3) := by decide +kernel
theorem dX6_putCapacity_86 : decode cX6_putCapacity 86 = .ok (.aload_n 0, 1) := by decide +kernel
theorem dX6_putCapacity_87 : decode cX6_putCapacity 87 = .ok (.getfield 7, 3) := by decide +kernel
theorem dX6_putCapacity_90 : decode cX6_putCapacity 90 = .ok (.iload 4, 2) := by decide +kernel
theorem dX6_putCapacity_92 : decode cX6_putCapacity 92 = .ok (.lconst 0, 1) := by decide +kernel
theorem dX6_putCapacity_93 : decode cX6_putCapacity 93 = .ok (.lastore, 1) := by decide +kernel
theorem dX6_putCapacity_94 : decode cX6_putCapacity 94 = .ok (.iinc 4 1, 3) := by decide +kernel
theorem dX6_putCapacity_97 : decode cX6_putCapacity 97 = .ok (.goto (-18), 3) := by decide +kernel
theorem dX6_putCapacity_100 : decode cX6_putCapacity 100 = .ok (.aload_n 0, 1) := by decide +kernel
theorem dX6_putCapacity_101 : decode cX6_putCapacity 101 = .ok (.getfield 7, 3) := by decide +kernel
theorem dX6_putCapacity_104 : decode cX6_putCapacity 104 = .ok (.bipush 9, 2) := by decide +kernel
theorem dX6_putCapacity_106 : decode cX6_putCapacity 106 = .ok (.ldc2_w 38, 3) := by decide +kernel
theorem dX6_putCapacity_109 : decode cX6_putCapacity 109 = .ok (.lastore, 1) := by decide +kernel
theorem dX6_putCapacity_110 : decode cX6_putCapacity 110 = .ok (.aload_n 0, 1) := by decide +kernel
theorem dX6_putCapacity_111 : decode cX6_putCapacity 111 = .ok (.getfield 7, 3) := by decide +kernel
theorem dX6_putCapacity_114 : decode cX6_putCapacity 114 = .ok (.bipush 10, 2) := by decide +kernel
theorem dX6_putCapacity_116 : decode cX6_putCapacity 116 = .ok (.ldc2_w 38, 3) := by decide +kernel
theorem dX6_putCapacity_119 : decode cX6_putCapacity 119 = .ok (.lastore, 1) := by decide +kernel
theorem dX6_putCapacity_120 : decode cX6_putCapacity 120 = .ok (.bipush 24, 2) := by decide +kernel
theorem dX6_putCapacity_122 : decode cX6_putCapacity 122 = .ok (.istore 4, 2) := by decide +kernel
theorem dX6_putCapacity_124 : decode cX6_putCapacity 124 = .ok (.iload 4, 2) := by decide +kernel
theorem dX6_putCapacity_126 : decode cX6_putCapacity 126 = .ok (.bipush 68, 2) := by decide +kernel
theorem dX6_putCapacity_128 : decode cX6_putCapacity 128 = .ok (.if_icmp .ge 17, 3) := by decide +kernel
theorem dX6_putCapacity_131 : decode cX6_putCapacity 131 = .ok (.aload_n 0, 1) := by decide +kernel
theorem dX6_putCapacity_132 : decode cX6_putCapacity 132 = .ok (.getfield 7, 3) := by decide +kernel
theorem dX6_putCapacity_135 : decode cX6_putCapacity 135 = .ok (.iload 4, 2) := by decide +kernel
theorem dX6_putCapacity_137 : decode cX6_putCapacity 137 = .ok (.lconst 0, 1) := by decide +kernel
theorem dX6_putCapacity_138 : decode cX6_putCapacity 138 = .ok (.lastore, 1) := by decide +kernel
theorem dX6_putCapacity_139 : decode cX6_putCapacity 139 = .ok (.iinc 4 1, 3) := by decide +kernel
theorem dX6_putCapacity_142 : decode cX6_putCapacity 142 = .ok (.goto (-18), 3) := by decide +kernel
theorem dX6_putCapacity_145 : decode cX6_putCapacity 145 = .ok (.iload_n 3, 1) := by decide +kernel
theorem dX6_putCapacity_146 : decode cX6_putCapacity 146 = .ok (.ireturn, 1) := by decide +kernel
set_option maxRecDepth 20000 in
theorem ggX6_putCharge_X6_in : GoodIn wsX6_putCharge wsX6_in := goodIn_r _ [7] (by decide +kernel) (by decide +kernel)
set_option maxRecDepth 20000 in
theorem gX6_putCharge_X6_in : GoodIn wsX6_putCharge (va_wsS RX6 69 yX6_in wsX6_in) := goodIn_app (goodIn_of _ (by decide +kernel)) ggX6_putCharge_X6_in
theorem dX6_putCharge_0 : decode cX6_putCharge 0 = .ok (.iload_n 1, 1) := by decide +kernel
theorem dX6_putCharge_1 : decode cX6_putCharge 1 = .ok (.i2l, 1) := by decide +kernel
theorem dX6_putCharge_2 : decode cX6_putCharge 2 = .ok (.lconst 0, 1) := by decide +kernel
theorem dX6_putCharge_3 : decode cX6_putCharge 3 = .ok (.ldc2_w 67, 3) := by decide +kernel
theorem dX6_putCharge_6 : decode cX6_putCharge 6 = .ok (.invokestatic 69, 3) := by decide +kernel
theorem dX6_putCharge_9 : decode cX6_putCharge 9 = .ok (.ifCond .eq 19, 3) := by decide +kernel
theorem dX6_putCharge_12 : decode cX6_putCharge 12 = .ok (.iload_n 2, 1) := by decide +kernel
theorem dX6_putCharge_13 : decode cX6_putCharge 13 = .ok (.i2l, 1) := by decide +kernel
theorem dX6_putCharge_14 : decode cX6_putCharge 14 = .ok (.iload_n 1, 1) := by decide +kernel
theorem dX6_putCharge_15 : decode cX6_putCharge 15 = .ok (.i2l, 1) := by decide +kernel
theorem dX6_putCharge_16 : decode cX6_putCharge 16 = .ok (.aload_n 0, 1) := by decide +kernel
theorem dX6_putCharge_17 : decode cX6_putCharge 17 = .ok (.getfield 7, 3) := by decide +kernel
theorem dX6_putCharge_20 : decode cX6_putCharge 20 = .ok (.iconst 3, 1) := by decide +kernel
theorem dX6_putCharge_21 : decode cX6_putCharge 21 = .ok (.laload, 1) := by decide +kernel
theorem dX6_putCharge_22 : decode cX6_putCharge 22 = .ok (.invokestatic 69, 3) := by decide +kernel
theorem dX6_putCharge_25 : decode cX6_putCharge 25 = .ok (.ifCond .ne 6, 3) := by decide +kernel
theorem dX6_putCharge_28 : decode cX6_putCharge 28 = .ok (.ldc 44, 2) := by decide +kernel
theorem dX6_putCharge_30 : decode cX6_putCharge 30 = .ok (.ireturn, 1) := by decide +kernel
theorem dX6_putCharge_31 : decode cX6_putCharge 31 = .ok (.aload_n 0, 1) := by decide +kernel
theorem dX6_putCharge_32 : decode cX6_putCharge 32 = .ok (.getfield 7, 3) := by decide +kernel
theorem dX6_putCharge_35 : decode cX6_putCharge 35 = .ok (.iconst 1, 1) := by decide +kernel
theorem dX6_putCharge_36 : decode cX6_putCharge 36 = .ok (.laload, 1) := by decide +kernel
theorem dX6_putCharge_37 : decode cX6_putCharge 37 = .ok (.l2i, 1) := by decide +kernel
theorem dX6_putCharge_38 : decode cX6_putCharge 38 = .ok (.istore_n 3, 1) := by decide +kernel
theorem dX6_putCharge_39 : decode cX6_putCharge 39 = .ok (.aload_n 0, 1) := by decide +kernel
theorem dX6_putCharge_40 : decode cX6_putCharge 40 = .ok (.getfield 7, 3) := by decide +kernel
theorem dX6_putCharge_43 : decode cX6_putCharge 43 = .ok (.iconst 0, 1) := by decide +kernel
theorem dX6_putCharge_44 : decode cX6_putCharge 44 = .ok (.iload_n 1, 1) := by decide +kernel
theorem dX6_putCharge_45 : decode cX6_putCharge 45 = .ok (.i2l, 1) := by decide +kernel
theorem dX6_putCharge_46 : decode cX6_putCharge 46 = .ok (.lastore, 1) := by decide +kernel
theorem dX6_putCharge_47 : decode cX6_putCharge 47 = .ok (.aload_n 0, 1) := by decide +kernel
theorem dX6_putCharge_48 : decode cX6_putCharge 48 = .ok (.getfield 7, 3) := by decide +kernel
theorem dX6_putCharge_51 : decode cX6_putCharge 51 = .ok (.iconst 1, 1) := by decide +kernel
theorem dX6_putCharge_52 : decode cX6_putCharge 52 = .ok (.iload_n 2, 1) := by decide +kernel
theorem dX6_putCharge_53 : decode cX6_putCharge 53 = .ok (.i2l, 1) := by decide +kernel
theorem dX6_putCharge_54 : decode cX6_putCharge 54 = .ok (.lastore, 1) := by decide +kernel
theorem dX6_putCharge_55 : decode cX6_putCharge 55 = .ok (.iload_n 3, 1) := by decide +kernel
theorem dX6_putCharge_56 : decode cX6_putCharge 56 = .ok (.ireturn, 1) := by decide +kernel
set_option maxRecDepth 20000 in
theorem ggX6_putSetting_X6_in : GoodIn wsX6_putSetting wsX6_in := goodIn_r _ [6] (by decide +kernel) (by decide +kernel)
set_option maxRecDepth 20000 in
theorem gX6_putSetting_X6_in : GoodIn wsX6_putSetting (va_wsS RX6 69 yX6_in wsX6_in) := goodIn_app (goodIn_of _ (by decide +kernel)) ggX6_putSetting_X6_in
theorem dX6_putSetting_0 : decode cX6_putSetting 0 = .ok (.iload_n 2, 1) := by decide +kernel
theorem dX6_putSetting_1 : decode cX6_putSetting 1 = .ok (.i2l, 1) := by decide +kernel
theorem dX6_putSetting_2 : decode cX6_putSetting 2 = .ok (.lconst 0, 1) := by decide +kernel
theorem dX6_putSetting_3 : decode cX6_putSetting 3 = .ok (.iload_n 3, 1) := by decide +kernel
theorem dX6_putSetting_4 : decode cX6_putSetting 4 = .ok (.i2l, 1) := by decide +kernel
theorem dX6_putSetting_5 : decode cX6_putSetting 5 = .ok (.invokestatic 69, 3) := by decide +kernel
theorem dX6_putSetting_8 : decode cX6_putSetting 8 = .ok (.ifCond .ne 6, 3) := by decide +kernel
theorem dX6_putSetting_11 : decode cX6_putSetting 11 = .ok (.ldc 44, 2) := by decide +kernel
theorem dX6_putSetting_13 : decode cX6_putSetting 13 = .ok (.ireturn, 1) := by decide +kernel
theorem dX6_putSetting_14 : decode cX6_putSetting 14 = .ok (.aload_n 0, 1) := by decide +kernel
theorem dX6_putSetting_15 : decode cX6_putSetting 15 = .ok (.getfield 7, 3) := by decide +kernel
theorem dX6_putSetting_18 : decode cX6_putSetting 18 = .ok (.iload_n 1, 1) := by decide +kernel
theorem dX6_putSetting_19 : decode cX6_putSetting 19 = .ok (.laload, 1) := by decide +kernel
theorem dX6_putSetting_20 : decode cX6_putSetting 20 = .ok (.l2i, 1) := by decide +kernel
theorem dX6_putSetting_21 : decode cX6_putSetting 21 = .ok (.istore 4, 2) := by decide +kernel
theorem dX6_putSetting_23 : decode cX6_putSetting 23 = .ok (.aload_n 0, 1) := by decide +kernel
end
section
theorem dX6_putSetting_24 : decode cX6_putSetting 24 = .ok (.getfield 7, 3) := by decide +kernel
theorem dX6_putSetting_27 : decode cX6_putSetting 27 = .ok (.iload_n 1, 1) := by decide +kernel
theorem dX6_putSetting_28 : decode cX6_putSetting 28 = .ok (.iload_n 2, 1) := by decide +kernel
theorem dX6_putSetting_29 : decode cX6_putSetting 29 = .ok (.i2l, 1) := by decide +kernel
theorem dX6_putSetting_30 : decode cX6_putSetting 30 = .ok (.lastore, 1) := by decide +kernel
theorem dX6_putSetting_31 : decode cX6_putSetting 31 = .ok (.iload 4, 2) := by decide +kernel
theorem dX6_putSetting_33 : decode cX6_putSetting 33 = .ok (.ireturn, 1) := by decide +kernel
set_option maxRecDepth 20000 in
theorem ggX6_putPoint_X6_in : GoodIn wsX6_putPoint wsX6_in := goodIn_r _ [9] (by decide +kernel) (by decide +kernel)
set_option maxRecDepth 20000 in
theorem gX6_putPoint_X6_in : GoodIn wsX6_putPoint (va_wsS RX6 69 yX6_in wsX6_in) := goodIn_app (goodIn_of _ (by decide +kernel)) ggX6_putPoint_X6_in
theorem dX6_putPoint_0 : decode cX6_putPoint 0 = .ok (.iload_n 1, 1) := by decide +kernel
theorem dX6_putPoint_1 : decode cX6_putPoint 1 = .ok (.i2l, 1) := by decide +kernel
theorem dX6_putPoint_2 : decode cX6_putPoint 2 = .ok (.lconst 0, 1) := by decide +kernel
theorem dX6_putPoint_3 : decode cX6_putPoint 3 = .ok (.ldc2_w 40, 3) := by decide +kernel
theorem dX6_putPoint_6 : decode cX6_putPoint 6 = .ok (.invokestatic 69, 3) := by decide +kernel
theorem dX6_putPoint_9 : decode cX6_putPoint 9 = .ok (.ifCond .eq 15, 3) := by decide +kernel
theorem dX6_putPoint_12 : decode cX6_putPoint 12 = .ok (.iload_n 2, 1) := by decide +kernel
theorem dX6_putPoint_13 : decode cX6_putPoint 13 = .ok (.i2l, 1) := by decide +kernel
theorem dX6_putPoint_14 : decode cX6_putPoint 14 = .ok (.lconst 0, 1) := by decide +kernel
theorem dX6_putPoint_15 : decode cX6_putPoint 15 = .ok (.ldc2_w 73, 3) := by decide +kernel
theorem dX6_putPoint_18 : decode cX6_putPoint 18 = .ok (.invokestatic 69, 3) := by decide +kernel
theorem dX6_putPoint_21 : decode cX6_putPoint 21 = .ok (.ifCond .ne 6, 3) := by decide +kernel
theorem dX6_putPoint_24 : decode cX6_putPoint 24 = .ok (.ldc 44, 2) := by decide +kernel
theorem dX6_putPoint_26 : decode cX6_putPoint 26 = .ok (.ireturn, 1) := by decide +kernel
theorem dX6_putPoint_27 : decode cX6_putPoint 27 = .ok (.iload_n 1, 1) := by decide +kernel
theorem dX6_putPoint_28 : decode cX6_putPoint 28 = .ok (.ifCond .le 20, 3) := by decide +kernel
theorem dX6_putPoint_31 : decode cX6_putPoint 31 = .ok (.aload_n 0, 1) := by decide +kernel
theorem dX6_putPoint_32 : decode cX6_putPoint 32 = .ok (.getfield 7, 3) := by decide +kernel
theorem dX6_putPoint_35 : decode cX6_putPoint 35 = .ok (.bipush 13, 2) := by decide +kernel
theorem dX6_putPoint_37 : decode cX6_putPoint 37 = .ok (.iload_n 1, 1) := by decide +kernel
theorem dX6_putPoint_38 : decode cX6_putPoint 38 = .ok (.iadd, 1) := by decide +kernel
theorem dX6_putPoint_39 : decode cX6_putPoint 39 = .ok (.iconst 1, 1) := by decide +kernel
theorem dX6_putPoint_40 : decode cX6_putPoint 40 = .ok (.isub, 1) := by decide +kernel
theorem dX6_putPoint_41 : decode cX6_putPoint 41 = .ok (.laload, 1) := by decide +kernel
theorem dX6_putPoint_42 : decode cX6_putPoint 42 = .ok (.iload_n 2, 1) := by decide +kernel
theorem dX6_putPoint_43 : decode cX6_putPoint 43 = .ok (.i2l, 1) := by decide +kernel
theorem dX6_putPoint_44 : decode cX6_putPoint 44 = .ok (.lcmp, 1) := by decide +kernel
theorem dX6_putPoint_45 : decode cX6_putPoint 45 = .ok (.ifCond .ge 26, 3) := by decide +kernel
theorem dX6_putPoint_48 : decode cX6_putPoint 48 = .ok (.iload_n 1, 1) := by decide +kernel
theorem dX6_putPoint_49 : decode cX6_putPoint 49 = .ok (.bipush 10, 2) := by decide +kernel
theorem dX6_putPoint_51 : decode cX6_putPoint 51 = .ok (.if_icmp .ge 23, 3) := by decide +kernel
theorem dX6_putPoint_54 : decode cX6_putPoint 54 = .ok (.aload_n 0, 1) := by decide +kernel
theorem dX6_putPoint_55 : decode cX6_putPoint 55 = .ok (.getfield 7, 3) := by decide +kernel
theorem dX6_putPoint_58 : decode cX6_putPoint 58 = .ok (.bipush 13, 2) := by decide +kernel
theorem dX6_putPoint_60 : decode cX6_putPoint 60 = .ok (.iload_n 1, 1) := by decide +kernel
theorem dX6_putPoint_61 : decode cX6_putPoint 61 = .ok (.iadd, 1) := by decide +kernel
theorem dX6_putPoint_62 : decode cX6_putPoint 62 = .ok (.iconst 1, 1) := by decide +kernel
theorem dX6_putPoint_63 : decode cX6_putPoint 63 = .ok (.iadd, 1) := by decide +kernel
theorem dX6_putPoint_64 : decode cX6_putPoint 64 = .ok (.laload, 1) := by decide +kernel
theorem dX6_putPoint_65 : decode cX6_putPoint 65 = .ok (.iload_n 2, 1) := by decide +kernel
theorem dX6_putPoint_66 : decode cX6_putPoint 66 = .ok (.i2l, 1) := by decide +kernel
theorem dX6_putPoint_67 : decode cX6_putPoint 67 = .ok (.lcmp, 1) := by decide +kernel
theorem dX6_putPoint_68 : decode cX6_putPoint 68 = .ok (.ifCond .gt 6, 3) := by decide +kernel
theorem dX6_putPoint_71 : decode cX6_putPoint 71 = .ok (.ldc 49, 2) := by decide +kernel
theorem dX6_putPoint_73 : decode cX6_putPoint 73 = .ok (.ireturn, 1) := by decide +kernel
theorem dX6_putPoint_74 : decode cX6_putPoint 74 = .ok (.aload_n 0, 1) := by decide +kernel
theorem dX6_putPoint_75 : decode cX6_putPoint 75 = .ok (.getfield 7, 3) := by decide +kernel
theorem dX6_putPoint_78 : decode cX6_putPoint 78 = .ok (.bipush 13, 2) := by decide +kernel
theorem dX6_putPoint_80 : decode cX6_putPoint 80 = .ok (.iload_n 1, 1) := by decide +kernel
theorem dX6_putPoint_81 : decode cX6_putPoint 81 = .ok (.iadd, 1) := by decide +kernel
theorem dX6_putPoint_82 : decode cX6_putPoint 82 = .ok (.laload, 1) := by decide +kernel
theorem dX6_putPoint_83 : decode cX6_putPoint 83 = .ok (.l2i, 1) := by decide +kernel
theorem dX6_putPoint_84 : decode cX6_putPoint 84 = .ok (.istore_n 3, 1) := by decide +kernel
theorem dX6_putPoint_85 : decode cX6_putPoint 85 = .ok (.aload_n 0, 1) := by decide +kernel
theorem dX6_putPoint_86 : decode cX6_putPoint 86 = .ok (.getfield 7, 3) := by decide +kernel
theorem dX6_putPoint_89 : decode cX6_putPoint 89 = .ok (.bipush 13, 2) := by decide +kernel
theorem dX6_putPoint_91 : decode cX6_putPoint 91 = .ok (.iload_n 1, 1) := by decide +kernel
theorem dX6_putPoint_92 : decode cX6_putPoint 92 = .ok (.iadd, 1) := by decide +kernel
theorem dX6_putPoint_93 : decode cX6_putPoint 93 = .ok (.iload_n 2, 1) := by decide +kernel
theorem dX6_putPoint_94 : decode cX6_putPoint 94 = .ok (.i2l, 1) := by decide +kernel
theorem dX6_putPoint_95 : decode cX6_putPoint 95 = .ok (.lastore, 1) := by decide +kernel
theorem dX6_putPoint_96 : decode cX6_putPoint 96 = .ok (.iload_n 3, 1) := by decide +kernel
theorem dX6_putPoint_97 : decode cX6_putPoint 97 = .ok (.ireturn, 1) := by decide +kernel
set_option maxRecDepth 20000 in
theorem ggX6_shows_X6_middle : GoodIn wsX6_shows wsX6_middle := goodIn_r _ [6, 1, 7, 8, 9, 10, 11, 12, 13, 14, 15, 16, 17, 18, 19, 20, 21, 22] (by decide +kernel) (by decide +kernel)
set_option maxRecDepth 20000 in
theorem gX6_shows_X6_middle : GoodIn wsX6_shows (wsV RX6 75 RX6 yX6_middle wsX6_middle) := goodIn_app (goodIn_of _ (by decide +kernel)) ggX6_shows_X6_middle
theorem dX6_shows_0 : decode cX6_shows 0 = .ok (.aload_n 0, 1) := by decide +kernel
theorem dX6_shows_1 : decode cX6_shows 1 = .ok (.invokevirtual 75, 3) := by decide +kernel
theorem dX6_shows_4 : decode cX6_shows 4 = .ok (.bipush 10, 2) := by decide +kernel
theorem dX6_shows_6 : decode cX6_shows 6 = .ok (.idiv, 1) := by decide +kernel
theorem dX6_shows_7 : decode cX6_shows 7 = .ok (.i2l, 1) := by decide +kernel
theorem dX6_shows_8 : decode cX6_shows 8 = .ok (.lstore_n 3, 1) := by decide +kernel
theorem dX6_shows_9 : decode cX6_shows 9 = .ok (.aload_n 0, 1) := by decide +kernel
theorem dX6_shows_10 : decode cX6_shows 10 = .ok (.getfield 7, 3) := by decide +kernel
theorem dX6_shows_13 : decode cX6_shows 13 = .ok (.iconst 4, 1) := by decide +kernel
theorem dX6_shows_14 : decode cX6_shows 14 = .ok (.laload, 1) := by decide +kernel
theorem dX6_shows_15 : decode cX6_shows 15 = .ok (.lstore 5, 2) := by decide +kernel
theorem dX6_shows_17 : decode cX6_shows 17 = .ok (.iload_n 1, 1) := by decide +kernel
theorem dX6_shows_18 : decode cX6_shows 18 = .ok (.ifCond .le 48, 3) := by decide +kernel
theorem dX6_shows_21 : decode cX6_shows 21 = .ok (.lload 5, 2) := by decide +kernel
theorem dX6_shows_23 : decode cX6_shows 23 = .ok (.iload_n 2, 1) := by decide +kernel
theorem dX6_shows_24 : decode cX6_shows 24 = .ok (.i2l, 1) := by decide +kernel
theorem dX6_shows_25 : decode cX6_shows 25 = .ok (.lsub, 1) := by decide +kernel
theorem dX6_shows_26 : decode cX6_shows 26 = .ok (.lload_n 3, 1) := by decide +kernel
theorem dX6_shows_27 : decode cX6_shows 27 = .ok (.lcmp, 1) := by decide +kernel
theorem dX6_shows_28 : decode cX6_shows 28 = .ok (.ifCond .le 11, 3) := by decide +kernel
theorem dX6_shows_31 : decode cX6_shows 31 = .ok (.lload 5, 2) := by decide +kernel
theorem dX6_shows_33 : decode cX6_shows 33 = .ok (.iload_n 2, 1) := by decide +kernel
theorem dX6_shows_34 : decode cX6_shows 34 = .ok (.i2l, 1) := by decide +kernel
theorem dX6_shows_35 : decode cX6_shows 35 = .ok (.lsub, 1) := by decide +kernel
theorem dX6_shows_36 : decode cX6_shows 36 = .ok (.goto 4, 3) := by decide +kernel
theorem dX6_shows_39 : decode cX6_shows 39 = .ok (.lload_n 3, 1) := by decide +kernel
theorem dX6_shows_40 : decode cX6_shows 40 = .ok (.lstore 7, 2) := by decide +kernel
theorem dX6_shows_42 : decode cX6_shows 42 = .ok (.aload_n 0, 1) := by decide +kernel
theorem dX6_shows_43 : decode cX6_shows 43 = .ok (.getfield 7, 3) := by decide +kernel
theorem dX6_shows_46 : decode cX6_shows 46 = .ok (.iconst 4, 1) := by decide +kernel
theorem dX6_shows_47 : decode cX6_shows 47 = .ok (.lload 7, 2) := by decide +kernel
theorem dX6_shows_49 : decode cX6_shows 49 = .ok (.lload 5, 2) := by decide +kernel
theorem dX6_shows_51 : decode cX6_shows 51 = .ok (.lcmp, 1) := by decide +kernel
theorem dX6_shows_52 : decode cX6_shows 52 = .ok (.ifCond .ge 8, 3) := by decide +kernel
theorem dX6_shows_55 : decode cX6_shows 55 = .ok (.lload 7, 2) := by decide +kernel
theorem dX6_shows_57 : decode cX6_shows 57 = .ok (.goto 5, 3) := by decide +kernel
theorem dX6_shows_60 : decode cX6_shows 60 = .ok (.lload 5, 2) := by decide +kernel
theorem dX6_shows_62 : decode cX6_shows 62 = .ok (.lastore, 1) := by decide +kernel
theorem dX6_shows_63 : decode cX6_shows 63 = .ok (.goto 49, 3) := by decide +kernel
theorem dX6_shows_66 : decode cX6_shows 66 = .ok (.iload_n 1, 1) := by decide +kernel
theorem dX6_shows_67 : decode cX6_shows 67 = .ok (.ifCond .ge 45, 3) := by decide +kernel
theorem dX6_shows_70 : decode cX6_shows 70 = .ok (.lload 5, 2) := by decide +kernel
theorem dX6_shows_72 : decode cX6_shows 72 = .ok (.iload_n 2, 1) := by decide +kernel
theorem dX6_shows_73 : decode cX6_shows 73 = .ok (.i2l, 1) := by decide +kernel
theorem dX6_shows_74 : decode cX6_shows 74 = .ok (.ladd, 1) := by decide +kernel
theorem dX6_shows_75 : decode cX6_shows 75 = .ok (.lload_n 3, 1) := by decide +kernel
theorem dX6_shows_76 : decode cX6_shows 76 = .ok (.lcmp, 1) := by decide +kernel
theorem dX6_shows_77 : decode cX6_shows 77 = .ok (.ifCond .ge 11, 3) := by decide +kernel
theorem dX6_shows_80 : decode cX6_shows 80 = .ok (.lload 5, 2) := by decide +kernel
theorem dX6_shows_82 : decode cX6_shows 82 = .ok (.iload_n 2, 1) := by decide +kernel
theorem dX6_shows_83 : decode cX6_shows 83 = .ok (.i2l, 1) := by decide +kernel
theorem dX6_shows_84 : decode cX6_shows 84 = .ok (.ladd, 1) := by decide +kernel
theorem dX6_shows_85 : decode cX6_shows 85 = .ok (.goto 4, 3) := by decide +kernel
theorem dX6_shows_88 : decode cX6_shows 88 = .ok (.lload_n 3, 1) := by decide +kernel
theorem dX6_shows_89 : decode cX6_shows 89 = .ok (.lstore 7, 2) := by decide +kernel
theorem dX6_shows_91 : decode cX6_shows 91 = .ok (.aload_n 0, 1) := by decide +kernel
theorem dX6_shows_92 : decode cX6_shows 92 = .ok (.getfield 7, 3) := by decide +kernel
theorem dX6_shows_95 : decode cX6_shows 95 = .ok (.iconst 4, 1) := by decide +kernel
theorem dX6_shows_96 : decode cX6_shows 96 = .ok (.lload 7, 2) := by decide +kernel
theorem dX6_shows_98 : decode cX6_shows 98 = .ok (.lload 5, 2) := by decide +kernel
theorem dX6_shows_100 : decode cX6_shows 100 = .ok (.lcmp, 1) := by decide +kernel
theorem dX6_shows_101 : decode cX6_shows 101 = .ok (.ifCond .le 8, 3) := by decide +kernel
theorem dX6_shows_104 : decode cX6_shows 104 = .ok (.lload 7, 2) := by decide +kernel
theorem dX6_shows_106 : decode cX6_shows 106 = .ok (.goto 5, 3) := by decide +kernel
theorem dX6_shows_109 : decode cX6_shows 109 = .ok (.lload 5, 2) := by decide +kernel
theorem dX6_shows_111 : decode cX6_shows 111 = .ok (.lastore, 1) := by decide +kernel
theorem dX6_shows_112 : decode cX6_shows 112 = .ok (.aload_n 0, 1) := by decide +kernel
theorem dX6_shows_113 : decode cX6_shows 113 = .ok (.getfield 7, 3) := by decide +kernel
theorem dX6_shows_116 : decode cX6_shows 116 = .ok (.iconst 1, 1) := by decide +kernel
theorem dX6_shows_117 : decode cX6_shows 117 = .ok (.laload, 1) := by decide +kernel
theorem dX6_shows_118 : decode cX6_shows 118 = .ok (.lconst 0, 1) := by decide +kernel
theorem dX6_shows_119 : decode cX6_shows 119 = .ok (.lcmp, 1) := by decide +kernel
theorem dX6_shows_120 : decode cX6_shows 120 = .ok (.ifCond .ne 10, 3) := by decide +kernel
theorem dX6_shows_123 : decode cX6_shows 123 = .ok (.aload_n 0, 1) := by decide +kernel
theorem dX6_shows_124 : decode cX6_shows 124 = .ok (.getfield 7, 3) := by decide +kernel
theorem dX6_shows_127 : decode cX6_shows 127 = .ok (.iconst 4, 1) := by decide +kernel
theorem dX6_shows_128 : decode cX6_shows 128 = .ok (.lconst 0, 1) := by decide +kernel
theorem dX6_shows_129 : decode cX6_shows 129 = .ok (.lastore, 1) := by decide +kernel
theorem dX6_shows_130 : decode cX6_shows 130 = .ok (.return_, 1) := by decide +kernel
set_option maxRecDepth 20000 in
theorem ggX6_putPassing_X6_in : GoodIn wsX6_putPassing wsX6_in := goodIn_r _ [10] (by decide +kernel) (by decide +kernel)
set_option maxRecDepth 20000 in
theorem gX6_putPassing_X6_in : GoodIn wsX6_putPassing (va_wsS RX6 69 yX6_in wsX6_in) := goodIn_app (goodIn_of _ (by decide +kernel)) ggX6_putPassing_X6_in
set_option maxRecDepth 20000 in
theorem ggX6_putPassing_X6_shows : GoodIn wsX6_putPassing wsX6_shows := goodIn_r _ [14, 5, 15, 16, 17, 9, 18, 19, 20, 21, 22, 23, 24, 25, 26, 27, 28, 29, 30, 31, 32, 33, 34] (by decide +kernel) (by decide +kernel)
set_option maxRecDepth 20000 in
theorem gX6_putPassing_X6_shows : GoodIn wsX6_putPassing (wsV RX6 85 RX6 yX6_shows wsX6_shows) := goodIn_app (goodIn_of _ (by decide +kernel)) ggX6_putPassing_X6_shows
theorem dX6_putPassing_0 : decode cX6_putPassing 0 = .ok (.iload_n 1, 1) := by decide +kernel
theorem dX6_putPassing_1 : decode cX6_putPassing 1 = .ok (.i2l, 1) := by decide +kernel
theorem dX6_putPassing_2 : decode cX6_putPassing 2 = .ok (.ldc2_w 79, 3) := by decide +kernel
theorem dX6_putPassing_5 : decode cX6_putPassing 5 = .ok (.ldc2_w 81, 3) := by decide +kernel
theorem dX6_putPassing_8 : decode cX6_putPassing 8 = .ok (.invokestatic 69, 3) := by decide +kernel
theorem dX6_putPassing_11 : decode cX6_putPassing 11 = .ok (.ifCond .eq 15, 3) := by decide +kernel
theorem dX6_putPassing_14 : decode cX6_putPassing 14 = .ok (.iload_n 2, 1) := by decide +kernel
theorem dX6_putPassing_15 : decode cX6_putPassing 15 = .ok (.i2l, 1) := by decide +kernel
theorem dX6_putPassing_16 : decode cX6_putPassing 16 = .ok (.lconst 1, 1) := by decide +kernel
theorem dX6_putPassing_17 : decode cX6_putPassing 17 = .ok (.ldc2_w 83, 3) := by decide +kernel
theorem dX6_putPassing_20 : decode cX6_putPassing 20 = .ok (.invokestatic 69, 3) := by decide +kernel
theorem dX6_putPassing_23 : decode cX6_putPassing 23 = .ok (.ifCond .ne 6, 3) := by decide +kernel
theorem dX6_putPassing_26 : decode cX6_putPassing 26 = .ok (.ldc 44, 2) := by decide +kernel
theorem dX6_putPassing_28 : decode cX6_putPassing 28 = .ok (.ireturn, 1) := by decide +kernel
theorem dX6_putPassing_29 : decode cX6_putPassing 29 = .ok (.aload_n 0, 1) := by decide +kernel
theorem dX6_putPassing_30 : decode cX6_putPassing 30 = .ok (.getfield 7, 3) := by decide +kernel
theorem dX6_putPassing_33 : decode cX6_putPassing 33 = .ok (.bipush 11, 2) := by decide +kernel
theorem dX6_putPassing_35 : decode cX6_putPassing 35 = .ok (.laload, 1) := by decide +kernel
theorem dX6_putPassing_36 : decode cX6_putPassing 36 = .ok (.lstore_n 3, 1) := by decide +kernel
theorem dX6_putPassing_37 : decode cX6_putPassing 37 = .ok (.aload_n 0, 1) := by decide +kernel
theorem dX6_putPassing_38 : decode cX6_putPassing 38 = .ok (.getfield 7, 3) := by decide +kernel
theorem dX6_putPassing_41 : decode cX6_putPassing 41 = .ok (.iconst 0, 1) := by decide +kernel
theorem dX6_putPassing_42 : decode cX6_putPassing 42 = .ok (.laload, 1) := by decide +kernel
theorem dX6_putPassing_43 : decode cX6_putPassing 43 = .ok (.iload_n 2, 1) := by decide +kernel
theorem dX6_putPassing_44 : decode cX6_putPassing 44 = .ok (.i2l, 1) := by decide +kernel
theorem dX6_putPassing_45 : decode cX6_putPassing 45 = .ok (.iload_n 1, 1) := by decide +kernel
theorem dX6_putPassing_46 : decode cX6_putPassing 46 = .ok (.i2l, 1) := by decide +kernel
theorem dX6_putPassing_47 : decode cX6_putPassing 47 = .ok (.lload_n 3, 1) := by decide +kernel
theorem dX6_putPassing_48 : decode cX6_putPassing 48 = .ok (.ladd, 1) := by decide +kernel
theorem dX6_putPassing_49 : decode cX6_putPassing 49 = .ok (.lmul, 1) := by decide +kernel
theorem dX6_putPassing_50 : decode cX6_putPassing 50 = .ok (.lsub, 1) := by decide +kernel
theorem dX6_putPassing_51 : decode cX6_putPassing 51 = .ok (.lstore 5, 2) := by decide +kernel
theorem dX6_putPassing_53 : decode cX6_putPassing 53 = .ok (.aload_n 0, 1) := by decide +kernel
theorem dX6_putPassing_54 : decode cX6_putPassing 54 = .ok (.getfield 7, 3) := by decide +kernel
theorem dX6_putPassing_57 : decode cX6_putPassing 57 = .ok (.iconst 1, 1) := by decide +kernel
theorem dX6_putPassing_58 : decode cX6_putPassing 58 = .ok (.laload, 1) := by decide +kernel
theorem dX6_putPassing_59 : decode cX6_putPassing 59 = .ok (.iload_n 2, 1) := by decide +kernel
theorem dX6_putPassing_60 : decode cX6_putPassing 60 = .ok (.i2l, 1) := by decide +kernel
theorem dX6_putPassing_61 : decode cX6_putPassing 61 = .ok (.iload_n 1, 1) := by decide +kernel
theorem dX6_putPassing_62 : decode cX6_putPassing 62 = .ok (.i2l, 1) := by decide +kernel
theorem dX6_putPassing_63 : decode cX6_putPassing 63 = .ok (.lload_n 3, 1) := by decide +kernel
theorem dX6_putPassing_64 : decode cX6_putPassing 64 = .ok (.lsub, 1) := by decide +kernel
theorem dX6_putPassing_65 : decode cX6_putPassing 65 = .ok (.lmul, 1) := by decide +kernel
theorem dX6_putPassing_66 : decode cX6_putPassing 66 = .ok (.lsub, 1) := by decide +kernel
theorem dX6_putPassing_67 : decode cX6_putPassing 67 = .ok (.lstore 7, 2) := by decide +kernel
theorem dX6_putPassing_69 : decode cX6_putPassing 69 = .ok (.lload 5, 2) := by decide +kernel
theorem dX6_putPassing_71 : decode cX6_putPassing 71 = .ok (.lconst 0, 1) := by decide +kernel
theorem dX6_putPassing_72 : decode cX6_putPassing 72 = .ok (.lcmp, 1) := by decide +kernel
theorem dX6_putPassing_73 : decode cX6_putPassing 73 = .ok (.ifCond .ge 7, 3) := by decide +kernel
theorem dX6_putPassing_76 : decode cX6_putPassing 76 = .ok (.lconst 0, 1) := by decide +kernel
theorem dX6_putPassing_77 : decode cX6_putPassing 77 = .ok (.goto 5, 3) := by decide +kernel
theorem dX6_putPassing_80 : decode cX6_putPassing 80 = .ok (.lload 5, 2) := by decide +kernel
theorem dX6_putPassing_82 : decode cX6_putPassing 82 = .ok (.lstore 5, 2) := by decide +kernel
theorem dX6_putPassing_84 : decode cX6_putPassing 84 = .ok (.lload 7, 2) := by decide +kernel
theorem dX6_putPassing_86 : decode cX6_putPassing 86 = .ok (.aload_n 0, 1) := by decide +kernel
theorem dX6_putPassing_87 : decode cX6_putPassing 87 = .ok (.getfield 7, 3) := by decide +kernel
theorem dX6_putPassing_90 : decode cX6_putPassing 90 = .ok (.iconst 3, 1) := by decide +kernel
theorem dX6_putPassing_91 : decode cX6_putPassing 91 = .ok (.laload, 1) := by decide +kernel
theorem dX6_putPassing_92 : decode cX6_putPassing 92 = .ok (.lcmp, 1) := by decide +kernel
theorem dX6_putPassing_93 : decode cX6_putPassing 93 = .ok (.ifCond .le 12, 3) := by decide +kernel
theorem dX6_putPassing_96 : decode cX6_putPassing 96 = .ok (.aload_n 0, 1) := by decide +kernel
theorem dX6_putPassing_97 : decode cX6_putPassing 97 = .ok (.getfield 7, 3) := by decide +kernel
theorem dX6_putPassing_100 : decode cX6_putPassing 100 = .ok (.iconst 3, 1) := by decide +kernel
theorem dX6_putPassing_101 : decode cX6_putPassing 101 = .ok (.laload, 1) := by decide +kernel
theorem dX6_putPassing_102 : decode cX6_putPassing 102 = .ok (.goto 5, 3) := by decide +kernel
theorem dX6_putPassing_105 : decode cX6_putPassing 105 = .ok (.lload 7, 2) := by decide +kernel
theorem dX6_putPassing_107 : decode cX6_putPassing 107 = .ok (.lstore 7, 2) := by decide +kernel
theorem dX6_putPassing_109 : decode cX6_putPassing 109 = .ok (.lload 7, 2) := by decide +kernel
theorem dX6_putPassing_111 : decode cX6_putPassing 111 = .ok (.lconst 0, 1) := by decide +kernel
theorem dX6_putPassing_112 : decode cX6_putPassing 112 = .ok (.lcmp, 1) := by decide +kernel
theorem dX6_putPassing_113 : decode cX6_putPassing 113 = .ok (.ifCond .lt 23, 3) := by decide +kernel
theorem dX6_putPassing_116 : decode cX6_putPassing 116 = .ok (.lload 5, 2) := by decide +kernel
theorem dX6_putPassing_118 : decode cX6_putPassing 118 = .ok (.aload_n 0, 1) := by decide +kernel
theorem dX6_putPassing_119 : decode cX6_putPassing 119 = .ok (.getfield 7, 3) := by decide +kernel
theorem dX6_putPassing_122 : decode cX6_putPassing 122 = .ok (.iconst 3, 1) := by decide +kernel
theorem dX6_putPassing_123 : decode cX6_putPassing 123 = .ok (.laload, 1) := by decide +kernel
theorem dX6_putPassing_124 : decode cX6_putPassing 124 = .ok (.lcmp, 1) := by decide +kernel
theorem dX6_putPassing_125 : decode cX6_putPassing 125 = .ok (.ifCond .gt 11, 3) := by decide +kernel
theorem dX6_putPassing_128 : decode cX6_putPassing 128 = .ok (.lload 5, 2) := by decide +kernel
theorem dX6_putPassing_130 : decode cX6_putPassing 130 = .ok (.lload 7, 2) := by decide +kernel
theorem dX6_putPassing_132 : decode cX6_putPassing 132 = .ok (.lcmp, 1) := by decide +kernel
theorem dX6_putPassing_133 : decode cX6_putPassing 133 = .ok (.ifCond .le 6, 3) := by decide +kernel
theorem dX6_putPassing_136 : decode cX6_putPassing 136 = .ok (.ldc 49, 2) := by decide +kernel
theorem dX6_putPassing_138 : decode cX6_putPassing 138 = .ok (.ireturn, 1) := by decide +kernel
theorem dX6_putPassing_139 : decode cX6_putPassing 139 = .ok (.aload_n 0, 1) := by decide +kernel
theorem dX6_putPassing_140 : decode cX6_putPassing 140 = .ok (.getfield 7, 3) := by decide +kernel
theorem dX6_putPassing_143 : decode cX6_putPassing 143 = .ok (.iconst 0, 1) := by decide +kernel
theorem dX6_putPassing_144 : decode cX6_putPassing 144 = .ok (.lload 5, 2) := by decide +kernel
theorem dX6_putPassing_146 : decode cX6_putPassing 146 = .ok (.lastore, 1) := by decide +kernel
theorem dX6_putPassing_147 : decode cX6_putPassing 147 = .ok (.aload_n 0, 1) := by decide +kernel
theorem dX6_putPassing_148 : decode cX6_putPassing 148 = .ok (.getfield 7, 3) := by decide +kernel
theorem dX6_putPassing_151 : decode cX6_putPassing 151 = .ok (.iconst 1, 1) := by decide +kernel
theorem dX6_putPassing_152 : decode cX6_putPassing 152 = .ok (.lload 7, 2) := by decide +kernel
theorem dX6_putPassing_154 : decode cX6_putPassing 154 = .ok (.lastore, 1) := by decide +kernel
theorem dX6_putPassing_155 : decode cX6_putPassing 155 = .ok (.aload_n 0, 1) := by decide +kernel
theorem dX6_putPassing_156 : decode cX6_putPassing 156 = .ok (.getfield 7, 3) := by decide +kernel
theorem dX6_putPassing_159 : decode cX6_putPassing 159 = .ok (.iconst 5, 1) := by decide +kernel
theorem dX6_putPassing_160 : decode cX6_putPassing 160 = .ok (.dup2, 1) := by decide +kernel
theorem dX6_putPassing_161 : decode cX6_putPassing 161 = .ok (.laload, 1) := by decide +kernel
theorem dX6_putPassing_162 : decode cX6_putPassing 162 = .ok (.iload_n 2, 1) := by decide +kernel
theorem dX6_putPassing_163 : decode cX6_putPassing 163 = .ok (.i2l, 1) := by decide +kernel
theorem dX6_putPassing_164 : decode cX6_putPassing 164 = .ok (.iload_n 1, 1) := by decide +kernel
theorem dX6_putPassing_165 : decode cX6_putPassing 165 = .ok (.i2l, 1) := by decide +kernel
theorem dX6_putPassing_166 : decode cX6_putPassing 166 = .ok (.lmul, 1) := by decide +kernel
theorem dX6_putPassing_167 : decode cX6_putPassing 167 = .ok (.ladd, 1) := by decide +kernel
theorem dX6_putPassing_168 : decode cX6_putPassing 168 = .ok (.lastore, 1) := by decide +kernel
theorem dX6_putPassing_169 : decode cX6_putPassing 169 = .ok (.aload_n 0, 1) := by decide +kernel
theorem dX6_putPassing_170 : decode cX6_putPassing 170 = .ok (.getfield 7, 3) := by decide +kernel
theorem dX6_putPassing_173 : decode cX6_putPassing 173 = .ok (.bipush 6, 2) := by decide +kernel
theorem dX6_putPassing_175 : decode cX6_putPassing 175 = .ok (.dup2, 1) := by decide +kernel
theorem dX6_putPassing_176 : decode cX6_putPassing 176 = .ok (.laload, 1) := by decide +kernel
theorem dX6_putPassing_177 : decode cX6_putPassing 177 = .ok (.iload_n 2, 1) := by decide +kernel
theorem dX6_putPassing_178 : decode cX6_putPassing 178 = .ok (.i2l, 1) := by decide +kernel
theorem dX6_putPassing_179 : decode cX6_putPassing 179 = .ok (.ladd, 1) := by decide +kernel
theorem dX6_putPassing_180 : decode cX6_putPassing 180 = .ok (.lastore, 1) := by decide +kernel
theorem dX6_putPassing_181 : decode cX6_putPassing 181 = .ok (.aload_n 0, 1) := by decide +kernel
theorem dX6_putPassing_182 : decode cX6_putPassing 182 = .ok (.iload_n 1, 1) := by decide +kernel
theorem dX6_putPassing_183 : decode cX6_putPassing 183 = .ok (.iload_n 2, 1) := by decide +kernel
theorem dX6_putPassing_184 : decode cX6_putPassing 184 = .ok (.invokevirtual 85, 3) := by decide +kernel
theorem dX6_putPassing_187 : decode cX6_putPassing 187 = .ok (.lload 7, 2) := by decide +kernel
theorem dX6_putPassing_189 : decode cX6_putPassing 189 = .ok (.lload 5, 2) := by decide +kernel
theorem dX6_putPassing_191 : decode cX6_putPassing 191 = .ok (.lsub, 1) := by decide +kernel
theorem dX6_putPassing_192 : decode cX6_putPassing 192 = .ok (.l2i, 1) := by decide +kernel
theorem dX6_putPassing_193 : decode cX6_putPassing 193 = .ok (.ireturn, 1) := by decide +kernel
theorem dX6_learnsCapacity_0 : decode cX6_learnsCapacity 0 = .ok (.aload_n 0, 1) := by decide +kernel
theorem dX6_learnsCapacity_1 : decode cX6_learnsCapacity 1 = .ok (.getfield 7, 3) := by decide +kernel
theorem dX6_learnsCapacity_4 : decode cX6_learnsCapacity 4 = .ok (.iconst 5, 1) := by decide +kernel
theorem dX6_learnsCapacity_5 : decode cX6_learnsCapacity 5 = .ok (.laload, 1) := by decide +kernel
theorem dX6_learnsCapacity_6 : decode cX6_learnsCapacity 6 = .ok (.aload_n 0, 1) := by decide +kernel
theorem dX6_learnsCapacity_7 : decode cX6_learnsCapacity 7 = .ok (.getfield 7, 3) := by decide +kernel
theorem dX6_learnsCapacity_10 : decode cX6_learnsCapacity 10 = .ok (.bipush 11, 2) := by decide +kernel
theorem dX6_learnsCapacity_12 : decode cX6_learnsCapacity 12 = .ok (.laload, 1) := by decide +kernel
theorem dX6_learnsCapacity_13 : decode cX6_learnsCapacity 13 = .ok (.aload_n 0, 1) := by decide +kernel
theorem dX6_learnsCapacity_14 : decode cX6_learnsCapacity 14 = .ok (.getfield 7, 3) := by decide +kernel
theorem dX6_learnsCapacity_17 : decode cX6_learnsCapacity 17 = .ok (.bipush 6, 2) := by decide +kernel
theorem dX6_learnsCapacity_19 : decode cX6_learnsCapacity 19 = .ok (.laload, 1) := by decide +kernel
theorem dX6_learnsCapacity_20 : decode cX6_learnsCapacity 20 = .ok (.lmul, 1) := by decide +kernel
theorem dX6_learnsCapacity_21 : decode cX6_learnsCapacity 21 = .ok (.lsub, 1) := by decide +kernel
theorem dX6_learnsCapacity_22 : decode cX6_learnsCapacity 22 = .ok (.lstore 5, 2) := by decide +kernel
theorem dX6_learnsCapacity_24 : decode cX6_learnsCapacity 24 = .ok (.aload_n 0, 1) := by decide +kernel
theorem dX6_learnsCapacity_25 : decode cX6_learnsCapacity 25 = .ok (.getfield 7, 3) := by decide +kernel
theorem dX6_learnsCapacity_28 : decode cX6_learnsCapacity 28 = .ok (.iconst 5, 1) := by decide +kernel
theorem dX6_learnsCapacity_29 : decode cX6_learnsCapacity 29 = .ok (.laload, 1) := by decide +kernel
theorem dX6_learnsCapacity_30 : decode cX6_learnsCapacity 30 = .ok (.aload_n 0, 1) := by decide +kernel
theorem dX6_learnsCapacity_31 : decode cX6_learnsCapacity 31 = .ok (.getfield 7, 3) := by decide +kernel
theorem dX6_learnsCapacity_34 : decode cX6_learnsCapacity 34 = .ok (.bipush 11, 2) := by decide +kernel
theorem dX6_learnsCapacity_36 : decode cX6_learnsCapacity 36 = .ok (.laload, 1) := by decide +kernel
theorem dX6_learnsCapacity_37 : decode cX6_learnsCapacity 37 = .ok (.aload_n 0, 1) := by decide +kernel
theorem dX6_learnsCapacity_38 : decode cX6_learnsCapacity 38 = .ok (.getfield 7, 3) := by decide +kernel
theorem dX6_learnsCapacity_41 : decode cX6_learnsCapacity 41 = .ok (.bipush 6, 2) := by decide +kernel
theorem dX6_learnsCapacity_43 : decode cX6_learnsCapacity 43 = .ok (.laload, 1) := by decide +kernel
theorem dX6_learnsCapacity_44 : decode cX6_learnsCapacity 44 = .ok (.lmul, 1) := by decide +kernel
theorem dX6_learnsCapacity_45 : decode cX6_learnsCapacity 45 = .ok (.ladd, 1) := by decide +kernel
theorem dX6_learnsCapacity_46 : decode cX6_learnsCapacity 46 = .ok (.lstore 7, 2) := by decide +kernel
theorem dX6_learnsCapacity_48 : decode cX6_learnsCapacity 48 = .ok (.aload_n 0, 1) := by decide +kernel
theorem dX6_learnsCapacity_49 : decode cX6_learnsCapacity 49 = .ok (.getfield 7, 3) := by decide +kernel
theorem dX6_learnsCapacity_52 : decode cX6_learnsCapacity 52 = .ok (.iconst 2, 1) := by decide +kernel
theorem dX6_learnsCapacity_53 : decode cX6_learnsCapacity 53 = .ok (.laload, 1) := by decide +kernel
theorem dX6_learnsCapacity_54 : decode cX6_learnsCapacity 54 = .ok (.lstore 9, 2) := by decide +kernel
theorem dX6_learnsCapacity_56 : decode cX6_learnsCapacity 56 = .ok (.aload_n 0, 1) := by decide +kernel
theorem dX6_learnsCapacity_57 : decode cX6_learnsCapacity 57 = .ok (.getfield 7, 3) := by decide +kernel
theorem dX6_learnsCapacity_60 : decode cX6_learnsCapacity 60 = .ok (.iconst 3, 1) := by decide +kernel
theorem dX6_learnsCapacity_61 : decode cX6_learnsCapacity 61 = .ok (.laload, 1) := by decide +kernel
theorem dX6_learnsCapacity_62 : decode cX6_learnsCapacity 62 = .ok (.lstore 11, 2) := by decide +kernel
theorem dX6_learnsCapacity_64 : decode cX6_learnsCapacity 64 = .ok (.aload_n 0, 1) := by decide +kernel
theorem dX6_learnsCapacity_65 : decode cX6_learnsCapacity 65 = .ok (.getfield 7, 3) := by decide +kernel
theorem dX6_learnsCapacity_68 : decode cX6_learnsCapacity 68 = .ok (.bipush 10, 2) := by decide +kernel
theorem dX6_learnsCapacity_70 : decode cX6_learnsCapacity 70 = .ok (.laload, 1) := by decide +kernel
theorem dX6_learnsCapacity_71 : decode cX6_learnsCapacity 71 = .ok (.lload_n 1, 1) := by decide +kernel
theorem dX6_learnsCapacity_72 : decode cX6_learnsCapacity 72 = .ok (.lsub, 1) := by decide +kernel
theorem dX6_learnsCapacity_73 : decode cX6_learnsCapacity 73 = .ok (.lstore 13, 2) := by decide +kernel
theorem dX6_learnsCapacity_75 : decode cX6_learnsCapacity 75 = .ok (.lload 5, 2) := by decide +kernel
theorem dX6_learnsCapacity_77 : decode cX6_learnsCapacity 77 = .ok (.lconst 0, 1) := by decide +kernel
theorem dX6_learnsCapacity_78 : decode cX6_learnsCapacity 78 = .ok (.lcmp, 1) := by decide +kernel
theorem dX6_learnsCapacity_79 : decode cX6_learnsCapacity 79 = .ok (.ifCond .le 38, 3) := by decide +kernel
theorem dX6_learnsCapacity_82 : decode cX6_learnsCapacity 82 = .ok (.lload 13, 2) := by decide +kernel
theorem dX6_learnsCapacity_84 : decode cX6_learnsCapacity 84 = .ok (.lconst 0, 1) := by decide +kernel
theorem dX6_learnsCapacity_85 : decode cX6_learnsCapacity 85 = .ok (.lcmp, 1) := by decide +kernel
theorem dX6_learnsCapacity_86 : decode cX6_learnsCapacity 86 = .ok (.ifCond .le 31, 3) := by decide +kernel
theorem dX6_learnsCapacity_89 : decode cX6_learnsCapacity 89 = .ok (.ldc2_w 32, 3) := by decide +kernel
theorem dX6_learnsCapacity_92 : decode cX6_learnsCapacity 92 = .ok (.lload 5, 2) := by decide +kernel
theorem dX6_learnsCapacity_94 : decode cX6_learnsCapacity 94 = .ok (.lmul, 1) := by decide +kernel
theorem dX6_learnsCapacity_95 : decode cX6_learnsCapacity 95 = .ok (.lload 13, 2) := by decide +kernel
theorem dX6_learnsCapacity_97 : decode cX6_learnsCapacity 97 = .ok (.ldiv, 1) := by decide +kernel
theorem dX6_learnsCapacity_98 : decode cX6_learnsCapacity 98 = .ok (.lstore 15, 2) := by decide +kernel
theorem dX6_learnsCapacity_100 : decode cX6_learnsCapacity 100 = .ok (.lload 15, 2) := by decide +kernel
theorem dX6_learnsCapacity_102 : decode cX6_learnsCapacity 102 = .ok (.lload 9, 2) := by decide +kernel
theorem dX6_learnsCapacity_104 : decode cX6_learnsCapacity 104 = .ok (.lcmp, 1) := by decide +kernel
theorem dX6_learnsCapacity_105 : decode cX6_learnsCapacity 105 = .ok (.ifCond .le 8, 3) := by decide +kernel
theorem dX6_learnsCapacity_108 : decode cX6_learnsCapacity 108 = .ok (.lload 15, 2) := by decide +kernel
theorem dX6_learnsCapacity_110 : decode cX6_learnsCapacity 110 = .ok (.goto 5, 3) := by decide +kernel
theorem dX6_learnsCapacity_113 : decode cX6_learnsCapacity 113 = .ok (.lload 9, 2) := by decide +kernel
theorem dX6_learnsCapacity_115 : decode cX6_learnsCapacity 115 = .ok (.lstore 9, 2) := by decide +kernel
theorem dX6_learnsCapacity_117 : decode cX6_learnsCapacity 117 = .ok (.aload_n 0, 1) := by decide +kernel
theorem dX6_learnsCapacity_118 : decode cX6_learnsCapacity 118 = .ok (.getfield 7, 3) := by decide +kernel
theorem dX6_learnsCapacity_121 : decode cX6_learnsCapacity 121 = .ok (.bipush 9, 2) := by decide +kernel
theorem dX6_learnsCapacity_123 : decode cX6_learnsCapacity 123 = .ok (.laload, 1) := by decide +kernel
theorem dX6_learnsCapacity_124 : decode cX6_learnsCapacity 124 = .ok (.lload_n 3, 1) := by decide +kernel
theorem dX6_learnsCapacity_125 : decode cX6_learnsCapacity 125 = .ok (.lsub, 1) := by decide +kernel
theorem dX6_learnsCapacity_126 : decode cX6_learnsCapacity 126 = .ok (.lstore 13, 2) := by decide +kernel
theorem dX6_learnsCapacity_128 : decode cX6_learnsCapacity 128 = .ok (.lload 7, 2) := by decide +kernel
theorem dX6_learnsCapacity_130 : decode cX6_learnsCapacity 130 = .ok (.lconst 0, 1) := by decide +kernel
theorem dX6_learnsCapacity_131 : decode cX6_learnsCapacity 131 = .ok (.lcmp, 1) := by decide +kernel
theorem dX6_learnsCapacity_132 : decode cX6_learnsCapacity 132 = .ok (.ifCond .le 43, 3) := by decide +kernel
theorem dX6_learnsCapacity_135 : decode cX6_learnsCapacity 135 = .ok (.lload 13, 2) := by decide +kernel
theorem dX6_learnsCapacity_137 : decode cX6_learnsCapacity 137 = .ok (.lconst 0, 1) := by decide +kernel
theorem dX6_learnsCapacity_138 : decode cX6_learnsCapacity 138 = .ok (.lcmp, 1) := by decide +kernel
theorem dX6_learnsCapacity_139 : decode cX6_learnsCapacity 139 = .ok (.ifCond .le 36, 3) := by decide +kernel
theorem dX6_learnsCapacity_142 : decode cX6_learnsCapacity 142 = .ok (.ldc2_w 32, 3) := by decide +kernel
theorem dX6_learnsCapacity_145 : decode cX6_learnsCapacity 145 = .ok (.lload 7, 2) := by decide +kernel
theorem dX6_learnsCapacity_147 : decode cX6_learnsCapacity 147 = .ok (.lmul, 1) := by decide +kernel
theorem dX6_learnsCapacity_148 : decode cX6_learnsCapacity 148 = .ok (.lload 13, 2) := by decide +kernel
theorem dX6_learnsCapacity_150 : decode cX6_learnsCapacity 150 = .ok (.ladd, 1) := by decide +kernel
theorem dX6_learnsCapacity_151 : decode cX6_learnsCapacity 151 = .ok (.lconst 1, 1) := by decide +kernel
theorem dX6_learnsCapacity_152 : decode cX6_learnsCapacity 152 = .ok (.lsub, 1) := by decide +kernel
theorem dX6_learnsCapacity_153 : decode cX6_learnsCapacity 153 = .ok (.lload 13, 2) := by decide +kernel
theorem dX6_learnsCapacity_155 : decode cX6_learnsCapacity 155 = .ok (.ldiv, 1) := by decide +kernel
theorem dX6_learnsCapacity_156 : decode cX6_learnsCapacity 156 = .ok (.lstore 15, 2) := by decide +kernel
theorem dX6_learnsCapacity_158 : decode cX6_learnsCapacity 158 = .ok (.lload 15, 2) := by decide +kernel
theorem dX6_learnsCapacity_160 : decode cX6_learnsCapacity 160 = .ok (.lload 11, 2) := by decide +kernel
theorem dX6_learnsCapacity_162 : decode cX6_learnsCapacity 162 = .ok (.lcmp, 1) := by decide +kernel
theorem dX6_learnsCapacity_163 : decode cX6_learnsCapacity 163 = .ok (.ifCond .ge 8, 3) := by decide +kernel
theorem dX6_learnsCapacity_166 : decode cX6_learnsCapacity 166 = .ok (.lload 15, 2) := by decide +kernel
theorem dX6_learnsCapacity_168 : decode cX6_learnsCapacity 168 = .ok (.goto 5, 3) := by decide +kernel
theorem dX6_learnsCapacity_171 : decode cX6_learnsCapacity 171 = .ok (.lload 11, 2) := by decide +kernel
theorem dX6_learnsCapacity_173 : decode cX6_learnsCapacity 173 = .ok (.lstore 11, 2) := by decide +kernel
theorem dX6_learnsCapacity_175 : decode cX6_learnsCapacity 175 = .ok (.lload 9, 2) := by decide +kernel
theorem dX6_learnsCapacity_177 : decode cX6_learnsCapacity 177 = .ok (.lload 11, 2) := by decide +kernel
theorem dX6_learnsCapacity_179 : decode cX6_learnsCapacity 179 = .ok (.lcmp, 1) := by decide +kernel
theorem dX6_learnsCapacity_180 : decode cX6_learnsCapacity 180 = .ok (.ifCond .le 17, 3) := by decide +kernel
theorem dX6_learnsCapacity_183 : decode cX6_learnsCapacity 183 = .ok (.aload_n 0, 1) := by decide +kernel
theorem dX6_learnsCapacity_184 : decode cX6_learnsCapacity 184 = .ok (.getfield 7, 3) := by decide +kernel
theorem dX6_learnsCapacity_187 : decode cX6_learnsCapacity 187 = .ok (.bipush 7, 2) := by decide +kernel
theorem dX6_learnsCapacity_189 : decode cX6_learnsCapacity 189 = .ok (.dup2, 1) := by decide +kernel
theorem dX6_learnsCapacity_190 : decode cX6_learnsCapacity 190 = .ok (.laload, 1) := by decide +kernel
theorem dX6_learnsCapacity_191 : decode cX6_learnsCapacity 191 = .ok (.lconst 1, 1) := by decide +kernel
theorem dX6_learnsCapacity_192 : decode cX6_learnsCapacity 192 = .ok (.ladd, 1) := by decide +kernel
theorem dX6_learnsCapacity_193 : decode cX6_learnsCapacity 193 = .ok (.lastore, 1) := by decide +kernel
theorem dX6_learnsCapacity_194 : decode cX6_learnsCapacity 194 = .ok (.goto 19, 3) := by decide +kernel
theorem dX6_learnsCapacity_197 : decode cX6_learnsCapacity 197 = .ok (.aload_n 0, 1) := by decide +kernel
theorem dX6_learnsCapacity_198 : decode cX6_learnsCapacity 198 = .ok (.getfield 7, 3) := by decide +kernel
theorem dX6_learnsCapacity_201 : decode cX6_learnsCapacity 201 = .ok (.iconst 2, 1) := by decide +kernel
theorem dX6_learnsCapacity_202 : decode cX6_learnsCapacity 202 = .ok (.lload 9, 2) := by decide +kernel
theorem dX6_learnsCapacity_204 : decode cX6_learnsCapacity 204 = .ok (.lastore, 1) := by decide +kernel
theorem dX6_learnsCapacity_205 : decode cX6_learnsCapacity 205 = .ok (.aload_n 0, 1) := by decide +kernel
theorem dX6_learnsCapacity_206 : decode cX6_learnsCapacity 206 = .ok (.getfield 7, 3) := by decide +kernel
theorem dX6_learnsCapacity_209 : decode cX6_learnsCapacity 209 = .ok (.iconst 3, 1) := by decide +kernel
theorem dX6_learnsCapacity_210 : decode cX6_learnsCapacity 210 = .ok (.lload 11, 2) := by decide +kernel
theorem dX6_learnsCapacity_212 : decode cX6_learnsCapacity 212 = .ok (.lastore, 1) := by decide +kernel
theorem dX6_learnsCapacity_213 : decode cX6_learnsCapacity 213 = .ok (.return_, 1) := by decide +kernel
set_option maxRecDepth 20000 in
theorem ggX6_putRest_X6_in : GoodIn wsX6_putRest wsX6_in := goodIn_r _ [13] (by decide +kernel) (by decide +kernel)
set_option maxRecDepth 20000 in
theorem gX6_putRest_X6_in : GoodIn wsX6_putRest (va_wsS RX6 69 yX6_in wsX6_in) := goodIn_app (goodIn_of _ (by decide +kernel)) ggX6_putRest_X6_in
set_option maxRecDepth 20000 in
theorem ggX6_putRest_X6_turns : GoodIn wsX6_putRest wsX6_turns := goodIn_r _ [17, 7, 4, 3, 5, 18, 19, 20, 12, 21, 22, 27, 28, 29, 30, 31, 32, 33, 34, 35, 36, 37, 38, 39, 40, 41] (by decide +kernel) (by decide +kernel)
set_option maxRecDepth 20000 in
theorem gX6_putRest_X6_turns : GoodIn wsX6_putRest (wsV RX6 89 RX6 yX6_turns wsX6_turns) := goodIn_app (goodIn_of _ (by decide +kernel)) ggX6_putRest_X6_turns
set_option maxRecDepth 20000 in
theorem ggX6_putRest_X6_learnsCapacity : GoodIn wsX6_putRest wsX6_learnsCapacity := goodIn_r _ [26, 7, 8, 27, 28, 29, 30, 31, 32, 33, 34, 35, 36, 37, 38, 39, 40, 41] (by decide +kernel) (by decide +kernel)
set_option maxRecDepth 20000 in
theorem gX6_putRest_X6_learnsCapacity : GoodIn wsX6_putRest (wsV RX6 93 RX6 yX6_learnsCapacity wsX6_learnsCapacity) := goodIn_app (goodIn_of _ (by decide +kernel)) ggX6_putRest_X6_learnsCapacity
theorem dX6_putRest_0 : decode cX6_putRest 0 = .ok (.iload_n 1, 1) := by decide +kernel
theorem dX6_putRest_1 : decode cX6_putRest 1 = .ok (.i2l, 1) := by decide +kernel
theorem dX6_putRest_2 : decode cX6_putRest 2 = .ok (.lconst 0, 1) := by decide +kernel
theorem dX6_putRest_3 : decode cX6_putRest 3 = .ok (.ldc2_w 73, 3) := by decide +kernel
theorem dX6_putRest_6 : decode cX6_putRest 6 = .ok (.invokestatic 69, 3) := by decide +kernel
theorem dX6_putRest_9 : decode cX6_putRest 9 = .ok (.ifCond .ne 6, 3) := by decide +kernel
theorem dX6_putRest_12 : decode cX6_putRest 12 = .ok (.ldc 44, 2) := by decide +kernel
theorem dX6_putRest_14 : decode cX6_putRest 14 = .ok (.ireturn, 1) := by decide +kernel
theorem dX6_putRest_15 : decode cX6_putRest 15 = .ok (.aload_n 0, 1) := by decide +kernel
theorem dX6_putRest_16 : decode cX6_putRest 16 = .ok (.iload_n 1, 1) := by decide +kernel
theorem dX6_putRest_17 : decode cX6_putRest 17 = .ok (.invokevirtual 89, 3) := by decide +kernel
theorem dX6_putRest_20 : decode cX6_putRest 20 = .ok (.aload_n 0, 1) := by decide +kernel
theorem dX6_putRest_21 : decode cX6_putRest 21 = .ok (.getfield 58, 3) := by decide +kernel
theorem dX6_putRest_24 : decode cX6_putRest 24 = .ok (.ldc 57, 2) := by decide +kernel
theorem dX6_putRest_26 : decode cX6_putRest 26 = .ok (.if_icmp .eq 12, 3) := by decide +kernel
theorem dX6_putRest_29 : decode cX6_putRest 29 = .ok (.aload_n 0, 1) := by decide +kernel
theorem dX6_putRest_30 : decode cX6_putRest 30 = .ok (.getfield 61, 3) := by decide +kernel
theorem dX6_putRest_33 : decode cX6_putRest 33 = .ok (.ldc 57, 2) := by decide +kernel
theorem dX6_putRest_35 : decode cX6_putRest 35 = .ok (.if_icmp .ne 6, 3) := by decide +kernel
theorem dX6_putRest_38 : decode cX6_putRest 38 = .ok (.ldc 49, 2) := by decide +kernel
theorem dX6_putRest_40 : decode cX6_putRest 40 = .ok (.ireturn, 1) := by decide +kernel
theorem dX6_putRest_41 : decode cX6_putRest 41 = .ok (.aload_n 0, 1) := by decide +kernel
theorem dX6_putRest_42 : decode cX6_putRest 42 = .ok (.getfield 7, 3) := by decide +kernel
theorem dX6_putRest_45 : decode cX6_putRest 45 = .ok (.bipush 8, 2) := by decide +kernel
theorem dX6_putRest_47 : decode cX6_putRest 47 = .ok (.laload, 1) := by decide +kernel
theorem dX6_putRest_48 : decode cX6_putRest 48 = .ok (.lconst 0, 1) := by decide +kernel
theorem dX6_putRest_49 : decode cX6_putRest 49 = .ok (.lcmp, 1) := by decide +kernel
theorem dX6_putRest_50 : decode cX6_putRest 50 = .ok (.ifCond .le 17, 3) := by decide +kernel
theorem dX6_putRest_53 : decode cX6_putRest 53 = .ok (.aload_n 0, 1) := by decide +kernel
theorem dX6_putRest_54 : decode cX6_putRest 54 = .ok (.aload_n 0, 1) := by decide +kernel
theorem dX6_putRest_55 : decode cX6_putRest 55 = .ok (.getfield 58, 3) := by decide +kernel
theorem dX6_putRest_58 : decode cX6_putRest 58 = .ok (.i2l, 1) := by decide +kernel
theorem dX6_putRest_59 : decode cX6_putRest 59 = .ok (.aload_n 0, 1) := by decide +kernel
theorem dX6_putRest_60 : decode cX6_putRest 60 = .ok (.getfield 61, 3) := by decide +kernel
theorem dX6_putRest_63 : decode cX6_putRest 63 = .ok (.i2l, 1) := by decide +kernel
theorem dX6_putRest_64 : decode cX6_putRest 64 = .ok (.invokevirtual 93, 3) := by decide +kernel
theorem dX6_putRest_67 : decode cX6_putRest 67 = .ok (.aload_n 0, 1) := by decide +kernel
theorem dX6_putRest_68 : decode cX6_putRest 68 = .ok (.getfield 58, 3) := by decide +kernel
theorem dX6_putRest_71 : decode cX6_putRest 71 = .ok (.i2l, 1) := by decide +kernel
theorem dX6_putRest_72 : decode cX6_putRest 72 = .ok (.aload_n 0, 1) := by decide +kernel
theorem dX6_putRest_73 : decode cX6_putRest 73 = .ok (.getfield 7, 3) := by decide +kernel
theorem dX6_putRest_76 : decode cX6_putRest 76 = .ok (.iconst 2, 1) := by decide +kernel
theorem dX6_putRest_77 : decode cX6_putRest 77 = .ok (.laload, 1) := by decide +kernel
theorem dX6_putRest_78 : decode cX6_putRest 78 = .ok (.lmul, 1) := by decide +kernel
theorem dX6_putRest_79 : decode cX6_putRest 79 = .ok (.ldc2_w 32, 3) := by decide +kernel
theorem dX6_putRest_82 : decode cX6_putRest 82 = .ok (.ldiv, 1) := by decide +kernel
theorem dX6_putRest_83 : decode cX6_putRest 83 = .ok (.lstore_n 2, 1) := by decide +kernel
theorem dX6_putRest_84 : decode cX6_putRest 84 = .ok (.aload_n 0, 1) := by decide +kernel
theorem dX6_putRest_85 : decode cX6_putRest 85 = .ok (.getfield 61, 3) := by decide +kernel
theorem dX6_putRest_88 : decode cX6_putRest 88 = .ok (.i2l, 1) := by decide +kernel
theorem dX6_putRest_89 : decode cX6_putRest 89 = .ok (.aload_n 0, 1) := by decide +kernel
theorem dX6_putRest_90 : decode cX6_putRest 90 = .ok (.getfield 7, 3) := by decide +kernel
theorem dX6_putRest_93 : decode cX6_putRest 93 = .ok (.iconst 3, 1) := by decide +kernel
theorem dX6_putRest_94 : decode cX6_putRest 94 = .ok (.laload, 1) := by decide +kernel
theorem dX6_putRest_95 : decode cX6_putRest 95 = .ok (.lmul, 1) := by decide +kernel
theorem dX6_putRest_96 : decode cX6_putRest 96 = .ok (.ldc2_w 83, 3) := by decide +kernel
theorem dX6_putRest_99 : decode cX6_putRest 99 = .ok (.ladd, 1) := by decide +kernel
theorem dX6_putRest_100 : decode cX6_putRest 100 = .ok (.ldc2_w 32, 3) := by decide +kernel
theorem dX6_putRest_103 : decode cX6_putRest 103 = .ok (.ldiv, 1) := by decide +kernel
theorem dX6_putRest_104 : decode cX6_putRest 104 = .ok (.lstore 4, 2) := by decide +kernel
theorem dX6_putRest_106 : decode cX6_putRest 106 = .ok (.lload_n 2, 1) := by decide +kernel
theorem dX6_putRest_107 : decode cX6_putRest 107 = .ok (.aload_n 0, 1) := by decide +kernel
theorem dX6_putRest_108 : decode cX6_putRest 108 = .ok (.getfield 7, 3) := by decide +kernel
theorem dX6_putRest_111 : decode cX6_putRest 111 = .ok (.iconst 0, 1) := by decide +kernel
theorem dX6_putRest_112 : decode cX6_putRest 112 = .ok (.laload, 1) := by decide +kernel
theorem dX6_putRest_113 : decode cX6_putRest 113 = .ok (.lcmp, 1) := by decide +kernel
theorem dX6_putRest_114 : decode cX6_putRest 114 = .ok (.ifCond .le 7, 3) := by decide +kernel
theorem dX6_putRest_117 : decode cX6_putRest 117 = .ok (.lload_n 2, 1) := by decide +kernel
theorem dX6_putRest_118 : decode cX6_putRest 118 = .ok (.goto 9, 3) := by decide +kernel
theorem dX6_putRest_121 : decode cX6_putRest 121 = .ok (.aload_n 0, 1) := by decide +kernel
theorem dX6_putRest_122 : decode cX6_putRest 122 = .ok (.getfield 7, 3) := by decide +kernel
theorem dX6_putRest_125 : decode cX6_putRest 125 = .ok (.iconst 0, 1) := by decide +kernel
theorem dX6_putRest_126 : decode cX6_putRest 126 = .ok (.laload, 1) := by decide +kernel
theorem dX6_putRest_127 : decode cX6_putRest 127 = .ok (.lstore_n 2, 1) := by decide +kernel
theorem dX6_putRest_128 : decode cX6_putRest 128 = .ok (.lload 4, 2) := by decide +kernel
theorem dX6_putRest_130 : decode cX6_putRest 130 = .ok (.aload_n 0, 1) := by decide +kernel
theorem dX6_putRest_131 : decode cX6_putRest 131 = .ok (.getfield 7, 3) := by decide +kernel
theorem dX6_putRest_134 : decode cX6_putRest 134 = .ok (.iconst 1, 1) := by decide +kernel
theorem dX6_putRest_135 : decode cX6_putRest 135 = .ok (.laload, 1) := by decide +kernel
theorem dX6_putRest_136 : decode cX6_putRest 136 = .ok (.lcmp, 1) := by decide +kernel
theorem dX6_putRest_137 : decode cX6_putRest 137 = .ok (.ifCond .ge 8, 3) := by decide +kernel
theorem dX6_putRest_140 : decode cX6_putRest 140 = .ok (.lload 4, 2) := by decide +kernel
theorem dX6_putRest_142 : decode cX6_putRest 142 = .ok (.goto 9, 3) := by decide +kernel
theorem dX6_putRest_145 : decode cX6_putRest 145 = .ok (.aload_n 0, 1) := by decide +kernel
theorem dX6_putRest_146 : decode cX6_putRest 146 = .ok (.getfield 7, 3) := by decide +kernel
theorem dX6_putRest_149 : decode cX6_putRest 149 = .ok (.iconst 1, 1) := by decide +kernel
theorem dX6_putRest_150 : decode cX6_putRest 150 = .ok (.laload, 1) := by decide +kernel
theorem dX6_putRest_151 : decode cX6_putRest 151 = .ok (.lstore 4, 2) := by decide +kernel
theorem dX6_putRest_153 : decode cX6_putRest 153 = .ok (.lload_n 2, 1) := by decide +kernel
theorem dX6_putRest_154 : decode cX6_putRest 154 = .ok (.lload 4, 2) := by decide +kernel
theorem dX6_putRest_156 : decode cX6_putRest 156 = .ok (.lcmp, 1) := by decide +kernel
theorem dX6_putRest_157 : decode cX6_putRest 157 = .ok (.ifCond .le 17, 3) := by decide +kernel
theorem dX6_putRest_160 : decode cX6_putRest 160 = .ok (.aload_n 0, 1) := by decide +kernel
theorem dX6_putRest_161 : decode cX6_putRest 161 = .ok (.getfield 7, 3) := by decide +kernel
theorem dX6_putRest_164 : decode cX6_putRest 164 = .ok (.bipush 7, 2) := by decide +kernel
theorem dX6_putRest_166 : decode cX6_putRest 166 = .ok (.dup2, 1) := by decide +kernel
theorem dX6_putRest_167 : decode cX6_putRest 167 = .ok (.laload, 1) := by decide +kernel
theorem dX6_putRest_168 : decode cX6_putRest 168 = .ok (.lconst 1, 1) := by decide +kernel
theorem dX6_putRest_169 : decode cX6_putRest 169 = .ok (.ladd, 1) := by decide +kernel
theorem dX6_putRest_170 : decode cX6_putRest 170 = .ok (.lastore, 1) := by decide +kernel
theorem dX6_putRest_171 : decode cX6_putRest 171 = .ok (.goto 18, 3) := by decide +kernel
theorem dX6_putRest_174 : decode cX6_putRest 174 = .ok (.aload_n 0, 1) := by decide +kernel
theorem dX6_putRest_175 : decode cX6_putRest 175 = .ok (.getfield 7, 3) := by decide +kernel
theorem dX6_putRest_178 : decode cX6_putRest 178 = .ok (.iconst 0, 1) := by decide +kernel
theorem dX6_putRest_179 : decode cX6_putRest 179 = .ok (.lload_n 2, 1) := by decide +kernel
theorem dX6_putRest_180 : decode cX6_putRest 180 = .ok (.lastore, 1) := by decide +kernel
theorem dX6_putRest_181 : decode cX6_putRest 181 = .ok (.aload_n 0, 1) := by decide +kernel
theorem dX6_putRest_182 : decode cX6_putRest 182 = .ok (.getfield 7, 3) := by decide +kernel
theorem dX6_putRest_185 : decode cX6_putRest 185 = .ok (.iconst 1, 1) := by decide +kernel
theorem dX6_putRest_186 : decode cX6_putRest 186 = .ok (.lload 4, 2) := by decide +kernel
theorem dX6_putRest_188 : decode cX6_putRest 188 = .ok (.lastore, 1) := by decide +kernel
theorem dX6_putRest_189 : decode cX6_putRest 189 = .ok (.aload_n 0, 1) := by decide +kernel
theorem dX6_putRest_190 : decode cX6_putRest 190 = .ok (.getfield 7, 3) := by decide +kernel
theorem dX6_putRest_193 : decode cX6_putRest 193 = .ok (.iconst 1, 1) := by decide +kernel
theorem dX6_putRest_194 : decode cX6_putRest 194 = .ok (.aload_n 0, 1) := by decide +kernel
theorem dX6_putRest_195 : decode cX6_putRest 195 = .ok (.getfield 7, 3) := by decide +kernel
theorem dX6_putRest_198 : decode cX6_putRest 198 = .ok (.iconst 1, 1) := by decide +kernel
theorem dX6_putRest_199 : decode cX6_putRest 199 = .ok (.laload, 1) := by decide +kernel
theorem dX6_putRest_200 : decode cX6_putRest 200 = .ok (.aload_n 0, 1) := by decide +kernel
theorem dX6_putRest_201 : decode cX6_putRest 201 = .ok (.getfield 7, 3) := by decide +kernel
theorem dX6_putRest_204 : decode cX6_putRest 204 = .ok (.iconst 3, 1) := by decide +kernel
theorem dX6_putRest_205 : decode cX6_putRest 205 = .ok (.laload, 1) := by decide +kernel
theorem dX6_putRest_206 : decode cX6_putRest 206 = .ok (.lcmp, 1) := by decide +kernel
theorem dX6_putRest_207 : decode cX6_putRest 207 = .ok (.ifCond .le 12, 3) := by decide +kernel
theorem dX6_putRest_210 : decode cX6_putRest 210 = .ok (.aload_n 0, 1) := by decide +kernel
theorem dX6_putRest_211 : decode cX6_putRest 211 = .ok (.getfield 7, 3) := by decide +kernel
theorem dX6_putRest_214 : decode cX6_putRest 214 = .ok (.iconst 3, 1) := by decide +kernel
theorem dX6_putRest_215 : decode cX6_putRest 215 = .ok (.laload, 1) := by decide +kernel
theorem dX6_putRest_216 : decode cX6_putRest 216 = .ok (.goto 9, 3) := by decide +kernel
theorem dX6_putRest_219 : decode cX6_putRest 219 = .ok (.aload_n 0, 1) := by decide +kernel
theorem dX6_putRest_220 : decode cX6_putRest 220 = .ok (.getfield 7, 3) := by decide +kernel
theorem dX6_putRest_223 : decode cX6_putRest 223 = .ok (.iconst 1, 1) := by decide +kernel
theorem dX6_putRest_224 : decode cX6_putRest 224 = .ok (.laload, 1) := by decide +kernel
theorem dX6_putRest_225 : decode cX6_putRest 225 = .ok (.lastore, 1) := by decide +kernel
theorem dX6_putRest_226 : decode cX6_putRest 226 = .ok (.aload_n 0, 1) := by decide +kernel
theorem dX6_putRest_227 : decode cX6_putRest 227 = .ok (.getfield 7, 3) := by decide +kernel
theorem dX6_putRest_230 : decode cX6_putRest 230 = .ok (.iconst 0, 1) := by decide +kernel
theorem dX6_putRest_231 : decode cX6_putRest 231 = .ok (.aload_n 0, 1) := by decide +kernel
theorem dX6_putRest_232 : decode cX6_putRest 232 = .ok (.getfield 7, 3) := by decide +kernel
theorem dX6_putRest_235 : decode cX6_putRest 235 = .ok (.iconst 0, 1) := by decide +kernel
theorem dX6_putRest_236 : decode cX6_putRest 236 = .ok (.laload, 1) := by decide +kernel
theorem dX6_putRest_237 : decode cX6_putRest 237 = .ok (.aload_n 0, 1) := by decide +kernel
theorem dX6_putRest_238 : decode cX6_putRest 238 = .ok (.getfield 7, 3) := by decide +kernel
theorem dX6_putRest_241 : decode cX6_putRest 241 = .ok (.iconst 3, 1) := by decide +kernel
theorem dX6_putRest_242 : decode cX6_putRest 242 = .ok (.laload, 1) := by decide +kernel
theorem dX6_putRest_243 : decode cX6_putRest 243 = .ok (.lcmp, 1) := by decide +kernel
theorem dX6_putRest_244 : decode cX6_putRest 244 = .ok (.ifCond .le 12, 3) := by decide +kernel
theorem dX6_putRest_247 : decode cX6_putRest 247 = .ok (.aload_n 0, 1) := by decide +kernel
theorem dX6_putRest_248 : decode cX6_putRest 248 = .ok (.getfield 7, 3) := by decide +kernel
theorem dX6_putRest_251 : decode cX6_putRest 251 = .ok (.iconst 3, 1) := by decide +kernel
theorem dX6_putRest_252 : decode cX6_putRest 252 = .ok (.laload, 1) := by decide +kernel
theorem dX6_putRest_253 : decode cX6_putRest 253 = .ok (.goto 9, 3) := by decide +kernel
theorem dX6_putRest_256 : decode cX6_putRest 256 = .ok (.aload_n 0, 1) := by decide +kernel
theorem dX6_putRest_257 : decode cX6_putRest 257 = .ok (.getfield 7, 3) := by decide +kernel
theorem dX6_putRest_260 : decode cX6_putRest 260 = .ok (.iconst 0, 1) := by decide +kernel
theorem dX6_putRest_261 : decode cX6_putRest 261 = .ok (.laload, 1) := by decide +kernel
theorem dX6_putRest_262 : decode cX6_putRest 262 = .ok (.lastore, 1) := by decide +kernel
theorem dX6_putRest_263 : decode cX6_putRest 263 = .ok (.aload_n 0, 1) := by decide +kernel
theorem dX6_putRest_264 : decode cX6_putRest 264 = .ok (.getfield 7, 3) := by decide +kernel
theorem dX6_putRest_267 : decode cX6_putRest 267 = .ok (.iconst 5, 1) := by decide +kernel
theorem dX6_putRest_268 : decode cX6_putRest 268 = .ok (.lconst 0, 1) := by decide +kernel
theorem dX6_putRest_269 : decode cX6_putRest 269 = .ok (.lastore, 1) := by decide +kernel
theorem dX6_putRest_270 : decode cX6_putRest 270 = .ok (.aload_n 0, 1) := by decide +kernel
theorem dX6_putRest_271 : decode cX6_putRest 271 = .ok (.getfield 7, 3) := by decide +kernel
theorem dX6_putRest_274 : decode cX6_putRest 274 = .ok (.bipush 6, 2) := by decide +kernel
theorem dX6_putRest_276 : decode cX6_putRest 276 = .ok (.lconst 0, 1) := by decide +kernel
theorem dX6_putRest_277 : decode cX6_putRest 277 = .ok (.lastore, 1) := by decide +kernel
theorem dX6_putRest_278 : decode cX6_putRest 278 = .ok (.aload_n 0, 1) := by decide +kernel
theorem dX6_putRest_279 : decode cX6_putRest 279 = .ok (.getfield 7, 3) := by decide +kernel
theorem dX6_putRest_282 : decode cX6_putRest 282 = .ok (.bipush 8, 2) := by decide +kernel
theorem dX6_putRest_284 : decode cX6_putRest 284 = .ok (.dup2, 1) := by decide +kernel
theorem dX6_putRest_285 : decode cX6_putRest 285 = .ok (.laload, 1) := by decide +kernel
theorem dX6_putRest_286 : decode cX6_putRest 286 = .ok (.lconst 1, 1) := by decide +kernel
theorem dX6_putRest_287 : decode cX6_putRest 287 = .ok (.ladd, 1) := by decide +kernel
theorem dX6_putRest_288 : decode cX6_putRest 288 = .ok (.lastore, 1) := by decide +kernel
theorem dX6_putRest_289 : decode cX6_putRest 289 = .ok (.aload_n 0, 1) := by decide +kernel
theorem dX6_putRest_290 : decode cX6_putRest 290 = .ok (.getfield 7, 3) := by decide +kernel
theorem dX6_putRest_293 : decode cX6_putRest 293 = .ok (.bipush 9, 2) := by decide +kernel
theorem dX6_putRest_295 : decode cX6_putRest 295 = .ok (.aload_n 0, 1) := by decide +kernel
theorem dX6_putRest_296 : decode cX6_putRest 296 = .ok (.getfield 58, 3) := by decide +kernel
theorem dX6_putRest_299 : decode cX6_putRest 299 = .ok (.i2l, 1) := by decide +kernel
theorem dX6_putRest_300 : decode cX6_putRest 300 = .ok (.lastore, 1) := by decide +kernel
theorem dX6_putRest_301 : decode cX6_putRest 301 = .ok (.aload_n 0, 1) := by decide +kernel
theorem dX6_putRest_302 : decode cX6_putRest 302 = .ok (.getfield 7, 3) := by decide +kernel
theorem dX6_putRest_305 : decode cX6_putRest 305 = .ok (.bipush 10, 2) := by decide +kernel
theorem dX6_putRest_307 : decode cX6_putRest 307 = .ok (.aload_n 0, 1) := by decide +kernel
theorem dX6_putRest_308 : decode cX6_putRest 308 = .ok (.getfield 61, 3) := by decide +kernel
theorem dX6_putRest_311 : decode cX6_putRest 311 = .ok (.i2l, 1) := by decide +kernel
theorem dX6_putRest_312 : decode cX6_putRest 312 = .ok (.lastore, 1) := by decide +kernel
theorem dX6_putRest_313 : decode cX6_putRest 313 = .ok (.aload_n 0, 1) := by decide +kernel
theorem dX6_putRest_314 : decode cX6_putRest 314 = .ok (.getfield 7, 3) := by decide +kernel
theorem dX6_putRest_317 : decode cX6_putRest 317 = .ok (.iconst 4, 1) := by decide +kernel
theorem dX6_putRest_318 : decode cX6_putRest 318 = .ok (.aload_n 0, 1) := by decide +kernel
theorem dX6_putRest_319 : decode cX6_putRest 319 = .ok (.getfield 7, 3) := by decide +kernel
theorem dX6_putRest_322 : decode cX6_putRest 322 = .ok (.iconst 1, 1) := by decide +kernel
theorem dX6_putRest_323 : decode cX6_putRest 323 = .ok (.laload, 1) := by decide +kernel
theorem dX6_putRest_324 : decode cX6_putRest 324 = .ok (.lconst 0, 1) := by decide +kernel
theorem dX6_putRest_325 : decode cX6_putRest 325 = .ok (.lcmp, 1) := by decide +kernel
theorem dX6_putRest_326 : decode cX6_putRest 326 = .ok (.ifCond .ne 7, 3) := by decide +kernel
theorem dX6_putRest_329 : decode cX6_putRest 329 = .ok (.lconst 0, 1) := by decide +kernel
theorem dX6_putRest_330 : decode cX6_putRest 330 = .ok (.goto 9, 3) := by decide +kernel
theorem dX6_putRest_333 : decode cX6_putRest 333 = .ok (.aload_n 0, 1) := by decide +kernel
theorem dX6_putRest_334 : decode cX6_putRest 334 = .ok (.getfield 7, 3) := by decide +kernel
theorem dX6_putRest_337 : decode cX6_putRest 337 = .ok (.iconst 4, 1) := by decide +kernel
theorem dX6_putRest_338 : decode cX6_putRest 338 = .ok (.laload, 1) := by decide +kernel
theorem dX6_putRest_339 : decode cX6_putRest 339 = .ok (.lastore, 1) := by decide +kernel
theorem dX6_putRest_340 : decode cX6_putRest 340 = .ok (.aload_n 0, 1) := by decide +kernel
theorem dX6_putRest_341 : decode cX6_putRest 341 = .ok (.getfield 7, 3) := by decide +kernel
theorem dX6_putRest_344 : decode cX6_putRest 344 = .ok (.iconst 1, 1) := by decide +kernel
theorem dX6_putRest_345 : decode cX6_putRest 345 = .ok (.laload, 1) := by decide +kernel
theorem dX6_putRest_346 : decode cX6_putRest 346 = .ok (.aload_n 0, 1) := by decide +kernel
theorem dX6_putRest_347 : decode cX6_putRest 347 = .ok (.getfield 7, 3) := by decide +kernel
theorem dX6_putRest_350 : decode cX6_putRest 350 = .ok (.iconst 0, 1) := by decide +kernel
theorem dX6_putRest_351 : decode cX6_putRest 351 = .ok (.laload, 1) := by decide +kernel
theorem dX6_putRest_352 : decode cX6_putRest 352 = .ok (.lsub, 1) := by decide +kernel
theorem dX6_putRest_353 : decode cX6_putRest 353 = .ok (.l2i, 1) := by decide +kernel
theorem dX6_putRest_354 : decode cX6_putRest 354 = .ok (.ireturn, 1) := by decide +kernel
set_option maxRecDepth 20000 in
theorem ggX6_bandNow_X6_middle : GoodIn wsX6_bandNow wsX6_middle := goodIn_r _ [5, 6, 7, 8, 9, 10, 11, 12, 13, 14, 15, 16, 17, 18, 19, 20, 21, 22] (by decide +kernel) (by decide +kernel)
set_option maxRecDepth 20000 in
theorem gX6_bandNow_X6_middle : GoodIn wsX6_bandNow (wsV RX6 75 RX6 yX6_middle wsX6_middle) := goodIn_app (goodIn_of _ (by decide +kernel)) ggX6_bandNow_X6_middle
theorem dX6_bandNow_0 : decode cX6_bandNow 0 = .ok (.bipush 11, 2) := by decide +kernel
theorem dX6_bandNow_2 : decode cX6_bandNow 2 = .ok (.iload_n 1, 1) := by decide +kernel
theorem dX6_bandNow_3 : decode cX6_bandNow 3 = .ok (.ifCond .le 7, 3) := by decide +kernel
theorem dX6_bandNow_6 : decode cX6_bandNow 6 = .ok (.iconst 0, 1) := by decide +kernel
theorem dX6_bandNow_7 : decode cX6_bandNow 7 = .ok (.goto 4, 3) := by decide +kernel
theorem dX6_bandNow_10 : decode cX6_bandNow 10 = .ok (.iconst 1, 1) := by decide +kernel
theorem dX6_bandNow_11 : decode cX6_bandNow 11 = .ok (.imul, 1) := by decide +kernel
theorem dX6_bandNow_12 : decode cX6_bandNow 12 = .ok (.aload_n 0, 1) := by decide +kernel
theorem dX6_bandNow_13 : decode cX6_bandNow 13 = .ok (.invokevirtual 75, 3) := by decide +kernel
theorem dX6_bandNow_16 : decode cX6_bandNow 16 = .ok (.bipush 100, 2) := by decide +kernel
theorem dX6_bandNow_18 : decode cX6_bandNow 18 = .ok (.idiv, 1) := by decide +kernel
theorem dX6_bandNow_19 : decode cX6_bandNow 19 = .ok (.iadd, 1) := by decide +kernel
theorem dX6_bandNow_20 : decode cX6_bandNow 20 = .ok (.ireturn, 1) := by decide +kernel
set_option maxRecDepth 20000 in
theorem ggX6_putLoad_X6_in : GoodIn wsX6_putLoad wsX6_in := goodIn_r _ [9] (by decide +kernel) (by decide +kernel)
set_option maxRecDepth 20000 in
theorem gX6_putLoad_X6_in : GoodIn wsX6_putLoad (va_wsS RX6 69 yX6_in wsX6_in) := goodIn_app (goodIn_of _ (by decide +kernel)) ggX6_putLoad_X6_in
set_option maxRecDepth 20000 in
theorem ggX6_putLoad_X6_middle : GoodIn wsX6_putLoad wsX6_middle := goodIn_r _ [13, 5, 14, 24, 25, 26, 27, 28, 29, 30, 31, 32, 33, 34, 35, 36, 37, 38] (by decide +kernel) (by decide +kernel)
set_option maxRecDepth 20000 in
theorem gX6_putLoad_X6_middle : GoodIn wsX6_putLoad (wsV RX6 75 RX6 yX6_middle wsX6_middle) := goodIn_app (goodIn_of _ (by decide +kernel)) ggX6_putLoad_X6_middle
set_option maxRecDepth 20000 in
theorem ggX6_putLoad_X6_voltsAt : GoodIn wsX6_putLoad wsX6_voltsAt := goodIn_r _ [18, 5, 19, 24, 25, 26, 27, 28, 29, 30, 31, 32, 33, 34, 35, 36, 37, 38] (by decide +kernel) (by decide +kernel)
set_option maxRecDepth 20000 in
theorem gX6_putLoad_X6_voltsAt : GoodIn wsX6_putLoad (wsV RX6 64 RX6 yX6_voltsAt wsX6_voltsAt) := goodIn_app (goodIn_of _ (by decide +kernel)) ggX6_putLoad_X6_voltsAt
set_option maxRecDepth 20000 in
theorem ggX6_putLoad_X6_bandNow : GoodIn wsX6_putLoad wsX6_bandNow := goodIn_r _ [23, 10, 11, 12, 8, 13, 5, 14, 24, 25, 26, 27, 28, 29, 30, 31, 32, 33, 34, 35, 36, 37, 38] (by decide +kernel) (by decide +kernel)
set_option maxRecDepth 20000 in
theorem gX6_putLoad_X6_bandNow : GoodIn wsX6_putLoad (wsV RX6 97 RX6 yX6_bandNow wsX6_bandNow) := goodIn_app (goodIn_of _ (by decide +kernel)) ggX6_putLoad_X6_bandNow
theorem dX6_putLoad_0 : decode cX6_putLoad 0 = .ok (.iload_n 1, 1) := by decide +kernel
theorem dX6_putLoad_1 : decode cX6_putLoad 1 = .ok (.i2l, 1) := by decide +kernel
theorem dX6_putLoad_2 : decode cX6_putLoad 2 = .ok (.ldc2_w 79, 3) := by decide +kernel
theorem dX6_putLoad_5 : decode cX6_putLoad 5 = .ok (.ldc2_w 81, 3) := by decide +kernel
theorem dX6_putLoad_8 : decode cX6_putLoad 8 = .ok (.invokestatic 69, 3) := by decide +kernel
theorem dX6_putLoad_11 : decode cX6_putLoad 11 = .ok (.ifCond .eq 19, 3) := by decide +kernel
theorem dX6_putLoad_14 : decode cX6_putLoad 14 = .ok (.iload_n 1, 1) := by decide +kernel
theorem dX6_putLoad_15 : decode cX6_putLoad 15 = .ok (.ifCond .eq 15, 3) := by decide +kernel
theorem dX6_putLoad_18 : decode cX6_putLoad 18 = .ok (.iload_n 2, 1) := by decide +kernel
theorem dX6_putLoad_19 : decode cX6_putLoad 19 = .ok (.i2l, 1) := by decide +kernel
theorem dX6_putLoad_20 : decode cX6_putLoad 20 = .ok (.lconst 0, 1) := by decide +kernel
theorem dX6_putLoad_21 : decode cX6_putLoad 21 = .ok (.ldc2_w 73, 3) := by decide +kernel
theorem dX6_putLoad_24 : decode cX6_putLoad 24 = .ok (.invokestatic 69, 3) := by decide +kernel
theorem dX6_putLoad_27 : decode cX6_putLoad 27 = .ok (.ifCond .ne 6, 3) := by decide +kernel
theorem dX6_putLoad_30 : decode cX6_putLoad 30 = .ok (.ldc 44, 2) := by decide +kernel
theorem dX6_putLoad_32 : decode cX6_putLoad 32 = .ok (.ireturn, 1) := by decide +kernel
theorem dX6_putLoad_33 : decode cX6_putLoad 33 = .ok (.bipush 100, 2) := by decide +kernel
theorem dX6_putLoad_35 : decode cX6_putLoad 35 = .ok (.aload_n 0, 1) := by decide +kernel
theorem dX6_putLoad_36 : decode cX6_putLoad 36 = .ok (.aload_n 0, 1) := by decide +kernel
theorem dX6_putLoad_37 : decode cX6_putLoad 37 = .ok (.invokevirtual 75, 3) := by decide +kernel
theorem dX6_putLoad_40 : decode cX6_putLoad 40 = .ok (.invokevirtual 64, 3) := by decide +kernel
theorem dX6_putLoad_43 : decode cX6_putLoad 43 = .ok (.iload_n 2, 1) := by decide +kernel
theorem dX6_putLoad_44 : decode cX6_putLoad 44 = .ok (.isub, 1) := by decide +kernel
theorem dX6_putLoad_45 : decode cX6_putLoad 45 = .ok (.imul, 1) := by decide +kernel
theorem dX6_putLoad_46 : decode cX6_putLoad 46 = .ok (.iload_n 1, 1) := by decide +kernel
theorem dX6_putLoad_47 : decode cX6_putLoad 47 = .ok (.idiv, 1) := by decide +kernel
theorem dX6_putLoad_48 : decode cX6_putLoad 48 = .ok (.istore_n 3, 1) := by decide +kernel
theorem dX6_putLoad_49 : decode cX6_putLoad 49 = .ok (.aload_n 0, 1) := by decide +kernel
theorem dX6_putLoad_50 : decode cX6_putLoad 50 = .ok (.iload_n 1, 1) := by decide +kernel
theorem dX6_putLoad_51 : decode cX6_putLoad 51 = .ok (.invokevirtual 97, 3) := by decide +kernel
theorem dX6_putLoad_54 : decode cX6_putLoad 54 = .ok (.istore 4, 2) := by decide +kernel
theorem dX6_putLoad_56 : decode cX6_putLoad 56 = .ok (.aload_n 0, 1) := by decide +kernel
theorem dX6_putLoad_57 : decode cX6_putLoad 57 = .ok (.getfield 7, 3) := by decide +kernel
theorem dX6_putLoad_60 : decode cX6_putLoad 60 = .ok (.bipush 24, 2) := by decide +kernel
theorem dX6_putLoad_62 : decode cX6_putLoad 62 = .ok (.iload 4, 2) := by decide +kernel
theorem dX6_putLoad_64 : decode cX6_putLoad 64 = .ok (.iadd, 1) := by decide +kernel
theorem dX6_putLoad_65 : decode cX6_putLoad 65 = .ok (.dup2, 1) := by decide +kernel
theorem dX6_putLoad_66 : decode cX6_putLoad 66 = .ok (.laload, 1) := by decide +kernel
theorem dX6_putLoad_67 : decode cX6_putLoad 67 = .ok (.lconst 1, 1) := by decide +kernel
theorem dX6_putLoad_68 : decode cX6_putLoad 68 = .ok (.ladd, 1) := by decide +kernel
theorem dX6_putLoad_69 : decode cX6_putLoad 69 = .ok (.lastore, 1) := by decide +kernel
theorem dX6_putLoad_70 : decode cX6_putLoad 70 = .ok (.aload_n 0, 1) := by decide +kernel
theorem dX6_putLoad_71 : decode cX6_putLoad 71 = .ok (.getfield 7, 3) := by decide +kernel
theorem dX6_putLoad_74 : decode cX6_putLoad 74 = .ok (.bipush 46, 2) := by decide +kernel
theorem dX6_putLoad_76 : decode cX6_putLoad 76 = .ok (.iload 4, 2) := by decide +kernel
theorem dX6_putLoad_78 : decode cX6_putLoad 78 = .ok (.iadd, 1) := by decide +kernel
theorem dX6_putLoad_79 : decode cX6_putLoad 79 = .ok (.dup2, 1) := by decide +kernel
theorem dX6_putLoad_80 : decode cX6_putLoad 80 = .ok (.laload, 1) := by decide +kernel
theorem dX6_putLoad_81 : decode cX6_putLoad 81 = .ok (.iload_n 3, 1) := by decide +kernel
theorem dX6_putLoad_82 : decode cX6_putLoad 82 = .ok (.i2l, 1) := by decide +kernel
theorem dX6_putLoad_83 : decode cX6_putLoad 83 = .ok (.ladd, 1) := by decide +kernel
theorem dX6_putLoad_84 : decode cX6_putLoad 84 = .ok (.lastore, 1) := by decide +kernel
theorem dX6_putLoad_85 : decode cX6_putLoad 85 = .ok (.iload_n 3, 1) := by decide +kernel
theorem dX6_putLoad_86 : decode cX6_putLoad 86 = .ok (.ireturn, 1) := by decide +kernel
set_option maxRecDepth 20000 in
theorem ggX6_begins_X6_laysAside : GoodIn wsX6_begins wsX6_laysAside := goodIn_r _ [5, 6, 7, 34, 35, 36, 37, 38, 39, 40, 41, 42, 43, 44, 45, 46, 47, 48] (by decide +kernel) (by decide +kernel)
set_option maxRecDepth 20000 in
theorem gX6_begins_X6_laysAside : GoodIn wsX6_begins (wsV RX6 100 RX6 yX6_laysAside wsX6_laysAside) := goodIn_app (goodIn_of _ (by decide +kernel)) ggX6_begins_X6_laysAside
set_option maxRecDepth 20000 in
theorem ggX6_begins_X6_putCapacity : GoodIn wsX6_begins wsX6_putCapacity := goodIn_r _ [11, 12, 13, 7, 14, 15, 16, 17, 4, 18, 34, 35, 36, 37, 38, 39, 40, 41, 42, 43, 44, 45, 46, 47, 48] (by decide +kernel) (by decide +kernel)
set_option maxRecDepth 20000 in
theorem gX6_begins_X6_putCapacity : GoodIn wsX6_begins (wsV RX6 103 RX6 yX6_putCapacity wsX6_putCapacity) := goodIn_app (goodIn_of _ (by decide +kernel)) ggX6_begins_X6_putCapacity
set_option maxRecDepth 20000 in
theorem ggX6_begins_X6_finished : GoodIn wsX6_begins wsX6_finished := goodIn_r _ [22, 13, 23, 24, 25, 4, 26, 27, 28, 29, 30, 31, 32, 33, 6, 34, 35, 36, 37, 38, 39, 40, 41, 42, 43, 44, 45, 46, 47, 48] (by decide +kernel) (by decide +kernel)
set_option maxRecDepth 20000 in
theorem gX6_begins_X6_finished : GoodIn wsX6_begins (wsV RX6 107 RX6 yX6_finished wsX6_finished) := goodIn_app (goodIn_of _ (by decide +kernel)) ggX6_begins_X6_finished
theorem dX6_begins_0 : decode cX6_begins 0 = .ok (.aload_n 0, 1) := by decide +kernel
theorem dX6_begins_1 : decode cX6_begins 1 = .ok (.invokevirtual 100, 3) := by decide +kernel
theorem dX6_begins_4 : decode cX6_begins 4 = .ok (.aload_n 0, 1) := by decide +kernel
theorem dX6_begins_5 : decode cX6_begins 5 = .ok (.aload_n 0, 1) := by decide +kernel
theorem dX6_begins_6 : decode cX6_begins 6 = .ok (.iload_n 1, 1) := by decide +kernel
theorem dX6_begins_7 : decode cX6_begins 7 = .ok (.iload_n 2, 1) := by decide +kernel
theorem dX6_begins_8 : decode cX6_begins 8 = .ok (.invokevirtual 103, 3) := by decide +kernel
theorem dX6_begins_11 : decode cX6_begins 11 = .ok (.invokevirtual 107, 3) := by decide +kernel
theorem dX6_begins_14 : decode cX6_begins 14 = .ok (.ireturn, 1) := by decide +kernel
set_option maxRecDepth 20000 in
theorem ggX6_holds_X6_laysAside : GoodIn wsX6_holds wsX6_laysAside := goodIn_r _ [5, 6, 7, 32, 33, 34, 35, 36, 37, 38, 39, 40, 41, 42, 43, 44, 45, 46] (by decide +kernel) (by decide +kernel)
set_option maxRecDepth 20000 in
theorem gX6_holds_X6_laysAside : GoodIn wsX6_holds (wsV RX6 100 RX6 yX6_laysAside wsX6_laysAside) := goodIn_app (goodIn_of _ (by decide +kernel)) ggX6_holds_X6_laysAside
set_option maxRecDepth 20000 in
theorem ggX6_holds_X6_putCharge : GoodIn wsX6_holds wsX6_putCharge := goodIn_r _ [11, 12, 7, 13, 14, 15, 4, 16, 32, 33, 34, 35, 36, 37, 38, 39, 40, 41, 42, 43, 44, 45, 46] (by decide +kernel) (by decide +kernel)
set_option maxRecDepth 20000 in
theorem gX6_holds_X6_putCharge : GoodIn wsX6_holds (wsV RX6 110 RX6 yX6_putCharge wsX6_putCharge) := goodIn_app (goodIn_of _ (by decide +kernel)) ggX6_holds_X6_putCharge
set_option maxRecDepth 20000 in
theorem ggX6_holds_X6_finished : GoodIn wsX6_holds wsX6_finished := goodIn_r _ [20, 13, 21, 22, 23, 4, 24, 25, 26, 27, 28, 29, 30, 31, 6, 32, 33, 34, 35, 36, 37, 38, 39, 40, 41, 42, 43, 44, 45, 46] (by decide +kernel) (by decide +kernel)
set_option maxRecDepth 20000 in
theorem gX6_holds_X6_finished : GoodIn wsX6_holds (wsV RX6 107 RX6 yX6_finished wsX6_finished) := goodIn_app (goodIn_of _ (by decide +kernel)) ggX6_holds_X6_finished
theorem dX6_holds_0 : decode cX6_holds 0 = .ok (.aload_n 0, 1) := by decide +kernel
theorem dX6_holds_1 : decode cX6_holds 1 = .ok (.invokevirtual 100, 3) := by decide +kernel
theorem dX6_holds_4 : decode cX6_holds 4 = .ok (.aload_n 0, 1) := by decide +kernel
theorem dX6_holds_5 : decode cX6_holds 5 = .ok (.aload_n 0, 1) := by decide +kernel
theorem dX6_holds_6 : decode cX6_holds 6 = .ok (.iload_n 1, 1) := by decide +kernel
theorem dX6_holds_7 : decode cX6_holds 7 = .ok (.iload_n 2, 1) := by decide +kernel
theorem dX6_holds_8 : decode cX6_holds 8 = .ok (.invokevirtual 110, 3) := by decide +kernel
theorem dX6_holds_11 : decode cX6_holds 11 = .ok (.invokevirtual 107, 3) := by decide +kernel
theorem dX6_holds_14 : decode cX6_holds 14 = .ok (.ireturn, 1) := by decide +kernel
set_option maxRecDepth 20000 in
theorem ggX6_offset_X6_laysAside : GoodIn wsX6_offset wsX6_laysAside := goodIn_r _ [5, 6, 7, 31, 32, 33, 34, 35, 36, 37, 38, 39, 40, 41, 42, 43, 44, 45] (by decide +kernel) (by decide +kernel)
set_option maxRecDepth 20000 in
theorem gX6_offset_X6_laysAside : GoodIn wsX6_offset (wsV RX6 100 RX6 yX6_laysAside wsX6_laysAside) := goodIn_app (goodIn_of _ (by decide +kernel)) ggX6_offset_X6_laysAside
set_option maxRecDepth 20000 in
theorem ggX6_offset_X6_putSetting : GoodIn wsX6_offset wsX6_putSetting := goodIn_r _ [11, 12, 7, 13, 14, 4, 15, 31, 32, 33, 34, 35, 36, 37, 38, 39, 40, 41, 42, 43, 44, 45] (by decide +kernel) (by decide +kernel)
set_option maxRecDepth 20000 in
theorem gX6_offset_X6_putSetting : GoodIn wsX6_offset (wsV RX6 113 RX6 yX6_putSetting wsX6_putSetting) := goodIn_app (goodIn_of _ (by decide +kernel)) ggX6_offset_X6_putSetting
set_option maxRecDepth 20000 in
theorem ggX6_offset_X6_finished : GoodIn wsX6_offset wsX6_finished := goodIn_r _ [19, 12, 20, 21, 22, 4, 23, 24, 25, 26, 27, 28, 29, 30, 6, 31, 32, 33, 34, 35, 36, 37, 38, 39, 40, 41, 42, 43, 44, 45] (by decide +kernel) (by decide +kernel)
set_option maxRecDepth 20000 in
theorem gX6_offset_X6_finished : GoodIn wsX6_offset (wsV RX6 107 RX6 yX6_finished wsX6_finished) := goodIn_app (goodIn_of _ (by decide +kernel)) ggX6_offset_X6_finished
theorem dX6_offset_0 : decode cX6_offset 0 = .ok (.aload_n 0, 1) := by decide +kernel
theorem dX6_offset_1 : decode cX6_offset 1 = .ok (.invokevirtual 100, 3) := by decide +kernel
theorem dX6_offset_4 : decode cX6_offset 4 = .ok (.aload_n 0, 1) := by decide +kernel
theorem dX6_offset_5 : decode cX6_offset 5 = .ok (.aload_n 0, 1) := by decide +kernel
theorem dX6_offset_6 : decode cX6_offset 6 = .ok (.bipush 11, 2) := by decide +kernel
theorem dX6_offset_8 : decode cX6_offset 8 = .ok (.iload_n 1, 1) := by decide +kernel
theorem dX6_offset_9 : decode cX6_offset 9 = .ok (.bipush 9, 2) := by decide +kernel
theorem dX6_offset_11 : decode cX6_offset 11 = .ok (.invokevirtual 113, 3) := by decide +kernel
theorem dX6_offset_14 : decode cX6_offset 14 = .ok (.invokevirtual 107, 3) := by decide +kernel
theorem dX6_offset_17 : decode cX6_offset 17 = .ok (.ireturn, 1) := by decide +kernel
set_option maxRecDepth 20000 in
theorem ggX6_clings_X6_laysAside : GoodIn wsX6_clings wsX6_laysAside := goodIn_r _ [5, 6, 7, 31, 32, 33, 34, 35, 36, 37, 38, 39, 40, 41, 42, 43, 44, 45] (by decide +kernel) (by decide +kernel)
set_option maxRecDepth 20000 in
theorem gX6_clings_X6_laysAside : GoodIn wsX6_clings (wsV RX6 100 RX6 yX6_laysAside wsX6_laysAside) := goodIn_app (goodIn_of _ (by decide +kernel)) ggX6_clings_X6_laysAside
set_option maxRecDepth 20000 in
theorem ggX6_clings_X6_putSetting : GoodIn wsX6_clings wsX6_putSetting := goodIn_r _ [11, 12, 7, 13, 14, 4, 15, 31, 32, 33, 34, 35, 36, 37, 38, 39, 40, 41, 42, 43, 44, 45] (by decide +kernel) (by decide +kernel)
set_option maxRecDepth 20000 in
theorem gX6_clings_X6_putSetting : GoodIn wsX6_clings (wsV RX6 113 RX6 yX6_putSetting wsX6_putSetting) := goodIn_app (goodIn_of _ (by decide +kernel)) ggX6_clings_X6_putSetting
set_option maxRecDepth 20000 in
theorem ggX6_clings_X6_finished : GoodIn wsX6_clings wsX6_finished := goodIn_r _ [19, 12, 20, 21, 22, 4, 23, 24, 25, 26, 27, 28, 29, 30, 6, 31, 32, 33, 34, 35, 36, 37, 38, 39, 40, 41, 42, 43, 44, 45] (by decide +kernel) (by decide +kernel)
set_option maxRecDepth 20000 in
theorem gX6_clings_X6_finished : GoodIn wsX6_clings (wsV RX6 107 RX6 yX6_finished wsX6_finished) := goodIn_app (goodIn_of _ (by decide +kernel)) ggX6_clings_X6_finished
theorem dX6_clings_0 : decode cX6_clings 0 = .ok (.aload_n 0, 1) := by decide +kernel
theorem dX6_clings_1 : decode cX6_clings 1 = .ok (.invokevirtual 100, 3) := by decide +kernel
theorem dX6_clings_4 : decode cX6_clings 4 = .ok (.aload_n 0, 1) := by decide +kernel
theorem dX6_clings_5 : decode cX6_clings 5 = .ok (.aload_n 0, 1) := by decide +kernel
theorem dX6_clings_6 : decode cX6_clings 6 = .ok (.bipush 12, 2) := by decide +kernel
theorem dX6_clings_8 : decode cX6_clings 8 = .ok (.iload_n 1, 1) := by decide +kernel
theorem dX6_clings_9 : decode cX6_clings 9 = .ok (.sipush 500, 3) := by decide +kernel
theorem dX6_clings_12 : decode cX6_clings 12 = .ok (.invokevirtual 113, 3) := by decide +kernel
theorem dX6_clings_15 : decode cX6_clings 15 = .ok (.invokevirtual 107, 3) := by decide +kernel
theorem dX6_clings_18 : decode cX6_clings 18 = .ok (.ireturn, 1) := by decide +kernel
set_option maxRecDepth 20000 in
theorem ggX6_curve_X6_laysAside : GoodIn wsX6_curve wsX6_laysAside := goodIn_r _ [5, 6, 7, 34, 35, 36, 37, 38, 39, 40, 41, 42, 43, 44, 45, 46, 47, 48] (by decide +kernel) (by decide +kernel)
set_option maxRecDepth 20000 in
theorem gX6_curve_X6_laysAside : GoodIn wsX6_curve (wsV RX6 100 RX6 yX6_laysAside wsX6_laysAside) := goodIn_app (goodIn_of _ (by decide +kernel)) ggX6_curve_X6_laysAside
set_option maxRecDepth 20000 in
theorem ggX6_curve_X6_putPoint : GoodIn wsX6_curve wsX6_putPoint := goodIn_r _ [11, 12, 13, 14, 7, 15, 16, 17, 4, 18, 34, 35, 36, 37, 38, 39, 40, 41, 42, 43, 44, 45, 46, 47, 48] (by decide +kernel) (by decide +kernel)
set_option maxRecDepth 20000 in
theorem gX6_curve_X6_putPoint : GoodIn wsX6_curve (wsV RX6 117 RX6 yX6_putPoint wsX6_putPoint) := goodIn_app (goodIn_of _ (by decide +kernel)) ggX6_curve_X6_putPoint
set_option maxRecDepth 20000 in
theorem ggX6_curve_X6_finished : GoodIn wsX6_curve wsX6_finished := goodIn_r _ [22, 14, 23, 24, 25, 4, 26, 27, 28, 29, 30, 31, 32, 33, 6, 34, 35, 36, 37, 38, 39, 40, 41, 42, 43, 44, 45, 46, 47, 48] (by decide +kernel) (by decide +kernel)
set_option maxRecDepth 20000 in
theorem gX6_curve_X6_finished : GoodIn wsX6_curve (wsV RX6 107 RX6 yX6_finished wsX6_finished) := goodIn_app (goodIn_of _ (by decide +kernel)) ggX6_curve_X6_finished
theorem dX6_curve_0 : decode cX6_curve 0 = .ok (.aload_n 0, 1) := by decide +kernel
end
section
theorem dX6_curve_1 : decode cX6_curve 1 = .ok (.invokevirtual 100, 3) := by decide +kernel
theorem dX6_curve_4 : decode cX6_curve 4 = .ok (.aload_n 0, 1) := by decide +kernel
theorem dX6_curve_5 : decode cX6_curve 5 = .ok (.aload_n 0, 1) := by decide +kernel
theorem dX6_curve_6 : decode cX6_curve 6 = .ok (.iload_n 1, 1) := by decide +kernel
theorem dX6_curve_7 : decode cX6_curve 7 = .ok (.iload_n 2, 1) := by decide +kernel
theorem dX6_curve_8 : decode cX6_curve 8 = .ok (.invokevirtual 117, 3) := by decide +kernel
theorem dX6_curve_11 : decode cX6_curve 11 = .ok (.invokevirtual 107, 3) := by decide +kernel
theorem dX6_curve_14 : decode cX6_curve 14 = .ok (.ireturn, 1) := by decide +kernel
set_option maxRecDepth 20000 in
theorem ggX6_passes_X6_laysAside : GoodIn wsX6_passes wsX6_laysAside := goodIn_r _ [5, 6, 7, 44, 45, 46, 47, 48, 49, 50, 51, 52, 53, 54, 55, 56, 57, 58] (by decide +kernel) (by decide +kernel)
set_option maxRecDepth 20000 in
theorem gX6_passes_X6_laysAside : GoodIn wsX6_passes (wsV RX6 100 RX6 yX6_laysAside wsX6_laysAside) := goodIn_app (goodIn_of _ (by decide +kernel)) ggX6_passes_X6_laysAside
set_option maxRecDepth 20000 in
theorem ggX6_passes_X6_putPassing : GoodIn wsX6_passes wsX6_putPassing := goodIn_r _ [11, 12, 13, 14, 15, 7, 16, 17, 18, 4, 19, 20, 21, 22, 23, 24, 25, 26, 27, 28, 44, 45, 46, 47, 48, 49, 50, 51, 52, 53, 54, 55, 56, 57, 58] (by decide +kernel) (by decide +kernel)
set_option maxRecDepth 20000 in
theorem gX6_passes_X6_putPassing : GoodIn wsX6_passes (wsV RX6 120 RX6 yX6_putPassing wsX6_putPassing) := goodIn_app (goodIn_of _ (by decide +kernel)) ggX6_passes_X6_putPassing
set_option maxRecDepth 20000 in
theorem ggX6_passes_X6_finished : GoodIn wsX6_passes wsX6_finished := goodIn_r _ [32, 15, 33, 34, 35, 4, 36, 37, 38, 39, 40, 41, 42, 43, 6, 44, 45, 46, 47, 48, 49, 50, 51, 52, 53, 54, 55, 56, 57, 58] (by decide +kernel) (by decide +kernel)
set_option maxRecDepth 20000 in
theorem gX6_passes_X6_finished : GoodIn wsX6_passes (wsV RX6 107 RX6 yX6_finished wsX6_finished) := goodIn_app (goodIn_of _ (by decide +kernel)) ggX6_passes_X6_finished
theorem dX6_passes_0 : decode cX6_passes 0 = .ok (.aload_n 0, 1) := by decide +kernel
theorem dX6_passes_1 : decode cX6_passes 1 = .ok (.invokevirtual 100, 3) := by decide +kernel
theorem dX6_passes_4 : decode cX6_passes 4 = .ok (.aload_n 0, 1) := by decide +kernel
theorem dX6_passes_5 : decode cX6_passes 5 = .ok (.aload_n 0, 1) := by decide +kernel
theorem dX6_passes_6 : decode cX6_passes 6 = .ok (.iload_n 1, 1) := by decide +kernel
theorem dX6_passes_7 : decode cX6_passes 7 = .ok (.iload_n 2, 1) := by decide +kernel
theorem dX6_passes_8 : decode cX6_passes 8 = .ok (.invokevirtual 120, 3) := by decide +kernel
theorem dX6_passes_11 : decode cX6_passes 11 = .ok (.invokevirtual 107, 3) := by decide +kernel
theorem dX6_passes_14 : decode cX6_passes 14 = .ok (.ireturn, 1) := by decide +kernel
set_option maxRecDepth 20000 in
theorem ggX6_rests_X6_laysAside : GoodIn wsX6_rests wsX6_laysAside := goodIn_r _ [5, 6, 7, 51, 52, 53, 54, 55, 56, 57, 58, 59, 60, 61, 62, 63, 64, 65] (by decide +kernel) (by decide +kernel)
set_option maxRecDepth 20000 in
theorem gX6_rests_X6_laysAside : GoodIn wsX6_rests (wsV RX6 100 RX6 yX6_laysAside wsX6_laysAside) := goodIn_app (goodIn_of _ (by decide +kernel)) ggX6_rests_X6_laysAside
set_option maxRecDepth 20000 in
theorem ggX6_rests_X6_putRest : GoodIn wsX6_rests wsX6_putRest := goodIn_r _ [11, 12, 13, 14, 15, 16, 17, 7, 18, 19, 20, 21, 4, 22, 23, 24, 25, 26, 27, 28, 29, 30, 31, 32, 33, 34, 35, 51, 52, 53, 54, 55, 56, 57, 58, 59, 60, 61, 62, 63, 64, 65] (by decide +kernel) (by decide +kernel)
set_option maxRecDepth 20000 in
theorem gX6_rests_X6_putRest : GoodIn wsX6_rests (wsV RX6 123 RX6 yX6_putRest wsX6_putRest) := goodIn_app (goodIn_of _ (by decide +kernel)) ggX6_rests_X6_putRest
set_option maxRecDepth 20000 in
theorem ggX6_rests_X6_finished : GoodIn wsX6_rests wsX6_finished := goodIn_r _ [39, 13, 40, 41, 42, 4, 43, 44, 45, 46, 47, 48, 49, 50, 6, 51, 52, 53, 54, 55, 56, 57, 58, 59, 60, 61, 62, 63, 64, 65] (by decide +kernel) (by decide +kernel)
set_option maxRecDepth 20000 in
theorem gX6_rests_X6_finished : GoodIn wsX6_rests (wsV RX6 107 RX6 yX6_finished wsX6_finished) := goodIn_app (goodIn_of _ (by decide +kernel)) ggX6_rests_X6_finished
theorem dX6_rests_0 : decode cX6_rests 0 = .ok (.aload_n 0, 1) := by decide +kernel
theorem dX6_rests_1 : decode cX6_rests 1 = .ok (.invokevirtual 100, 3) := by decide +kernel
theorem dX6_rests_4 : decode cX6_rests 4 = .ok (.aload_n 0, 1) := by decide +kernel
theorem dX6_rests_5 : decode cX6_rests 5 = .ok (.aload_n 0, 1) := by decide +kernel
theorem dX6_rests_6 : decode cX6_rests 6 = .ok (.iload_n 1, 1) := by decide +kernel
theorem dX6_rests_7 : decode cX6_rests 7 = .ok (.invokevirtual 123, 3) := by decide +kernel
theorem dX6_rests_10 : decode cX6_rests 10 = .ok (.invokevirtual 107, 3) := by decide +kernel
theorem dX6_rests_13 : decode cX6_rests 13 = .ok (.ireturn, 1) := by decide +kernel
set_option maxRecDepth 20000 in
theorem ggX6_loads_X6_laysAside : GoodIn wsX6_loads wsX6_laysAside := goodIn_r _ [5, 6, 7, 48, 49, 50, 51, 52, 53, 54, 55, 56, 57, 58, 59, 60, 61, 62] (by decide +kernel) (by decide +kernel)
set_option maxRecDepth 20000 in
theorem gX6_loads_X6_laysAside : GoodIn wsX6_loads (wsV RX6 100 RX6 yX6_laysAside wsX6_laysAside) := goodIn_app (goodIn_of _ (by decide +kernel)) ggX6_loads_X6_laysAside
set_option maxRecDepth 20000 in
theorem ggX6_loads_X6_putLoad : GoodIn wsX6_loads wsX6_putLoad := goodIn_r _ [11, 12, 13, 14, 15, 7, 16, 17, 4, 18, 19, 20, 21, 22, 23, 24, 25, 26, 27, 28, 29, 30, 31, 32, 48, 49, 50, 51, 52, 53, 54, 55, 56, 57, 58, 59, 60, 61, 62] (by decide +kernel) (by decide +kernel)
set_option maxRecDepth 20000 in
theorem gX6_loads_X6_putLoad : GoodIn wsX6_loads (wsV RX6 126 RX6 yX6_putLoad wsX6_putLoad) := goodIn_app (goodIn_of _ (by decide +kernel)) ggX6_loads_X6_putLoad
set_option maxRecDepth 20000 in
theorem ggX6_loads_X6_finished : GoodIn wsX6_loads wsX6_finished := goodIn_r _ [36, 15, 37, 38, 39, 4, 40, 41, 42, 43, 44, 45, 46, 47, 6, 48, 49, 50, 51, 52, 53, 54, 55, 56, 57, 58, 59, 60, 61, 62] (by decide +kernel) (by decide +kernel)
set_option maxRecDepth 20000 in
theorem gX6_loads_X6_finished : GoodIn wsX6_loads (wsV RX6 107 RX6 yX6_finished wsX6_finished) := goodIn_app (goodIn_of _ (by decide +kernel)) ggX6_loads_X6_finished
theorem dX6_loads_0 : decode cX6_loads 0 = .ok (.aload_n 0, 1) := by decide +kernel
theorem dX6_loads_1 : decode cX6_loads 1 = .ok (.invokevirtual 100, 3) := by decide +kernel
theorem dX6_loads_4 : decode cX6_loads 4 = .ok (.aload_n 0, 1) := by decide +kernel
theorem dX6_loads_5 : decode cX6_loads 5 = .ok (.aload_n 0, 1) := by decide +kernel
theorem dX6_loads_6 : decode cX6_loads 6 = .ok (.iload_n 1, 1) := by decide +kernel
theorem dX6_loads_7 : decode cX6_loads 7 = .ok (.iload_n 2, 1) := by decide +kernel
theorem dX6_loads_8 : decode cX6_loads 8 = .ok (.invokevirtual 126, 3) := by decide +kernel
theorem dX6_loads_11 : decode cX6_loads 11 = .ok (.invokevirtual 107, 3) := by decide +kernel
theorem dX6_loads_14 : decode cX6_loads 14 = .ok (.ireturn, 1) := by decide +kernel
set_option maxRecDepth 20000 in
theorem ggX6_toldOf_X6_middle : GoodIn wsX6_toldOf wsX6_middle := goodIn_r _ [6, 1, 7, 8, 9, 10, 11, 12, 13, 14, 15, 16, 17, 18, 19, 20, 21, 22] (by decide +kernel) (by decide +kernel)
set_option maxRecDepth 20000 in
theorem gX6_toldOf_X6_middle : GoodIn wsX6_toldOf (wsV RX6 75 RX6 yX6_middle wsX6_middle) := goodIn_app (goodIn_of _ (by decide +kernel)) ggX6_toldOf_X6_middle
theorem dX6_toldOf_0 : decode cX6_toldOf 0 = .ok (.iload_n 1, 1) := by decide +kernel
theorem dX6_toldOf_1 : decode cX6_toldOf 1 = .ok (.iconst 4, 1) := by decide +kernel
theorem dX6_toldOf_2 : decode cX6_toldOf 2 = .ok (.if_icmp .ge 13, 3) := by decide +kernel
theorem dX6_toldOf_5 : decode cX6_toldOf 5 = .ok (.aload_n 0, 1) := by decide +kernel
theorem dX6_toldOf_6 : decode cX6_toldOf 6 = .ok (.getfield 7, 3) := by decide +kernel
theorem dX6_toldOf_9 : decode cX6_toldOf 9 = .ok (.iload_n 1, 1) := by decide +kernel
theorem dX6_toldOf_10 : decode cX6_toldOf 10 = .ok (.laload, 1) := by decide +kernel
theorem dX6_toldOf_11 : decode cX6_toldOf 11 = .ok (.l2i, 1) := by decide +kernel
theorem dX6_toldOf_12 : decode cX6_toldOf 12 = .ok (.goto 24, 3) := by decide +kernel
theorem dX6_toldOf_15 : decode cX6_toldOf 15 = .ok (.iload_n 1, 1) := by decide +kernel
theorem dX6_toldOf_16 : decode cX6_toldOf 16 = .ok (.iconst 4, 1) := by decide +kernel
theorem dX6_toldOf_17 : decode cX6_toldOf 17 = .ok (.if_icmp .ne 10, 3) := by decide +kernel
theorem dX6_toldOf_20 : decode cX6_toldOf 20 = .ok (.aload_n 0, 1) := by decide +kernel
theorem dX6_toldOf_21 : decode cX6_toldOf 21 = .ok (.invokevirtual 75, 3) := by decide +kernel
theorem dX6_toldOf_24 : decode cX6_toldOf 24 = .ok (.goto 12, 3) := by decide +kernel
theorem dX6_toldOf_27 : decode cX6_toldOf 27 = .ok (.aload_n 0, 1) := by decide +kernel
theorem dX6_toldOf_28 : decode cX6_toldOf 28 = .ok (.getfield 7, 3) := by decide +kernel
theorem dX6_toldOf_31 : decode cX6_toldOf 31 = .ok (.iload_n 1, 1) := by decide +kernel
theorem dX6_toldOf_32 : decode cX6_toldOf 32 = .ok (.iconst 1, 1) := by decide +kernel
theorem dX6_toldOf_33 : decode cX6_toldOf 33 = .ok (.isub, 1) := by decide +kernel
theorem dX6_toldOf_34 : decode cX6_toldOf 34 = .ok (.laload, 1) := by decide +kernel
theorem dX6_toldOf_35 : decode cX6_toldOf 35 = .ok (.l2i, 1) := by decide +kernel
theorem dX6_toldOf_36 : decode cX6_toldOf 36 = .ok (.ireturn, 1) := by decide +kernel
set_option maxRecDepth 20000 in
theorem ggX6_told_X6_in : GoodIn wsX6_told wsX6_in := goodIn_r _ [6] (by decide +kernel) (by decide +kernel)
set_option maxRecDepth 20000 in
theorem gX6_told_X6_in : GoodIn wsX6_told (va_wsS RX6 69 yX6_in wsX6_in) := goodIn_app (goodIn_of _ (by decide +kernel)) ggX6_told_X6_in
set_option maxRecDepth 20000 in
theorem ggX6_told_X6_toldOf : GoodIn wsX6_told wsX6_toldOf := goodIn_r _ [10, 11, 12, 13, 14, 5, 15, 16, 22, 23, 24, 25, 26, 27, 28, 29, 30, 31, 32, 33, 34, 35, 36] (by decide +kernel) (by decide +kernel)
set_option maxRecDepth 20000 in
theorem gX6_told_X6_toldOf : GoodIn wsX6_told (wsV RX6 131 RX6 yX6_toldOf wsX6_toldOf) := goodIn_app (goodIn_of _ (by decide +kernel)) ggX6_told_X6_toldOf
set_option maxRecDepth 20000 in
theorem ggX6_told_X6_refuses : GoodIn wsX6_told wsX6_refuses := goodIn_r _ [20, 21, 2, 22, 23, 24, 25, 26, 27, 28, 29, 30, 31, 32, 33, 34, 35, 36] (by decide +kernel) (by decide +kernel)
set_option maxRecDepth 20000 in
theorem gX6_told_X6_refuses : GoodIn wsX6_told (wsV RX6 50 RX6 yX6_refuses wsX6_refuses) := goodIn_app (goodIn_of _ (by decide +kernel)) ggX6_told_X6_refuses
theorem dX6_told_0 : decode cX6_told 0 = .ok (.iload_n 1, 1) := by decide +kernel
theorem dX6_told_1 : decode cX6_told 1 = .ok (.i2l, 1) := by decide +kernel
theorem dX6_told_2 : decode cX6_told 2 = .ok (.lconst 0, 1) := by decide +kernel
theorem dX6_told_3 : decode cX6_told 3 = .ok (.ldc2_w 129, 3) := by decide +kernel
theorem dX6_told_6 : decode cX6_told 6 = .ok (.invokestatic 69, 3) := by decide +kernel
theorem dX6_told_9 : decode cX6_told 9 = .ok (.ifCond .eq 11, 3) := by decide +kernel
theorem dX6_told_12 : decode cX6_told 12 = .ok (.aload_n 0, 1) := by decide +kernel
theorem dX6_told_13 : decode cX6_told 13 = .ok (.iload_n 1, 1) := by decide +kernel
theorem dX6_told_14 : decode cX6_told 14 = .ok (.invokevirtual 131, 3) := by decide +kernel
theorem dX6_told_17 : decode cX6_told 17 = .ok (.goto 9, 3) := by decide +kernel
theorem dX6_told_20 : decode cX6_told 20 = .ok (.aload_n 0, 1) := by decide +kernel
theorem dX6_told_21 : decode cX6_told 21 = .ok (.ldc 44, 2) := by decide +kernel
theorem dX6_told_23 : decode cX6_told 23 = .ok (.invokevirtual 50, 3) := by decide +kernel
theorem dX6_told_26 : decode cX6_told 26 = .ok (.ireturn, 1) := by decide +kernel
set_option maxRecDepth 20000 in
theorem ggX6_volts_X6_in : GoodIn wsX6_volts wsX6_in := goodIn_r _ [6] (by decide +kernel) (by decide +kernel)
set_option maxRecDepth 20000 in
theorem gX6_volts_X6_in : GoodIn wsX6_volts (va_wsS RX6 69 yX6_in wsX6_in) := goodIn_app (goodIn_of _ (by decide +kernel)) ggX6_volts_X6_in
set_option maxRecDepth 20000 in
theorem ggX6_volts_X6_voltsAt : GoodIn wsX6_volts wsX6_voltsAt := goodIn_r _ [10, 11, 12, 18, 19, 20, 21, 22, 23, 24, 25, 26, 27, 28, 29, 30, 31, 32] (by decide +kernel) (by decide +kernel)
set_option maxRecDepth 20000 in
theorem gX6_volts_X6_voltsAt : GoodIn wsX6_volts (wsV RX6 64 RX6 yX6_voltsAt wsX6_voltsAt) := goodIn_app (goodIn_of _ (by decide +kernel)) ggX6_volts_X6_voltsAt
set_option maxRecDepth 20000 in
theorem ggX6_volts_X6_refuses : GoodIn wsX6_volts wsX6_refuses := goodIn_r _ [16, 17, 2, 18, 19, 20, 21, 22, 23, 24, 25, 26, 27, 28, 29, 30, 31, 32] (by decide +kernel) (by decide +kernel)
set_option maxRecDepth 20000 in
theorem gX6_volts_X6_refuses : GoodIn wsX6_volts (wsV RX6 50 RX6 yX6_refuses wsX6_refuses) := goodIn_app (goodIn_of _ (by decide +kernel)) ggX6_volts_X6_refuses
theorem dX6_volts_0 : decode cX6_volts 0 = .ok (.iload_n 1, 1) := by decide +kernel
theorem dX6_volts_1 : decode cX6_volts 1 = .ok (.i2l, 1) := by decide +kernel
theorem dX6_volts_2 : decode cX6_volts 2 = .ok (.lconst 0, 1) := by decide +kernel
theorem dX6_volts_3 : decode cX6_volts 3 = .ok (.ldc2_w 32, 3) := by decide +kernel
theorem dX6_volts_6 : decode cX6_volts 6 = .ok (.invokestatic 69, 3) := by decide +kernel
theorem dX6_volts_9 : decode cX6_volts 9 = .ok (.ifCond .eq 11, 3) := by decide +kernel
theorem dX6_volts_12 : decode cX6_volts 12 = .ok (.aload_n 0, 1) := by decide +kernel
theorem dX6_volts_13 : decode cX6_volts 13 = .ok (.iload_n 1, 1) := by decide +kernel
theorem dX6_volts_14 : decode cX6_volts 14 = .ok (.invokevirtual 64, 3) := by decide +kernel
theorem dX6_volts_17 : decode cX6_volts 17 = .ok (.goto 9, 3) := by decide +kernel
theorem dX6_volts_20 : decode cX6_volts 20 = .ok (.aload_n 0, 1) := by decide +kernel
theorem dX6_volts_21 : decode cX6_volts 21 = .ok (.ldc 44, 2) := by decide +kernel
theorem dX6_volts_23 : decode cX6_volts 23 = .ok (.invokevirtual 50, 3) := by decide +kernel
theorem dX6_volts_26 : decode cX6_volts 26 = .ok (.ireturn, 1) := by decide +kernel
set_option maxRecDepth 20000 in
theorem ggX6_inverse_X6_in : GoodIn wsX6_inverse wsX6_in := goodIn_r _ [8] (by decide +kernel) (by decide +kernel)
set_option maxRecDepth 20000 in
theorem gX6_inverse_X6_in : GoodIn wsX6_inverse (va_wsS RX6 69 yX6_in wsX6_in) := goodIn_app (goodIn_of _ (by decide +kernel)) ggX6_inverse_X6_in
set_option maxRecDepth 20000 in
theorem ggX6_inverse_X6_refuses : GoodIn wsX6_inverse wsX6_refuses := goodIn_r _ [12, 13, 2, 25, 26, 27, 28, 29, 30, 31, 32, 33, 34, 35, 36, 37, 38, 39] (by decide +kernel) (by decide +kernel)
set_option maxRecDepth 20000 in
theorem gX6_inverse_X6_refuses : GoodIn wsX6_inverse (wsV RX6 50 RX6 yX6_refuses wsX6_refuses) := goodIn_app (goodIn_of _ (by decide +kernel)) ggX6_inverse_X6_refuses
set_option maxRecDepth 20000 in
theorem ggX6_inverse_X6_turns : GoodIn wsX6_inverse wsX6_turns := goodIn_r _ [17, 18, 19, 3, 4, 20, 21, 22, 7, 23, 24, 25, 26, 27, 28, 29, 30, 31, 32, 33, 34, 35, 36, 37, 38, 39] (by decide +kernel) (by decide +kernel)
set_option maxRecDepth 20000 in
theorem gX6_inverse_X6_turns : GoodIn wsX6_inverse (wsV RX6 89 RX6 yX6_turns wsX6_turns) := goodIn_app (goodIn_of _ (by decide +kernel)) ggX6_inverse_X6_turns
theorem dX6_inverse_0 : decode cX6_inverse 0 = .ok (.iload_n 1, 1) := by decide +kernel
theorem dX6_inverse_1 : decode cX6_inverse 1 = .ok (.i2l, 1) := by decide +kernel
theorem dX6_inverse_2 : decode cX6_inverse 2 = .ok (.lconst 0, 1) := by decide +kernel
theorem dX6_inverse_3 : decode cX6_inverse 3 = .ok (.ldc2_w 73, 3) := by decide +kernel
theorem dX6_inverse_6 : decode cX6_inverse 6 = .ok (.invokestatic 69, 3) := by decide +kernel
theorem dX6_inverse_9 : decode cX6_inverse 9 = .ok (.ifCond .eq 13, 3) := by decide +kernel
theorem dX6_inverse_12 : decode cX6_inverse 12 = .ok (.iload_n 2, 1) := by decide +kernel
theorem dX6_inverse_13 : decode cX6_inverse 13 = .ok (.i2l, 1) := by decide +kernel
theorem dX6_inverse_14 : decode cX6_inverse 14 = .ok (.lconst 0, 1) := by decide +kernel
theorem dX6_inverse_15 : decode cX6_inverse 15 = .ok (.lconst 1, 1) := by decide +kernel
theorem dX6_inverse_16 : decode cX6_inverse 16 = .ok (.invokestatic 69, 3) := by decide +kernel
theorem dX6_inverse_19 : decode cX6_inverse 19 = .ok (.ifCond .ne 10, 3) := by decide +kernel
theorem dX6_inverse_22 : decode cX6_inverse 22 = .ok (.aload_n 0, 1) := by decide +kernel
theorem dX6_inverse_23 : decode cX6_inverse 23 = .ok (.ldc 44, 2) := by decide +kernel
theorem dX6_inverse_25 : decode cX6_inverse 25 = .ok (.invokevirtual 50, 3) := by decide +kernel
theorem dX6_inverse_28 : decode cX6_inverse 28 = .ok (.ireturn, 1) := by decide +kernel
theorem dX6_inverse_29 : decode cX6_inverse 29 = .ok (.aload_n 0, 1) := by decide +kernel
theorem dX6_inverse_30 : decode cX6_inverse 30 = .ok (.iload_n 1, 1) := by decide +kernel
theorem dX6_inverse_31 : decode cX6_inverse 31 = .ok (.invokevirtual 89, 3) := by decide +kernel
theorem dX6_inverse_34 : decode cX6_inverse 34 = .ok (.iload_n 2, 1) := by decide +kernel
theorem dX6_inverse_35 : decode cX6_inverse 35 = .ok (.ifCond .ne 10, 3) := by decide +kernel
theorem dX6_inverse_38 : decode cX6_inverse 38 = .ok (.aload_n 0, 1) := by decide +kernel
theorem dX6_inverse_39 : decode cX6_inverse 39 = .ok (.getfield 58, 3) := by decide +kernel
theorem dX6_inverse_42 : decode cX6_inverse 42 = .ok (.goto 7, 3) := by decide +kernel
theorem dX6_inverse_45 : decode cX6_inverse 45 = .ok (.aload_n 0, 1) := by decide +kernel
theorem dX6_inverse_46 : decode cX6_inverse 46 = .ok (.getfield 61, 3) := by decide +kernel
theorem dX6_inverse_49 : decode cX6_inverse 49 = .ok (.ireturn, 1) := by decide +kernel
theorem dX6_bandOf_0 : decode cX6_bandOf 0 = .ok (.iload_n 2, 1) := by decide +kernel
theorem dX6_bandOf_1 : decode cX6_bandOf 1 = .ok (.iconst 1, 1) := by decide +kernel
theorem dX6_bandOf_2 : decode cX6_bandOf 2 = .ok (.if_icmp .ne 14, 3) := by decide +kernel
theorem dX6_bandOf_5 : decode cX6_bandOf 5 = .ok (.aload_n 0, 1) := by decide +kernel
theorem dX6_bandOf_6 : decode cX6_bandOf 6 = .ok (.getfield 7, 3) := by decide +kernel
theorem dX6_bandOf_9 : decode cX6_bandOf 9 = .ok (.bipush 24, 2) := by decide +kernel
theorem dX6_bandOf_11 : decode cX6_bandOf 11 = .ok (.iload_n 1, 1) := by decide +kernel
theorem dX6_bandOf_12 : decode cX6_bandOf 12 = .ok (.iadd, 1) := by decide +kernel
theorem dX6_bandOf_13 : decode cX6_bandOf 13 = .ok (.laload, 1) := by decide +kernel
theorem dX6_bandOf_14 : decode cX6_bandOf 14 = .ok (.l2i, 1) := by decide +kernel
theorem dX6_bandOf_15 : decode cX6_bandOf 15 = .ok (.ireturn, 1) := by decide +kernel
theorem dX6_bandOf_16 : decode cX6_bandOf 16 = .ok (.aload_n 0, 1) := by decide +kernel
theorem dX6_bandOf_17 : decode cX6_bandOf 17 = .ok (.getfield 7, 3) := by decide +kernel
theorem dX6_bandOf_20 : decode cX6_bandOf 20 = .ok (.bipush 24, 2) := by decide +kernel
theorem dX6_bandOf_22 : decode cX6_bandOf 22 = .ok (.iload_n 1, 1) := by decide +kernel
theorem dX6_bandOf_23 : decode cX6_bandOf 23 = .ok (.iadd, 1) := by decide +kernel
theorem dX6_bandOf_24 : decode cX6_bandOf 24 = .ok (.laload, 1) := by decide +kernel
theorem dX6_bandOf_25 : decode cX6_bandOf 25 = .ok (.lconst 0, 1) := by decide +kernel
theorem dX6_bandOf_26 : decode cX6_bandOf 26 = .ok (.lcmp, 1) := by decide +kernel
theorem dX6_bandOf_27 : decode cX6_bandOf 27 = .ok (.ifCond .ne 8, 3) := by decide +kernel
theorem dX6_bandOf_30 : decode cX6_bandOf 30 = .ok (.ldc 57, 2) := by decide +kernel
theorem dX6_bandOf_32 : decode cX6_bandOf 32 = .ok (.goto 23, 3) := by decide +kernel
theorem dX6_bandOf_35 : decode cX6_bandOf 35 = .ok (.aload_n 0, 1) := by decide +kernel
theorem dX6_bandOf_36 : decode cX6_bandOf 36 = .ok (.getfield 7, 3) := by decide +kernel
theorem dX6_bandOf_39 : decode cX6_bandOf 39 = .ok (.bipush 46, 2) := by decide +kernel
theorem dX6_bandOf_41 : decode cX6_bandOf 41 = .ok (.iload_n 1, 1) := by decide +kernel
theorem dX6_bandOf_42 : decode cX6_bandOf 42 = .ok (.iadd, 1) := by decide +kernel
theorem dX6_bandOf_43 : decode cX6_bandOf 43 = .ok (.laload, 1) := by decide +kernel
theorem dX6_bandOf_44 : decode cX6_bandOf 44 = .ok (.aload_n 0, 1) := by decide +kernel
theorem dX6_bandOf_45 : decode cX6_bandOf 45 = .ok (.getfield 7, 3) := by decide +kernel
theorem dX6_bandOf_48 : decode cX6_bandOf 48 = .ok (.bipush 24, 2) := by decide +kernel
theorem dX6_bandOf_50 : decode cX6_bandOf 50 = .ok (.iload_n 1, 1) := by decide +kernel
theorem dX6_bandOf_51 : decode cX6_bandOf 51 = .ok (.iadd, 1) := by decide +kernel
theorem dX6_bandOf_52 : decode cX6_bandOf 52 = .ok (.laload, 1) := by decide +kernel
theorem dX6_bandOf_53 : decode cX6_bandOf 53 = .ok (.ldiv, 1) := by decide +kernel
theorem dX6_bandOf_54 : decode cX6_bandOf 54 = .ok (.l2i, 1) := by decide +kernel
theorem dX6_bandOf_55 : decode cX6_bandOf 55 = .ok (.ireturn, 1) := by decide +kernel
set_option maxRecDepth 20000 in
theorem ggX6_band_X6_in : GoodIn wsX6_band wsX6_in := goodIn_r _ [6] (by decide +kernel) (by decide +kernel)
set_option maxRecDepth 20000 in
theorem gX6_band_X6_in : GoodIn wsX6_band (va_wsS RX6 69 yX6_in wsX6_in) := goodIn_app (goodIn_of _ (by decide +kernel)) ggX6_band_X6_in
set_option maxRecDepth 20000 in
theorem ggX6_band_X6_bandOf : GoodIn wsX6_band wsX6_bandOf := goodIn_r _ [10, 11, 12, 18, 19, 20, 21, 22, 23, 24, 25, 26, 27, 28, 29, 30, 31, 32] (by decide +kernel) (by decide +kernel)
set_option maxRecDepth 20000 in
theorem gX6_band_X6_bandOf : GoodIn wsX6_band (wsV RX6 134 RX6 yX6_bandOf wsX6_bandOf) := goodIn_app (goodIn_of _ (by decide +kernel)) ggX6_band_X6_bandOf
set_option maxRecDepth 20000 in
theorem ggX6_band_X6_refuses : GoodIn wsX6_band wsX6_refuses := goodIn_r _ [16, 17, 2, 18, 19, 20, 21, 22, 23, 24, 25, 26, 27, 28, 29, 30, 31, 32] (by decide +kernel) (by decide +kernel)
set_option maxRecDepth 20000 in
theorem gX6_band_X6_refuses : GoodIn wsX6_band (wsV RX6 50 RX6 yX6_refuses wsX6_refuses) := goodIn_app (goodIn_of _ (by decide +kernel)) ggX6_band_X6_refuses
theorem dX6_band_0 : decode cX6_band 0 = .ok (.iload_n 1, 1) := by decide +kernel
theorem dX6_band_1 : decode cX6_band 1 = .ok (.i2l, 1) := by decide +kernel
theorem dX6_band_2 : decode cX6_band 2 = .ok (.lconst 0, 1) := by decide +kernel
theorem dX6_band_3 : decode cX6_band 3 = .ok (.lconst 1, 1) := by decide +kernel
theorem dX6_band_4 : decode cX6_band 4 = .ok (.invokestatic 69, 3) := by decide +kernel
theorem dX6_band_7 : decode cX6_band 7 = .ok (.ifCond .eq 29, 3) := by decide +kernel
theorem dX6_band_10 : decode cX6_band 10 = .ok (.iload_n 2, 1) := by decide +kernel
theorem dX6_band_11 : decode cX6_band 11 = .ok (.i2l, 1) := by decide +kernel
theorem dX6_band_12 : decode cX6_band 12 = .ok (.lconst 0, 1) := by decide +kernel
theorem dX6_band_13 : decode cX6_band 13 = .ok (.ldc2_w 40, 3) := by decide +kernel
theorem dX6_band_16 : decode cX6_band 16 = .ok (.invokestatic 69, 3) := by decide +kernel
theorem dX6_band_19 : decode cX6_band 19 = .ok (.ifCond .eq 17, 3) := by decide +kernel
theorem dX6_band_22 : decode cX6_band 22 = .ok (.iload_n 3, 1) := by decide +kernel
theorem dX6_band_23 : decode cX6_band 23 = .ok (.i2l, 1) := by decide +kernel
theorem dX6_band_24 : decode cX6_band 24 = .ok (.lconst 0, 1) := by decide +kernel
theorem dX6_band_25 : decode cX6_band 25 = .ok (.lconst 1, 1) := by decide +kernel
theorem dX6_band_26 : decode cX6_band 26 = .ok (.invokestatic 69, 3) := by decide +kernel
theorem dX6_band_29 : decode cX6_band 29 = .ok (.ifCond .eq 7, 3) := by decide +kernel
theorem dX6_band_32 : decode cX6_band 32 = .ok (.iconst 1, 1) := by decide +kernel
theorem dX6_band_33 : decode cX6_band 33 = .ok (.goto 4, 3) := by decide +kernel
theorem dX6_band_36 : decode cX6_band 36 = .ok (.iconst 0, 1) := by decide +kernel
theorem dX6_band_37 : decode cX6_band 37 = .ok (.istore 4, 2) := by decide +kernel
theorem dX6_band_39 : decode cX6_band 39 = .ok (.iload 4, 2) := by decide +kernel
theorem dX6_band_41 : decode cX6_band 41 = .ok (.ifCond .eq 17, 3) := by decide +kernel
theorem dX6_band_44 : decode cX6_band 44 = .ok (.aload_n 0, 1) := by decide +kernel
theorem dX6_band_45 : decode cX6_band 45 = .ok (.bipush 11, 2) := by decide +kernel
theorem dX6_band_47 : decode cX6_band 47 = .ok (.iload_n 1, 1) := by decide +kernel
theorem dX6_band_48 : decode cX6_band 48 = .ok (.imul, 1) := by decide +kernel
theorem dX6_band_49 : decode cX6_band 49 = .ok (.iload_n 2, 1) := by decide +kernel
theorem dX6_band_50 : decode cX6_band 50 = .ok (.iadd, 1) := by decide +kernel
theorem dX6_band_51 : decode cX6_band 51 = .ok (.iload_n 3, 1) := by decide +kernel
theorem dX6_band_52 : decode cX6_band 52 = .ok (.invokevirtual 134, 3) := by decide +kernel
theorem dX6_band_55 : decode cX6_band 55 = .ok (.goto 9, 3) := by decide +kernel
theorem dX6_band_58 : decode cX6_band 58 = .ok (.aload_n 0, 1) := by decide +kernel
theorem dX6_band_59 : decode cX6_band 59 = .ok (.ldc 44, 2) := by decide +kernel
theorem dX6_band_61 : decode cX6_band 61 = .ok (.invokevirtual 50, 3) := by decide +kernel
theorem dX6_band_64 : decode cX6_band 64 = .ok (.ireturn, 1) := by decide +kernel
theorem dX6_bands_0 : decode cX6_bands 0 = .ok (.iconst 0, 1) := by decide +kernel
theorem dX6_bands_1 : decode cX6_bands 1 = .ok (.istore_n 1, 1) := by decide +kernel
theorem dX6_bands_2 : decode cX6_bands 2 = .ok (.iconst 0, 1) := by decide +kernel
theorem dX6_bands_3 : decode cX6_bands 3 = .ok (.istore_n 2, 1) := by decide +kernel
theorem dX6_bands_4 : decode cX6_bands 4 = .ok (.iload_n 2, 1) := by decide +kernel
theorem dX6_bands_5 : decode cX6_bands 5 = .ok (.bipush 22, 2) := by decide +kernel
theorem dX6_bands_7 : decode cX6_bands 7 = .ok (.if_icmp .ge 31, 3) := by decide +kernel
theorem dX6_bands_10 : decode cX6_bands 10 = .ok (.iload_n 1, 1) := by decide +kernel
theorem dX6_bands_11 : decode cX6_bands 11 = .ok (.aload_n 0, 1) := by decide +kernel
theorem dX6_bands_12 : decode cX6_bands 12 = .ok (.getfield 7, 3) := by decide +kernel
theorem dX6_bands_15 : decode cX6_bands 15 = .ok (.bipush 24, 2) := by decide +kernel
theorem dX6_bands_17 : decode cX6_bands 17 = .ok (.iload_n 2, 1) := by decide +kernel
theorem dX6_bands_18 : decode cX6_bands 18 = .ok (.iadd, 1) := by decide +kernel
theorem dX6_bands_19 : decode cX6_bands 19 = .ok (.laload, 1) := by decide +kernel
theorem dX6_bands_20 : decode cX6_bands 20 = .ok (.lconst 0, 1) := by decide +kernel
theorem dX6_bands_21 : decode cX6_bands 21 = .ok (.lcmp, 1) := by decide +kernel
theorem dX6_bands_22 : decode cX6_bands 22 = .ok (.ifCond .le 7, 3) := by decide +kernel
theorem dX6_bands_25 : decode cX6_bands 25 = .ok (.iconst 1, 1) := by decide +kernel
theorem dX6_bands_26 : decode cX6_bands 26 = .ok (.goto 4, 3) := by decide +kernel
theorem dX6_bands_29 : decode cX6_bands 29 = .ok (.iconst 0, 1) := by decide +kernel
theorem dX6_bands_30 : decode cX6_bands 30 = .ok (.iadd, 1) := by decide +kernel
theorem dX6_bands_31 : decode cX6_bands 31 = .ok (.istore_n 1, 1) := by decide +kernel
theorem dX6_bands_32 : decode cX6_bands 32 = .ok (.iinc 2 1, 3) := by decide +kernel
theorem dX6_bands_35 : decode cX6_bands 35 = .ok (.goto (-31), 3) := by decide +kernel
theorem dX6_bands_38 : decode cX6_bands 38 = .ok (.iload_n 1, 1) := by decide +kernel
theorem dX6_bands_39 : decode cX6_bands 39 = .ok (.ireturn, 1) := by decide +kernel
theorem dX6_lastsBy_0 : decode cX6_lastsBy 0 = .ok (.aload_n 0, 1) := by decide +kernel
theorem dX6_lastsBy_1 : decode cX6_lastsBy 1 = .ok (.getfield 7, 3) := by decide +kernel
theorem dX6_lastsBy_4 : decode cX6_lastsBy 4 = .ok (.bipush 11, 2) := by decide +kernel
theorem dX6_lastsBy_6 : decode cX6_lastsBy 6 = .ok (.laload, 1) := by decide +kernel
theorem dX6_lastsBy_7 : decode cX6_lastsBy 7 = .ok (.lstore_n 3, 1) := by decide +kernel
theorem dX6_lastsBy_8 : decode cX6_lastsBy 8 = .ok (.iload_n 2, 1) := by decide +kernel
theorem dX6_lastsBy_9 : decode cX6_lastsBy 9 = .ok (.ifCond .ne 16, 3) := by decide +kernel
theorem dX6_lastsBy_12 : decode cX6_lastsBy 12 = .ok (.aload_n 0, 1) := by decide +kernel
theorem dX6_lastsBy_13 : decode cX6_lastsBy 13 = .ok (.getfield 7, 3) := by decide +kernel
theorem dX6_lastsBy_16 : decode cX6_lastsBy 16 = .ok (.iconst 0, 1) := by decide +kernel
theorem dX6_lastsBy_17 : decode cX6_lastsBy 17 = .ok (.laload, 1) := by decide +kernel
theorem dX6_lastsBy_18 : decode cX6_lastsBy 18 = .ok (.iload_n 1, 1) := by decide +kernel
theorem dX6_lastsBy_19 : decode cX6_lastsBy 19 = .ok (.i2l, 1) := by decide +kernel
theorem dX6_lastsBy_20 : decode cX6_lastsBy 20 = .ok (.lload_n 3, 1) := by decide +kernel
theorem dX6_lastsBy_21 : decode cX6_lastsBy 21 = .ok (.ladd, 1) := by decide +kernel
theorem dX6_lastsBy_22 : decode cX6_lastsBy 22 = .ok (.ldiv, 1) := by decide +kernel
theorem dX6_lastsBy_23 : decode cX6_lastsBy 23 = .ok (.l2i, 1) := by decide +kernel
theorem dX6_lastsBy_24 : decode cX6_lastsBy 24 = .ok (.ireturn, 1) := by decide +kernel
theorem dX6_lastsBy_25 : decode cX6_lastsBy 25 = .ok (.iload_n 1, 1) := by decide +kernel
theorem dX6_lastsBy_26 : decode cX6_lastsBy 26 = .ok (.i2l, 1) := by decide +kernel
theorem dX6_lastsBy_27 : decode cX6_lastsBy 27 = .ok (.lload_n 3, 1) := by decide +kernel
theorem dX6_lastsBy_28 : decode cX6_lastsBy 28 = .ok (.lcmp, 1) := by decide +kernel
theorem dX6_lastsBy_29 : decode cX6_lastsBy 29 = .ok (.ifCond .gt 8, 3) := by decide +kernel
theorem dX6_lastsBy_32 : decode cX6_lastsBy 32 = .ok (.ldc 57, 2) := by decide +kernel
theorem dX6_lastsBy_34 : decode cX6_lastsBy 34 = .ok (.goto 15, 3) := by decide +kernel
theorem dX6_lastsBy_37 : decode cX6_lastsBy 37 = .ok (.aload_n 0, 1) := by decide +kernel
theorem dX6_lastsBy_38 : decode cX6_lastsBy 38 = .ok (.getfield 7, 3) := by decide +kernel
theorem dX6_lastsBy_41 : decode cX6_lastsBy 41 = .ok (.iconst 1, 1) := by decide +kernel
theorem dX6_lastsBy_42 : decode cX6_lastsBy 42 = .ok (.laload, 1) := by decide +kernel
theorem dX6_lastsBy_43 : decode cX6_lastsBy 43 = .ok (.iload_n 1, 1) := by decide +kernel
theorem dX6_lastsBy_44 : decode cX6_lastsBy 44 = .ok (.i2l, 1) := by decide +kernel
theorem dX6_lastsBy_45 : decode cX6_lastsBy 45 = .ok (.lload_n 3, 1) := by decide +kernel
theorem dX6_lastsBy_46 : decode cX6_lastsBy 46 = .ok (.lsub, 1) := by decide +kernel
theorem dX6_lastsBy_47 : decode cX6_lastsBy 47 = .ok (.ldiv, 1) := by decide +kernel
theorem dX6_lastsBy_48 : decode cX6_lastsBy 48 = .ok (.l2i, 1) := by decide +kernel
theorem dX6_lastsBy_49 : decode cX6_lastsBy 49 = .ok (.ireturn, 1) := by decide +kernel
set_option maxRecDepth 20000 in
theorem ggX6_lasts_X6_in : GoodIn wsX6_lasts wsX6_in := goodIn_r _ [6] (by decide +kernel) (by decide +kernel)
set_option maxRecDepth 20000 in
theorem gX6_lasts_X6_in : GoodIn wsX6_lasts (va_wsS RX6 69 yX6_in wsX6_in) := goodIn_app (goodIn_of _ (by decide +kernel)) ggX6_lasts_X6_in
set_option maxRecDepth 20000 in
theorem ggX6_lasts_X6_lastsBy : GoodIn wsX6_lasts wsX6_lastsBy := goodIn_r _ [10, 11, 12, 18, 19, 20, 21, 22, 23, 24, 25, 26, 27, 28, 29, 30, 31, 32] (by decide +kernel) (by decide +kernel)
set_option maxRecDepth 20000 in
theorem gX6_lasts_X6_lastsBy : GoodIn wsX6_lasts (wsV RX6 137 RX6 yX6_lastsBy wsX6_lastsBy) := goodIn_app (goodIn_of _ (by decide +kernel)) ggX6_lasts_X6_lastsBy
set_option maxRecDepth 20000 in
theorem ggX6_lasts_X6_refuses : GoodIn wsX6_lasts wsX6_refuses := goodIn_r _ [16, 17, 2, 18, 19, 20, 21, 22, 23, 24, 25, 26, 27, 28, 29, 30, 31, 32] (by decide +kernel) (by decide +kernel)
set_option maxRecDepth 20000 in
theorem gX6_lasts_X6_refuses : GoodIn wsX6_lasts (wsV RX6 50 RX6 yX6_refuses wsX6_refuses) := goodIn_app (goodIn_of _ (by decide +kernel)) ggX6_lasts_X6_refuses
theorem dX6_lasts_0 : decode cX6_lasts 0 = .ok (.iload_n 1, 1) := by decide +kernel
theorem dX6_lasts_1 : decode cX6_lasts 1 = .ok (.i2l, 1) := by decide +kernel
theorem dX6_lasts_2 : decode cX6_lasts 2 = .ok (.lconst 1, 1) := by decide +kernel
theorem dX6_lasts_3 : decode cX6_lasts 3 = .ok (.ldc2_w 81, 3) := by decide +kernel
theorem dX6_lasts_6 : decode cX6_lasts 6 = .ok (.invokestatic 69, 3) := by decide +kernel
theorem dX6_lasts_9 : decode cX6_lasts 9 = .ok (.ifCond .eq 22, 3) := by decide +kernel
theorem dX6_lasts_12 : decode cX6_lasts 12 = .ok (.iload_n 2, 1) := by decide +kernel
theorem dX6_lasts_13 : decode cX6_lasts 13 = .ok (.i2l, 1) := by decide +kernel
theorem dX6_lasts_14 : decode cX6_lasts 14 = .ok (.lconst 0, 1) := by decide +kernel
theorem dX6_lasts_15 : decode cX6_lasts 15 = .ok (.lconst 1, 1) := by decide +kernel
theorem dX6_lasts_16 : decode cX6_lasts 16 = .ok (.invokestatic 69, 3) := by decide +kernel
theorem dX6_lasts_19 : decode cX6_lasts 19 = .ok (.ifCond .eq 12, 3) := by decide +kernel
theorem dX6_lasts_22 : decode cX6_lasts 22 = .ok (.aload_n 0, 1) := by decide +kernel
theorem dX6_lasts_23 : decode cX6_lasts 23 = .ok (.iload_n 1, 1) := by decide +kernel
theorem dX6_lasts_24 : decode cX6_lasts 24 = .ok (.iload_n 2, 1) := by decide +kernel
theorem dX6_lasts_25 : decode cX6_lasts 25 = .ok (.invokevirtual 137, 3) := by decide +kernel
theorem dX6_lasts_28 : decode cX6_lasts 28 = .ok (.goto 9, 3) := by decide +kernel
theorem dX6_lasts_31 : decode cX6_lasts 31 = .ok (.aload_n 0, 1) := by decide +kernel
theorem dX6_lasts_32 : decode cX6_lasts 32 = .ok (.ldc 44, 2) := by decide +kernel
theorem dX6_lasts_34 : decode cX6_lasts 34 = .ok (.invokevirtual 50, 3) := by decide +kernel
theorem dX6_lasts_37 : decode cX6_lasts 37 = .ok (.ireturn, 1) := by decide +kernel
set_option maxRecDepth 20000 in
theorem ggX6_under_X6_in : GoodIn wsX6_under wsX6_in := goodIn_r _ [9] (by decide +kernel) (by decide +kernel)
set_option maxRecDepth 20000 in
theorem gX6_under_X6_in : GoodIn wsX6_under (va_wsS RX6 69 yX6_in wsX6_in) := goodIn_app (goodIn_of _ (by decide +kernel)) ggX6_under_X6_in
set_option maxRecDepth 20000 in
theorem ggX6_under_X6_refuses : GoodIn wsX6_under wsX6_refuses := goodIn_r _ [13, 14, 3, 34, 35, 36, 37, 38, 39, 40, 41, 42, 43, 44, 45, 46, 47, 48] (by decide +kernel) (by decide +kernel)
set_option maxRecDepth 20000 in
theorem gX6_under_X6_refuses : GoodIn wsX6_under (wsV RX6 50 RX6 yX6_refuses wsX6_refuses) := goodIn_app (goodIn_of _ (by decide +kernel)) ggX6_under_X6_refuses
set_option maxRecDepth 20000 in
theorem ggX6_under_X6_bandNow : GoodIn wsX6_under wsX6_bandNow := goodIn_r _ [18, 19, 20, 21, 8, 22, 23, 24, 34, 35, 36, 37, 38, 39, 40, 41, 42, 43, 44, 45, 46, 47, 48] (by decide +kernel) (by decide +kernel)
set_option maxRecDepth 20000 in
theorem gX6_under_X6_bandNow : GoodIn wsX6_under (wsV RX6 97 RX6 yX6_bandNow wsX6_bandNow) := goodIn_app (goodIn_of _ (by decide +kernel)) ggX6_under_X6_bandNow
set_option maxRecDepth 20000 in
theorem ggX6_under_X6_bandOf : GoodIn wsX6_under wsX6_bandOf := goodIn_r _ [28, 23, 4, 34, 35, 36, 37, 38, 39, 40, 41, 42, 43, 44, 45, 46, 47, 48] (by decide +kernel) (by decide +kernel)
set_option maxRecDepth 20000 in
theorem gX6_under_X6_bandOf : GoodIn wsX6_under (wsV RX6 134 RX6 yX6_bandOf wsX6_bandOf) := goodIn_app (goodIn_of _ (by decide +kernel)) ggX6_under_X6_bandOf
set_option maxRecDepth 20000 in
theorem ggX6_under_X6_middle : GoodIn wsX6_under wsX6_middle := goodIn_r _ [22, 23, 24, 34, 35, 36, 37, 38, 39, 40, 41, 42, 43, 44, 45, 46, 47, 48] (by decide +kernel) (by decide +kernel)
set_option maxRecDepth 20000 in
theorem gX6_under_X6_middle : GoodIn wsX6_under (wsV RX6 75 RX6 yX6_middle wsX6_middle) := goodIn_app (goodIn_of _ (by decide +kernel)) ggX6_under_X6_middle
set_option maxRecDepth 20000 in
theorem ggX6_under_X6_voltsAt : GoodIn wsX6_under wsX6_voltsAt := goodIn_r _ [32, 23, 33, 34, 35, 36, 37, 38, 39, 40, 41, 42, 43, 44, 45, 46, 47, 48] (by decide +kernel) (by decide +kernel)
set_option maxRecDepth 20000 in
theorem gX6_under_X6_voltsAt : GoodIn wsX6_under (wsV RX6 64 RX6 yX6_voltsAt wsX6_voltsAt) := goodIn_app (goodIn_of _ (by decide +kernel)) ggX6_under_X6_voltsAt
theorem dX6_under_0 : decode cX6_under 0 = .ok (.iload_n 1, 1) := by decide +kernel
theorem dX6_under_1 : decode cX6_under 1 = .ok (.i2l, 1) := by decide +kernel
theorem dX6_under_2 : decode cX6_under 2 = .ok (.ldc2_w 79, 3) := by decide +kernel
theorem dX6_under_5 : decode cX6_under 5 = .ok (.ldc2_w 81, 3) := by decide +kernel
theorem dX6_under_8 : decode cX6_under 8 = .ok (.invokestatic 69, 3) := by decide +kernel
theorem dX6_under_11 : decode cX6_under 11 = .ok (.ifCond .eq 7, 3) := by decide +kernel
theorem dX6_under_14 : decode cX6_under 14 = .ok (.iload_n 1, 1) := by decide +kernel
theorem dX6_under_15 : decode cX6_under 15 = .ok (.ifCond .ne 10, 3) := by decide +kernel
theorem dX6_under_18 : decode cX6_under 18 = .ok (.aload_n 0, 1) := by decide +kernel
theorem dX6_under_19 : decode cX6_under 19 = .ok (.ldc 44, 2) := by decide +kernel
theorem dX6_under_21 : decode cX6_under 21 = .ok (.invokevirtual 50, 3) := by decide +kernel
theorem dX6_under_24 : decode cX6_under 24 = .ok (.ireturn, 1) := by decide +kernel
theorem dX6_under_25 : decode cX6_under 25 = .ok (.aload_n 0, 1) := by decide +kernel
theorem dX6_under_26 : decode cX6_under 26 = .ok (.aload_n 0, 1) := by decide +kernel
theorem dX6_under_27 : decode cX6_under 27 = .ok (.iload_n 1, 1) := by decide +kernel
theorem dX6_under_28 : decode cX6_under 28 = .ok (.invokevirtual 97, 3) := by decide +kernel
theorem dX6_under_31 : decode cX6_under 31 = .ok (.iconst 0, 1) := by decide +kernel
theorem dX6_under_32 : decode cX6_under 32 = .ok (.invokevirtual 134, 3) := by decide +kernel
theorem dX6_under_35 : decode cX6_under 35 = .ok (.istore_n 2, 1) := by decide +kernel
theorem dX6_under_36 : decode cX6_under 36 = .ok (.iload_n 2, 1) := by decide +kernel
theorem dX6_under_37 : decode cX6_under 37 = .ok (.ldc 57, 2) := by decide +kernel
theorem dX6_under_39 : decode cX6_under 39 = .ok (.if_icmp .ne 12, 3) := by decide +kernel
theorem dX6_under_42 : decode cX6_under 42 = .ok (.aload_n 0, 1) := by decide +kernel
theorem dX6_under_43 : decode cX6_under 43 = .ok (.ldc 49, 2) := by decide +kernel
theorem dX6_under_45 : decode cX6_under 45 = .ok (.invokevirtual 50, 3) := by decide +kernel
theorem dX6_under_48 : decode cX6_under 48 = .ok (.goto 18, 3) := by decide +kernel
theorem dX6_under_51 : decode cX6_under 51 = .ok (.aload_n 0, 1) := by decide +kernel
theorem dX6_under_52 : decode cX6_under 52 = .ok (.aload_n 0, 1) := by decide +kernel
theorem dX6_under_53 : decode cX6_under 53 = .ok (.invokevirtual 75, 3) := by decide +kernel
theorem dX6_under_56 : decode cX6_under 56 = .ok (.invokevirtual 64, 3) := by decide +kernel
theorem dX6_under_59 : decode cX6_under 59 = .ok (.iload_n 1, 1) := by decide +kernel
theorem dX6_under_60 : decode cX6_under 60 = .ok (.iload_n 2, 1) := by decide +kernel
theorem dX6_under_61 : decode cX6_under 61 = .ok (.imul, 1) := by decide +kernel
theorem dX6_under_62 : decode cX6_under 62 = .ok (.bipush 100, 2) := by decide +kernel
theorem dX6_under_64 : decode cX6_under 64 = .ok (.idiv, 1) := by decide +kernel
theorem dX6_under_65 : decode cX6_under 65 = .ok (.isub, 1) := by decide +kernel
theorem dX6_under_66 : decode cX6_under 66 = .ok (.ireturn, 1) := by decide +kernel
set_option maxRecDepth 20000 in
theorem ggX6_setting_X6_in : GoodIn wsX6_setting wsX6_in := goodIn_r _ [7] (by decide +kernel) (by decide +kernel)
set_option maxRecDepth 20000 in
theorem gX6_setting_X6_in : GoodIn wsX6_setting (va_wsS RX6 69 yX6_in wsX6_in) := goodIn_app (goodIn_of _ (by decide +kernel)) ggX6_setting_X6_in
set_option maxRecDepth 20000 in
theorem ggX6_setting_X6_refuses : GoodIn wsX6_setting wsX6_refuses := goodIn_r _ [11, 12, 3, 13, 14, 15, 16, 17, 18, 19, 20, 21, 22, 23, 24, 25, 26, 27] (by decide +kernel) (by decide +kernel)
set_option maxRecDepth 20000 in
theorem gX6_setting_X6_refuses : GoodIn wsX6_setting (wsV RX6 50 RX6 yX6_refuses wsX6_refuses) := goodIn_app (goodIn_of _ (by decide +kernel)) ggX6_setting_X6_refuses
theorem dX6_setting_0 : decode cX6_setting 0 = .ok (.iload_n 1, 1) := by decide +kernel
theorem dX6_setting_1 : decode cX6_setting 1 = .ok (.i2l, 1) := by decide +kernel
theorem dX6_setting_2 : decode cX6_setting 2 = .ok (.lconst 0, 1) := by decide +kernel
theorem dX6_setting_3 : decode cX6_setting 3 = .ok (.ldc2_w 140, 3) := by decide +kernel
theorem dX6_setting_6 : decode cX6_setting 6 = .ok (.invokestatic 69, 3) := by decide +kernel
theorem dX6_setting_9 : decode cX6_setting 9 = .ok (.ifCond .eq 16, 3) := by decide +kernel
theorem dX6_setting_12 : decode cX6_setting 12 = .ok (.aload_n 0, 1) := by decide +kernel
theorem dX6_setting_13 : decode cX6_setting 13 = .ok (.getfield 7, 3) := by decide +kernel
theorem dX6_setting_16 : decode cX6_setting 16 = .ok (.bipush 11, 2) := by decide +kernel
theorem dX6_setting_18 : decode cX6_setting 18 = .ok (.iload_n 1, 1) := by decide +kernel
theorem dX6_setting_19 : decode cX6_setting 19 = .ok (.iadd, 1) := by decide +kernel
theorem dX6_setting_20 : decode cX6_setting 20 = .ok (.laload, 1) := by decide +kernel
theorem dX6_setting_21 : decode cX6_setting 21 = .ok (.l2i, 1) := by decide +kernel
theorem dX6_setting_22 : decode cX6_setting 22 = .ok (.goto 9, 3) := by decide +kernel
theorem dX6_setting_25 : decode cX6_setting 25 = .ok (.aload_n 0, 1) := by decide +kernel
theorem dX6_setting_26 : decode cX6_setting 26 = .ok (.ldc 44, 2) := by decide +kernel
theorem dX6_setting_28 : decode cX6_setting 28 = .ok (.invokevirtual 50, 3) := by decide +kernel
theorem dX6_setting_31 : decode cX6_setting 31 = .ok (.ireturn, 1) := by decide +kernel
set_option maxRecDepth 20000 in
theorem ggX6_type_X6_in : GoodIn wsX6_type wsX6_in := goodIn_r _ [9] (by decide +kernel) (by decide +kernel)
set_option maxRecDepth 20000 in
theorem gX6_type_X6_in : GoodIn wsX6_type (va_wsS RX6 69 yX6_in wsX6_in) := goodIn_app (goodIn_of _ (by decide +kernel)) ggX6_type_X6_in
set_option maxRecDepth 20000 in
theorem ggX6_type_X6_refuses : GoodIn wsX6_type wsX6_refuses := goodIn_r _ [13, 14, 2, 15, 16, 17, 18, 19, 20, 21, 22, 23, 24, 25, 26, 27, 28, 29] (by decide +kernel) (by decide +kernel)
set_option maxRecDepth 20000 in
theorem gX6_type_X6_refuses : GoodIn wsX6_type (wsV RX6 50 RX6 yX6_refuses wsX6_refuses) := goodIn_app (goodIn_of _ (by decide +kernel)) ggX6_type_X6_refuses
theorem dX6_type_0 : decode cX6_type 0 = .ok (.iload_n 1, 1) := by decide +kernel
theorem dX6_type_1 : decode cX6_type 1 = .ok (.i2l, 1) := by decide +kernel
theorem dX6_type_2 : decode cX6_type 2 = .ok (.lconst 0, 1) := by decide +kernel
theorem dX6_type_3 : decode cX6_type 3 = .ok (.ldc2_w 142, 3) := by decide +kernel
theorem dX6_type_6 : decode cX6_type 6 = .ok (.invokestatic 69, 3) := by decide +kernel
theorem dX6_type_9 : decode cX6_type 9 = .ok (.ifCond .ne 10, 3) := by decide +kernel
theorem dX6_type_12 : decode cX6_type 12 = .ok (.aload_n 0, 1) := by decide +kernel
theorem dX6_type_13 : decode cX6_type 13 = .ok (.ldc 44, 2) := by decide +kernel
theorem dX6_type_15 : decode cX6_type 15 = .ok (.invokevirtual 50, 3) := by decide +kernel
theorem dX6_type_18 : decode cX6_type 18 = .ok (.ireturn, 1) := by decide +kernel
theorem dX6_type_19 : decode cX6_type 19 = .ok (.aload_n 0, 1) := by decide +kernel
theorem dX6_type_20 : decode cX6_type 20 = .ok (.getfield 144, 3) := by decide +kernel
theorem dX6_type_23 : decode cX6_type 23 = .ok (.bipush 120, 2) := by decide +kernel
theorem dX6_type_25 : decode cX6_type 25 = .ok (.if_icmp .ne 10, 3) := by decide +kernel
theorem dX6_type_28 : decode cX6_type 28 = .ok (.aload_n 0, 1) := by decide +kernel
theorem dX6_type_29 : decode cX6_type 29 = .ok (.ldc 147, 2) := by decide +kernel
theorem dX6_type_31 : decode cX6_type 31 = .ok (.invokevirtual 50, 3) := by decide +kernel
theorem dX6_type_34 : decode cX6_type 34 = .ok (.ireturn, 1) := by decide +kernel
theorem dX6_type_35 : decode cX6_type 35 = .ok (.aload_n 0, 1) := by decide +kernel
theorem dX6_type_36 : decode cX6_type 36 = .ok (.getfield 23, 3) := by decide +kernel
theorem dX6_type_39 : decode cX6_type 39 = .ok (.aload_n 0, 1) := by decide +kernel
theorem dX6_type_40 : decode cX6_type 40 = .ok (.getfield 144, 3) := by decide +kernel
theorem dX6_type_43 : decode cX6_type 43 = .ok (.iload_n 1, 1) := by decide +kernel
theorem dX6_type_44 : decode cX6_type 44 = .ok (.iastore, 1) := by decide +kernel
theorem dX6_type_45 : decode cX6_type 45 = .ok (.aload_n 0, 1) := by decide +kernel
theorem dX6_type_46 : decode cX6_type 46 = .ok (.dup, 1) := by decide +kernel
theorem dX6_type_47 : decode cX6_type 47 = .ok (.getfield 144, 3) := by decide +kernel
theorem dX6_type_50 : decode cX6_type 50 = .ok (.iconst 1, 1) := by decide +kernel
theorem dX6_type_51 : decode cX6_type 51 = .ok (.iadd, 1) := by decide +kernel
theorem dX6_type_52 : decode cX6_type 52 = .ok (.putfield 144, 3) := by decide +kernel
theorem dX6_type_55 : decode cX6_type 55 = .ok (.aload_n 0, 1) := by decide +kernel
theorem dX6_type_56 : decode cX6_type 56 = .ok (.getfield 144, 3) := by decide +kernel
theorem dX6_type_59 : decode cX6_type 59 = .ok (.ireturn, 1) := by decide +kernel
theorem dX6_clear_0 : decode cX6_clear 0 = .ok (.aload_n 0, 1) := by decide +kernel
theorem dX6_clear_1 : decode cX6_clear 1 = .ok (.getfield 144, 3) := by decide +kernel
theorem dX6_clear_4 : decode cX6_clear 4 = .ok (.istore_n 1, 1) := by decide +kernel
theorem dX6_clear_5 : decode cX6_clear 5 = .ok (.aload_n 0, 1) := by decide +kernel
theorem dX6_clear_6 : decode cX6_clear 6 = .ok (.iconst 0, 1) := by decide +kernel
theorem dX6_clear_7 : decode cX6_clear 7 = .ok (.putfield 144, 3) := by decide +kernel
theorem dX6_clear_10 : decode cX6_clear 10 = .ok (.iload_n 1, 1) := by decide +kernel
theorem dX6_clear_11 : decode cX6_clear 11 = .ok (.ireturn, 1) := by decide +kernel
set_option maxRecDepth 20000 in
theorem ggX6_isAt_X6_in : GoodIn wsX6_isAt wsX6_in := goodIn_r _ [7] (by decide +kernel) (by decide +kernel)
set_option maxRecDepth 20000 in
theorem gX6_isAt_X6_in : GoodIn wsX6_isAt (va_wsS RX6 69 yX6_in wsX6_in) := goodIn_app (goodIn_of _ (by decide +kernel)) ggX6_isAt_X6_in
theorem dX6_isAt_0 : decode cX6_isAt 0 = .ok (.aload_n 0, 1) := by decide +kernel
theorem dX6_isAt_1 : decode cX6_isAt 1 = .ok (.getfield 148, 3) := by decide +kernel
theorem dX6_isAt_4 : decode cX6_isAt 4 = .ok (.aload_n 0, 1) := by decide +kernel
theorem dX6_isAt_5 : decode cX6_isAt 5 = .ok (.getfield 144, 3) := by decide +kernel
theorem dX6_isAt_8 : decode cX6_isAt 8 = .ok (.if_icmp .ge 27, 3) := by decide +kernel
theorem dX6_isAt_11 : decode cX6_isAt 11 = .ok (.aload_n 0, 1) := by decide +kernel
theorem dX6_isAt_12 : decode cX6_isAt 12 = .ok (.getfield 23, 3) := by decide +kernel
theorem dX6_isAt_15 : decode cX6_isAt 15 = .ok (.aload_n 0, 1) := by decide +kernel
theorem dX6_isAt_16 : decode cX6_isAt 16 = .ok (.getfield 148, 3) := by decide +kernel
theorem dX6_isAt_19 : decode cX6_isAt 19 = .ok (.iaload, 1) := by decide +kernel
theorem dX6_isAt_20 : decode cX6_isAt 20 = .ok (.i2l, 1) := by decide +kernel
theorem dX6_isAt_21 : decode cX6_isAt 21 = .ok (.iload_n 1, 1) := by decide +kernel
theorem dX6_isAt_22 : decode cX6_isAt 22 = .ok (.i2l, 1) := by decide +kernel
theorem dX6_isAt_23 : decode cX6_isAt 23 = .ok (.iload_n 2, 1) := by decide +kernel
theorem dX6_isAt_24 : decode cX6_isAt 24 = .ok (.i2l, 1) := by decide +kernel
theorem dX6_isAt_25 : decode cX6_isAt 25 = .ok (.invokestatic 69, 3) := by decide +kernel
theorem dX6_isAt_28 : decode cX6_isAt 28 = .ok (.ifCond .eq 7, 3) := by decide +kernel
theorem dX6_isAt_31 : decode cX6_isAt 31 = .ok (.iconst 1, 1) := by decide +kernel
theorem dX6_isAt_32 : decode cX6_isAt 32 = .ok (.goto 4, 3) := by decide +kernel
theorem dX6_isAt_35 : decode cX6_isAt 35 = .ok (.iconst 0, 1) := by decide +kernel
theorem dX6_isAt_36 : decode cX6_isAt 36 = .ok (.ireturn, 1) := by decide +kernel
set_option maxRecDepth 20000 in
theorem ggX6_blanks_X6_isAt : GoodIn wsX6_blanks wsX6_isAt := goodIn_r _ [6, 1, 7, 8, 9, 10, 5, 11, 12, 13, 14, 15, 16, 17, 18, 19, 20, 21, 22, 23, 24, 25, 26] (by decide +kernel) (by decide +kernel)
set_option maxRecDepth 20000 in
theorem gX6_blanks_X6_isAt : GoodIn wsX6_blanks (wsV RX6 151 RX6 yX6_isAt wsX6_isAt) := goodIn_app (goodIn_of _ (by decide +kernel)) ggX6_blanks_X6_isAt
theorem dX6_blanks_0 : decode cX6_blanks 0 = .ok (.aload_n 0, 1) := by decide +kernel
theorem dX6_blanks_1 : decode cX6_blanks 1 = .ok (.bipush 32, 2) := by decide +kernel
theorem dX6_blanks_3 : decode cX6_blanks 3 = .ok (.bipush 32, 2) := by decide +kernel
theorem dX6_blanks_5 : decode cX6_blanks 5 = .ok (.invokevirtual 151, 3) := by decide +kernel
theorem dX6_blanks_8 : decode cX6_blanks 8 = .ok (.ifCond .eq 16, 3) := by decide +kernel
theorem dX6_blanks_11 : decode cX6_blanks 11 = .ok (.aload_n 0, 1) := by decide +kernel
theorem dX6_blanks_12 : decode cX6_blanks 12 = .ok (.dup, 1) := by decide +kernel
theorem dX6_blanks_13 : decode cX6_blanks 13 = .ok (.getfield 148, 3) := by decide +kernel
theorem dX6_blanks_16 : decode cX6_blanks 16 = .ok (.iconst 1, 1) := by decide +kernel
theorem dX6_blanks_17 : decode cX6_blanks 17 = .ok (.iadd, 1) := by decide +kernel
theorem dX6_blanks_18 : decode cX6_blanks 18 = .ok (.putfield 148, 3) := by decide +kernel
theorem dX6_blanks_21 : decode cX6_blanks 21 = .ok (.goto (-21), 3) := by decide +kernel
theorem dX6_blanks_24 : decode cX6_blanks 24 = .ok (.return_, 1) := by decide +kernel
theorem dX6_fails_0 : decode cX6_fails 0 = .ok (.aload_n 0, 1) := by decide +kernel
theorem dX6_fails_1 : decode cX6_fails 1 = .ok (.aload_n 0, 1) := by decide +kernel
theorem dX6_fails_2 : decode cX6_fails 2 = .ok (.getfield 148, 3) := by decide +kernel
theorem dX6_fails_5 : decode cX6_fails 5 = .ok (.putfield 155, 3) := by decide +kernel
theorem dX6_fails_8 : decode cX6_fails 8 = .ok (.iconst 0, 1) := by decide +kernel
theorem dX6_fails_9 : decode cX6_fails 9 = .ok (.ireturn, 1) := by decide +kernel
theorem dX6_manyOf_0 : decode cX6_manyOf 0 = .ok (.iload_n 0, 1) := by decide +kernel
theorem dX6_manyOf_1 : decode cX6_manyOf 1 = .ok (.tableswitch 83 99 114 #[79, 83, 83, 83, 81, 83, 83, 83, 83, 79, 83, 83, 81, 79, 83, 81], 79) := by decide +kernel
theorem dX6_manyOf_80 : decode cX6_manyOf 80 = .ok (.iconst 2, 1) := by decide +kernel
theorem dX6_manyOf_81 : decode cX6_manyOf 81 = .ok (.ireturn, 1) := by decide +kernel
theorem dX6_manyOf_82 : decode cX6_manyOf 82 = .ok (.iconst 1, 1) := by decide +kernel
theorem dX6_manyOf_83 : decode cX6_manyOf 83 = .ok (.ireturn, 1) := by decide +kernel
theorem dX6_manyOf_84 : decode cX6_manyOf 84 = .ok (.ldc 57, 2) := by decide +kernel
theorem dX6_manyOf_86 : decode cX6_manyOf 86 = .ok (.ireturn, 1) := by decide +kernel
set_option maxRecDepth 20000 in
theorem ggX6_takesNumber_X6_blanks : GoodIn wsX6_takesNumber wsX6_blanks := goodIn_r _ [8, 1, 9, 10, 11, 7, 12, 13, 2, 14, 15, 16, 22, 23, 24, 25, 26, 27, 28, 29, 30, 31, 32, 33, 34, 35, 36] (by decide +kernel) (by decide +kernel)
set_option maxRecDepth 20000 in
theorem gX6_takesNumber_X6_blanks : GoodIn wsX6_takesNumber (wsV RX6 158 RX6 yX6_blanks wsX6_blanks) := goodIn_app (goodIn_of _ (by decide +kernel)) ggX6_takesNumber_X6_blanks
set_option maxRecDepth 20000 in
theorem ggX6_takesNumber_X6_isAt : GoodIn wsX6_takesNumber wsX6_isAt := goodIn_r _ [12, 1, 13, 2, 14, 15, 7, 16, 22, 23, 24, 25, 26, 27, 28, 29, 30, 31, 32, 33, 34, 35, 36] (by decide +kernel) (by decide +kernel)
set_option maxRecDepth 20000 in
theorem gX6_takesNumber_X6_isAt : GoodIn wsX6_takesNumber (wsV RX6 151 RX6 yX6_isAt wsX6_isAt) := goodIn_app (goodIn_of _ (by decide +kernel)) ggX6_takesNumber_X6_isAt
set_option maxRecDepth 20000 in
theorem ggX6_takesNumber_X6_fails : GoodIn wsX6_takesNumber wsX6_fails := goodIn_r _ [20, 1, 21, 22, 23, 24, 25, 26, 27, 28, 29, 30, 31, 32, 33, 34, 35, 36] (by decide +kernel) (by decide +kernel)
set_option maxRecDepth 20000 in
theorem gX6_takesNumber_X6_fails : GoodIn wsX6_takesNumber (wsV RX6 161 RX6 yX6_fails wsX6_fails) := goodIn_app (goodIn_of _ (by decide +kernel)) ggX6_takesNumber_X6_fails
theorem dX6_takesNumber_0 : decode cX6_takesNumber 0 = .ok (.aload_n 0, 1) := by decide +kernel
theorem dX6_takesNumber_1 : decode cX6_takesNumber 1 = .ok (.invokevirtual 158, 3) := by decide +kernel
theorem dX6_takesNumber_4 : decode cX6_takesNumber 4 = .ok (.iload_n 2, 1) := by decide +kernel
theorem dX6_takesNumber_5 : decode cX6_takesNumber 5 = .ok (.ifCond .eq 18, 3) := by decide +kernel
theorem dX6_takesNumber_8 : decode cX6_takesNumber 8 = .ok (.aload_n 0, 1) := by decide +kernel
theorem dX6_takesNumber_9 : decode cX6_takesNumber 9 = .ok (.bipush 45, 2) := by decide +kernel
theorem dX6_takesNumber_11 : decode cX6_takesNumber 11 = .ok (.bipush 45, 2) := by decide +kernel
theorem dX6_takesNumber_13 : decode cX6_takesNumber 13 = .ok (.invokevirtual 151, 3) := by decide +kernel
theorem dX6_takesNumber_16 : decode cX6_takesNumber 16 = .ok (.ifCond .eq 7, 3) := by decide +kernel
theorem dX6_takesNumber_19 : decode cX6_takesNumber 19 = .ok (.iconst 1, 1) := by decide +kernel
theorem dX6_takesNumber_20 : decode cX6_takesNumber 20 = .ok (.goto 4, 3) := by decide +kernel
theorem dX6_takesNumber_23 : decode cX6_takesNumber 23 = .ok (.iconst 0, 1) := by decide +kernel
theorem dX6_takesNumber_24 : decode cX6_takesNumber 24 = .ok (.istore_n 3, 1) := by decide +kernel
theorem dX6_takesNumber_25 : decode cX6_takesNumber 25 = .ok (.aload_n 0, 1) := by decide +kernel
theorem dX6_takesNumber_26 : decode cX6_takesNumber 26 = .ok (.dup, 1) := by decide +kernel
theorem dX6_takesNumber_27 : decode cX6_takesNumber 27 = .ok (.getfield 148, 3) := by decide +kernel
theorem dX6_takesNumber_30 : decode cX6_takesNumber 30 = .ok (.iload_n 3, 1) := by decide +kernel
theorem dX6_takesNumber_31 : decode cX6_takesNumber 31 = .ok (.ifCond .eq 7, 3) := by decide +kernel
theorem dX6_takesNumber_34 : decode cX6_takesNumber 34 = .ok (.iconst 1, 1) := by decide +kernel
theorem dX6_takesNumber_35 : decode cX6_takesNumber 35 = .ok (.goto 4, 3) := by decide +kernel
theorem dX6_takesNumber_38 : decode cX6_takesNumber 38 = .ok (.iconst 0, 1) := by decide +kernel
theorem dX6_takesNumber_39 : decode cX6_takesNumber 39 = .ok (.iadd, 1) := by decide +kernel
theorem dX6_takesNumber_40 : decode cX6_takesNumber 40 = .ok (.putfield 148, 3) := by decide +kernel
theorem dX6_takesNumber_43 : decode cX6_takesNumber 43 = .ok (.aload_n 0, 1) := by decide +kernel
theorem dX6_takesNumber_44 : decode cX6_takesNumber 44 = .ok (.getfield 148, 3) := by decide +kernel
theorem dX6_takesNumber_47 : decode cX6_takesNumber 47 = .ok (.istore 4, 2) := by decide +kernel
theorem dX6_takesNumber_49 : decode cX6_takesNumber 49 = .ok (.iconst 0, 1) := by decide +kernel
theorem dX6_takesNumber_50 : decode cX6_takesNumber 50 = .ok (.istore 5, 2) := by decide +kernel
theorem dX6_takesNumber_52 : decode cX6_takesNumber 52 = .ok (.aload_n 0, 1) := by decide +kernel
theorem dX6_takesNumber_53 : decode cX6_takesNumber 53 = .ok (.bipush 48, 2) := by decide +kernel
theorem dX6_takesNumber_55 : decode cX6_takesNumber 55 = .ok (.bipush 57, 2) := by decide +kernel
theorem dX6_takesNumber_57 : decode cX6_takesNumber 57 = .ok (.invokevirtual 151, 3) := by decide +kernel
theorem dX6_takesNumber_60 : decode cX6_takesNumber 60 = .ok (.ifCond .eq 52, 3) := by decide +kernel
theorem dX6_takesNumber_63 : decode cX6_takesNumber 63 = .ok (.aload_n 0, 1) := by decide +kernel
theorem dX6_takesNumber_64 : decode cX6_takesNumber 64 = .ok (.getfield 148, 3) := by decide +kernel
theorem dX6_takesNumber_67 : decode cX6_takesNumber 67 = .ok (.iload 4, 2) := by decide +kernel
theorem dX6_takesNumber_69 : decode cX6_takesNumber 69 = .ok (.iconst 4, 1) := by decide +kernel
theorem dX6_takesNumber_70 : decode cX6_takesNumber 70 = .ok (.iadd, 1) := by decide +kernel
theorem dX6_takesNumber_71 : decode cX6_takesNumber 71 = .ok (.if_icmp .ne 8, 3) := by decide +kernel
theorem dX6_takesNumber_74 : decode cX6_takesNumber 74 = .ok (.aload_n 0, 1) := by decide +kernel
theorem dX6_takesNumber_75 : decode cX6_takesNumber 75 = .ok (.invokevirtual 161, 3) := by decide +kernel
theorem dX6_takesNumber_78 : decode cX6_takesNumber 78 = .ok (.ireturn, 1) := by decide +kernel
theorem dX6_takesNumber_79 : decode cX6_takesNumber 79 = .ok (.bipush 10, 2) := by decide +kernel
theorem dX6_takesNumber_81 : decode cX6_takesNumber 81 = .ok (.iload 5, 2) := by decide +kernel
theorem dX6_takesNumber_83 : decode cX6_takesNumber 83 = .ok (.imul, 1) := by decide +kernel
theorem dX6_takesNumber_84 : decode cX6_takesNumber 84 = .ok (.aload_n 0, 1) := by decide +kernel
theorem dX6_takesNumber_85 : decode cX6_takesNumber 85 = .ok (.getfield 23, 3) := by decide +kernel
theorem dX6_takesNumber_88 : decode cX6_takesNumber 88 = .ok (.aload_n 0, 1) := by decide +kernel
theorem dX6_takesNumber_89 : decode cX6_takesNumber 89 = .ok (.getfield 148, 3) := by decide +kernel
theorem dX6_takesNumber_92 : decode cX6_takesNumber 92 = .ok (.iaload, 1) := by decide +kernel
theorem dX6_takesNumber_93 : decode cX6_takesNumber 93 = .ok (.iadd, 1) := by decide +kernel
theorem dX6_takesNumber_94 : decode cX6_takesNumber 94 = .ok (.bipush 48, 2) := by decide +kernel
theorem dX6_takesNumber_96 : decode cX6_takesNumber 96 = .ok (.isub, 1) := by decide +kernel
theorem dX6_takesNumber_97 : decode cX6_takesNumber 97 = .ok (.istore 5, 2) := by decide +kernel
theorem dX6_takesNumber_99 : decode cX6_takesNumber 99 = .ok (.aload_n 0, 1) := by decide +kernel
theorem dX6_takesNumber_100 : decode cX6_takesNumber 100 = .ok (.dup, 1) := by decide +kernel
theorem dX6_takesNumber_101 : decode cX6_takesNumber 101 = .ok (.getfield 148, 3) := by decide +kernel
theorem dX6_takesNumber_104 : decode cX6_takesNumber 104 = .ok (.iconst 1, 1) := by decide +kernel
theorem dX6_takesNumber_105 : decode cX6_takesNumber 105 = .ok (.iadd, 1) := by decide +kernel
theorem dX6_takesNumber_106 : decode cX6_takesNumber 106 = .ok (.putfield 148, 3) := by decide +kernel
theorem dX6_takesNumber_109 : decode cX6_takesNumber 109 = .ok (.goto (-57), 3) := by decide +kernel
theorem dX6_takesNumber_112 : decode cX6_takesNumber 112 = .ok (.aload_n 0, 1) := by decide +kernel
theorem dX6_takesNumber_113 : decode cX6_takesNumber 113 = .ok (.getfield 29, 3) := by decide +kernel
theorem dX6_takesNumber_116 : decode cX6_takesNumber 116 = .ok (.iload_n 1, 1) := by decide +kernel
theorem dX6_takesNumber_117 : decode cX6_takesNumber 117 = .ok (.iload_n 3, 1) := by decide +kernel
theorem dX6_takesNumber_118 : decode cX6_takesNumber 118 = .ok (.ifCond .eq 9, 3) := by decide +kernel
theorem dX6_takesNumber_121 : decode cX6_takesNumber 121 = .ok (.iload 5, 2) := by decide +kernel
theorem dX6_takesNumber_123 : decode cX6_takesNumber 123 = .ok (.ineg, 1) := by decide +kernel
theorem dX6_takesNumber_124 : decode cX6_takesNumber 124 = .ok (.goto 5, 3) := by decide +kernel
theorem dX6_takesNumber_127 : decode cX6_takesNumber 127 = .ok (.iload 5, 2) := by decide +kernel
theorem dX6_takesNumber_129 : decode cX6_takesNumber 129 = .ok (.iastore, 1) := by decide +kernel
theorem dX6_takesNumber_130 : decode cX6_takesNumber 130 = .ok (.aload_n 0, 1) := by decide +kernel
theorem dX6_takesNumber_131 : decode cX6_takesNumber 131 = .ok (.getfield 148, 3) := by decide +kernel
theorem dX6_takesNumber_134 : decode cX6_takesNumber 134 = .ok (.iload 4, 2) := by decide +kernel
theorem dX6_takesNumber_136 : decode cX6_takesNumber 136 = .ok (.if_icmp .gt 10, 3) := by decide +kernel
theorem dX6_takesNumber_139 : decode cX6_takesNumber 139 = .ok (.aload_n 0, 1) := by decide +kernel
theorem dX6_takesNumber_140 : decode cX6_takesNumber 140 = .ok (.invokevirtual 161, 3) := by decide +kernel
theorem dX6_takesNumber_143 : decode cX6_takesNumber 143 = .ok (.ifCond .eq 7, 3) := by decide +kernel
theorem dX6_takesNumber_146 : decode cX6_takesNumber 146 = .ok (.iconst 1, 1) := by decide +kernel
theorem dX6_takesNumber_147 : decode cX6_takesNumber 147 = .ok (.goto 4, 3) := by decide +kernel
theorem dX6_takesNumber_150 : decode cX6_takesNumber 150 = .ok (.iconst 0, 1) := by decide +kernel
theorem dX6_takesNumber_151 : decode cX6_takesNumber 151 = .ok (.ireturn, 1) := by decide +kernel
set_option maxRecDepth 20000 in
theorem ggX6_takesOrder_X6_manyOf : GoodIn wsX6_takesOrder wsX6_manyOf := goodIn_r _ [9, 3] (by decide +kernel) (by decide +kernel)
set_option maxRecDepth 20000 in
theorem gX6_takesOrder_X6_manyOf : GoodIn wsX6_takesOrder (va_wsS RX6 165 yX6_manyOf wsX6_manyOf) := goodIn_app (goodIn_of _ (by decide +kernel)) ggX6_takesOrder_X6_manyOf
set_option maxRecDepth 20000 in
theorem ggX6_takesOrder_X6_fails : GoodIn wsX6_takesOrder wsX6_fails := goodIn_r _ [13, 2, 14, 32, 33, 34, 35, 36, 37, 38, 39, 40, 41, 42, 43, 44, 45, 46] (by decide +kernel) (by decide +kernel)
set_option maxRecDepth 20000 in
theorem gX6_takesOrder_X6_fails : GoodIn wsX6_takesOrder (wsV RX6 161 RX6 yX6_fails wsX6_fails) := goodIn_app (goodIn_of _ (by decide +kernel)) ggX6_takesOrder_X6_fails
set_option maxRecDepth 20000 in
theorem ggX6_takesOrder_X6_takesNumber : GoodIn wsX6_takesOrder wsX6_takesNumber := goodIn_r _ [18, 2, 1, 19, 20, 21, 22, 8, 23, 24, 25, 26, 27, 28, 29, 30, 31, 10, 11, 12, 13, 14, 32, 33, 34, 35, 36, 37, 38, 39, 40, 41, 42, 43, 44, 45, 46] (by decide +kernel) (by decide +kernel)
set_option maxRecDepth 20000 in
theorem gX6_takesOrder_X6_takesNumber : GoodIn wsX6_takesOrder (wsV RX6 171 RX6 yX6_takesNumber wsX6_takesNumber) := goodIn_app (goodIn_of _ (by decide +kernel)) ggX6_takesOrder_X6_takesNumber
set_option maxRecDepth 20000 in
theorem ggX6_takesOrder_X6_blanks : GoodIn wsX6_takesOrder wsX6_blanks := goodIn_r _ [23, 2, 24, 25, 26, 8, 27, 28, 1, 29, 30, 31, 32, 33, 34, 35, 36, 37, 38, 39, 40, 41, 42, 43, 44, 45, 46] (by decide +kernel) (by decide +kernel)
set_option maxRecDepth 20000 in
theorem gX6_takesOrder_X6_blanks : GoodIn wsX6_takesOrder (wsV RX6 158 RX6 yX6_blanks wsX6_blanks) := goodIn_app (goodIn_of _ (by decide +kernel)) ggX6_takesOrder_X6_blanks
set_option maxRecDepth 20000 in
theorem ggX6_takesOrder_X6_isAt : GoodIn wsX6_takesOrder wsX6_isAt := goodIn_r _ [27, 2, 28, 1, 29, 30, 8, 31, 32, 33, 34, 35, 36, 37, 38, 39, 40, 41, 42, 43, 44, 45, 46] (by decide +kernel) (by decide +kernel)
set_option maxRecDepth 20000 in
theorem gX6_takesOrder_X6_isAt : GoodIn wsX6_takesOrder (wsV RX6 151 RX6 yX6_isAt wsX6_isAt) := goodIn_app (goodIn_of _ (by decide +kernel)) ggX6_takesOrder_X6_isAt
theorem dX6_takesOrder_0 : decode cX6_takesOrder 0 = .ok (.aload_n 0, 1) := by decide +kernel
theorem dX6_takesOrder_1 : decode cX6_takesOrder 1 = .ok (.getfield 23, 3) := by decide +kernel
theorem dX6_takesOrder_4 : decode cX6_takesOrder 4 = .ok (.aload_n 0, 1) := by decide +kernel
theorem dX6_takesOrder_5 : decode cX6_takesOrder 5 = .ok (.getfield 148, 3) := by decide +kernel
theorem dX6_takesOrder_8 : decode cX6_takesOrder 8 = .ok (.iaload, 1) := by decide +kernel
theorem dX6_takesOrder_9 : decode cX6_takesOrder 9 = .ok (.istore_n 1, 1) := by decide +kernel
theorem dX6_takesOrder_10 : decode cX6_takesOrder 10 = .ok (.iload_n 1, 1) := by decide +kernel
theorem dX6_takesOrder_11 : decode cX6_takesOrder 11 = .ok (.invokestatic 165, 3) := by decide +kernel
theorem dX6_takesOrder_14 : decode cX6_takesOrder 14 = .ok (.istore_n 2, 1) := by decide +kernel
theorem dX6_takesOrder_15 : decode cX6_takesOrder 15 = .ok (.iload_n 2, 1) := by decide +kernel
theorem dX6_takesOrder_16 : decode cX6_takesOrder 16 = .ok (.ldc 57, 2) := by decide +kernel
theorem dX6_takesOrder_18 : decode cX6_takesOrder 18 = .ok (.if_icmp .ne 8, 3) := by decide +kernel
theorem dX6_takesOrder_21 : decode cX6_takesOrder 21 = .ok (.aload_n 0, 1) := by decide +kernel
theorem dX6_takesOrder_22 : decode cX6_takesOrder 22 = .ok (.invokevirtual 161, 3) := by decide +kernel
theorem dX6_takesOrder_25 : decode cX6_takesOrder 25 = .ok (.ireturn, 1) := by decide +kernel
theorem dX6_takesOrder_26 : decode cX6_takesOrder 26 = .ok (.aload_n 0, 1) := by decide +kernel
theorem dX6_takesOrder_27 : decode cX6_takesOrder 27 = .ok (.getfield 26, 3) := by decide +kernel
theorem dX6_takesOrder_30 : decode cX6_takesOrder 30 = .ok (.aload_n 0, 1) := by decide +kernel
theorem dX6_takesOrder_31 : decode cX6_takesOrder 31 = .ok (.getfield 168, 3) := by decide +kernel
theorem dX6_takesOrder_34 : decode cX6_takesOrder 34 = .ok (.iload_n 1, 1) := by decide +kernel
theorem dX6_takesOrder_35 : decode cX6_takesOrder 35 = .ok (.iastore, 1) := by decide +kernel
theorem dX6_takesOrder_36 : decode cX6_takesOrder 36 = .ok (.aload_n 0, 1) := by decide +kernel
theorem dX6_takesOrder_37 : decode cX6_takesOrder 37 = .ok (.dup, 1) := by decide +kernel
theorem dX6_takesOrder_38 : decode cX6_takesOrder 38 = .ok (.getfield 148, 3) := by decide +kernel
theorem dX6_takesOrder_41 : decode cX6_takesOrder 41 = .ok (.iconst 1, 1) := by decide +kernel
theorem dX6_takesOrder_42 : decode cX6_takesOrder 42 = .ok (.iadd, 1) := by decide +kernel
theorem dX6_takesOrder_43 : decode cX6_takesOrder 43 = .ok (.putfield 148, 3) := by decide +kernel
theorem dX6_takesOrder_46 : decode cX6_takesOrder 46 = .ok (.iconst 0, 1) := by decide +kernel
theorem dX6_takesOrder_47 : decode cX6_takesOrder 47 = .ok (.istore_n 3, 1) := by decide +kernel
theorem dX6_takesOrder_48 : decode cX6_takesOrder 48 = .ok (.iload_n 3, 1) := by decide +kernel
theorem dX6_takesOrder_49 : decode cX6_takesOrder 49 = .ok (.iload_n 2, 1) := by decide +kernel
theorem dX6_takesOrder_50 : decode cX6_takesOrder 50 = .ok (.if_icmp .ge 47, 3) := by decide +kernel
theorem dX6_takesOrder_53 : decode cX6_takesOrder 53 = .ok (.aload_n 0, 1) := by decide +kernel
theorem dX6_takesOrder_54 : decode cX6_takesOrder 54 = .ok (.iconst 2, 1) := by decide +kernel
theorem dX6_takesOrder_55 : decode cX6_takesOrder 55 = .ok (.aload_n 0, 1) := by decide +kernel
theorem dX6_takesOrder_56 : decode cX6_takesOrder 56 = .ok (.getfield 168, 3) := by decide +kernel
theorem dX6_takesOrder_59 : decode cX6_takesOrder 59 = .ok (.imul, 1) := by decide +kernel
theorem dX6_takesOrder_60 : decode cX6_takesOrder 60 = .ok (.iload_n 3, 1) := by decide +kernel
theorem dX6_takesOrder_61 : decode cX6_takesOrder 61 = .ok (.iadd, 1) := by decide +kernel
theorem dX6_takesOrder_62 : decode cX6_takesOrder 62 = .ok (.iload_n 3, 1) := by decide +kernel
theorem dX6_takesOrder_63 : decode cX6_takesOrder 63 = .ok (.ifCond .ne 19, 3) := by decide +kernel
theorem dX6_takesOrder_66 : decode cX6_takesOrder 66 = .ok (.iload_n 1, 1) := by decide +kernel
theorem dX6_takesOrder_67 : decode cX6_takesOrder 67 = .ok (.bipush 112, 2) := by decide +kernel
theorem dX6_takesOrder_69 : decode cX6_takesOrder 69 = .ok (.if_icmp .eq 9, 3) := by decide +kernel
theorem dX6_takesOrder_72 : decode cX6_takesOrder 72 = .ok (.iload_n 1, 1) := by decide +kernel
theorem dX6_takesOrder_73 : decode cX6_takesOrder 73 = .ok (.bipush 108, 2) := by decide +kernel
theorem dX6_takesOrder_75 : decode cX6_takesOrder 75 = .ok (.if_icmp .ne 7, 3) := by decide +kernel
theorem dX6_takesOrder_78 : decode cX6_takesOrder 78 = .ok (.iconst 1, 1) := by decide +kernel
theorem dX6_takesOrder_79 : decode cX6_takesOrder 79 = .ok (.goto 4, 3) := by decide +kernel
theorem dX6_takesOrder_82 : decode cX6_takesOrder 82 = .ok (.iconst 0, 1) := by decide +kernel
theorem dX6_takesOrder_83 : decode cX6_takesOrder 83 = .ok (.invokevirtual 171, 3) := by decide +kernel
theorem dX6_takesOrder_86 : decode cX6_takesOrder 86 = .ok (.ifCond .ne 5, 3) := by decide +kernel
theorem dX6_takesOrder_89 : decode cX6_takesOrder 89 = .ok (.iconst 0, 1) := by decide +kernel
theorem dX6_takesOrder_90 : decode cX6_takesOrder 90 = .ok (.ireturn, 1) := by decide +kernel
theorem dX6_takesOrder_91 : decode cX6_takesOrder 91 = .ok (.iinc 3 1, 3) := by decide +kernel
theorem dX6_takesOrder_94 : decode cX6_takesOrder 94 = .ok (.goto (-46), 3) := by decide +kernel
theorem dX6_takesOrder_97 : decode cX6_takesOrder 97 = .ok (.aload_n 0, 1) := by decide +kernel
theorem dX6_takesOrder_98 : decode cX6_takesOrder 98 = .ok (.invokevirtual 158, 3) := by decide +kernel
theorem dX6_takesOrder_101 : decode cX6_takesOrder 101 = .ok (.aload_n 0, 1) := by decide +kernel
theorem dX6_takesOrder_102 : decode cX6_takesOrder 102 = .ok (.bipush 59, 2) := by decide +kernel
theorem dX6_takesOrder_104 : decode cX6_takesOrder 104 = .ok (.bipush 59, 2) := by decide +kernel
theorem dX6_takesOrder_106 : decode cX6_takesOrder 106 = .ok (.invokevirtual 151, 3) := by decide +kernel
theorem dX6_takesOrder_109 : decode cX6_takesOrder 109 = .ok (.ifCond .ne 8, 3) := by decide +kernel
theorem dX6_takesOrder_112 : decode cX6_takesOrder 112 = .ok (.aload_n 0, 1) := by decide +kernel
theorem dX6_takesOrder_113 : decode cX6_takesOrder 113 = .ok (.invokevirtual 161, 3) := by decide +kernel
theorem dX6_takesOrder_116 : decode cX6_takesOrder 116 = .ok (.ireturn, 1) := by decide +kernel
theorem dX6_takesOrder_117 : decode cX6_takesOrder 117 = .ok (.aload_n 0, 1) := by decide +kernel
theorem dX6_takesOrder_118 : decode cX6_takesOrder 118 = .ok (.dup, 1) := by decide +kernel
theorem dX6_takesOrder_119 : decode cX6_takesOrder 119 = .ok (.getfield 148, 3) := by decide +kernel
theorem dX6_takesOrder_122 : decode cX6_takesOrder 122 = .ok (.iconst 1, 1) := by decide +kernel
theorem dX6_takesOrder_123 : decode cX6_takesOrder 123 = .ok (.iadd, 1) := by decide +kernel
theorem dX6_takesOrder_124 : decode cX6_takesOrder 124 = .ok (.putfield 148, 3) := by decide +kernel
theorem dX6_takesOrder_127 : decode cX6_takesOrder 127 = .ok (.aload_n 0, 1) := by decide +kernel
theorem dX6_takesOrder_128 : decode cX6_takesOrder 128 = .ok (.dup, 1) := by decide +kernel
theorem dX6_takesOrder_129 : decode cX6_takesOrder 129 = .ok (.getfield 168, 3) := by decide +kernel
theorem dX6_takesOrder_132 : decode cX6_takesOrder 132 = .ok (.iconst 1, 1) := by decide +kernel
theorem dX6_takesOrder_133 : decode cX6_takesOrder 133 = .ok (.iadd, 1) := by decide +kernel
theorem dX6_takesOrder_134 : decode cX6_takesOrder 134 = .ok (.putfield 168, 3) := by decide +kernel
theorem dX6_takesOrder_137 : decode cX6_takesOrder 137 = .ok (.iconst 1, 1) := by decide +kernel
theorem dX6_takesOrder_138 : decode cX6_takesOrder 138 = .ok (.ireturn, 1) := by decide +kernel
set_option maxRecDepth 20000 in
theorem ggX6_isRead_X6_blanks : GoodIn wsX6_isRead wsX6_blanks := goodIn_r _ [8, 1, 9, 10, 11, 7, 12, 3, 13, 14, 15, 16, 36, 37, 38, 39, 40, 41, 42, 43, 44, 45, 46, 47, 48, 49, 50] (by decide +kernel) (by decide +kernel)
set_option maxRecDepth 20000 in
theorem gX6_isRead_X6_blanks : GoodIn wsX6_isRead (wsV RX6 158 RX6 yX6_blanks wsX6_blanks) := goodIn_app (goodIn_of _ (by decide +kernel)) ggX6_isRead_X6_blanks
set_option maxRecDepth 20000 in
theorem ggX6_isRead_X6_takesOrder : GoodIn wsX6_isRead wsX6_takesOrder := goodIn_r _ [20, 13, 1, 21, 22, 2, 23, 24, 7, 25, 26, 27, 28, 29, 30, 31, 32, 33, 34, 35, 4, 5, 6, 8, 9, 10, 11, 12, 3, 14, 15, 16, 36, 37, 38, 39, 40, 41, 42, 43, 44, 45, 46, 47, 48, 49, 50] (by decide +kernel) (by decide +kernel)
set_option maxRecDepth 20000 in
theorem gX6_isRead_X6_takesOrder : GoodIn wsX6_isRead (wsV RX6 175 RX6 yX6_takesOrder wsX6_takesOrder) := goodIn_app (goodIn_of _ (by decide +kernel)) ggX6_isRead_X6_takesOrder
set_option maxRecDepth 20000 in
theorem ggX6_isRead_X6_fails : GoodIn wsX6_isRead wsX6_fails := goodIn_r _ [29, 1, 30, 36, 37, 38, 39, 40, 41, 42, 43, 44, 45, 46, 47, 48, 49, 50] (by decide +kernel) (by decide +kernel)
set_option maxRecDepth 20000 in
theorem gX6_isRead_X6_fails : GoodIn wsX6_isRead (wsV RX6 161 RX6 yX6_fails wsX6_fails) := goodIn_app (goodIn_of _ (by decide +kernel)) ggX6_isRead_X6_fails
theorem dX6_isRead_0 : decode cX6_isRead 0 = .ok (.aload_n 0, 1) := by decide +kernel
theorem dX6_isRead_1 : decode cX6_isRead 1 = .ok (.iconst 0, 1) := by decide +kernel
theorem dX6_isRead_2 : decode cX6_isRead 2 = .ok (.putfield 148, 3) := by decide +kernel
theorem dX6_isRead_5 : decode cX6_isRead 5 = .ok (.aload_n 0, 1) := by decide +kernel
theorem dX6_isRead_6 : decode cX6_isRead 6 = .ok (.iconst 0, 1) := by decide +kernel
theorem dX6_isRead_7 : decode cX6_isRead 7 = .ok (.putfield 168, 3) := by decide +kernel
theorem dX6_isRead_10 : decode cX6_isRead 10 = .ok (.aload_n 0, 1) := by decide +kernel
theorem dX6_isRead_11 : decode cX6_isRead 11 = .ok (.invokevirtual 158, 3) := by decide +kernel
theorem dX6_isRead_14 : decode cX6_isRead 14 = .ok (.aload_n 0, 1) := by decide +kernel
theorem dX6_isRead_15 : decode cX6_isRead 15 = .ok (.getfield 148, 3) := by decide +kernel
theorem dX6_isRead_18 : decode cX6_isRead 18 = .ok (.aload_n 0, 1) := by decide +kernel
theorem dX6_isRead_19 : decode cX6_isRead 19 = .ok (.getfield 144, 3) := by decide +kernel
theorem dX6_isRead_22 : decode cX6_isRead 22 = .ok (.if_icmp .ge 19, 3) := by decide +kernel
theorem dX6_isRead_25 : decode cX6_isRead 25 = .ok (.aload_n 0, 1) := by decide +kernel
theorem dX6_isRead_26 : decode cX6_isRead 26 = .ok (.invokevirtual 175, 3) := by decide +kernel
theorem dX6_isRead_29 : decode cX6_isRead 29 = .ok (.ifCond .ne 5, 3) := by decide +kernel
theorem dX6_isRead_32 : decode cX6_isRead 32 = .ok (.iconst 0, 1) := by decide +kernel
theorem dX6_isRead_33 : decode cX6_isRead 33 = .ok (.ireturn, 1) := by decide +kernel
theorem dX6_isRead_34 : decode cX6_isRead 34 = .ok (.aload_n 0, 1) := by decide +kernel
theorem dX6_isRead_35 : decode cX6_isRead 35 = .ok (.invokevirtual 158, 3) := by decide +kernel
theorem dX6_isRead_38 : decode cX6_isRead 38 = .ok (.goto (-24), 3) := by decide +kernel
theorem dX6_isRead_41 : decode cX6_isRead 41 = .ok (.aload_n 0, 1) := by decide +kernel
theorem dX6_isRead_42 : decode cX6_isRead 42 = .ok (.getfield 168, 3) := by decide +kernel
theorem dX6_isRead_45 : decode cX6_isRead 45 = .ok (.ifCond .gt 10, 3) := by decide +kernel
theorem dX6_isRead_48 : decode cX6_isRead 48 = .ok (.aload_n 0, 1) := by decide +kernel
theorem dX6_isRead_49 : decode cX6_isRead 49 = .ok (.invokevirtual 161, 3) := by decide +kernel
theorem dX6_isRead_52 : decode cX6_isRead 52 = .ok (.ifCond .eq 7, 3) := by decide +kernel
theorem dX6_isRead_55 : decode cX6_isRead 55 = .ok (.iconst 1, 1) := by decide +kernel
theorem dX6_isRead_56 : decode cX6_isRead 56 = .ok (.goto 4, 3) := by decide +kernel
theorem dX6_isRead_59 : decode cX6_isRead 59 = .ok (.iconst 0, 1) := by decide +kernel
theorem dX6_isRead_60 : decode cX6_isRead 60 = .ok (.ireturn, 1) := by decide +kernel
set_option maxRecDepth 20000 in
theorem ggX6_doneOne_X6_putPassing : GoodIn wsX6_doneOne wsX6_putPassing := goodIn_r _ [7, 8, 9, 10, 11, 12, 13, 14, 15, 6, 16, 17, 18, 19, 20, 21, 22, 23, 24, 25, 64, 65, 66, 67, 68, 69, 70, 71, 72, 73, 74, 75, 76, 77, 78] (by decide +kernel) (by decide +kernel)
set_option maxRecDepth 20000 in
theorem gX6_doneOne_X6_putPassing : GoodIn wsX6_doneOne (wsV RX6 120 RX6 yX6_putPassing wsX6_putPassing) := goodIn_app (goodIn_of _ (by decide +kernel)) ggX6_doneOne_X6_putPassing
set_option maxRecDepth 20000 in
theorem ggX6_doneOne_X6_putRest : GoodIn wsX6_doneOne wsX6_putRest := goodIn_r _ [29, 30, 11, 31, 32, 33, 13, 12, 25, 10, 14, 15, 6, 16, 34, 35, 36, 37, 38, 39, 40, 41, 42, 43, 44, 45, 46, 64, 65, 66, 67, 68, 69, 70, 71, 72, 73, 74, 75, 76, 77, 78] (by decide +kernel) (by decide +kernel)
set_option maxRecDepth 20000 in
theorem gX6_doneOne_X6_putRest : GoodIn wsX6_doneOne (wsV RX6 123 RX6 yX6_putRest wsX6_putRest) := goodIn_app (goodIn_of _ (by decide +kernel)) ggX6_doneOne_X6_putRest
set_option maxRecDepth 20000 in
theorem ggX6_doneOne_X6_putLoad : GoodIn wsX6_doneOne wsX6_putLoad := goodIn_r _ [50, 8, 9, 30, 11, 12, 14, 15, 6, 16, 21, 22, 23, 24, 25, 38, 39, 40, 41, 42, 51, 52, 53, 54, 64, 65, 66, 67, 68, 69, 70, 71, 72, 73, 74, 75, 76, 77, 78] (by decide +kernel) (by decide +kernel)
set_option maxRecDepth 20000 in
theorem gX6_doneOne_X6_putLoad : GoodIn wsX6_doneOne (wsV RX6 126 RX6 yX6_putLoad wsX6_putLoad) := goodIn_app (goodIn_of _ (by decide +kernel)) ggX6_doneOne_X6_putLoad
set_option maxRecDepth 20000 in
theorem ggX6_doneOne_X6_putSetting : GoodIn wsX6_doneOne wsX6_putSetting := goodIn_r _ [58, 11, 12, 14, 15, 6, 16, 64, 65, 66, 67, 68, 69, 70, 71, 72, 73, 74, 75, 76, 77, 78] (by decide +kernel) (by decide +kernel)
set_option maxRecDepth 20000 in
theorem gX6_doneOne_X6_putSetting : GoodIn wsX6_doneOne (wsV RX6 113 RX6 yX6_putSetting wsX6_putSetting) := goodIn_app (goodIn_of _ (by decide +kernel)) ggX6_doneOne_X6_putSetting
set_option maxRecDepth 20000 in
theorem ggX6_doneOne_X6_putPoint : GoodIn wsX6_doneOne wsX6_putPoint := goodIn_r _ [62, 63, 30, 11, 12, 13, 14, 15, 6, 16, 64, 65, 66, 67, 68, 69, 70, 71, 72, 73, 74, 75, 76, 77, 78] (by decide +kernel) (by decide +kernel)
set_option maxRecDepth 20000 in
theorem gX6_doneOne_X6_putPoint : GoodIn wsX6_doneOne (wsV RX6 117 RX6 yX6_putPoint wsX6_putPoint) := goodIn_app (goodIn_of _ (by decide +kernel)) ggX6_doneOne_X6_putPoint
theorem dX6_doneOne_0 : decode cX6_doneOne 0 = .ok (.aload_n 0, 1) := by decide +kernel
theorem dX6_doneOne_1 : decode cX6_doneOne 1 = .ok (.getfield 29, 3) := by decide +kernel
theorem dX6_doneOne_4 : decode cX6_doneOne 4 = .ok (.iconst 2, 1) := by decide +kernel
theorem dX6_doneOne_5 : decode cX6_doneOne 5 = .ok (.iload_n 1, 1) := by decide +kernel
theorem dX6_doneOne_6 : decode cX6_doneOne 6 = .ok (.imul, 1) := by decide +kernel
theorem dX6_doneOne_7 : decode cX6_doneOne 7 = .ok (.iaload, 1) := by decide +kernel
theorem dX6_doneOne_8 : decode cX6_doneOne 8 = .ok (.istore_n 2, 1) := by decide +kernel
theorem dX6_doneOne_9 : decode cX6_doneOne 9 = .ok (.aload_n 0, 1) := by decide +kernel
theorem dX6_doneOne_10 : decode cX6_doneOne 10 = .ok (.getfield 29, 3) := by decide +kernel
theorem dX6_doneOne_13 : decode cX6_doneOne 13 = .ok (.iconst 2, 1) := by decide +kernel
theorem dX6_doneOne_14 : decode cX6_doneOne 14 = .ok (.iload_n 1, 1) := by decide +kernel
theorem dX6_doneOne_15 : decode cX6_doneOne 15 = .ok (.imul, 1) := by decide +kernel
end
section
theorem dX6_doneOne_16 : decode cX6_doneOne 16 = .ok (.iconst 1, 1) := by decide +kernel
theorem dX6_doneOne_17 : decode cX6_doneOne 17 = .ok (.iadd, 1) := by decide +kernel
theorem dX6_doneOne_18 : decode cX6_doneOne 18 = .ok (.iaload, 1) := by decide +kernel
theorem dX6_doneOne_19 : decode cX6_doneOne 19 = .ok (.istore_n 3, 1) := by decide +kernel
theorem dX6_doneOne_20 : decode cX6_doneOne 20 = .ok (.aload_n 0, 1) := by decide +kernel
theorem dX6_doneOne_21 : decode cX6_doneOne 21 = .ok (.getfield 26, 3) := by decide +kernel
theorem dX6_doneOne_24 : decode cX6_doneOne 24 = .ok (.iload_n 1, 1) := by decide +kernel
theorem dX6_doneOne_25 : decode cX6_doneOne 25 = .ok (.iaload, 1) := by decide +kernel
theorem dX6_doneOne_26 : decode cX6_doneOne 26 = .ok (.tableswitch 103 103 114 #[92, 103, 103, 103, 103, 75, 103, 103, 82, 62, 103, 69], 62) := by decide +kernel
theorem dX6_doneOne_88 : decode cX6_doneOne 88 = .ok (.aload_n 0, 1) := by decide +kernel
theorem dX6_doneOne_89 : decode cX6_doneOne 89 = .ok (.iload_n 2, 1) := by decide +kernel
theorem dX6_doneOne_90 : decode cX6_doneOne 90 = .ok (.iload_n 3, 1) := by decide +kernel
theorem dX6_doneOne_91 : decode cX6_doneOne 91 = .ok (.invokevirtual 120, 3) := by decide +kernel
theorem dX6_doneOne_94 : decode cX6_doneOne 94 = .ok (.ireturn, 1) := by decide +kernel
theorem dX6_doneOne_95 : decode cX6_doneOne 95 = .ok (.aload_n 0, 1) := by decide +kernel
theorem dX6_doneOne_96 : decode cX6_doneOne 96 = .ok (.iload_n 2, 1) := by decide +kernel
theorem dX6_doneOne_97 : decode cX6_doneOne 97 = .ok (.invokevirtual 123, 3) := by decide +kernel
theorem dX6_doneOne_100 : decode cX6_doneOne 100 = .ok (.ireturn, 1) := by decide +kernel
theorem dX6_doneOne_101 : decode cX6_doneOne 101 = .ok (.aload_n 0, 1) := by decide +kernel
theorem dX6_doneOne_102 : decode cX6_doneOne 102 = .ok (.iload_n 2, 1) := by decide +kernel
theorem dX6_doneOne_103 : decode cX6_doneOne 103 = .ok (.iload_n 3, 1) := by decide +kernel
theorem dX6_doneOne_104 : decode cX6_doneOne 104 = .ok (.invokevirtual 126, 3) := by decide +kernel
theorem dX6_doneOne_107 : decode cX6_doneOne 107 = .ok (.ireturn, 1) := by decide +kernel
theorem dX6_doneOne_108 : decode cX6_doneOne 108 = .ok (.aload_n 0, 1) := by decide +kernel
theorem dX6_doneOne_109 : decode cX6_doneOne 109 = .ok (.bipush 11, 2) := by decide +kernel
theorem dX6_doneOne_111 : decode cX6_doneOne 111 = .ok (.iload_n 2, 1) := by decide +kernel
theorem dX6_doneOne_112 : decode cX6_doneOne 112 = .ok (.bipush 9, 2) := by decide +kernel
theorem dX6_doneOne_114 : decode cX6_doneOne 114 = .ok (.invokevirtual 113, 3) := by decide +kernel
theorem dX6_doneOne_117 : decode cX6_doneOne 117 = .ok (.ireturn, 1) := by decide +kernel
theorem dX6_doneOne_118 : decode cX6_doneOne 118 = .ok (.aload_n 0, 1) := by decide +kernel
theorem dX6_doneOne_119 : decode cX6_doneOne 119 = .ok (.bipush 12, 2) := by decide +kernel
theorem dX6_doneOne_121 : decode cX6_doneOne 121 = .ok (.iload_n 2, 1) := by decide +kernel
theorem dX6_doneOne_122 : decode cX6_doneOne 122 = .ok (.sipush 500, 3) := by decide +kernel
theorem dX6_doneOne_125 : decode cX6_doneOne 125 = .ok (.invokevirtual 113, 3) := by decide +kernel
theorem dX6_doneOne_128 : decode cX6_doneOne 128 = .ok (.ireturn, 1) := by decide +kernel
theorem dX6_doneOne_129 : decode cX6_doneOne 129 = .ok (.aload_n 0, 1) := by decide +kernel
theorem dX6_doneOne_130 : decode cX6_doneOne 130 = .ok (.iload_n 2, 1) := by decide +kernel
theorem dX6_doneOne_131 : decode cX6_doneOne 131 = .ok (.iload_n 3, 1) := by decide +kernel
theorem dX6_doneOne_132 : decode cX6_doneOne 132 = .ok (.invokevirtual 117, 3) := by decide +kernel
theorem dX6_doneOne_135 : decode cX6_doneOne 135 = .ok (.ireturn, 1) := by decide +kernel
set_option maxRecDepth 20000 in
theorem ggX6_does_X6_isRead : GoodIn wsX6_does wsX6_isRead := goodIn_r _ [10, 11, 2, 12, 13, 14, 15, 9, 16, 17, 18, 19, 20, 21, 22, 23, 24, 25, 26, 27, 28, 29, 30, 31, 32, 33, 34, 35, 36, 37, 1, 38, 39, 40, 41, 42, 111, 112, 113, 114, 115, 116, 117, 118, 119, 120, 121, 122, 123, 124, 125] (by decide +kernel) (by decide +kernel)
set_option maxRecDepth 20000 in
theorem gX6_does_X6_isRead : GoodIn wsX6_does (wsV RX6 178 RX6 yX6_isRead wsX6_isRead) := goodIn_app (goodIn_of _ (by decide +kernel)) ggX6_does_X6_isRead
set_option maxRecDepth 20000 in
theorem ggX6_does_X6_laysAside : GoodIn wsX6_does wsX6_laysAside := goodIn_r _ [46, 5, 4, 111, 112, 113, 114, 115, 116, 117, 118, 119, 120, 121, 122, 123, 124, 125] (by decide +kernel) (by decide +kernel)
set_option maxRecDepth 20000 in
theorem gX6_does_X6_laysAside : GoodIn wsX6_does (wsV RX6 100 RX6 yX6_laysAside wsX6_laysAside) := goodIn_app (goodIn_of _ (by decide +kernel)) ggX6_does_X6_laysAside
set_option maxRecDepth 20000 in
theorem ggX6_does_X6_doneOne : GoodIn wsX6_does wsX6_doneOne := goodIn_r _ [50, 42, 30, 51, 52, 53, 9, 54, 55, 56, 57, 3, 4, 58, 22, 23, 24, 59, 60, 61, 62, 63, 64, 65, 66, 67, 68, 69, 70, 71, 72, 73, 29, 74, 75, 76, 77, 78, 79, 80, 81, 82, 83, 84, 85, 86, 87, 88, 89, 90, 91, 92, 93, 94, 95, 96, 97, 98, 99, 100, 101, 102, 103, 104, 111, 112, 113, 114, 115, 116, 117, 118, 119, 120, 121, 122, 123, 124, 125] (by decide +kernel) (by decide +kernel)
set_option maxRecDepth 20000 in
theorem gX6_does_X6_doneOne : GoodIn wsX6_does (wsV RX6 181 RX6 yX6_doneOne wsX6_doneOne) := goodIn_app (goodIn_of _ (by decide +kernel)) ggX6_does_X6_doneOne
set_option maxRecDepth 20000 in
theorem ggX6_does_X6_remembers : GoodIn wsX6_does wsX6_remembers := goodIn_r _ [108, 109, 110, 5, 111, 112, 113, 114, 115, 116, 117, 118, 119, 120, 121, 122, 123, 124, 125] (by decide +kernel) (by decide +kernel)
set_option maxRecDepth 20000 in
theorem gX6_does_X6_remembers : GoodIn wsX6_does (wsV RX6 54 RX6 yX6_remembers wsX6_remembers) := goodIn_app (goodIn_of _ (by decide +kernel)) ggX6_does_X6_remembers
theorem dX6_does_0 : decode cX6_does 0 = .ok (.aload_n 0, 1) := by decide +kernel
theorem dX6_does_1 : decode cX6_does 1 = .ok (.invokevirtual 178, 3) := by decide +kernel
theorem dX6_does_4 : decode cX6_does 4 = .ok (.ifCond .ne 11, 3) := by decide +kernel
theorem dX6_does_7 : decode cX6_does 7 = .ok (.bipush (-10), 2) := by decide +kernel
theorem dX6_does_9 : decode cX6_does 9 = .ok (.aload_n 0, 1) := by decide +kernel
theorem dX6_does_10 : decode cX6_does 10 = .ok (.getfield 155, 3) := by decide +kernel
theorem dX6_does_13 : decode cX6_does 13 = .ok (.isub, 1) := by decide +kernel
theorem dX6_does_14 : decode cX6_does 14 = .ok (.ireturn, 1) := by decide +kernel
theorem dX6_does_15 : decode cX6_does 15 = .ok (.aload_n 0, 1) := by decide +kernel
theorem dX6_does_16 : decode cX6_does 16 = .ok (.invokevirtual 100, 3) := by decide +kernel
theorem dX6_does_19 : decode cX6_does 19 = .ok (.iconst 0, 1) := by decide +kernel
theorem dX6_does_20 : decode cX6_does 20 = .ok (.istore_n 1, 1) := by decide +kernel
theorem dX6_does_21 : decode cX6_does 21 = .ok (.iload_n 1, 1) := by decide +kernel
theorem dX6_does_22 : decode cX6_does 22 = .ok (.aload_n 0, 1) := by decide +kernel
theorem dX6_does_23 : decode cX6_does 23 = .ok (.getfield 168, 3) := by decide +kernel
theorem dX6_does_26 : decode cX6_does 26 = .ok (.if_icmp .ge 51, 3) := by decide +kernel
theorem dX6_does_29 : decode cX6_does 29 = .ok (.aload_n 0, 1) := by decide +kernel
theorem dX6_does_30 : decode cX6_does 30 = .ok (.iload_n 1, 1) := by decide +kernel
theorem dX6_does_31 : decode cX6_does 31 = .ok (.invokevirtual 181, 3) := by decide +kernel
theorem dX6_does_34 : decode cX6_does 34 = .ok (.ldc 44, 2) := by decide +kernel
theorem dX6_does_36 : decode cX6_does 36 = .ok (.if_icmp .gt 35, 3) := by decide +kernel
theorem dX6_does_39 : decode cX6_does 39 = .ok (.iconst 0, 1) := by decide +kernel
theorem dX6_does_40 : decode cX6_does 40 = .ok (.istore_n 2, 1) := by decide +kernel
theorem dX6_does_41 : decode cX6_does 41 = .ok (.iload_n 2, 1) := by decide +kernel
theorem dX6_does_42 : decode cX6_does 42 = .ok (.bipush 68, 2) := by decide +kernel
theorem dX6_does_44 : decode cX6_does 44 = .ok (.if_icmp .ge 21, 3) := by decide +kernel
theorem dX6_does_47 : decode cX6_does 47 = .ok (.aload_n 0, 1) := by decide +kernel
theorem dX6_does_48 : decode cX6_does 48 = .ok (.getfield 7, 3) := by decide +kernel
theorem dX6_does_51 : decode cX6_does 51 = .ok (.iload_n 2, 1) := by decide +kernel
theorem dX6_does_52 : decode cX6_does 52 = .ok (.aload_n 0, 1) := by decide +kernel
theorem dX6_does_53 : decode cX6_does 53 = .ok (.getfield 13, 3) := by decide +kernel
theorem dX6_does_56 : decode cX6_does 56 = .ok (.iload_n 2, 1) := by decide +kernel
theorem dX6_does_57 : decode cX6_does 57 = .ok (.laload, 1) := by decide +kernel
theorem dX6_does_58 : decode cX6_does 58 = .ok (.lastore, 1) := by decide +kernel
theorem dX6_does_59 : decode cX6_does 59 = .ok (.iinc 2 1, 3) := by decide +kernel
theorem dX6_does_62 : decode cX6_does 62 = .ok (.goto (-21), 3) := by decide +kernel
theorem dX6_does_65 : decode cX6_does 65 = .ok (.sipush (-1000), 3) := by decide +kernel
theorem dX6_does_68 : decode cX6_does 68 = .ok (.iload_n 1, 1) := by decide +kernel
theorem dX6_does_69 : decode cX6_does 69 = .ok (.isub, 1) := by decide +kernel
theorem dX6_does_70 : decode cX6_does 70 = .ok (.ireturn, 1) := by decide +kernel
theorem dX6_does_71 : decode cX6_does 71 = .ok (.iinc 1 1, 3) := by decide +kernel
theorem dX6_does_74 : decode cX6_does 74 = .ok (.goto (-53), 3) := by decide +kernel
theorem dX6_does_77 : decode cX6_does 77 = .ok (.aload_n 0, 1) := by decide +kernel
theorem dX6_does_78 : decode cX6_does 78 = .ok (.invokevirtual 54, 3) := by decide +kernel
theorem dX6_does_81 : decode cX6_does 81 = .ok (.aload_n 0, 1) := by decide +kernel
theorem dX6_does_82 : decode cX6_does 82 = .ok (.getfield 168, 3) := by decide +kernel
theorem dX6_does_85 : decode cX6_does 85 = .ok (.ireturn, 1) := by decide +kernel
theorem dX6_refusedOf_0 : decode cX6_refusedOf 0 = .ok (.iload_n 1, 1) := by decide +kernel
theorem dX6_refusedOf_1 : decode cX6_refusedOf 1 = .ok (.iconst 3, 1) := by decide +kernel
theorem dX6_refusedOf_2 : decode cX6_refusedOf 2 = .ok (.if_icmp .ge 12, 3) := by decide +kernel
theorem dX6_refusedOf_5 : decode cX6_refusedOf 5 = .ok (.aload_n 0, 1) := by decide +kernel
theorem dX6_refusedOf_6 : decode cX6_refusedOf 6 = .ok (.getfield 19, 3) := by decide +kernel
theorem dX6_refusedOf_9 : decode cX6_refusedOf 9 = .ok (.iload_n 1, 1) := by decide +kernel
theorem dX6_refusedOf_10 : decode cX6_refusedOf 10 = .ok (.iaload, 1) := by decide +kernel
theorem dX6_refusedOf_11 : decode cX6_refusedOf 11 = .ok (.goto 19, 3) := by decide +kernel
theorem dX6_refusedOf_14 : decode cX6_refusedOf 14 = .ok (.iload_n 1, 1) := by decide +kernel
theorem dX6_refusedOf_15 : decode cX6_refusedOf 15 = .ok (.iconst 3, 1) := by decide +kernel
theorem dX6_refusedOf_16 : decode cX6_refusedOf 16 = .ok (.if_icmp .ne 10, 3) := by decide +kernel
theorem dX6_refusedOf_19 : decode cX6_refusedOf 19 = .ok (.aload_n 0, 1) := by decide +kernel
theorem dX6_refusedOf_20 : decode cX6_refusedOf 20 = .ok (.getfield 144, 3) := by decide +kernel
theorem dX6_refusedOf_23 : decode cX6_refusedOf 23 = .ok (.goto 7, 3) := by decide +kernel
theorem dX6_refusedOf_26 : decode cX6_refusedOf 26 = .ok (.aload_n 0, 1) := by decide +kernel
theorem dX6_refusedOf_27 : decode cX6_refusedOf 27 = .ok (.getfield 45, 3) := by decide +kernel
theorem dX6_refusedOf_30 : decode cX6_refusedOf 30 = .ok (.ireturn, 1) := by decide +kernel
set_option maxRecDepth 20000 in
theorem ggX6_refused_X6_in : GoodIn wsX6_refused wsX6_in := goodIn_r _ [6] (by decide +kernel) (by decide +kernel)
set_option maxRecDepth 20000 in
theorem gX6_refused_X6_in : GoodIn wsX6_refused (va_wsS RX6 69 yX6_in wsX6_in) := goodIn_app (goodIn_of _ (by decide +kernel)) ggX6_refused_X6_in
set_option maxRecDepth 20000 in
theorem ggX6_refused_X6_refusedOf : GoodIn wsX6_refused wsX6_refusedOf := goodIn_r _ [10, 11, 12, 13, 18, 19, 20, 21, 22, 23, 24, 25, 26, 27, 28, 29, 30, 31, 32] (by decide +kernel) (by decide +kernel)
set_option maxRecDepth 20000 in
theorem gX6_refused_X6_refusedOf : GoodIn wsX6_refused (wsV RX6 186 RX6 yX6_refusedOf wsX6_refusedOf) := goodIn_app (goodIn_of _ (by decide +kernel)) ggX6_refused_X6_refusedOf
set_option maxRecDepth 20000 in
theorem ggX6_refused_X6_refuses : GoodIn wsX6_refused wsX6_refuses := goodIn_r _ [17, 11, 2, 18, 19, 20, 21, 22, 23, 24, 25, 26, 27, 28, 29, 30, 31, 32] (by decide +kernel) (by decide +kernel)
set_option maxRecDepth 20000 in
theorem gX6_refused_X6_refuses : GoodIn wsX6_refused (wsV RX6 50 RX6 yX6_refuses wsX6_refuses) := goodIn_app (goodIn_of _ (by decide +kernel)) ggX6_refused_X6_refuses
theorem dX6_refused_0 : decode cX6_refused 0 = .ok (.iload_n 1, 1) := by decide +kernel
theorem dX6_refused_1 : decode cX6_refused 1 = .ok (.i2l, 1) := by decide +kernel
theorem dX6_refused_2 : decode cX6_refused 2 = .ok (.lconst 0, 1) := by decide +kernel
theorem dX6_refused_3 : decode cX6_refused 3 = .ok (.ldc2_w 184, 3) := by decide +kernel
theorem dX6_refused_6 : decode cX6_refused 6 = .ok (.invokestatic 69, 3) := by decide +kernel
theorem dX6_refused_9 : decode cX6_refused 9 = .ok (.ifCond .eq 11, 3) := by decide +kernel
theorem dX6_refused_12 : decode cX6_refused 12 = .ok (.aload_n 0, 1) := by decide +kernel
theorem dX6_refused_13 : decode cX6_refused 13 = .ok (.iload_n 1, 1) := by decide +kernel
theorem dX6_refused_14 : decode cX6_refused 14 = .ok (.invokevirtual 186, 3) := by decide +kernel
theorem dX6_refused_17 : decode cX6_refused 17 = .ok (.goto 9, 3) := by decide +kernel
theorem dX6_refused_20 : decode cX6_refused 20 = .ok (.aload_n 0, 1) := by decide +kernel
theorem dX6_refused_21 : decode cX6_refused 21 = .ok (.ldc 44, 2) := by decide +kernel
theorem dX6_refused_23 : decode cX6_refused 23 = .ok (.invokevirtual 50, 3) := by decide +kernel
theorem dX6_refused_26 : decode cX6_refused 26 = .ok (.ireturn, 1) := by decide +kernel
theorem dX6_mix_0 : decode cX6_mix 0 = .ok (.aload_n 0, 1) := by decide +kernel
theorem dX6_mix_1 : decode cX6_mix 1 = .ok (.ldc2_w 189, 3) := by decide +kernel
theorem dX6_mix_4 : decode cX6_mix 4 = .ok (.aload_n 0, 1) := by decide +kernel
theorem dX6_mix_5 : decode cX6_mix 5 = .ok (.getfield 191, 3) := by decide +kernel
theorem dX6_mix_8 : decode cX6_mix 8 = .ok (.lmul, 1) := by decide +kernel
theorem dX6_mix_9 : decode cX6_mix 9 = .ok (.lload_n 1, 1) := by decide +kernel
theorem dX6_mix_10 : decode cX6_mix 10 = .ok (.ladd, 1) := by decide +kernel
theorem dX6_mix_11 : decode cX6_mix 11 = .ok (.putfield 191, 3) := by decide +kernel
theorem dX6_mix_14 : decode cX6_mix 14 = .ok (.return_, 1) := by decide +kernel
set_option maxRecDepth 20000 in
theorem ggX6_digest_X6_refusedOf : GoodIn wsX6_digest wsX6_refusedOf := goodIn_r _ [8, 9, 10, 11, 39, 40, 41, 42, 43, 44, 45, 46, 47, 48, 49, 50, 51, 52, 53] (by decide +kernel) (by decide +kernel)
set_option maxRecDepth 20000 in
theorem gX6_digest_X6_refusedOf : GoodIn wsX6_digest (wsV RX6 186 RX6 yX6_refusedOf wsX6_refusedOf) := goodIn_app (goodIn_of _ (by decide +kernel)) ggX6_digest_X6_refusedOf
set_option maxRecDepth 20000 in
theorem ggX6_digest_X6_mix : GoodIn wsX6_digest wsX6_mix := goodIn_r _ [15, 16, 2, 39, 40, 41, 42, 43, 44, 45, 46, 47, 48, 49, 50, 51, 52, 53] (by decide +kernel) (by decide +kernel)
set_option maxRecDepth 20000 in
theorem gX6_digest_X6_mix : GoodIn wsX6_digest (wsV RX6 197 RX6 yX6_mix wsX6_mix) := goodIn_app (goodIn_of _ (by decide +kernel)) ggX6_digest_X6_mix
set_option maxRecDepth 20000 in
theorem ggX6_digest_X6_toldOf : GoodIn wsX6_digest wsX6_toldOf := goodIn_r _ [20, 3, 21, 22, 23, 7, 24, 25, 39, 40, 41, 42, 43, 44, 45, 46, 47, 48, 49, 50, 51, 52, 53] (by decide +kernel) (by decide +kernel)
set_option maxRecDepth 20000 in
theorem gX6_digest_X6_toldOf : GoodIn wsX6_digest (wsV RX6 131 RX6 yX6_toldOf wsX6_toldOf) := goodIn_app (goodIn_of _ (by decide +kernel)) ggX6_digest_X6_toldOf
set_option maxRecDepth 20000 in
theorem ggX6_digest_X6_bands : GoodIn wsX6_digest wsX6_bands := goodIn_r _ [29, 3, 39, 40, 41, 42, 43, 44, 45, 46, 47, 48, 49, 50, 51, 52, 53] (by decide +kernel) (by decide +kernel)
set_option maxRecDepth 20000 in
theorem gX6_digest_X6_bands : GoodIn wsX6_digest (wsV RX6 201 RX6 yX6_bands wsX6_bands) := goodIn_app (goodIn_of _ (by decide +kernel)) ggX6_digest_X6_bands
set_option maxRecDepth 20000 in
theorem ggX6_digest_X6_bandOf : GoodIn wsX6_digest wsX6_bandOf := goodIn_r _ [33, 3, 34, 39, 40, 41, 42, 43, 44, 45, 46, 47, 48, 49, 50, 51, 52, 53] (by decide +kernel) (by decide +kernel)
set_option maxRecDepth 20000 in
theorem gX6_digest_X6_bandOf : GoodIn wsX6_digest (wsV RX6 134 RX6 yX6_bandOf wsX6_bandOf) := goodIn_app (goodIn_of _ (by decide +kernel)) ggX6_digest_X6_bandOf
set_option maxRecDepth 20000 in
theorem ggX6_digest_X6_lastsBy : GoodIn wsX6_digest wsX6_lastsBy := goodIn_r _ [38, 3, 34, 39, 40, 41, 42, 43, 44, 45, 46, 47, 48, 49, 50, 51, 52, 53] (by decide +kernel) (by decide +kernel)
set_option maxRecDepth 20000 in
theorem gX6_digest_X6_lastsBy : GoodIn wsX6_digest (wsV RX6 137 RX6 yX6_lastsBy wsX6_lastsBy) := goodIn_app (goodIn_of _ (by decide +kernel)) ggX6_digest_X6_lastsBy
theorem dX6_digest_0 : decode cX6_digest 0 = .ok (.aload_n 0, 1) := by decide +kernel
theorem dX6_digest_1 : decode cX6_digest 1 = .ok (.ldc2_w 195, 3) := by decide +kernel
theorem dX6_digest_4 : decode cX6_digest 4 = .ok (.putfield 191, 3) := by decide +kernel
theorem dX6_digest_7 : decode cX6_digest 7 = .ok (.iconst 0, 1) := by decide +kernel
theorem dX6_digest_8 : decode cX6_digest 8 = .ok (.istore_n 1, 1) := by decide +kernel
theorem dX6_digest_9 : decode cX6_digest 9 = .ok (.iload_n 1, 1) := by decide +kernel
theorem dX6_digest_10 : decode cX6_digest 10 = .ok (.iconst 5, 1) := by decide +kernel
theorem dX6_digest_11 : decode cX6_digest 11 = .ok (.if_icmp .ge 19, 3) := by decide +kernel
theorem dX6_digest_14 : decode cX6_digest 14 = .ok (.aload_n 0, 1) := by decide +kernel
theorem dX6_digest_15 : decode cX6_digest 15 = .ok (.aload_n 0, 1) := by decide +kernel
theorem dX6_digest_16 : decode cX6_digest 16 = .ok (.iload_n 1, 1) := by decide +kernel
theorem dX6_digest_17 : decode cX6_digest 17 = .ok (.invokevirtual 186, 3) := by decide +kernel
theorem dX6_digest_20 : decode cX6_digest 20 = .ok (.i2l, 1) := by decide +kernel
theorem dX6_digest_21 : decode cX6_digest 21 = .ok (.invokevirtual 197, 3) := by decide +kernel
theorem dX6_digest_24 : decode cX6_digest 24 = .ok (.iinc 1 1, 3) := by decide +kernel
theorem dX6_digest_27 : decode cX6_digest 27 = .ok (.goto (-18), 3) := by decide +kernel
theorem dX6_digest_30 : decode cX6_digest 30 = .ok (.iconst 0, 1) := by decide +kernel
theorem dX6_digest_31 : decode cX6_digest 31 = .ok (.istore_n 1, 1) := by decide +kernel
theorem dX6_digest_32 : decode cX6_digest 32 = .ok (.iload_n 1, 1) := by decide +kernel
theorem dX6_digest_33 : decode cX6_digest 33 = .ok (.bipush 12, 2) := by decide +kernel
theorem dX6_digest_35 : decode cX6_digest 35 = .ok (.if_icmp .ge 19, 3) := by decide +kernel
theorem dX6_digest_38 : decode cX6_digest 38 = .ok (.aload_n 0, 1) := by decide +kernel
theorem dX6_digest_39 : decode cX6_digest 39 = .ok (.aload_n 0, 1) := by decide +kernel
theorem dX6_digest_40 : decode cX6_digest 40 = .ok (.iload_n 1, 1) := by decide +kernel
theorem dX6_digest_41 : decode cX6_digest 41 = .ok (.invokevirtual 131, 3) := by decide +kernel
theorem dX6_digest_44 : decode cX6_digest 44 = .ok (.i2l, 1) := by decide +kernel
theorem dX6_digest_45 : decode cX6_digest 45 = .ok (.invokevirtual 197, 3) := by decide +kernel
theorem dX6_digest_48 : decode cX6_digest 48 = .ok (.iinc 1 1, 3) := by decide +kernel
theorem dX6_digest_51 : decode cX6_digest 51 = .ok (.goto (-19), 3) := by decide +kernel
theorem dX6_digest_54 : decode cX6_digest 54 = .ok (.iconst 0, 1) := by decide +kernel
theorem dX6_digest_55 : decode cX6_digest 55 = .ok (.istore_n 1, 1) := by decide +kernel
theorem dX6_digest_56 : decode cX6_digest 56 = .ok (.iload_n 1, 1) := by decide +kernel
theorem dX6_digest_57 : decode cX6_digest 57 = .ok (.bipush 13, 2) := by decide +kernel
theorem dX6_digest_59 : decode cX6_digest 59 = .ok (.if_icmp .ge 22, 3) := by decide +kernel
theorem dX6_digest_62 : decode cX6_digest 62 = .ok (.aload_n 0, 1) := by decide +kernel
theorem dX6_digest_63 : decode cX6_digest 63 = .ok (.aload_n 0, 1) := by decide +kernel
theorem dX6_digest_64 : decode cX6_digest 64 = .ok (.getfield 7, 3) := by decide +kernel
theorem dX6_digest_67 : decode cX6_digest 67 = .ok (.bipush 11, 2) := by decide +kernel
theorem dX6_digest_69 : decode cX6_digest 69 = .ok (.iload_n 1, 1) := by decide +kernel
theorem dX6_digest_70 : decode cX6_digest 70 = .ok (.iadd, 1) := by decide +kernel
theorem dX6_digest_71 : decode cX6_digest 71 = .ok (.laload, 1) := by decide +kernel
theorem dX6_digest_72 : decode cX6_digest 72 = .ok (.invokevirtual 197, 3) := by decide +kernel
theorem dX6_digest_75 : decode cX6_digest 75 = .ok (.iinc 1 1, 3) := by decide +kernel
theorem dX6_digest_78 : decode cX6_digest 78 = .ok (.goto (-22), 3) := by decide +kernel
theorem dX6_digest_81 : decode cX6_digest 81 = .ok (.aload_n 0, 1) := by decide +kernel
theorem dX6_digest_82 : decode cX6_digest 82 = .ok (.aload_n 0, 1) := by decide +kernel
theorem dX6_digest_83 : decode cX6_digest 83 = .ok (.invokevirtual 201, 3) := by decide +kernel
theorem dX6_digest_86 : decode cX6_digest 86 = .ok (.i2l, 1) := by decide +kernel
theorem dX6_digest_87 : decode cX6_digest 87 = .ok (.invokevirtual 197, 3) := by decide +kernel
theorem dX6_digest_90 : decode cX6_digest 90 = .ok (.iconst 0, 1) := by decide +kernel
theorem dX6_digest_91 : decode cX6_digest 91 = .ok (.istore_n 1, 1) := by decide +kernel
theorem dX6_digest_92 : decode cX6_digest 92 = .ok (.iload_n 1, 1) := by decide +kernel
theorem dX6_digest_93 : decode cX6_digest 93 = .ok (.bipush 22, 2) := by decide +kernel
theorem dX6_digest_95 : decode cX6_digest 95 = .ok (.if_icmp .ge 31, 3) := by decide +kernel
theorem dX6_digest_98 : decode cX6_digest 98 = .ok (.aload_n 0, 1) := by decide +kernel
theorem dX6_digest_99 : decode cX6_digest 99 = .ok (.aload_n 0, 1) := by decide +kernel
theorem dX6_digest_100 : decode cX6_digest 100 = .ok (.iload_n 1, 1) := by decide +kernel
theorem dX6_digest_101 : decode cX6_digest 101 = .ok (.iconst 0, 1) := by decide +kernel
theorem dX6_digest_102 : decode cX6_digest 102 = .ok (.invokevirtual 134, 3) := by decide +kernel
theorem dX6_digest_105 : decode cX6_digest 105 = .ok (.i2l, 1) := by decide +kernel
theorem dX6_digest_106 : decode cX6_digest 106 = .ok (.invokevirtual 197, 3) := by decide +kernel
theorem dX6_digest_109 : decode cX6_digest 109 = .ok (.aload_n 0, 1) := by decide +kernel
theorem dX6_digest_110 : decode cX6_digest 110 = .ok (.aload_n 0, 1) := by decide +kernel
theorem dX6_digest_111 : decode cX6_digest 111 = .ok (.iload_n 1, 1) := by decide +kernel
theorem dX6_digest_112 : decode cX6_digest 112 = .ok (.iconst 1, 1) := by decide +kernel
theorem dX6_digest_113 : decode cX6_digest 113 = .ok (.invokevirtual 134, 3) := by decide +kernel
theorem dX6_digest_116 : decode cX6_digest 116 = .ok (.i2l, 1) := by decide +kernel
theorem dX6_digest_117 : decode cX6_digest 117 = .ok (.invokevirtual 197, 3) := by decide +kernel
theorem dX6_digest_120 : decode cX6_digest 120 = .ok (.iinc 1 1, 3) := by decide +kernel
theorem dX6_digest_123 : decode cX6_digest 123 = .ok (.goto (-31), 3) := by decide +kernel
theorem dX6_digest_126 : decode cX6_digest 126 = .ok (.iconst 1, 1) := by decide +kernel
theorem dX6_digest_127 : decode cX6_digest 127 = .ok (.istore_n 1, 1) := by decide +kernel
theorem dX6_digest_128 : decode cX6_digest 128 = .ok (.iload_n 1, 1) := by decide +kernel
theorem dX6_digest_129 : decode cX6_digest 129 = .ok (.iconst 4, 1) := by decide +kernel
theorem dX6_digest_130 : decode cX6_digest 130 = .ok (.if_icmp .ge 31, 3) := by decide +kernel
theorem dX6_digest_133 : decode cX6_digest 133 = .ok (.aload_n 0, 1) := by decide +kernel
theorem dX6_digest_134 : decode cX6_digest 134 = .ok (.aload_n 0, 1) := by decide +kernel
theorem dX6_digest_135 : decode cX6_digest 135 = .ok (.iload_n 1, 1) := by decide +kernel
theorem dX6_digest_136 : decode cX6_digest 136 = .ok (.iconst 0, 1) := by decide +kernel
theorem dX6_digest_137 : decode cX6_digest 137 = .ok (.invokevirtual 137, 3) := by decide +kernel
theorem dX6_digest_140 : decode cX6_digest 140 = .ok (.i2l, 1) := by decide +kernel
theorem dX6_digest_141 : decode cX6_digest 141 = .ok (.invokevirtual 197, 3) := by decide +kernel
theorem dX6_digest_144 : decode cX6_digest 144 = .ok (.aload_n 0, 1) := by decide +kernel
theorem dX6_digest_145 : decode cX6_digest 145 = .ok (.aload_n 0, 1) := by decide +kernel
theorem dX6_digest_146 : decode cX6_digest 146 = .ok (.iload_n 1, 1) := by decide +kernel
theorem dX6_digest_147 : decode cX6_digest 147 = .ok (.iconst 1, 1) := by decide +kernel
theorem dX6_digest_148 : decode cX6_digest 148 = .ok (.invokevirtual 137, 3) := by decide +kernel
theorem dX6_digest_151 : decode cX6_digest 151 = .ok (.i2l, 1) := by decide +kernel
theorem dX6_digest_152 : decode cX6_digest 152 = .ok (.invokevirtual 197, 3) := by decide +kernel
theorem dX6_digest_155 : decode cX6_digest 155 = .ok (.iinc 1 1, 3) := by decide +kernel
theorem dX6_digest_158 : decode cX6_digest 158 = .ok (.goto (-30), 3) := by decide +kernel
theorem dX6_digest_161 : decode cX6_digest 161 = .ok (.aload_n 0, 1) := by decide +kernel
theorem dX6_digest_162 : decode cX6_digest 162 = .ok (.getfield 191, 3) := by decide +kernel
theorem dX6_digest_165 : decode cX6_digest 165 = .ok (.lreturn, 1) := by decide +kernel
theorem dJ9_max_7cf53_0 : decode cJ9_max_7cf53 0 = .ok (.iload_n 0, 1) := by decide +kernel
theorem dJ9_max_7cf53_1 : decode cJ9_max_7cf53 1 = .ok (.iload_n 1, 1) := by decide +kernel
theorem dJ9_max_7cf53_2 : decode cJ9_max_7cf53 2 = .ok (.if_icmp .lt 7, 3) := by decide +kernel
theorem dJ9_max_7cf53_5 : decode cJ9_max_7cf53 5 = .ok (.iload_n 0, 1) := by decide +kernel
theorem dJ9_max_7cf53_6 : decode cJ9_max_7cf53 6 = .ok (.goto 4, 3) := by decide +kernel
theorem dJ9_max_7cf53_9 : decode cJ9_max_7cf53 9 = .ok (.iload_n 1, 1) := by decide +kernel
theorem dJ9_max_7cf53_10 : decode cJ9_max_7cf53 10 = .ok (.ireturn, 1) := by decide +kernel
theorem dJ9_max_f86c9_0 : decode cJ9_max_f86c9 0 = .ok (.lload_n 0, 1) := by decide +kernel
theorem dJ9_max_f86c9_1 : decode cJ9_max_f86c9 1 = .ok (.lload_n 2, 1) := by decide +kernel
theorem dJ9_max_f86c9_2 : decode cJ9_max_f86c9 2 = .ok (.lcmp, 1) := by decide +kernel
theorem dJ9_max_f86c9_3 : decode cJ9_max_f86c9 3 = .ok (.ifCond .lt 7, 3) := by decide +kernel
theorem dJ9_max_f86c9_6 : decode cJ9_max_f86c9 6 = .ok (.lload_n 0, 1) := by decide +kernel
theorem dJ9_max_f86c9_7 : decode cJ9_max_f86c9 7 = .ok (.goto 4, 3) := by decide +kernel
theorem dJ9_max_f86c9_10 : decode cJ9_max_f86c9 10 = .ok (.lload_n 2, 1) := by decide +kernel
theorem dJ9_max_f86c9_11 : decode cJ9_max_f86c9 11 = .ok (.lreturn, 1) := by decide +kernel
theorem dJ9_min_7cf53_0 : decode cJ9_min_7cf53 0 = .ok (.iload_n 0, 1) := by decide +kernel
theorem dJ9_min_7cf53_1 : decode cJ9_min_7cf53 1 = .ok (.iload_n 1, 1) := by decide +kernel
theorem dJ9_min_7cf53_2 : decode cJ9_min_7cf53 2 = .ok (.if_icmp .gt 7, 3) := by decide +kernel
theorem dJ9_min_7cf53_5 : decode cJ9_min_7cf53 5 = .ok (.iload_n 0, 1) := by decide +kernel
theorem dJ9_min_7cf53_6 : decode cJ9_min_7cf53 6 = .ok (.goto 4, 3) := by decide +kernel
theorem dJ9_min_7cf53_9 : decode cJ9_min_7cf53 9 = .ok (.iload_n 1, 1) := by decide +kernel
theorem dJ9_min_7cf53_10 : decode cJ9_min_7cf53 10 = .ok (.ireturn, 1) := by decide +kernel
theorem dJ9_min_f86c9_0 : decode cJ9_min_f86c9 0 = .ok (.lload_n 0, 1) := by decide +kernel
theorem dJ9_min_f86c9_1 : decode cJ9_min_f86c9 1 = .ok (.lload_n 2, 1) := by decide +kernel
theorem dJ9_min_f86c9_2 : decode cJ9_min_f86c9 2 = .ok (.lcmp, 1) := by decide +kernel
theorem dJ9_min_f86c9_3 : decode cJ9_min_f86c9 3 = .ok (.ifCond .gt 7, 3) := by decide +kernel
theorem dJ9_min_f86c9_6 : decode cJ9_min_f86c9 6 = .ok (.lload_n 0, 1) := by decide +kernel
theorem dJ9_min_f86c9_7 : decode cJ9_min_f86c9 7 = .ok (.goto 4, 3) := by decide +kernel
theorem dJ9_min_f86c9_10 : decode cJ9_min_f86c9 10 = .ok (.lload_n 2, 1) := by decide +kernel
theorem dJ9_min_f86c9_11 : decode cJ9_min_f86c9 11 = .ok (.lreturn, 1) := by decide +kernel
end
section
abbrev vwCl : List vw_C := [(RX0, TX0, 2), (RX1, TX1, 15), (RX2, TX2, 1), (RX3, TX3, 3), (RX4, TX4, 8), (RX5, TX5, 6), (RX6, TX6, 15)]
end
section
/-! THE LAYER: contracts of methods that make nothing, over a world of cells; calls by chunks of the world; compares of longs -/
abbrev gEnv : Type := va_G × ClassId × ClassId × ClassId × ClassId
abbrev eI (E : gEnv) : ClassId := E.2.1
abbrev eJ (E : gEnv) : ClassId := E.2.2.1
abbrev eB (E : gEnv) : ClassId := E.2.2.2.1
abbrev eO (E : gEnv) : ClassId := E.2.2.2.2
abbrev gTy (E : gEnv) : List (ClassId × FieldType) := [(eI E, .int), (eJ E, .long), (eB E, .byte), (eO E, .object RX1)]
def gNL (U : State) : Prop := va_Nw (.methodLinkNest RX0 31 yX5_within RX5) U ∧ va_Nw (.methodLinkNest RX1 81 yX5_within RX5) U ∧ va_Nw (.methodLinkNest RX2 21 yX5_within RX5) U ∧ va_Nw (.methodLinkNest RX4 29 yX5_within RX5) U
theorem gNL_warm {s U : State} (hW : s.WarmedH U.vm) (h : gNL s) : gNL U := ⟨va_Nw.warmM hW h.1, va_Nw.warmM hW h.2.1, va_Nw.warmM hW h.2.2.1, va_Nw.warmM hW h.2.2.2⟩
theorem gNL_calling {U : State} {g : JFrame} {mk : MethodId} {a : Array Value} (h : gNL U) : gNL (U.calling g mk a) := ⟨va_Nw.same rfl rfl h.1, va_Nw.same rfl rfl h.2.1, va_Nw.same rfl rfl h.2.2.1, va_Nw.same rfl rfl h.2.2.2⟩
def gKn (E : gEnv) (U : State) : Prop := va_K E.1 vwCl (gTy E) U ∧ gNL U
theorem gKn_warm {E : gEnv} {s U : State} (hW : s.WarmedH U.vm) (h : gKn E s) : gKn E U := ⟨va_K.moved hW.alike h.1, gNL_warm hW h.2⟩
theorem gKn_calling {E : gEnv} {U : State} {g : JFrame} {mk : MethodId} {a : Array Value} (h : gKn E U) : gKn E (U.calling g mk a) := ⟨va_K.moved (u := U) (U := U.calling g mk a) (Vm.Alike.refl U.vm) h.1, gNL_calling h.2⟩
def gPre (E : gEnv) (w : va_W) (sz : Nat) (U : State) : Prop := U.heap.size = sz ∧ va_P E.1 vwCl w U.heap ∧ gKn E U ∧ va_D (fun _ => True) w
def gPost (E : gEnv) (w : va_W) (A : Nat → Prop) (t : State) : Prop := va_P E.1 vwCl w t.heap ∧ va_D A w
theorem gPre_blind {E : gEnv} {w : va_W} {sz : Nat} {av : List Value} : FrameBlind (va_Pc av (gPre E w sz)) := by
  intro a U g mk q
  obtain ⟨q0, q1, qP, qK, qD⟩ := q
  exact ⟨q0, q1, qP, gKn_calling qK, qD⟩
/-- a method that answers f and leaves the world w' -/
def gMi (l : Launch) (E : gEnv) (y : MethodName) (ws : List Cond) (rm : Room) (av : List Value) (w : va_W) (f : Int32) (w' : va_W) : Prop := ∀ sz : Nat, Met l y ws rm (va_Pc av (gPre E w sz)) (va_Qi (fun r (_ : Unit) => r = f) (fun _ t => gPost E w' (va_A w sz) t) (va_A w sz)) 0 0 (va_A w sz)
def gMl (l : Launch) (E : gEnv) (y : MethodName) (ws : List Cond) (rm : Room) (av : List Value) (w : va_W) (f : Int64) (w' : va_W) : Prop := ∀ sz : Nat, Met l y ws rm (va_Pc av (gPre E w sz)) (va_Ql (fun r (_ : Unit) => r = f) (fun _ t => gPost E w' (va_A w sz) t) (va_A w sz)) 0 0 (va_A w sz)
def gMv (l : Launch) (E : gEnv) (y : MethodName) (ws : List Cond) (rm : Room) (av : List Value) (w : va_W) (w' : va_W) : Prop := ∀ sz : Nat, Met l y ws rm (va_Pc av (gPre E w sz)) (va_Qv (fun (_ : Unit) => True) (fun _ t => gPost E w' (va_A w sz) t) (va_A w sz)) 0 0 (va_A w sz)
/-- how a walk may end -/
abbrev gRi (p : Program) (l : Launch) (e : Env) (R : Room) (s : State) (m : MethodId) (args : Array Value) (below : List Frame) (meth : Method) (c : Code) (A : Nat → Prop) (Q : State → Prop) (E : gEnv) (cc : ByteArray) (f : Int32) (w' : va_W) : Prop :=
  ∀ (H : Heap) (locs : List Loc) (v : Int32) (pc : Nat) (ls : Array Slot), v = f → va_P E.1 vwCl w' H → va_D A w' → va_S A s.heap H locs → decode cc pc = .ok (.ireturn, 1) → W p l e R s m args below meth c H locs 0 0 Q (F0 m pc ls [.int v])
abbrev gRl (p : Program) (l : Launch) (e : Env) (R : Room) (s : State) (m : MethodId) (args : Array Value) (below : List Frame) (meth : Method) (c : Code) (A : Nat → Prop) (Q : State → Prop) (E : gEnv) (cc : ByteArray) (f : Int64) (w' : va_W) : Prop :=
  ∀ (H : Heap) (locs : List Loc) (v : Int64) (pc : Nat) (ls : Array Slot), v = f → va_P E.1 vwCl w' H → va_D A w' → va_S A s.heap H locs → decode cc pc = .ok (.lreturn, 1) → W p l e R s m args below meth c H locs 0 0 Q (F0 m pc ls [.long v])
abbrev gRv (p : Program) (l : Launch) (e : Env) (R : Room) (s : State) (m : MethodId) (args : Array Value) (below : List Frame) (meth : Method) (c : Code) (A : Nat → Prop) (Q : State → Prop) (E : gEnv) (cc : ByteArray) (w' : va_W) : Prop :=
  ∀ (H : Heap) (locs : List Loc) (pc : Nat) (ls : Array Slot), va_P E.1 vwCl w' H → va_D A w' → va_S A s.heap H locs → decode cc pc = .ok (.return_, 1) → W p l e R s m args below meth c H locs 0 0 Q (F0 m pc ls [])
/-- what a walk begins with -/
abbrev gB0 (l : Launch) (E : gEnv) (y : MethodName) (ws : List Cond) (cc : ByteArray) (maxL : Nat) (av : List Value) (w : va_W) (p : Program) (s : State) (m : MethodId) (args : Array Value) (c : Code) (A : Nat → Prop) (ls : Array Slot) : Prop :=
  p.tables.exec = Jvm.exec ∧ c.code = cc ∧ c.maxLocals = maxL ∧ s.vm.findClass y.cls = some m.cls ∧ (∀ w ∈ ws, w.before args s = true) ∧ gKn E s ∧ va_P E.1 vwCl w s.heap ∧ va_D A w ∧ (∀ q, s.heap.size ≤ q → A q) ∧ va_S A s.heap s.heap [] ∧ lv_has ls maxL (lv_args 0 av)
section OF
variable {l : Launch} {E : gEnv} {y : MethodName} {ws ws' : List Cond} {rm : Room} {av : List Value} {w w' : va_W} {cc : ByteArray} {maxL : Nat} {ret : Option FieldType}
theorem gMi_of {f : Int32} (hy : plainName y.cls = true) (hw : ws = Cond.code y cc maxL ret :: ws') (hret : ret = some .int) (hlen : (lg_sl av).length ≤ maxL)
    (body : ∀ (p : Program) (e : Env) (s : State) (m : MethodId) (args : Array Value) (below : List Frame) (meth : Method) (c : Code) (A : Nat → Prop) (Q : State → Prop) (ls : Array Slot), gB0 l E y ws cc maxL av w p s m args c A ls → gRi p l e rm s m args below meth c A Q E cc f w' → W p l e rm s m args below meth c s.heap [] 0 0 Q (F0 m 0 ls [])) : gMi l E y ws rm av w f w' := by
  intro sz
  refine Met.ofW (cc := cc) (maxL := maxL) (ret := ret) hy hw ?_
  intro p e s m args below meth c s₁ B hml hv
  obtain ⟨rfl, hsz, hP, hK, hD0⟩ := hv
  have hr := B.returns
  have hts := atoms_spec (ws := ws) B.pre
  have hown : s.vm.findClass y.cls = some m.cls := findClass_of_methodNamed B.named
  subst hsz
  have hD := hD0.self (sz := s.heap.size)
  have hl := lv_entry av (n := maxL) hlen
  rw [lg_entry_eq]
  generalize (lg_sl av ++ List.replicate (maxL - (lg_sl av).length) Slot.unset).toArray = ls at hl ⊢
  exact body p e s m _ below meth c _ _ ls ⟨B.exec, B.bytes, hml, hown, hts, hK, hP, hD, fun q h => Or.inr h, va_S.rf, hl⟩ (fun H locs v pc ls hv hP hD hS hd => W.iret (v := v) B.exec B.bytes (hr.trans hret) (fun t ht hW => ⟨⟨v, (), rfl, hv, by rw [ht]; exact hP, hD⟩, hS.F ht⟩) hS.2.2 hd B.notSynchronized)
theorem gMz_of {f : Int32} (hy : plainName y.cls = true) (hw : ws = Cond.code y cc maxL ret :: ws') (hret : ret = some .boolean) (hlen : (lg_sl av).length ≤ maxL) (hn : narrow .boolean (.int f) = .int f)
    (body : ∀ (p : Program) (e : Env) (s : State) (m : MethodId) (args : Array Value) (below : List Frame) (meth : Method) (c : Code) (A : Nat → Prop) (Q : State → Prop) (ls : Array Slot), gB0 l E y ws cc maxL av w p s m args c A ls → gRi p l e rm s m args below meth c A Q E cc f w' → W p l e rm s m args below meth c s.heap [] 0 0 Q (F0 m 0 ls [])) : gMi l E y ws rm av w f w' := by
  intro sz
  refine Met.ofW (cc := cc) (maxL := maxL) (ret := ret) hy hw ?_
  intro p e s m args below meth c s₁ B hml hv
  obtain ⟨rfl, hsz, hP, hK, hD0⟩ := hv
  have hr := B.returns
  have hts := atoms_spec (ws := ws) B.pre
  have hown : s.vm.findClass y.cls = some m.cls := findClass_of_methodNamed B.named
  subst hsz
  have hD := hD0.self (sz := s.heap.size)
  have hl := lv_entry av (n := maxL) hlen
  rw [lg_entry_eq]
  generalize (lg_sl av ++ List.replicate (maxL - (lg_sl av).length) Slot.unset).toArray = ls at hl ⊢
  exact body p e s m _ below meth c _ _ ls ⟨B.exec, B.bytes, hml, hown, hts, hK, hP, hD, fun q h => Or.inr h, va_S.rf, hl⟩ (fun H locs v pc ls hv hP hD hS hd => W.zret (v := v) B.exec B.bytes (hr.trans hret) (by rw [hv]; exact hn) (fun t ht hW => ⟨⟨v, (), rfl, hv, by rw [ht]; exact hP, hD⟩, hS.F ht⟩) hS.2.2 hd B.notSynchronized)
theorem gMl_of {f : Int64} (hy : plainName y.cls = true) (hw : ws = Cond.code y cc maxL ret :: ws') (hret : ret = some .long) (hlen : (lg_sl av).length ≤ maxL)
    (body : ∀ (p : Program) (e : Env) (s : State) (m : MethodId) (args : Array Value) (below : List Frame) (meth : Method) (c : Code) (A : Nat → Prop) (Q : State → Prop) (ls : Array Slot), gB0 l E y ws cc maxL av w p s m args c A ls → gRl p l e rm s m args below meth c A Q E cc f w' → W p l e rm s m args below meth c s.heap [] 0 0 Q (F0 m 0 ls [])) : gMl l E y ws rm av w f w' := by
  intro sz
  refine Met.ofW (cc := cc) (maxL := maxL) (ret := ret) hy hw ?_
  intro p e s m args below meth c s₁ B hml hv
  obtain ⟨rfl, hsz, hP, hK, hD0⟩ := hv
  have hr := B.returns
  have hts := atoms_spec (ws := ws) B.pre
  have hown : s.vm.findClass y.cls = some m.cls := findClass_of_methodNamed B.named
  subst hsz
  have hD := hD0.self (sz := s.heap.size)
  have hl := lv_entry av (n := maxL) hlen
  rw [lg_entry_eq]
  generalize (lg_sl av ++ List.replicate (maxL - (lg_sl av).length) Slot.unset).toArray = ls at hl ⊢
  exact body p e s m _ below meth c _ _ ls ⟨B.exec, B.bytes, hml, hown, hts, hK, hP, hD, fun q h => Or.inr h, va_S.rf, hl⟩ (fun H locs v pc ls hv hP hD hS hd => W.lret (v := v) B.exec B.bytes (hr.trans hret) (fun t ht hW => ⟨⟨v, (), rfl, hv, by rw [ht]; exact hP, hD⟩, hS.F ht⟩) hS.2.2 hd B.notSynchronized)
theorem gMv_of (hy : plainName y.cls = true) (hw : ws = Cond.code y cc maxL ret :: ws') (hret : ret = none) (hlen : (lg_sl av).length ≤ maxL)
    (body : ∀ (p : Program) (e : Env) (s : State) (m : MethodId) (args : Array Value) (below : List Frame) (meth : Method) (c : Code) (A : Nat → Prop) (Q : State → Prop) (ls : Array Slot), gB0 l E y ws cc maxL av w p s m args c A ls → gRv p l e rm s m args below meth c A Q E cc w' → W p l e rm s m args below meth c s.heap [] 0 0 Q (F0 m 0 ls [])) : gMv l E y ws rm av w w' := by
  intro sz
  refine Met.ofW (cc := cc) (maxL := maxL) (ret := ret) hy hw ?_
  intro p e s m args below meth c s₁ B hml hv
  obtain ⟨rfl, hsz, hP, hK, hD0⟩ := hv
  have hr := B.returns
  have hts := atoms_spec (ws := ws) B.pre
  have hown : s.vm.findClass y.cls = some m.cls := findClass_of_methodNamed B.named
  subst hsz
  have hD := hD0.self (sz := s.heap.size)
  have hl := lv_entry av (n := maxL) hlen
  rw [lg_entry_eq]
  generalize (lg_sl av ++ List.replicate (maxL - (lg_sl av).length) Slot.unset).toArray = ls at hl ⊢
  exact body p e s m _ below meth c _ _ ls ⟨B.exec, B.bytes, hml, hown, hts, hK, hP, hD, fun q h => Or.inr h, va_S.rf, hl⟩ (fun H locs pc ls hP hD hS hd => W.vret B.exec B.bytes (hr.trans hret) (fun t ht hW => ⟨⟨(), rfl, trivial, by rw [ht]; exact hP, hD⟩, hS.F ht⟩) hS.2.2 hd B.notSynchronized)
end OF
theorem gP_l {D : va_G} {cl : List vw_C} {a b : va_W} {H : Heap} (h : va_P D cl (a ++ b) H) : va_P D cl a H := fun k q hk => h k q (by rw [List.getElem?_append_left (List.getElem?_eq_some_iff.mp hk).1]; exact hk)
theorem gP_r {D : va_G} {cl : List vw_C} {a b : va_W} {H : Heap} (h : va_P D cl (a ++ b) H) : va_P D cl b H := fun k q hk => h (a.length + k) q (by rw [List.getElem?_append_right (Nat.le_add_right _ _), Nat.add_sub_cancel_left]; exact hk)
theorem gD_l {A : Nat → Prop} {a b : va_W} (h : va_D A (a ++ b)) : va_D A a := by
  have e : ∀ (k : Nat) (q : Nat × va_E), a[k]? = some q → (a ++ b)[k]? = some q := fun k q hk => by rw [List.getElem?_append_left (List.getElem?_eq_some_iff.mp hk).1]; exact hk
  exact ⟨fun i j p q hi hj => h.1 i j p q (e i p hi) (e j q hj), fun k q hk => h.2 k q (e k q hk)⟩
theorem gD_r {A : Nat → Prop} {a b : va_W} (h : va_D A (a ++ b)) : va_D A b := by
  have e : ∀ (k : Nat) (q : Nat × va_E), b[k]? = some q → (a ++ b)[a.length + k]? = some q := fun k q hk => by rw [List.getElem?_append_right (Nat.le_add_right _ _), Nat.add_sub_cancel_left]; exact hk
  exact ⟨fun i j p q hi hj hpq => by have := h.1 _ _ p q (e i p hi) (e j q hj) hpq; omega, fun k q hk => h.2 _ q (e k q hk)⟩
theorem gD_x {A : Nat → Prop} {a b : va_W} (h : va_D A (a ++ b)) {x y : Nat × va_E} (hx : x ∈ a) (hy : y ∈ b) : x.1 ≠ y.1 := by
  obtain ⟨i, hi⟩ := List.getElem?_of_mem hx
  obtain ⟨j, hj⟩ := List.getElem?_of_mem hy
  have hl := (List.getElem?_eq_some_iff.mp hi).1
  intro e
  have := h.1 i (a.length + j) x y (by rw [List.getElem?_append_left hl]; exact hi) (by rw [List.getElem?_append_right (Nat.le_add_right _ _), Nat.add_sub_cancel_left]; exact hj) e
  omega
theorem g_free {A : Nat → Prop} {pre wc post : va_W} {H0 H : Heap} {locs : List Loc} (hD : va_D A (pre ++ (wc ++ post))) (hS : va_S A H0 H locs) (hA : ∀ q, H0.size ≤ q → A q) : ∀ q, va_A wc H.size q → A q := by
  rintro q (⟨k, e, h⟩ | h)
  · exact (gD_l (gD_r hD)).2 k (q, e) h
  · exact hA q (Nat.le_trans hS.1 h)
/-- the frame rule: a chunk of the world is another, the rest stays -/
theorem g_join {D : va_G} {cl : List vw_C} {A : Nat → Prop} {pre wc post wc' : va_W} {H H1 : Heap} (hP : va_P D cl (pre ++ (wc ++ post)) H) (hD : va_D A (pre ++ (wc ++ post))) (hk : ∀ q : Nat, q < H.size → ¬ va_A wc H.size q → H1[q]? = H[q]?) (hF : ∀ q, va_A wc H.size q → A q) (hP1 : va_P D cl wc' H1) (hD1 : va_D (va_A wc H.size) wc') : va_P D cl (pre ++ (wc' ++ post)) H1 ∧ va_D A (pre ++ (wc' ++ post)) := by
  have hPp := gP_l hP
  have hPo := gP_r (gP_r hP)
  have hDr := gD_r hD
  have out1 : ∀ (k : Nat) (q : Nat × va_E), pre[k]? = some q → q.1 < H.size ∧ ¬ va_A wc H.size q.1 := by
    intro k q hk
    refine ⟨(hPp k q hk).lt, ?_⟩
    rintro (⟨j, e, hj⟩ | h)
    · exact gD_x hD (List.mem_of_getElem? hk) (List.mem_append_left _ (List.mem_of_getElem? hj)) rfl
    · exact absurd (hPp k q hk).lt (Nat.not_lt.mpr h)
  have out2 : ∀ (k : Nat) (q : Nat × va_E), post[k]? = some q → q.1 < H.size ∧ ¬ va_A wc H.size q.1 := by
    intro k q hk
    refine ⟨(hPo k q hk).lt, ?_⟩
    rintro (⟨j, e, hj⟩ | h)
    · exact gD_x hDr (List.mem_of_getElem? hj) (List.mem_of_getElem? hk) rfl
    · exact absurd (hPo k q hk).lt (Nat.not_lt.mpr h)
  refine ⟨va_P.app (va_P.kept hPp (fun k q h => hk _ (out1 k q h).1 (out1 k q h).2)) (va_P.app hP1 (va_P.kept hPo (fun k q h => hk _ (out2 k q h).1 (out2 k q h).2))), ?_⟩
  refine va_D.app (gD_l hD) (va_D.app (hD1.weaken (fun _ q _ h => hF q.1 h)) (gD_r hDr) (fun i j x y hx hy e => ?_)) (fun i j x y hx hy e => ?_)
  · have h1 := hD1.2 i x hx
    rw [e] at h1
    exact (out2 j y hy).2 h1
  · rcases List.mem_append.mp (List.mem_of_getElem? hy) with h | h
    · obtain ⟨k, hk⟩ := List.getElem?_of_mem h
      have h1 := hD1.2 k y hk
      rw [← e] at h1
      exact (out1 i x hx).2 h1
    · exact gD_x hD (List.mem_of_getElem? hx) (List.mem_append_right _ h) e
theorem g_preV {s : State} {H : Heap} {E : gEnv} {A : Nat → Prop} {wc : va_W} {b q0 ci : Nat} {fs As : List Value} {C : String} {T : u_T} {N : Nat} (hK : gKn E s) (hP : va_P E.1 vwCl wc H) (hD : va_D A wc) (hq : wc[q0]? = some (b, .inr (ci, fs))) (hc : vwCl[ci]? = some (C, T, N)) : PreV s H C b (va_Pc (.ref b :: As) (gPre E wc H.size)) As :=
  ⟨gPre_blind, va_recv hK.1 hP hc hq, fun U hU hW => ⟨rfl, by rw [hU], by rw [hU]; exact hP, gKn_warm hW hK, hD.weaken (fun _ _ _ _ => trivial)⟩⟩
theorem g_preS {s : State} {H : Heap} {E : gEnv} {A : Nat → Prop} {wc : va_W} {As : List Value} (hK : gKn E s) (hP : va_P E.1 vwCl wc H) (hD : va_D A wc) : PreS s H (va_Pc As (gPre E wc H.size)) As :=
  ⟨gPre_blind, fun U hU hW => ⟨rfl, by rw [hU], by rw [hU]; exact hP, gKn_warm hW hK, hD.weaken (fun _ _ _ _ => trivial)⟩⟩
theorem gP_nil {D : va_G} {cl : List vw_C} {H : Heap} : va_P D cl [] H := fun k q h => by simp at h
theorem gD_nil {A : Nat → Prop} : va_D A [] := ⟨fun i j p q h => by simp at h, fun k q h => by simp at h⟩
section CALLS
variable {p : Program} {l : Launch} {e : Env} {R : Room} {s : State} {m : MethodId} {args : Array Value} {below : List Frame} {meth : Method} {c : Code} {H : Heap} {locs : List Loc} {cells slots : Nat} {Q : State → Prop}
variable {E : gEnv} {A : Nat → Prop} {cc bytes : ByteArray} {nL maxL index n pc : Nat} {Ts ws2 : List Cond} {rm2 : Room} {own C host : String} {y : MethodName} {ret : Option FieldType} {b : Nat} {As rest st : List Value} {ls : Array Slot} {w wc wc' w1 pre post : va_W} {fs : List Value} {T : u_T} {N q0 ci : Nat}
theorem gcVi {f : Int32} (S : CallFix p m c cc nL s args Ts own) (hM : gMi l E y ws2 rm2 (.ref b :: As) wc f wc') (cw : CallW R s args own C index y bytes maxL ret ws2 rm2 0 0 n) (hK : gKn E s) (hP : va_P E.1 vwCl w H) (hD : va_D A w) (hS : va_S A s.heap H locs) (hA : ∀ q, s.heap.size ≤ q → A q) (hw : w = pre ++ (wc ++ post)) (hw1 : pre ++ (wc' ++ post) = w1) (hq : wc[q0]? = some (b, .inr (ci, fs))) (hc : vwCl[ci]? = some (C, T, N)) (hn : As.length = n) (hsz : ls.size = nL) (hst : st = As.reverse ++ .ref b :: rest) (hrm : (rest.map fun v => v.category).sum ≤ 8) (hdg : decode cc pc = .ok (.invokevirtual index, 3)) (hf : cells ≤ R.cells ∧ slots ≤ R.slots)
    (kk : ∀ (H1 : Heap) (locs1 : List Loc), va_P E.1 vwCl w1 H1 → va_D A w1 → va_S A s.heap H1 locs1 → W p l e R s m args below meth c H1 locs1 cells slots Q (F0 m (pc + 3) ls (.int f :: rest))) : W p l e R s m args below meth c H locs cells slots Q (F0 m pc ls st) := by
  subst hw; subst hw1
  have hPc := gP_l (gP_r hP)
  have hDc := gD_l (gD_r hD)
  have hFc := g_free hD hS hA
  refine va_calli (va_runV (As := As) (rest := rest) S (hM H.size) cw (g_preV hK hPc hDc hq hc) rfl hn hsz hst (lv_room hrm) hdg hf) hS (fun q _ h => hFc q h) hFc (fun r u t H1 locs1 ht hvm hw hB hz1 hk1 hS1 => ?_)
  obtain ⟨hP1, hD1⟩ := hB
  rw [ht] at hP1
  obtain ⟨h1, h2⟩ := g_join hP hD hk1 hFc hP1 hD1
  subst hw
  exact kk H1 locs1 h1 h2 hS1
theorem gcVl {f : Int64} (S : CallFix p m c cc nL s args Ts own) (hM : gMl l E y ws2 rm2 (.ref b :: As) wc f wc') (cw : CallW R s args own C index y bytes maxL ret ws2 rm2 0 0 n) (hK : gKn E s) (hP : va_P E.1 vwCl w H) (hD : va_D A w) (hS : va_S A s.heap H locs) (hA : ∀ q, s.heap.size ≤ q → A q) (hw : w = pre ++ (wc ++ post)) (hw1 : pre ++ (wc' ++ post) = w1) (hq : wc[q0]? = some (b, .inr (ci, fs))) (hc : vwCl[ci]? = some (C, T, N)) (hn : As.length = n) (hsz : ls.size = nL) (hst : st = As.reverse ++ .ref b :: rest) (hrm : (rest.map fun v => v.category).sum ≤ 8) (hdg : decode cc pc = .ok (.invokevirtual index, 3)) (hf : cells ≤ R.cells ∧ slots ≤ R.slots)
    (kk : ∀ (H1 : Heap) (locs1 : List Loc), va_P E.1 vwCl w1 H1 → va_D A w1 → va_S A s.heap H1 locs1 → W p l e R s m args below meth c H1 locs1 cells slots Q (F0 m (pc + 3) ls (.long f :: rest))) : W p l e R s m args below meth c H locs cells slots Q (F0 m pc ls st) := by
  subst hw; subst hw1
  have hPc := gP_l (gP_r hP)
  have hDc := gD_l (gD_r hD)
  have hFc := g_free hD hS hA
  refine va_calll (va_runV (As := As) (rest := rest) S (hM H.size) cw (g_preV hK hPc hDc hq hc) rfl hn hsz hst (lv_room hrm) hdg hf) hS (fun q _ h => hFc q h) hFc (fun r u t H1 locs1 ht hvm hw hB hz1 hk1 hS1 => ?_)
  obtain ⟨hP1, hD1⟩ := hB
  rw [ht] at hP1
  obtain ⟨h1, h2⟩ := g_join hP hD hk1 hFc hP1 hD1
  subst hw
  exact kk H1 locs1 h1 h2 hS1
theorem gcVv (S : CallFix p m c cc nL s args Ts own) (hM : gMv l E y ws2 rm2 (.ref b :: As) wc wc') (cw : CallW R s args own C index y bytes maxL ret ws2 rm2 0 0 n) (hK : gKn E s) (hP : va_P E.1 vwCl w H) (hD : va_D A w) (hS : va_S A s.heap H locs) (hA : ∀ q, s.heap.size ≤ q → A q) (hw : w = pre ++ (wc ++ post)) (hw1 : pre ++ (wc' ++ post) = w1) (hq : wc[q0]? = some (b, .inr (ci, fs))) (hc : vwCl[ci]? = some (C, T, N)) (hn : As.length = n) (hsz : ls.size = nL) (hst : st = As.reverse ++ .ref b :: rest) (hrm : (rest.map fun v => v.category).sum ≤ 8) (hdg : decode cc pc = .ok (.invokevirtual index, 3)) (hf : cells ≤ R.cells ∧ slots ≤ R.slots)
    (kk : ∀ (H1 : Heap) (locs1 : List Loc), va_P E.1 vwCl w1 H1 → va_D A w1 → va_S A s.heap H1 locs1 → W p l e R s m args below meth c H1 locs1 cells slots Q (F0 m (pc + 3) ls rest)) : W p l e R s m args below meth c H locs cells slots Q (F0 m pc ls st) := by
  subst hw; subst hw1
  have hPc := gP_l (gP_r hP)
  have hDc := gD_l (gD_r hD)
  have hFc := g_free hD hS hA
  refine va_callv (va_runV (As := As) (rest := rest) S (hM H.size) cw (g_preV hK hPc hDc hq hc) rfl hn hsz hst (lv_room hrm) hdg hf) hS (fun q _ h => hFc q h) hFc (fun u t H1 locs1 ht hvm hw hB hz1 hk1 hS1 => ?_)
  obtain ⟨hP1, hD1⟩ := hB
  rw [ht] at hP1
  obtain ⟨h1, h2⟩ := g_join hP hD hk1 hFc hP1 hD1
  exact kk H1 locs1 h1 h2 hS1
/-- a static method without a world -/
theorem gcSi {f : Int32} (S : CallFix p m c cc nL s args Ts own) (hM : gMi l E y ws2 rm2 As [] f []) (cw : CallB R s args own index y bytes maxL ret ws2 rm2 0 0 n ∧ (Cond.static y).before args s = true) (hK : gKn E s) (hP : va_P E.1 vwCl w H) (hD : va_D A w) (hS : va_S A s.heap H locs) (hA : ∀ q, s.heap.size ≤ q → A q) (hn : As.length = n) (hsz : ls.size = nL) (hst : st = As.reverse ++ rest) (hrm : (rest.map fun v => v.category).sum ≤ 8) (hdg : decode cc pc = .ok (.invokestatic index, 3)) (hf : cells ≤ R.cells ∧ slots ≤ R.slots)
    (kk : ∀ (H1 : Heap) (locs1 : List Loc), va_P E.1 vwCl w H1 → va_D A w → va_S A s.heap H1 locs1 → W p l e R s m args below meth c H1 locs1 cells slots Q (F0 m (pc + 3) ls (.int f :: rest))) : W p l e R s m args below meth c H locs cells slots Q (F0 m pc ls st) := by
  have hFc : ∀ q, va_A [] H.size q → A q := g_free (pre := []) (wc := []) (post := w) hD hS hA
  refine va_calli (va_runS (As := As) (rest := rest) S (hM H.size) cw (g_preS hK gP_nil (gD_nil (A := A))) rfl hn hsz hst (lv_room hrm) hdg hf) hS (fun q _ h => hFc q h) hFc (fun r u t H1 locs1 ht hvm hw hB hz1 hk1 hS1 => ?_)
  obtain ⟨hP1, hD1⟩ := hB
  rw [ht] at hP1
  obtain ⟨h1, h2⟩ := g_join (pre := []) (wc := []) (post := w) hP hD hk1 hFc hP1 hD1
  subst hw
  exact kk H1 locs1 h1 h2 hS1
/-- the same of a nest mate -/
theorem gcNi {f : Int32} (S : CallFix p m c cc nL s args Ts own) (hM : gMi l E y ws2 rm2 As [] f []) (cw : va_CN R s args own index y host bytes maxL ret ws2 rm2 0 0 n ∧ (Cond.static y).before args s = true ∧ True) (hK : gKn E s) (hP : va_P E.1 vwCl w H) (hD : va_D A w) (hS : va_S A s.heap H locs) (hA : ∀ q, s.heap.size ≤ q → A q) (hn : As.length = n) (hsz : ls.size = nL) (hst : st = As.reverse ++ rest) (hrm : (rest.map fun v => v.category).sum ≤ 8) (hdg : decode cc pc = .ok (.invokestatic index, 3)) (hf : cells ≤ R.cells ∧ slots ≤ R.slots)
    (kk : ∀ (H1 : Heap) (locs1 : List Loc), va_P E.1 vwCl w H1 → va_D A w → va_S A s.heap H1 locs1 → W p l e R s m args below meth c H1 locs1 cells slots Q (F0 m (pc + 3) ls (.int f :: rest))) : W p l e R s m args below meth c H locs cells slots Q (F0 m pc ls st) := by
  have hFc : ∀ q, va_A [] H.size q → A q := g_free (pre := []) (wc := []) (post := w) hD hS hA
  refine va_calli (va_runSN (As := As) (rest := rest) S (hM H.size) cw (g_preS hK gP_nil (gD_nil (A := A))) rfl hn hsz hst (lv_room hrm) hdg hf) hS (fun q _ h => hFc q h) hFc (fun r u t H1 locs1 ht hvm hw hB hz1 hk1 hS1 => ?_)
  obtain ⟨hP1, hD1⟩ := hB
  rw [ht] at hP1
  obtain ⟨h1, h2⟩ := g_join (pre := []) (wc := []) (post := w) hP hD hk1 hFc hP1 hD1
  subst hw
  exact kk H1 locs1 h1 h2 hS1
end CALLS
section LCMP
variable {p : Program} {l : Launch} {e : Env} {R : Room} {s : State} {m : MethodId} {args : Array Value} {below : List Frame} {meth : Method} {c : Code} {H : Heap} {locs : List Loc} {cells slots : Nat} {Q : State → Prop} {cc : ByteArray} {x y : Int64} {pc tgt : Nat} {ls : Array Slot} {rest : List Value} {off : Int}
theorem gcmp_le (x y : Int64) : (lg_cmp x y ≤ 0) ↔ x ≤ y := by
  unfold lg_cmp
  by_cases h1 : y < x
  · simp only [gt_iff_lt, if_pos h1]
    exact ⟨fun h => absurd h (by decide), fun h => absurd h (by rw [Int64.le_iff_toInt_le]; rw [Int64.lt_iff_toInt_lt] at h1; omega)⟩
  · simp only [gt_iff_lt, if_neg h1]
    have h3 : x ≤ y := by rw [Int64.le_iff_toInt_le]; rw [Int64.lt_iff_toInt_lt] at h1; omega
    by_cases h2 : x = y
    · simp only [if_pos h2]; exact ⟨fun _ => h3, fun _ => by decide⟩
    · simp only [if_neg h2]; exact ⟨fun _ => h3, fun _ => by decide⟩
theorem gcmp_lt (x y : Int64) : (lg_cmp x y < 0) ↔ x < y := by
  unfold lg_cmp
  by_cases h1 : y < x
  · simp only [gt_iff_lt, if_pos h1]
    exact ⟨fun h => absurd h (by decide), fun h => absurd h (by rw [Int64.lt_iff_toInt_lt] at h1 ⊢; omega)⟩
  · simp only [gt_iff_lt, if_neg h1]
    by_cases h2 : x = y
    · simp only [if_pos h2]; exact ⟨fun h => absurd h (by decide), fun h => absurd h (by rw [h2, Int64.lt_iff_toInt_lt]; omega)⟩
    · simp only [if_neg h2]
      refine ⟨fun _ => ?_, fun _ => by decide⟩
      rw [Int64.lt_iff_toInt_lt] at h1 ⊢
      rw [← Int64.toInt_inj] at h2
      omega
theorem gcmp_eq (x y : Int64) : (lg_cmp x y = 0) ↔ x = y := by
  unfold lg_cmp
  by_cases h1 : y < x
  · simp only [gt_iff_lt, if_pos h1]
    exact ⟨fun h => absurd h (by decide), fun h => absurd h1 (by rw [h, Int64.lt_iff_toInt_lt]; omega)⟩
  · simp only [gt_iff_lt, if_neg h1]
    by_cases h2 : x = y
    · simp only [if_pos h2]; exact ⟨fun _ => h2, fun _ => trivial⟩
    · simp only [if_neg h2]; exact ⟨fun h => absurd h (by decide), fun h => absurd h h2⟩
theorem gcmp_gt (x y : Int64) : (0 < lg_cmp x y) ↔ y < x := by
  have h := gcmp_le x y
  rw [Int32.lt_iff_toInt_lt, Int64.lt_iff_toInt_lt]
  rw [Int32.le_iff_toInt_le, Int64.le_iff_toInt_le] at h
  omega
theorem gcmp_ge (x y : Int64) : (0 ≤ lg_cmp x y) ↔ y ≤ x := lg_cmp_ge x y
theorem gl_le (hx : p.tables.exec = Jvm.exec) (hb : c.code = cc) (hd : decode cc pc = .ok (.lcmp, 1)) (hd2 : decode cc (pc + 1) = .ok (.ifCond .le off, 3)) (ht : ((pc + 1 : Nat) : Int) + off = (tgt : Int)) (kt : x ≤ y → W p l e R s m args below meth c H locs cells slots Q (F0 m tgt ls rest)) (kf : ¬ x ≤ y → W p l e R s m args below meth c H locs cells slots Q (F0 m (pc + 4) ls rest)) : W p l e R s m args below meth c H locs cells slots Q (F0 m pc ls (.long y :: .long x :: rest)) :=
  W.lcmp hx hb hd (lv_if_le hx hb hd2 ht (fun h => kt ((gcmp_le x y).mp h)) (fun h => kf (fun z => h ((gcmp_le x y).mpr z))))
theorem gl_lt (hx : p.tables.exec = Jvm.exec) (hb : c.code = cc) (hd : decode cc pc = .ok (.lcmp, 1)) (hd2 : decode cc (pc + 1) = .ok (.ifCond .lt off, 3)) (ht : ((pc + 1 : Nat) : Int) + off = (tgt : Int)) (kt : x < y → W p l e R s m args below meth c H locs cells slots Q (F0 m tgt ls rest)) (kf : ¬ x < y → W p l e R s m args below meth c H locs cells slots Q (F0 m (pc + 4) ls rest)) : W p l e R s m args below meth c H locs cells slots Q (F0 m pc ls (.long y :: .long x :: rest)) :=
  W.lcmp hx hb hd (lv_if_lt hx hb hd2 ht (fun h => kt ((gcmp_lt x y).mp h)) (fun h => kf (fun z => h ((gcmp_lt x y).mpr z))))
theorem gl_ge (hx : p.tables.exec = Jvm.exec) (hb : c.code = cc) (hd : decode cc pc = .ok (.lcmp, 1)) (hd2 : decode cc (pc + 1) = .ok (.ifCond .ge off, 3)) (ht : ((pc + 1 : Nat) : Int) + off = (tgt : Int)) (kt : y ≤ x → W p l e R s m args below meth c H locs cells slots Q (F0 m tgt ls rest)) (kf : ¬ y ≤ x → W p l e R s m args below meth c H locs cells slots Q (F0 m (pc + 4) ls rest)) : W p l e R s m args below meth c H locs cells slots Q (F0 m pc ls (.long y :: .long x :: rest)) :=
  W.lcmp hx hb hd (lv_if_ge hx hb hd2 ht (fun h => kt ((gcmp_ge x y).mp h)) (fun h => kf (fun z => h ((gcmp_ge x y).mpr z))))
theorem gl_gt (hx : p.tables.exec = Jvm.exec) (hb : c.code = cc) (hd : decode cc pc = .ok (.lcmp, 1)) (hd2 : decode cc (pc + 1) = .ok (.ifCond .gt off, 3)) (ht : ((pc + 1 : Nat) : Int) + off = (tgt : Int)) (kt : y < x → W p l e R s m args below meth c H locs cells slots Q (F0 m tgt ls rest)) (kf : ¬ y < x → W p l e R s m args below meth c H locs cells slots Q (F0 m (pc + 4) ls rest)) : W p l e R s m args below meth c H locs cells slots Q (F0 m pc ls (.long y :: .long x :: rest)) :=
  W.lcmp hx hb hd (lv_if_gt hx hb hd2 ht (fun h => kt ((gcmp_gt x y).mp h)) (fun h => kf (fun z => h ((gcmp_gt x y).mpr z))))
theorem gl_eq (hx : p.tables.exec = Jvm.exec) (hb : c.code = cc) (hd : decode cc pc = .ok (.lcmp, 1)) (hd2 : decode cc (pc + 1) = .ok (.ifCond .eq off, 3)) (ht : ((pc + 1 : Nat) : Int) + off = (tgt : Int)) (kt : x = y → W p l e R s m args below meth c H locs cells slots Q (F0 m tgt ls rest)) (kf : ¬ x = y → W p l e R s m args below meth c H locs cells slots Q (F0 m (pc + 4) ls rest)) : W p l e R s m args below meth c H locs cells slots Q (F0 m pc ls (.long y :: .long x :: rest)) :=
  W.lcmp hx hb hd (lv_if_eq hx hb hd2 ht (fun h => kt ((gcmp_eq x y).mp h)) (fun h => kf (fun z => h ((gcmp_eq x y).mpr z))))
theorem gl_ne (hx : p.tables.exec = Jvm.exec) (hb : c.code = cc) (hd : decode cc pc = .ok (.lcmp, 1)) (hd2 : decode cc (pc + 1) = .ok (.ifCond .ne off, 3)) (ht : ((pc + 1 : Nat) : Int) + off = (tgt : Int)) (kt : ¬ x = y → W p l e R s m args below meth c H locs cells slots Q (F0 m tgt ls rest)) (kf : x = y → W p l e R s m args below meth c H locs cells slots Q (F0 m (pc + 4) ls rest)) : W p l e R s m args below meth c H locs cells slots Q (F0 m pc ls (.long y :: .long x :: rest)) :=
  W.lcmp hx hb hd (lv_if_ne hx hb hd2 ht (fun h => kt (fun z => h ((gcmp_eq x y).mpr z))) (fun h => kf ((gcmp_eq x y).mp h)))
end LCMP
/-! worlds -/
/-- a battery: its thirteen numbers, the curve's points, the bands' sums, the bands' counts -/
abbrev Bat : Type := (Nat → Int32) × (Nat → Int32) × (Nat → Int64) × (Nat → Int32)
abbrev wCu (E : gEnv) (q0 q1 : Nat) (P : Nat → Int32) : va_W := [(q0, .inr (2, [.ref q1])), (q1, .inl (eI E, 11, .inl P))]
abbrev wBn (E : gEnv) (q0 q1 q2 : Nat) (S : Nat → Int64) (N : Nat → Int32) : va_W := [(q0, .inr (0, [.ref q1, .ref q2])), (q1, .inl (eJ E, 22, .inr (.inl S))), (q2, .inl (eI E, 22, .inl N))]
abbrev wB (E : gEnv) (a : Nat → Nat) (B : Bat) : va_W := [(a 0, .inr (1, [.ref (a 1), .ref (a 3), .int (B.1 0), .int (B.1 1), .int (B.1 2), .int (B.1 3), .int (B.1 4), .int (B.1 5), .int (B.1 6), .int (B.1 7), .int (B.1 8), .int (B.1 9), .int (B.1 10), .int (B.1 11), .int (B.1 12)])), (a 1, .inr (2, [.ref (a 2)])), (a 2, .inl (eI E, 11, .inl B.2.1)), (a 3, .inr (0, [.ref (a 4), .ref (a 5)])), (a 4, .inl (eJ E, 22, .inr (.inl B.2.2.1))), (a 5, .inl (eI E, 22, .inl B.2.2.2))]
/-- the text: length, orders, place, number; bytes; kinds; firsts; seconds -/
abbrev Txt : Type := (Nat → Int32) × (Nat → Int32) × (Nat → Int32) × (Nat → Int32) × (Nat → Int32)
abbrev wT (E : gEnv) (t : Nat → Nat) (X : Txt) : va_W := [(t 0, .inr (4, [.ref (t 1), .int (X.1 0), .ref (t 2), .ref (t 3), .ref (t 4), .int (X.1 1), .int (X.1 2), .int (X.1 3)])), (t 1, .inl (eB E, 120, .inl X.2.1)), (t 2, .inl (eI E, 40, .inl X.2.2.1)), (t 3, .inl (eI E, 40, .inl X.2.2.2.1)), (t 4, .inl (eI E, 40, .inl X.2.2.2.2))]
/-- the reference: states, bytes, least, greatest, orders, spot, wrongAt; hash; now; aside; past; refusals; text; letters; numbers -/
abbrev Mdl : Type := (Nat → Int32) × Int64 × (Nat → Int64) × (Nat → Int64) × (Nat → Int64) × (Nat → Int32) × (Nat → Int32) × (Nat → Int32) × (Nat → Int32)
abbrev wM (E : gEnv) (a : Nat → Nat) (M : Mdl) : va_W := [(a 0, .inr (6, [.ref (a 1), .ref (a 2), .ref (a 3), .int (M.1 0), .ref (a 4), .ref (a 5), .int (M.1 1), .int (M.1 2), .int (M.1 3), .ref (a 6), .ref (a 7), .int (M.1 4), .int (M.1 5), .int (M.1 6), .long M.2.1])), (a 1, .inl (eJ E, 68, .inr (.inl M.2.2.1))), (a 2, .inl (eJ E, 68, .inr (.inl M.2.2.2.1))), (a 3, .inl (eJ E, 340, .inr (.inl M.2.2.2.2.1))), (a 4, .inl (eI E, 3, .inl M.2.2.2.2.2.1)), (a 5, .inl (eI E, 120, .inl M.2.2.2.2.2.2.1)), (a 6, .inl (eI E, 60, .inl M.2.2.2.2.2.2.2.1)), (a 7, .inl (eI E, 120, .inl M.2.2.2.2.2.2.2.2))]
/-- a truth as the machine has it -/
def bz (P : Prop) [Decidable P] : Int32 := if P then 1 else 0
theorem bz_t {P : Prop} [Decidable P] (h : P) : bz P = 1 := if_pos h
theorem bz_f {P : Prop} [Decidable P] (h : ¬ P) : bz P = 0 := if_neg h
theorem bz_0 {P : Prop} [Decidable P] : bz P = 0 ↔ ¬ P := by
  by_cases h : P
  · rw [bz_t h]; exact ⟨fun z => absurd z (by decide), fun z => absurd h z⟩
  · rw [bz_f h]; exact ⟨fun _ => h, fun _ => rfl⟩
theorem bz_n {P : Prop} [Decidable P] : narrow .boolean (.int (bz P)) = .int (bz P) := by
  by_cases h : P
  · rw [bz_t h]; rfl
  · rw [bz_f h]; rfl
end
section
/-! rows of arrays and fields with the places named -/
theorem g_in {i : Int32} {n : Nat} (h : decide (¬ (i < 0 ∨ n ≤ i.toNatClampNeg)) = true) : vp_in i n := by
  unfold vp_in
  exact of_decide_eq_true h
section GR
variable {p : Program} {l : Launch} {e : Env} {R : Room} {s : State} {m : MethodId} {args : Array Value} {below : List Frame} {meth : Method} {c : Code} {H H0 : Heap} {locs : List Loc} {cells slots : Nat} {Q : State → Prop}
variable {D : va_G} {cl : List vw_C} {tys : List (ClassId × FieldType)} {ws w1 : va_W} {A : Nat → Prop} {cc : ByteArray} {pc a : Nat} {ls : Array Slot} {rest : List Value}
theorem g_topi {x : Int32} (k : ∀ y : Int32, x = y → W p l e R s m args below meth c H locs cells slots Q (F0 m pc ls (.int y :: rest))) : W p l e R s m args below meth c H locs cells slots Q (F0 m pc ls (.int x :: rest)) := k x rfl
theorem g_topl {x : Int64} (k : ∀ y : Int64, x = y → W p l e R s m args below meth c H locs cells slots Q (F0 m pc ls (.long y :: rest))) : W p l e R s m args below meth c H locs cells slots Q (F0 m pc ls (.long x :: rest)) := k x rfl
theorem g_iald (hx : p.tables.exec = Jvm.exec) (hb : c.code = cc) (hK : va_K D cl tys s) (hP : va_P D cl ws H) (q0 t0 : Nat) {cA : ClassId} {n : Nat} {f : Nat → Int32} (ha : ws[q0]? = some (a, .inl (cA, n, .inl f))) (ht : tys[t0]? = some (cA, .int)) {i : Int32} (hin : vp_in i n) {j : Nat} (hj : i.toNatClampNeg = j) {v : Int32} (hv : f j = v) (hdg : decode cc pc = .ok (.iaload, 1))
    (kk : W p l e R s m args below meth c H locs cells slots Q (F0 m (pc + 1) ls (.int v :: rest))) : W p l e R s m args below meth c H locs cells slots Q (F0 m pc ls (.int i :: .ref a :: rest)) := by
  subst hj; subst hv
  exact va_iald hx hb hK hP q0 t0 ha ht hin hdg kk
theorem g_bald (hx : p.tables.exec = Jvm.exec) (hb : c.code = cc) (hK : va_K D cl tys s) (hP : va_P D cl ws H) (q0 t0 : Nat) {cA : ClassId} {n : Nat} {f : Nat → Int32} (ha : ws[q0]? = some (a, .inl (cA, n, .inl f))) (ht : tys[t0]? = some (cA, .byte)) {i : Int32} (hin : vp_in i n) {j : Nat} (hj : i.toNatClampNeg = j) {v : Int32} (hv : f j = v) (hdg : decode cc pc = .ok (.baload, 1))
    (kk : W p l e R s m args below meth c H locs cells slots Q (F0 m (pc + 1) ls (.int v :: rest))) : W p l e R s m args below meth c H locs cells slots Q (F0 m pc ls (.int i :: .ref a :: rest)) := by
  subst hj; subst hv
  exact va_bald hx hb hK hP q0 t0 ha ht hin hdg kk
theorem g_lald (hx : p.tables.exec = Jvm.exec) (hb : c.code = cc) (hK : va_K D cl tys s) (hP : va_P D cl ws H) (q0 t0 : Nat) {cA : ClassId} {n : Nat} {f : Nat → Int64} (ha : ws[q0]? = some (a, .inl (cA, n, .inr (.inl f)))) (ht : tys[t0]? = some (cA, .long)) {i : Int32} (hin : vp_in i n) {j : Nat} (hj : i.toNatClampNeg = j) {v : Int64} (hv : f j = v) (hdg : decode cc pc = .ok (.laload, 1))
    (kk : W p l e R s m args below meth c H locs cells slots Q (F0 m (pc + 1) ls (.long v :: rest))) : W p l e R s m args below meth c H locs cells slots Q (F0 m pc ls (.int i :: .ref a :: rest)) := by
  subst hj; subst hv
  exact va_lald hx hb hK hP q0 t0 ha ht hin hdg kk
theorem g_iast (hx : p.tables.exec = Jvm.exec) (hb : c.code = cc) (hK : va_K D cl tys s) (hP : va_P D cl ws H) (hD : va_D A ws) (hS : va_S A H0 H locs) (q0 t0 : Nat) {cA : ClassId} {n : Nat} {f : Nat → Int32} (ha : ws[q0]? = some (a, .inl (cA, n, .inl f))) (ht : tys[t0]? = some (cA, .int)) {i x : Int32} (hin : vp_in i n) {j : Nat} (hj : i.toNatClampNeg = j) (hw1 : ws.set q0 (a, .inl (cA, n, .inl (upd f j x))) = w1) (hdg : decode cc pc = .ok (.iastore, 1))
    (kk : ∀ (H1 : Heap) (locs1 : List Loc), va_P D cl w1 H1 → va_D A w1 → va_S A H0 H1 locs1 → W p l e R s m args below meth c H1 locs1 cells slots Q (F0 m (pc + 1) ls rest)) : W p l e R s m args below meth c H locs cells slots Q (F0 m pc ls (.int x :: .int i :: .ref a :: rest)) := by
  subst hj; subst hw1
  exact va_iast hx hb hK hP hD hS q0 t0 ha ht hin hdg kk
theorem g_bast (hx : p.tables.exec = Jvm.exec) (hb : c.code = cc) (hK : va_K D cl tys s) (hP : va_P D cl ws H) (hD : va_D A ws) (hS : va_S A H0 H locs) (q0 t0 : Nat) {cA : ClassId} {n : Nat} {f : Nat → Int32} (ha : ws[q0]? = some (a, .inl (cA, n, .inl f))) (ht : tys[t0]? = some (cA, .byte)) {i x : Int32} (hin : vp_in i n) {j : Nat} (hj : i.toNatClampNeg = j) (hw1 : ws.set q0 (a, .inl (cA, n, .inl (upd f j (vp_nar .byte x)))) = w1) (hdg : decode cc pc = .ok (.bastore, 1))
    (kk : ∀ (H1 : Heap) (locs1 : List Loc), va_P D cl w1 H1 → va_D A w1 → va_S A H0 H1 locs1 → W p l e R s m args below meth c H1 locs1 cells slots Q (F0 m (pc + 1) ls rest)) : W p l e R s m args below meth c H locs cells slots Q (F0 m pc ls (.int x :: .int i :: .ref a :: rest)) := by
  subst hj; subst hw1
  exact va_bast hx hb hK hP hD hS q0 t0 ha ht hin hdg kk
theorem g_last (hx : p.tables.exec = Jvm.exec) (hb : c.code = cc) (hK : va_K D cl tys s) (hP : va_P D cl ws H) (hD : va_D A ws) (hS : va_S A H0 H locs) (q0 t0 : Nat) {cA : ClassId} {n : Nat} {f : Nat → Int64} (ha : ws[q0]? = some (a, .inl (cA, n, .inr (.inl f)))) (ht : tys[t0]? = some (cA, .long)) {i : Int32} {x : Int64} (hin : vp_in i n) {j : Nat} (hj : i.toNatClampNeg = j) (hw1 : ws.set q0 (a, .inl (cA, n, .inr (.inl (vp_updL f j x)))) = w1) (hdg : decode cc pc = .ok (.lastore, 1))
    (kk : ∀ (H1 : Heap) (locs1 : List Loc), va_P D cl w1 H1 → va_D A w1 → va_S A H0 H1 locs1 → W p l e R s m args below meth c H1 locs1 cells slots Q (F0 m (pc + 1) ls rest)) : W p l e R s m args below meth c H locs cells slots Q (F0 m pc ls (.long x :: .int i :: .ref a :: rest)) := by
  subst hj; subst hw1
  exact va_last hx hb hK hP hD hS q0 t0 ha ht hin hdg kk
theorem g_get (hx : p.tables.exec = Jvm.exec) (hb : c.code = cc) {own ref C nm ds : String} {T : u_T} {N ci index : Nat} {Ts : List Cond} (hts : ∀ w ∈ Ts, w.before args s = true) (hin : ∀ w ∈ u_ws C T N, w ∈ Ts) (hown : s.vm.findClass own = some m.cls) (hK : va_K D cl tys s) (hP : va_P D cl ws H) (q0 : Nat) {fs : List Value} (he : ws[q0]? = some (a, .inr (ci, fs))) (hc : cl[ci]? = some (C, T, N)) (k : Nat) (hk : k < N) (hf : (T k).1 = ref ∧ (T k).2.1 = nm ∧ (T k).2.2.1 = ds) (hlink : Cond.fieldLink own index ref nm ds ∈ Ts) {v : Value} (hv : fs[k]? = some v) (hdg : decode cc pc = .ok (.getfield index, 3))
    (kk : W p l e R s m args below meth c H locs cells slots Q (F0 m (pc + 3) ls (v :: rest))) : W p l e R s m args below meth c H locs cells slots Q (F0 m pc ls (.ref a :: rest)) := by
  obtain ⟨rfl, rfl, rfl⟩ := hf
  exact va_get hx hb hts hin hown hK hP q0 he hc k hk (hts _ hlink) (fun _ h => h) hv hdg kk
theorem g_put (hx : p.tables.exec = Jvm.exec) (hb : c.code = cc) {own ref C nm ds : String} {T : u_T} {N ci index : Nat} {Ts : List Cond} (hts : ∀ w ∈ Ts, w.before args s = true) (hin : ∀ w ∈ u_ws C T N, w ∈ Ts) (ty0 : Nat → FieldType) (hty : ∀ k, k < N → parseFieldDescriptor (T k).2.2.1 = some (ty0 k)) (hnm : ∀ a, a < N → ∀ b, b < N → a ≠ b → (T a).2.1 ≠ (T b).2.1) (hown : s.vm.findClass own = some m.cls) (hK : va_K D cl tys s) (hP : va_P D cl ws H) (hD : va_D A ws) (hS0 : va_S A H0 H locs) (q0 : Nat) {fs : List Value} (he : ws[q0]? = some (a, .inr (ci, fs))) (hc : cl[ci]? = some (C, T, N)) (k : Nat) (hk : k < N) (hf : (T k).1 = ref ∧ (T k).2.1 = nm ∧ (T k).2.2.1 = ds) (hlink : Cond.fieldLink own index ref nm ds ∈ Ts) (hfin : (T k).2.2.2 = false) {ty : FieldType} {v : Value} (hd : ty0 k = ty) (hn : narrow ty v = v) (hfit : fits ty v = true) (hl : k < fs.length) (hw1 : ws.set q0 (a, .inr (ci, fs.set k v)) = w1)
    (hdg : decode cc pc = .ok (.putfield index, 3)) (kk : ∀ (H1 : Heap) (locs1 : List Loc), va_P D cl w1 H1 → va_D A w1 → va_S A H0 H1 locs1 → W p l e R s m args below meth c H1 locs1 cells slots Q (F0 m (pc + 3) ls rest)) : W p l e R s m args below meth c H locs cells slots Q (F0 m pc ls (v :: .ref a :: rest)) := by
  obtain ⟨rfl, rfl, rfl⟩ := hf
  subst hw1
  exact va_put hx hb hts hin ty0 hty hnm hown hK hP hD hS0 q0 he hc k hk (hts _ hlink) (fun _ h => h) hfin ((hty k hk).trans (congrArg some hd)) hn hfit hl hdg kk
end GR
end
section
def fX5_within (num : Int32) (least : Int32) (most : Int32) : Int32 :=
  bz (least ≤ num ∧ num ≤ most)
abbrev rX5_within : Room := { frames := 0, cells := 0, slots := 0, locals := 0 }
theorem qsX5_within : yX5_within.cls = RX5 ∧ yX5_within.cls ≠ "java/lang/invoke/MethodHandle" ∧ yX5_within.cls ≠ "java/lang/invoke/VarHandle" ∧ (parseMethodDescriptor yX5_within.desc).map (fun d => d.parameters.length) = some 3 := by decide +kernel
theorem qnX5_within : yX5_within.cls ≠ "java/lang/invoke/MethodHandle" ∧ yX5_within.cls ≠ "java/lang/invoke/VarHandle" ∧ (parseMethodDescriptor yX5_within.desc).map (fun d => d.parameters.length) = some 3 := by decide +kernel
set_option maxHeartbeats 4000000 in
set_option maxRecDepth 100000 in
theorem kX5_within (l : Launch) (E : gEnv) (num : Int32) (least : Int32) (most : Int32) : gMi l E yX5_within wsX5_within rX5_within [.int num, .int least, .int most] [] (fX5_within num least most) [] := by
  refine gMz_of (cc := cX5_within) (maxL := 3) (ret := (some .boolean)) (by decide) rfl rfl (Nat.le_of_ble_eq_true rfl) bz_n ?_
  intro p e s m args below meth c A Q ls hB hQ
  obtain ⟨hx, hb, hml, hown, hts, hK, hP, hD, hA, hS, hl⟩ := hB
  have hown : s.vm.findClass RX5 = some m.cls := hown
  have hP : va_P E.1 vwCl [] s.heap := hP
  have hD : va_D A [] := hD
  have hl : lv_has ls 3 [(0, .int num), (1, .int least), (2, .int most)] := hl
  refine lv_iload_n (pc := 0) hx hb dX5_within_0 rfl (lv_at hl 0 rfl) ?_
  refine lv_iload_n (pc := 1) hx hb dX5_within_1 rfl (lv_at hl 1 rfl) ?_
  refine lv_icmp_lt (tgt := 14) (pc := 2) hx hb dX5_within_2 (by decide) (fun c_1 => ?_) (fun c_1 => ?_)
  · refine lv_iconst (v := 0) (pc := 14) hx hb dX5_within_14 rfl ?_
    have hfn : fX5_within num least most = 0 := bz_f (by (try simp only [bz_0] at c_1); simp only [Int32.le_iff_toInt_le, Int32.lt_iff_toInt_lt, Int64.le_iff_toInt_le, Int64.lt_iff_toInt_lt, ← Int32.toInt_inj, Int32.reduceToInt, Int64.reduceToInt] at c_1 ⊢; omega)
    rw [hfn] at hQ
    exact hQ _ _ _ _ _ rfl hP hD hS dX5_within_15
  · refine lv_iload_n (pc := 5) hx hb dX5_within_5 rfl (lv_at hl 0 rfl) ?_
    refine lv_iload_n (pc := 6) hx hb dX5_within_6 rfl (lv_at hl 2 rfl) ?_
    refine lv_icmp_gt (tgt := 14) (pc := 7) hx hb dX5_within_7 (by decide) (fun c_2 => ?_) (fun c_2 => ?_)
    · refine lv_iconst (v := 0) (pc := 14) hx hb dX5_within_14 rfl ?_
      have hfn : fX5_within num least most = 0 := bz_f (by (try simp only [bz_0] at c_1 c_2); simp only [Int32.le_iff_toInt_le, Int32.lt_iff_toInt_lt, Int64.le_iff_toInt_le, Int64.lt_iff_toInt_lt, ← Int32.toInt_inj, Int32.reduceToInt, Int64.reduceToInt] at c_1 c_2 ⊢; omega)
      rw [hfn] at hQ
      exact hQ _ _ _ _ _ rfl hP hD hS dX5_within_15
    · refine lv_iconst (v := 1) (pc := 10) hx hb dX5_within_10 rfl ?_
      refine lv_goto (tgt := 15) (pc := 11) hx hb dX5_within_11 (by decide) ?_
      have hfn : fX5_within num least most = 1 := bz_t (by (try simp only [bz_0] at c_1 c_2); simp only [Int32.le_iff_toInt_le, Int32.lt_iff_toInt_lt, Int64.le_iff_toInt_le, Int64.lt_iff_toInt_lt, ← Int32.toInt_inj, Int32.reduceToInt, Int64.reduceToInt] at c_1 c_2 ⊢; omega)
      rw [hfn] at hQ
      exact hQ _ _ _ _ _ rfl hP hD hS dX5_within_15

def fX0_isBand (sg : Int32) (tn : Int32) : Int32 :=
  bz ((0 ≤ sg ∧ sg ≤ 1) ∧ (0 ≤ tn ∧ tn ≤ 10))
abbrev rX0_isBand : Room := { frames := 1, cells := 0, slots := 0, locals := 22 }
theorem mm_X0_isBand_2 : Cond.initialized RX5 ∈ wsX0_isBand := List.mem_of_getElem? (i := 2) rfl
theorem mm_X0_isBand_1 : Cond.static yX5_within ∈ wsX0_isBand := List.mem_of_getElem? (i := 1) rfl
theorem qsX0_isBand : yX0_isBand.cls = RX0 ∧ yX0_isBand.cls ≠ "java/lang/invoke/MethodHandle" ∧ yX0_isBand.cls ≠ "java/lang/invoke/VarHandle" ∧ (parseMethodDescriptor yX0_isBand.desc).map (fun d => d.parameters.length) = some 2 := by decide +kernel
theorem qnX0_isBand : yX0_isBand.cls ≠ "java/lang/invoke/MethodHandle" ∧ yX0_isBand.cls ≠ "java/lang/invoke/VarHandle" ∧ (parseMethodDescriptor yX0_isBand.desc).map (fun d => d.parameters.length) = some 2 := by decide +kernel
set_option maxHeartbeats 4000000 in
set_option maxRecDepth 100000 in
theorem kX0_isBand (l : Launch) (E : gEnv) (sg : Int32) (tn : Int32) : gMi l E yX0_isBand wsX0_isBand rX0_isBand [.int sg, .int tn] [] (fX0_isBand sg tn) [] := by
  refine gMz_of (cc := cX0_isBand) (maxL := 2) (ret := (some .boolean)) (by decide) rfl rfl (Nat.le_of_ble_eq_true rfl) bz_n ?_
  intro p e s m args below meth c A Q ls hB hQ
  obtain ⟨hx, hb, hml, hown, hts, hK, hP, hD, hA, hS, hl⟩ := hB
  have hown : s.vm.findClass RX0 = some m.cls := hown
  have hP : va_P E.1 vwCl [] s.heap := hP
  have hD : va_D A [] := hD
  have hl : lv_has ls 2 [(0, .int sg), (1, .int tn)] := hl
  refine lv_iload_n (pc := 0) hx hb dX0_isBand_0 rfl (lv_at hl 0 rfl) ?_
  refine lv_iconst (v := 0) (pc := 1) hx hb dX0_isBand_1 rfl ?_
  refine lv_iconst (v := 1) (pc := 2) hx hb dX0_isBand_2 rfl ?_
  obtain ⟨r1, er1⟩ : ∃ z : Int32, fX5_within sg 0 1 = z := ⟨_, rfl⟩
  have hr1 := kX5_within l E sg 0 1
  rw [er1] at hr1
  refine gcNi (pc := 3) (As := [.int sg, .int 0, .int 1]) (rest := []) ⟨hx, hb, hml, hown, hts⟩ hr1 ⟨va_cnB 3 hts ggX0_isBand_X5_within rfl rfl rfl hK.2.1 (hts _ mm_X0_isBand_2) qnX5_within ⟨Nat.le_of_ble_eq_true rfl, Nat.le_of_ble_eq_true rfl⟩, hts _ mm_X0_isBand_1, trivial⟩ hK hP hD hS hA rfl hl.1 rfl (Nat.le_of_ble_eq_true rfl) dX0_isBand_3 ⟨Nat.zero_le _, Nat.zero_le _⟩ (fun H locs hP hD hS => ?_)
  refine lv_if_eq (tgt := 23) (pc := 6) hx hb dX0_isBand_6 (by decide) (fun c_2 => ?_) (fun c_2 => ?_)
  · refine lv_iconst (v := 0) (pc := 23) hx hb dX0_isBand_23 rfl ?_
    subst er1
    have hfn : fX0_isBand sg tn = 0 := bz_f (by (try simp only [fX5_within, bz_0] at c_2); simp only [Int32.le_iff_toInt_le, Int32.lt_iff_toInt_lt, Int64.le_iff_toInt_le, Int64.lt_iff_toInt_lt, ← Int32.toInt_inj, Int32.reduceToInt, Int64.reduceToInt] at c_2 ⊢; omega)
    rw [hfn] at hQ
    exact hQ _ _ _ _ _ rfl hP hD hS dX0_isBand_24
  · refine lv_iload_n (pc := 9) hx hb dX0_isBand_9 rfl (lv_at hl 1 rfl) ?_
    refine lv_iconst (v := 0) (pc := 10) hx hb dX0_isBand_10 rfl ?_
    refine lv_bipush (v := 10) (pc := 11) hx hb dX0_isBand_11 rfl ?_
    obtain ⟨r3, er3⟩ : ∃ z : Int32, fX5_within tn 0 10 = z := ⟨_, rfl⟩
    have hr3 := kX5_within l E tn 0 10
    rw [er3] at hr3
    refine gcNi (pc := 13) (As := [.int tn, .int 0, .int 10]) (rest := []) ⟨hx, hb, hml, hown, hts⟩ hr3 ⟨va_cnB 3 hts ggX0_isBand_X5_within rfl rfl rfl hK.2.1 (hts _ mm_X0_isBand_2) qnX5_within ⟨Nat.le_of_ble_eq_true rfl, Nat.le_of_ble_eq_true rfl⟩, hts _ mm_X0_isBand_1, trivial⟩ hK hP hD hS hA rfl hl.1 rfl (Nat.le_of_ble_eq_true rfl) dX0_isBand_13 ⟨Nat.zero_le _, Nat.zero_le _⟩ (fun H locs hP hD hS => ?_)
    refine lv_if_eq (tgt := 23) (pc := 16) hx hb dX0_isBand_16 (by decide) (fun c_4 => ?_) (fun c_4 => ?_)
    · refine lv_iconst (v := 0) (pc := 23) hx hb dX0_isBand_23 rfl ?_
      subst er3
      subst er1
      have hfn : fX0_isBand sg tn = 0 := bz_f (by (try simp only [fX5_within, bz_0] at c_2 c_4); simp only [Int32.le_iff_toInt_le, Int32.lt_iff_toInt_lt, Int64.le_iff_toInt_le, Int64.lt_iff_toInt_lt, ← Int32.toInt_inj, Int32.reduceToInt, Int64.reduceToInt] at c_2 c_4 ⊢; omega)
      rw [hfn] at hQ
      exact hQ _ _ _ _ _ rfl hP hD hS dX0_isBand_24
    · refine lv_iconst (v := 1) (pc := 19) hx hb dX0_isBand_19 rfl ?_
      refine lv_goto (tgt := 24) (pc := 20) hx hb dX0_isBand_20 (by decide) ?_
      subst er3
      subst er1
      have hfn : fX0_isBand sg tn = 1 := bz_t (by (try simp only [fX5_within, bz_0] at c_2 c_4); simp only [Int32.le_iff_toInt_le, Int32.lt_iff_toInt_lt, Int64.le_iff_toInt_le, Int64.lt_iff_toInt_lt, ← Int32.toInt_inj, Int32.reduceToInt, Int64.reduceToInt] at c_2 c_4 ⊢; omega)
      rw [hfn] at hQ
      exact hQ _ _ _ _ _ rfl hP hD hS dX0_isBand_24

def fX1_isVoltage (v : Int32) : Int32 :=
  bz (0 ≤ v ∧ v ≤ 9999)
abbrev rX1_isVoltage : Room := { frames := 1, cells := 0, slots := 0, locals := 22 }
theorem mm_X1_isVoltage_2 : Cond.initialized RX5 ∈ wsX1_isVoltage := List.mem_of_getElem? (i := 2) rfl
theorem mm_X1_isVoltage_1 : Cond.static yX5_within ∈ wsX1_isVoltage := List.mem_of_getElem? (i := 1) rfl
theorem qsX1_isVoltage : yX1_isVoltage.cls = RX1 ∧ yX1_isVoltage.cls ≠ "java/lang/invoke/MethodHandle" ∧ yX1_isVoltage.cls ≠ "java/lang/invoke/VarHandle" ∧ (parseMethodDescriptor yX1_isVoltage.desc).map (fun d => d.parameters.length) = some 1 := by decide +kernel
theorem qnX1_isVoltage : yX1_isVoltage.cls ≠ "java/lang/invoke/MethodHandle" ∧ yX1_isVoltage.cls ≠ "java/lang/invoke/VarHandle" ∧ (parseMethodDescriptor yX1_isVoltage.desc).map (fun d => d.parameters.length) = some 1 := by decide +kernel
set_option maxHeartbeats 4000000 in
set_option maxRecDepth 100000 in
theorem kX1_isVoltage (l : Launch) (E : gEnv) (v : Int32) : gMi l E yX1_isVoltage wsX1_isVoltage rX1_isVoltage [.int v] [] (fX1_isVoltage v) [] := by
  refine gMz_of (cc := cX1_isVoltage) (maxL := 1) (ret := (some .boolean)) (by decide) rfl rfl (Nat.le_of_ble_eq_true rfl) bz_n ?_
  intro p e s m args below meth c A Q ls hB hQ
  obtain ⟨hx, hb, hml, hown, hts, hK, hP, hD, hA, hS, hl⟩ := hB
  have hown : s.vm.findClass RX1 = some m.cls := hown
  have hP : va_P E.1 vwCl [] s.heap := hP
  have hD : va_D A [] := hD
  have hl : lv_has ls 1 [(0, .int v)] := hl
  refine lv_iload_n (pc := 0) hx hb dX1_isVoltage_0 rfl (lv_at hl 0 rfl) ?_
  refine lv_iconst (v := 0) (pc := 1) hx hb dX1_isVoltage_1 rfl ?_
  refine lv_sipush (v := 9999) (pc := 2) hx hb dX1_isVoltage_2 rfl ?_
  obtain ⟨r1, er1⟩ : ∃ z : Int32, fX5_within v 0 9999 = z := ⟨_, rfl⟩
  have hr1 := kX5_within l E v 0 9999
  rw [er1] at hr1
  refine gcNi (pc := 5) (As := [.int v, .int 0, .int 9999]) (rest := []) ⟨hx, hb, hml, hown, hts⟩ hr1 ⟨va_cnB 3 hts ggX1_isVoltage_X5_within rfl rfl rfl hK.2.2.1 (hts _ mm_X1_isVoltage_2) qnX5_within ⟨Nat.le_of_ble_eq_true rfl, Nat.le_of_ble_eq_true rfl⟩, hts _ mm_X1_isVoltage_1, trivial⟩ hK hP hD hS hA rfl hl.1 rfl (Nat.le_of_ble_eq_true rfl) dX1_isVoltage_5 ⟨Nat.zero_le _, Nat.zero_le _⟩ (fun H locs hP hD hS => ?_)
  subst er1
  
  exact hQ _ _ _ _ _ rfl hP hD hS dX1_isVoltage_8

def fX1_isLoad (i : Int32) : Int32 :=
  bz (¬ i = 0 ∧ (-99) ≤ i ∧ i ≤ 99)
abbrev rX1_isLoad : Room := { frames := 1, cells := 0, slots := 0, locals := 22 }
theorem mm_X1_isLoad_2 : Cond.initialized RX5 ∈ wsX1_isLoad := List.mem_of_getElem? (i := 2) rfl
theorem mm_X1_isLoad_1 : Cond.static yX5_within ∈ wsX1_isLoad := List.mem_of_getElem? (i := 1) rfl
theorem qsX1_isLoad : yX1_isLoad.cls = RX1 ∧ yX1_isLoad.cls ≠ "java/lang/invoke/MethodHandle" ∧ yX1_isLoad.cls ≠ "java/lang/invoke/VarHandle" ∧ (parseMethodDescriptor yX1_isLoad.desc).map (fun d => d.parameters.length) = some 1 := by decide +kernel
theorem qnX1_isLoad : yX1_isLoad.cls ≠ "java/lang/invoke/MethodHandle" ∧ yX1_isLoad.cls ≠ "java/lang/invoke/VarHandle" ∧ (parseMethodDescriptor yX1_isLoad.desc).map (fun d => d.parameters.length) = some 1 := by decide +kernel
set_option maxHeartbeats 4000000 in
set_option maxRecDepth 100000 in
theorem kX1_isLoad (l : Launch) (E : gEnv) (i : Int32) : gMi l E yX1_isLoad wsX1_isLoad rX1_isLoad [.int i] [] (fX1_isLoad i) [] := by
  refine gMz_of (cc := cX1_isLoad) (maxL := 1) (ret := (some .boolean)) (by decide) rfl rfl (Nat.le_of_ble_eq_true rfl) bz_n ?_
  intro p e s m args below meth c A Q ls hB hQ
  obtain ⟨hx, hb, hml, hown, hts, hK, hP, hD, hA, hS, hl⟩ := hB
  have hown : s.vm.findClass RX1 = some m.cls := hown
  have hP : va_P E.1 vwCl [] s.heap := hP
  have hD : va_D A [] := hD
  have hl : lv_has ls 1 [(0, .int i)] := hl
  refine lv_iload_n (pc := 0) hx hb dX1_isLoad_0 rfl (lv_at hl 0 rfl) ?_
  refine lv_if_eq (tgt := 19) (pc := 1) hx hb dX1_isLoad_1 (by decide) (fun c_1 => ?_) (fun c_1 => ?_)
  · refine lv_iconst (v := 0) (pc := 19) hx hb dX1_isLoad_19 rfl ?_
    have hfn : fX1_isLoad i = 0 := bz_f (by (try simp only [fX5_within, bz_0] at c_1); simp only [Int32.le_iff_toInt_le, Int32.lt_iff_toInt_lt, Int64.le_iff_toInt_le, Int64.lt_iff_toInt_lt, ← Int32.toInt_inj, Int32.reduceToInt, Int64.reduceToInt] at c_1 ⊢; omega)
    rw [hfn] at hQ
    exact hQ _ _ _ _ _ rfl hP hD hS dX1_isLoad_20
  · refine lv_iload_n (pc := 4) hx hb dX1_isLoad_4 rfl (lv_at hl 0 rfl) ?_
    refine lv_bipush (v := (-99)) (pc := 5) hx hb dX1_isLoad_5 rfl ?_
    refine lv_bipush (v := 99) (pc := 7) hx hb dX1_isLoad_7 rfl ?_
    obtain ⟨r2, er2⟩ : ∃ z : Int32, fX5_within i (-99) 99 = z := ⟨_, rfl⟩
    have hr2 := kX5_within l E i (-99) 99
    rw [er2] at hr2
    refine gcNi (pc := 9) (As := [.int i, .int (-99), .int 99]) (rest := []) ⟨hx, hb, hml, hown, hts⟩ hr2 ⟨va_cnB 3 hts ggX1_isLoad_X5_within rfl rfl rfl hK.2.2.1 (hts _ mm_X1_isLoad_2) qnX5_within ⟨Nat.le_of_ble_eq_true rfl, Nat.le_of_ble_eq_true rfl⟩, hts _ mm_X1_isLoad_1, trivial⟩ hK hP hD hS hA rfl hl.1 rfl (Nat.le_of_ble_eq_true rfl) dX1_isLoad_9 ⟨Nat.zero_le _, Nat.zero_le _⟩ (fun H locs hP hD hS => ?_)
    refine lv_if_eq (tgt := 19) (pc := 12) hx hb dX1_isLoad_12 (by decide) (fun c_3 => ?_) (fun c_3 => ?_)
    · refine lv_iconst (v := 0) (pc := 19) hx hb dX1_isLoad_19 rfl ?_
      subst er2
      have hfn : fX1_isLoad i = 0 := bz_f (by (try simp only [fX5_within, bz_0] at c_1 c_3); simp only [Int32.le_iff_toInt_le, Int32.lt_iff_toInt_lt, Int64.le_iff_toInt_le, Int64.lt_iff_toInt_lt, ← Int32.toInt_inj, Int32.reduceToInt, Int64.reduceToInt] at c_1 c_3 ⊢; omega)
      rw [hfn] at hQ
      exact hQ _ _ _ _ _ rfl hP hD hS dX1_isLoad_20
    · refine lv_iconst (v := 1) (pc := 15) hx hb dX1_isLoad_15 rfl ?_
      refine lv_goto (tgt := 20) (pc := 16) hx hb dX1_isLoad_16 (by decide) ?_
      subst er2
      have hfn : fX1_isLoad i = 1 := bz_t (by (try simp only [fX5_within, bz_0] at c_1 c_3); simp only [Int32.le_iff_toInt_le, Int32.lt_iff_toInt_lt, Int64.le_iff_toInt_le, Int64.lt_iff_toInt_lt, ← Int32.toInt_inj, Int32.reduceToInt, Int64.reduceToInt] at c_1 c_3 ⊢; omega)
      rw [hfn] at hQ
      exact hQ _ _ _ _ _ rfl hP hD hS dX1_isLoad_20

def fX1_isRange (lo : Int32) (hi : Int32) : Int32 :=
  bz ((0 ≤ lo ∧ lo ≤ 99999) ∧ (0 ≤ hi ∧ hi ≤ 99999) ∧ lo ≤ hi)
abbrev rX1_isRange : Room := { frames := 1, cells := 0, slots := 0, locals := 22 }
theorem mm_X1_isRange_1 : Cond.constant RX1 164 (99999) ∈ wsX1_isRange := List.mem_of_getElem? (i := 1) rfl
theorem mm_X1_isRange_3 : Cond.initialized RX5 ∈ wsX1_isRange := List.mem_of_getElem? (i := 3) rfl
theorem mm_X1_isRange_2 : Cond.static yX5_within ∈ wsX1_isRange := List.mem_of_getElem? (i := 2) rfl
theorem qsX1_isRange : yX1_isRange.cls = RX1 ∧ yX1_isRange.cls ≠ "java/lang/invoke/MethodHandle" ∧ yX1_isRange.cls ≠ "java/lang/invoke/VarHandle" ∧ (parseMethodDescriptor yX1_isRange.desc).map (fun d => d.parameters.length) = some 2 := by decide +kernel
theorem qnX1_isRange : yX1_isRange.cls ≠ "java/lang/invoke/MethodHandle" ∧ yX1_isRange.cls ≠ "java/lang/invoke/VarHandle" ∧ (parseMethodDescriptor yX1_isRange.desc).map (fun d => d.parameters.length) = some 2 := by decide +kernel
set_option maxHeartbeats 4000000 in
set_option maxRecDepth 100000 in
theorem kX1_isRange (l : Launch) (E : gEnv) (lo : Int32) (hi : Int32) : gMi l E yX1_isRange wsX1_isRange rX1_isRange [.int lo, .int hi] [] (fX1_isRange lo hi) [] := by
  refine gMz_of (cc := cX1_isRange) (maxL := 2) (ret := (some .boolean)) (by decide) rfl rfl (Nat.le_of_ble_eq_true rfl) bz_n ?_
  intro p e s m args below meth c A Q ls hB hQ
  obtain ⟨hx, hb, hml, hown, hts, hK, hP, hD, hA, hS, hl⟩ := hB
  have hown : s.vm.findClass RX1 = some m.cls := hown
  have hP : va_P E.1 vwCl [] s.heap := hP
  have hD : va_D A [] := hD
  have hl : lv_has ls 2 [(0, .int lo), (1, .int hi)] := hl
  refine lv_iload_n (pc := 0) hx hb dX1_isRange_0 rfl (lv_at hl 0 rfl) ?_
  refine lv_iconst (v := 0) (pc := 1) hx hb dX1_isRange_1 rfl ?_
  refine lv_ldc (v := (99999)) (pc := 2) hx hb hown (hts _ mm_X1_isRange_1) dX1_isRange_2 ?_
  obtain ⟨r1, er1⟩ : ∃ z : Int32, fX5_within lo 0 99999 = z := ⟨_, rfl⟩
  have hr1 := kX5_within l E lo 0 99999
  rw [er1] at hr1
  refine gcNi (pc := 4) (As := [.int lo, .int 0, .int 99999]) (rest := []) ⟨hx, hb, hml, hown, hts⟩ hr1 ⟨va_cnB 3 hts ggX1_isRange_X5_within rfl rfl rfl hK.2.2.1 (hts _ mm_X1_isRange_3) qnX5_within ⟨Nat.le_of_ble_eq_true rfl, Nat.le_of_ble_eq_true rfl⟩, hts _ mm_X1_isRange_2, trivial⟩ hK hP hD hS hA rfl hl.1 rfl (Nat.le_of_ble_eq_true rfl) dX1_isRange_4 ⟨Nat.zero_le _, Nat.zero_le _⟩ (fun H locs hP hD hS => ?_)
  refine lv_if_eq (tgt := 29) (pc := 7) hx hb dX1_isRange_7 (by decide) (fun c_2 => ?_) (fun c_2 => ?_)
  · refine lv_iconst (v := 0) (pc := 29) hx hb dX1_isRange_29 rfl ?_
    subst er1
    have hfn : fX1_isRange lo hi = 0 := bz_f (by (try simp only [fX5_within, bz_0] at c_2); simp only [Int32.le_iff_toInt_le, Int32.lt_iff_toInt_lt, Int64.le_iff_toInt_le, Int64.lt_iff_toInt_lt, ← Int32.toInt_inj, Int32.reduceToInt, Int64.reduceToInt] at c_2 ⊢; omega)
    rw [hfn] at hQ
    exact hQ _ _ _ _ _ rfl hP hD hS dX1_isRange_30
  · refine lv_iload_n (pc := 10) hx hb dX1_isRange_10 rfl (lv_at hl 1 rfl) ?_
    refine lv_iconst (v := 0) (pc := 11) hx hb dX1_isRange_11 rfl ?_
    refine lv_ldc (v := (99999)) (pc := 12) hx hb hown (hts _ mm_X1_isRange_1) dX1_isRange_12 ?_
    obtain ⟨r3, er3⟩ : ∃ z : Int32, fX5_within hi 0 99999 = z := ⟨_, rfl⟩
    have hr3 := kX5_within l E hi 0 99999
    rw [er3] at hr3
    refine gcNi (pc := 14) (As := [.int hi, .int 0, .int 99999]) (rest := []) ⟨hx, hb, hml, hown, hts⟩ hr3 ⟨va_cnB 3 hts ggX1_isRange_X5_within rfl rfl rfl hK.2.2.1 (hts _ mm_X1_isRange_3) qnX5_within ⟨Nat.le_of_ble_eq_true rfl, Nat.le_of_ble_eq_true rfl⟩, hts _ mm_X1_isRange_2, trivial⟩ hK hP hD hS hA rfl hl.1 rfl (Nat.le_of_ble_eq_true rfl) dX1_isRange_14 ⟨Nat.zero_le _, Nat.zero_le _⟩ (fun H locs hP hD hS => ?_)
    refine lv_if_eq (tgt := 29) (pc := 17) hx hb dX1_isRange_17 (by decide) (fun c_4 => ?_) (fun c_4 => ?_)
    · refine lv_iconst (v := 0) (pc := 29) hx hb dX1_isRange_29 rfl ?_
      subst er3
      subst er1
      have hfn : fX1_isRange lo hi = 0 := bz_f (by (try simp only [fX5_within, bz_0] at c_2 c_4); simp only [Int32.le_iff_toInt_le, Int32.lt_iff_toInt_lt, Int64.le_iff_toInt_le, Int64.lt_iff_toInt_lt, ← Int32.toInt_inj, Int32.reduceToInt, Int64.reduceToInt] at c_2 c_4 ⊢; omega)
      rw [hfn] at hQ
      exact hQ _ _ _ _ _ rfl hP hD hS dX1_isRange_30
    · refine lv_iload_n (pc := 20) hx hb dX1_isRange_20 rfl (lv_at hl 0 rfl) ?_
      refine lv_iload_n (pc := 21) hx hb dX1_isRange_21 rfl (lv_at hl 1 rfl) ?_
      refine lv_icmp_gt (tgt := 29) (pc := 22) hx hb dX1_isRange_22 (by decide) (fun c_5 => ?_) (fun c_5 => ?_)
      · refine lv_iconst (v := 0) (pc := 29) hx hb dX1_isRange_29 rfl ?_
        subst er3
        subst er1
        have hfn : fX1_isRange lo hi = 0 := bz_f (by (try simp only [fX5_within, bz_0] at c_2 c_4 c_5); simp only [Int32.le_iff_toInt_le, Int32.lt_iff_toInt_lt, Int64.le_iff_toInt_le, Int64.lt_iff_toInt_lt, ← Int32.toInt_inj, Int32.reduceToInt, Int64.reduceToInt] at c_2 c_4 c_5 ⊢; omega)
        rw [hfn] at hQ
        exact hQ _ _ _ _ _ rfl hP hD hS dX1_isRange_30
      · refine lv_iconst (v := 1) (pc := 25) hx hb dX1_isRange_25 rfl ?_
        refine lv_goto (tgt := 30) (pc := 26) hx hb dX1_isRange_26 (by decide) ?_
        subst er3
        subst er1
        have hfn : fX1_isRange lo hi = 1 := bz_t (by (try simp only [fX5_within, bz_0] at c_2 c_4 c_5); simp only [Int32.le_iff_toInt_le, Int32.lt_iff_toInt_lt, Int64.le_iff_toInt_le, Int64.lt_iff_toInt_lt, ← Int32.toInt_inj, Int32.reduceToInt, Int64.reduceToInt] at c_2 c_4 c_5 ⊢; omega)
        rw [hfn] at hQ
        exact hQ _ _ _ _ _ rfl hP hD hS dX1_isRange_30

def fX1_signOf (i : Int32) : Int32 :=
  let x2 : Int32 := (if i ≤ 0 then 1 else 0)
  x2
abbrev rX1_signOf : Room := { frames := 0, cells := 0, slots := 0, locals := 0 }
theorem qsX1_signOf : yX1_signOf.cls = RX1 ∧ yX1_signOf.cls ≠ "java/lang/invoke/MethodHandle" ∧ yX1_signOf.cls ≠ "java/lang/invoke/VarHandle" ∧ (parseMethodDescriptor yX1_signOf.desc).map (fun d => d.parameters.length) = some 1 := by decide +kernel
theorem qnX1_signOf : yX1_signOf.cls ≠ "java/lang/invoke/MethodHandle" ∧ yX1_signOf.cls ≠ "java/lang/invoke/VarHandle" ∧ (parseMethodDescriptor yX1_signOf.desc).map (fun d => d.parameters.length) = some 1 := by decide +kernel
set_option maxHeartbeats 4000000 in
set_option maxRecDepth 100000 in
theorem kX1_signOf (l : Launch) (E : gEnv) (i : Int32) : gMi l E yX1_signOf wsX1_signOf rX1_signOf [.int i] [] (fX1_signOf i) [] := by
  refine gMi_of (cc := cX1_signOf) (maxL := 1) (ret := (some .int)) (by decide) rfl rfl (Nat.le_of_ble_eq_true rfl) ?_
  intro p e s m args below meth c A Q ls hB hQ
  obtain ⟨hx, hb, hml, hown, hts, hK, hP, hD, hA, hS, hl⟩ := hB
  have hown : s.vm.findClass RX1 = some m.cls := hown
  have hP : va_P E.1 vwCl [] s.heap := hP
  have hD : va_D A [] := hD
  have hl : lv_has ls 1 [(0, .int i)] := hl
  refine lv_iload_n (pc := 0) hx hb dX1_signOf_0 rfl (lv_at hl 0 rfl) ?_
  have J_3 : ∀ (H : Heap) (locs : List Loc) (ls : Array Slot) (x2 : Int32), (if i ≤ 0 then 1 else 0) = x2 → va_P E.1 vwCl [] H → va_D A [] → va_S A s.heap H locs → lv_has ls 1 [(0, .int i)] → W p l e rX1_signOf s m args below meth c H locs 0 0 Q (F0 m 9 ls [.int x2]) := by
    intro H locs ls x2 ex2 hP hD hS hl
    subst ex2
    exact hQ _ _ _ _ _ rfl hP hD hS dX1_signOf_9
  refine lv_if_le (tgt := 8) (pc := 1) hx hb dX1_signOf_1 (by decide) (fun c_1 => ?_) (fun c_1 => ?_)
  · refine lv_iconst (v := 1) (pc := 8) hx hb dX1_signOf_8 rfl ?_
    exact J_3 _ _ _ _ (if_pos c_1) hP hD hS (lv_sub hl [0] rfl)
  · refine lv_iconst (v := 0) (pc := 4) hx hb dX1_signOf_4 rfl ?_
    refine lv_goto (tgt := 9) (pc := 5) hx hb dX1_signOf_5 (by decide) ?_
    exact J_3 _ _ _ _ (if_neg c_1) hP hD hS (lv_sub hl [0] rfl)

def fX1_tenthOf (i : Int32) : Int32 :=
  i / 100
abbrev rX1_tenthOf : Room := { frames := 0, cells := 0, slots := 0, locals := 0 }
theorem qsX1_tenthOf : yX1_tenthOf.cls = RX1 ∧ yX1_tenthOf.cls ≠ "java/lang/invoke/MethodHandle" ∧ yX1_tenthOf.cls ≠ "java/lang/invoke/VarHandle" ∧ (parseMethodDescriptor yX1_tenthOf.desc).map (fun d => d.parameters.length) = some 1 := by decide +kernel
theorem qnX1_tenthOf : yX1_tenthOf.cls ≠ "java/lang/invoke/MethodHandle" ∧ yX1_tenthOf.cls ≠ "java/lang/invoke/VarHandle" ∧ (parseMethodDescriptor yX1_tenthOf.desc).map (fun d => d.parameters.length) = some 1 := by decide +kernel
set_option maxHeartbeats 4000000 in
set_option maxRecDepth 100000 in
theorem kX1_tenthOf (l : Launch) (E : gEnv) (i : Int32) : gMi l E yX1_tenthOf wsX1_tenthOf rX1_tenthOf [.int i] [] (fX1_tenthOf i) [] := by
  refine gMi_of (cc := cX1_tenthOf) (maxL := 1) (ret := (some .int)) (by decide) rfl rfl (Nat.le_of_ble_eq_true rfl) ?_
  intro p e s m args below meth c A Q ls hB hQ
  obtain ⟨hx, hb, hml, hown, hts, hK, hP, hD, hA, hS, hl⟩ := hB
  have hown : s.vm.findClass RX1 = some m.cls := hown
  have hP : va_P E.1 vwCl [] s.heap := hP
  have hD : va_D A [] := hD
  have hl : lv_has ls 1 [(0, .int i)] := hl
  refine lv_iload_n (pc := 0) hx hb dX1_tenthOf_0 rfl (lv_at hl 0 rfl) ?_
  refine lv_bipush (v := 100) (pc := 1) hx hb dX1_tenthOf_1 rfl ?_
  refine lv_idiv (pc := 3) hx hb dX1_tenthOf_3 (by decide) ?_
  exact hQ _ _ _ _ _ rfl hP hD hS dX1_tenthOf_4

def fX5_isRefusal (r : Int32) : Int32 :=
  bz (r = (-10000002) ∨ r = (-10000003) ∨ r = (-10000004))
abbrev rX5_isRefusal : Room := { frames := 0, cells := 0, slots := 0, locals := 0 }
theorem mm_X5_isRefusal_1 : Cond.constant RX5 67 (-10000002) ∈ wsX5_isRefusal := List.mem_of_getElem? (i := 1) rfl
theorem mm_X5_isRefusal_2 : Cond.constant RX5 129 (-10000003) ∈ wsX5_isRefusal := List.mem_of_getElem? (i := 2) rfl
theorem mm_X5_isRefusal_3 : Cond.constant RX5 170 (-10000004) ∈ wsX5_isRefusal := List.mem_of_getElem? (i := 3) rfl
theorem qsX5_isRefusal : yX5_isRefusal.cls = RX5 ∧ yX5_isRefusal.cls ≠ "java/lang/invoke/MethodHandle" ∧ yX5_isRefusal.cls ≠ "java/lang/invoke/VarHandle" ∧ (parseMethodDescriptor yX5_isRefusal.desc).map (fun d => d.parameters.length) = some 1 := by decide +kernel
theorem qnX5_isRefusal : yX5_isRefusal.cls ≠ "java/lang/invoke/MethodHandle" ∧ yX5_isRefusal.cls ≠ "java/lang/invoke/VarHandle" ∧ (parseMethodDescriptor yX5_isRefusal.desc).map (fun d => d.parameters.length) = some 1 := by decide +kernel
set_option maxHeartbeats 4000000 in
set_option maxRecDepth 100000 in
theorem kX5_isRefusal (l : Launch) (E : gEnv) (r : Int32) : gMi l E yX5_isRefusal wsX5_isRefusal rX5_isRefusal [.int r] [] (fX5_isRefusal r) [] := by
  refine gMz_of (cc := cX5_isRefusal) (maxL := 1) (ret := (some .boolean)) (by decide) rfl rfl (Nat.le_of_ble_eq_true rfl) bz_n ?_
  intro p e s m args below meth c A Q ls hB hQ
  obtain ⟨hx, hb, hml, hown, hts, hK, hP, hD, hA, hS, hl⟩ := hB
  have hown : s.vm.findClass RX5 = some m.cls := hown
  have hP : va_P E.1 vwCl [] s.heap := hP
  have hD : va_D A [] := hD
  have hl : lv_has ls 1 [(0, .int r)] := hl
  refine lv_iload_n (pc := 0) hx hb dX5_isRefusal_0 rfl (lv_at hl 0 rfl) ?_
  refine lv_ldc (v := (-10000002)) (pc := 1) hx hb hown (hts _ mm_X5_isRefusal_1) dX5_isRefusal_1 ?_
  refine lv_icmp_eq (tgt := 18) (pc := 3) hx hb dX5_isRefusal_3 (by decide) (fun c_1 => ?_) (fun c_1 => ?_)
  · refine lv_iconst (v := 1) (pc := 18) hx hb dX5_isRefusal_18 rfl ?_
    refine lv_goto (tgt := 23) (pc := 19) hx hb dX5_isRefusal_19 (by decide) ?_
    have hfn : fX5_isRefusal r = 1 := bz_t (by (try simp only [bz_0] at c_1); simp only [Int32.le_iff_toInt_le, Int32.lt_iff_toInt_lt, Int64.le_iff_toInt_le, Int64.lt_iff_toInt_lt, ← Int32.toInt_inj, Int32.reduceToInt, Int64.reduceToInt] at c_1 ⊢; omega)
    rw [hfn] at hQ
    exact hQ _ _ _ _ _ rfl hP hD hS dX5_isRefusal_23
  · refine lv_iload_n (pc := 6) hx hb dX5_isRefusal_6 rfl (lv_at hl 0 rfl) ?_
    refine lv_ldc (v := (-10000003)) (pc := 7) hx hb hown (hts _ mm_X5_isRefusal_2) dX5_isRefusal_7 ?_
    refine lv_icmp_eq (tgt := 18) (pc := 9) hx hb dX5_isRefusal_9 (by decide) (fun c_2 => ?_) (fun c_2 => ?_)
    · refine lv_iconst (v := 1) (pc := 18) hx hb dX5_isRefusal_18 rfl ?_
      refine lv_goto (tgt := 23) (pc := 19) hx hb dX5_isRefusal_19 (by decide) ?_
      have hfn : fX5_isRefusal r = 1 := bz_t (by (try simp only [bz_0] at c_1 c_2); simp only [Int32.le_iff_toInt_le, Int32.lt_iff_toInt_lt, Int64.le_iff_toInt_le, Int64.lt_iff_toInt_lt, ← Int32.toInt_inj, Int32.reduceToInt, Int64.reduceToInt] at c_1 c_2 ⊢; omega)
      rw [hfn] at hQ
      exact hQ _ _ _ _ _ rfl hP hD hS dX5_isRefusal_23
    · refine lv_iload_n (pc := 12) hx hb dX5_isRefusal_12 rfl (lv_at hl 0 rfl) ?_
      refine lv_ldc (v := (-10000004)) (pc := 13) hx hb hown (hts _ mm_X5_isRefusal_3) dX5_isRefusal_13 ?_
      refine lv_icmp_ne (tgt := 22) (pc := 15) hx hb dX5_isRefusal_15 (by decide) (fun c_3 => ?_) (fun c_3 => ?_)
      · refine lv_iconst (v := 0) (pc := 22) hx hb dX5_isRefusal_22 rfl ?_
        have hfn : fX5_isRefusal r = 0 := bz_f (by (try simp only [bz_0] at c_1 c_2 c_3); simp only [Int32.le_iff_toInt_le, Int32.lt_iff_toInt_lt, Int64.le_iff_toInt_le, Int64.lt_iff_toInt_lt, ← Int32.toInt_inj, Int32.reduceToInt, Int64.reduceToInt] at c_1 c_2 c_3 ⊢; omega)
        rw [hfn] at hQ
        exact hQ _ _ _ _ _ rfl hP hD hS dX5_isRefusal_23
      · refine lv_iconst (v := 1) (pc := 18) hx hb dX5_isRefusal_18 rfl ?_
        refine lv_goto (tgt := 23) (pc := 19) hx hb dX5_isRefusal_19 (by decide) ?_
        have hfn : fX5_isRefusal r = 1 := bz_t (by (try simp only [bz_0] at c_1 c_2 c_3); simp only [Int32.le_iff_toInt_le, Int32.lt_iff_toInt_lt, Int64.le_iff_toInt_le, Int64.lt_iff_toInt_lt, ← Int32.toInt_inj, Int32.reduceToInt, Int64.reduceToInt] at c_1 c_2 c_3 ⊢; omega)
        rw [hfn] at hQ
        exact hQ _ _ _ _ _ rfl hP hD hS dX5_isRefusal_23

def fX4_hasSecond (k : Int32) : Int32 :=
  bz (k = 112 ∨ k = 108 ∨ k = 99)
abbrev rX4_hasSecond : Room := { frames := 0, cells := 0, slots := 0, locals := 0 }
theorem qsX4_hasSecond : yX4_hasSecond.cls = RX4 ∧ yX4_hasSecond.cls ≠ "java/lang/invoke/MethodHandle" ∧ yX4_hasSecond.cls ≠ "java/lang/invoke/VarHandle" ∧ (parseMethodDescriptor yX4_hasSecond.desc).map (fun d => d.parameters.length) = some 1 := by decide +kernel
theorem qnX4_hasSecond : yX4_hasSecond.cls ≠ "java/lang/invoke/MethodHandle" ∧ yX4_hasSecond.cls ≠ "java/lang/invoke/VarHandle" ∧ (parseMethodDescriptor yX4_hasSecond.desc).map (fun d => d.parameters.length) = some 1 := by decide +kernel
set_option maxHeartbeats 4000000 in
set_option maxRecDepth 100000 in
theorem kX4_hasSecond (l : Launch) (E : gEnv) (k : Int32) : gMi l E yX4_hasSecond wsX4_hasSecond rX4_hasSecond [.int k] [] (fX4_hasSecond k) [] := by
  refine gMz_of (cc := cX4_hasSecond) (maxL := 1) (ret := (some .boolean)) (by decide) rfl rfl (Nat.le_of_ble_eq_true rfl) bz_n ?_
  intro p e s m args below meth c A Q ls hB hQ
  obtain ⟨hx, hb, hml, hown, hts, hK, hP, hD, hA, hS, hl⟩ := hB
  have hown : s.vm.findClass RX4 = some m.cls := hown
  have hP : va_P E.1 vwCl [] s.heap := hP
  have hD : va_D A [] := hD
  have hl : lv_has ls 1 [(0, .int k)] := hl
  refine lv_iload_n (pc := 0) hx hb dX4_hasSecond_0 rfl (lv_at hl 0 rfl) ?_
  refine lv_bipush (v := 112) (pc := 1) hx hb dX4_hasSecond_1 rfl ?_
  refine lv_icmp_eq (tgt := 18) (pc := 3) hx hb dX4_hasSecond_3 (by decide) (fun c_1 => ?_) (fun c_1 => ?_)
  · refine lv_iconst (v := 1) (pc := 18) hx hb dX4_hasSecond_18 rfl ?_
    refine lv_goto (tgt := 23) (pc := 19) hx hb dX4_hasSecond_19 (by decide) ?_
    have hfn : fX4_hasSecond k = 1 := bz_t (by (try simp only [bz_0] at c_1); simp only [Int32.le_iff_toInt_le, Int32.lt_iff_toInt_lt, Int64.le_iff_toInt_le, Int64.lt_iff_toInt_lt, ← Int32.toInt_inj, Int32.reduceToInt, Int64.reduceToInt] at c_1 ⊢; omega)
    rw [hfn] at hQ
    exact hQ _ _ _ _ _ rfl hP hD hS dX4_hasSecond_23
  · refine lv_iload_n (pc := 6) hx hb dX4_hasSecond_6 rfl (lv_at hl 0 rfl) ?_
    refine lv_bipush (v := 108) (pc := 7) hx hb dX4_hasSecond_7 rfl ?_
    refine lv_icmp_eq (tgt := 18) (pc := 9) hx hb dX4_hasSecond_9 (by decide) (fun c_2 => ?_) (fun c_2 => ?_)
    · refine lv_iconst (v := 1) (pc := 18) hx hb dX4_hasSecond_18 rfl ?_
      refine lv_goto (tgt := 23) (pc := 19) hx hb dX4_hasSecond_19 (by decide) ?_
      have hfn : fX4_hasSecond k = 1 := bz_t (by (try simp only [bz_0] at c_1 c_2); simp only [Int32.le_iff_toInt_le, Int32.lt_iff_toInt_lt, Int64.le_iff_toInt_le, Int64.lt_iff_toInt_lt, ← Int32.toInt_inj, Int32.reduceToInt, Int64.reduceToInt] at c_1 c_2 ⊢; omega)
      rw [hfn] at hQ
      exact hQ _ _ _ _ _ rfl hP hD hS dX4_hasSecond_23
    · refine lv_iload_n (pc := 12) hx hb dX4_hasSecond_12 rfl (lv_at hl 0 rfl) ?_
      refine lv_bipush (v := 99) (pc := 13) hx hb dX4_hasSecond_13 rfl ?_
      refine lv_icmp_ne (tgt := 22) (pc := 15) hx hb dX4_hasSecond_15 (by decide) (fun c_3 => ?_) (fun c_3 => ?_)
      · refine lv_iconst (v := 0) (pc := 22) hx hb dX4_hasSecond_22 rfl ?_
        have hfn : fX4_hasSecond k = 0 := bz_f (by (try simp only [bz_0] at c_1 c_2 c_3); simp only [Int32.le_iff_toInt_le, Int32.lt_iff_toInt_lt, Int64.le_iff_toInt_le, Int64.lt_iff_toInt_lt, ← Int32.toInt_inj, Int32.reduceToInt, Int64.reduceToInt] at c_1 c_2 c_3 ⊢; omega)
        rw [hfn] at hQ
        exact hQ _ _ _ _ _ rfl hP hD hS dX4_hasSecond_23
      · refine lv_iconst (v := 1) (pc := 18) hx hb dX4_hasSecond_18 rfl ?_
        refine lv_goto (tgt := 23) (pc := 19) hx hb dX4_hasSecond_19 (by decide) ?_
        have hfn : fX4_hasSecond k = 1 := bz_t (by (try simp only [bz_0] at c_1 c_2 c_3); simp only [Int32.le_iff_toInt_le, Int32.lt_iff_toInt_lt, Int64.le_iff_toInt_le, Int64.lt_iff_toInt_lt, ← Int32.toInt_inj, Int32.reduceToInt, Int64.reduceToInt] at c_1 c_2 c_3 ⊢; omega)
        rw [hfn] at hQ
        exact hQ _ _ _ _ _ rfl hP hD hS dX4_hasSecond_23

def fX4_isKind (k : Int32) : Int32 :=
  bz (k = 114 ∨ k = 111 ∨ k = 103 ∨ k = 112 ∨ k = 108 ∨ k = 99)
abbrev rX4_isKind : Room := { frames := 1, cells := 0, slots := 0, locals := 20 }
theorem qsX4_isKind : yX4_isKind.cls = RX4 ∧ yX4_isKind.cls ≠ "java/lang/invoke/MethodHandle" ∧ yX4_isKind.cls ≠ "java/lang/invoke/VarHandle" ∧ (parseMethodDescriptor yX4_isKind.desc).map (fun d => d.parameters.length) = some 1 := by decide +kernel
theorem qnX4_isKind : yX4_isKind.cls ≠ "java/lang/invoke/MethodHandle" ∧ yX4_isKind.cls ≠ "java/lang/invoke/VarHandle" ∧ (parseMethodDescriptor yX4_isKind.desc).map (fun d => d.parameters.length) = some 1 := by decide +kernel
set_option maxHeartbeats 4000000 in
set_option maxRecDepth 100000 in
theorem kX4_isKind (l : Launch) (E : gEnv) (k : Int32) : gMi l E yX4_isKind wsX4_isKind rX4_isKind [.int k] [] (fX4_isKind k) [] := by
  refine gMz_of (cc := cX4_isKind) (maxL := 1) (ret := (some .boolean)) (by decide) rfl rfl (Nat.le_of_ble_eq_true rfl) bz_n ?_
  intro p e s m args below meth c A Q ls hB hQ
  obtain ⟨hx, hb, hml, hown, hts, hK, hP, hD, hA, hS, hl⟩ := hB
  have hown : s.vm.findClass RX4 = some m.cls := hown
  have hP : va_P E.1 vwCl [] s.heap := hP
  have hD : va_D A [] := hD
  have hl : lv_has ls 1 [(0, .int k)] := hl
  refine lv_iload_n (pc := 0) hx hb dX4_isKind_0 rfl (lv_at hl 0 rfl) ?_
  refine lv_bipush (v := 114) (pc := 1) hx hb dX4_isKind_1 rfl ?_
  refine lv_icmp_eq (tgt := 25) (pc := 3) hx hb dX4_isKind_3 (by decide) (fun c_1 => ?_) (fun c_1 => ?_)
  · refine lv_iconst (v := 1) (pc := 25) hx hb dX4_isKind_25 rfl ?_
    refine lv_goto (tgt := 30) (pc := 26) hx hb dX4_isKind_26 (by decide) ?_
    have hfn : fX4_isKind k = 1 := bz_t (by (try simp only [fX4_hasSecond, bz_0] at c_1); simp only [Int32.le_iff_toInt_le, Int32.lt_iff_toInt_lt, Int64.le_iff_toInt_le, Int64.lt_iff_toInt_lt, ← Int32.toInt_inj, Int32.reduceToInt, Int64.reduceToInt] at c_1 ⊢; omega)
    rw [hfn] at hQ
    exact hQ _ _ _ _ _ rfl hP hD hS dX4_isKind_30
  · refine lv_iload_n (pc := 6) hx hb dX4_isKind_6 rfl (lv_at hl 0 rfl) ?_
    refine lv_bipush (v := 111) (pc := 7) hx hb dX4_isKind_7 rfl ?_
    refine lv_icmp_eq (tgt := 25) (pc := 9) hx hb dX4_isKind_9 (by decide) (fun c_2 => ?_) (fun c_2 => ?_)
    · refine lv_iconst (v := 1) (pc := 25) hx hb dX4_isKind_25 rfl ?_
      refine lv_goto (tgt := 30) (pc := 26) hx hb dX4_isKind_26 (by decide) ?_
      have hfn : fX4_isKind k = 1 := bz_t (by (try simp only [fX4_hasSecond, bz_0] at c_1 c_2); simp only [Int32.le_iff_toInt_le, Int32.lt_iff_toInt_lt, Int64.le_iff_toInt_le, Int64.lt_iff_toInt_lt, ← Int32.toInt_inj, Int32.reduceToInt, Int64.reduceToInt] at c_1 c_2 ⊢; omega)
      rw [hfn] at hQ
      exact hQ _ _ _ _ _ rfl hP hD hS dX4_isKind_30
    · refine lv_iload_n (pc := 12) hx hb dX4_isKind_12 rfl (lv_at hl 0 rfl) ?_
      refine lv_bipush (v := 103) (pc := 13) hx hb dX4_isKind_13 rfl ?_
      refine lv_icmp_eq (tgt := 25) (pc := 15) hx hb dX4_isKind_15 (by decide) (fun c_3 => ?_) (fun c_3 => ?_)
      · refine lv_iconst (v := 1) (pc := 25) hx hb dX4_isKind_25 rfl ?_
        refine lv_goto (tgt := 30) (pc := 26) hx hb dX4_isKind_26 (by decide) ?_
        have hfn : fX4_isKind k = 1 := bz_t (by (try simp only [fX4_hasSecond, bz_0] at c_1 c_2 c_3); simp only [Int32.le_iff_toInt_le, Int32.lt_iff_toInt_lt, Int64.le_iff_toInt_le, Int64.lt_iff_toInt_lt, ← Int32.toInt_inj, Int32.reduceToInt, Int64.reduceToInt] at c_1 c_2 c_3 ⊢; omega)
        rw [hfn] at hQ
        exact hQ _ _ _ _ _ rfl hP hD hS dX4_isKind_30
      · refine lv_iload_n (pc := 18) hx hb dX4_isKind_18 rfl (lv_at hl 0 rfl) ?_
        obtain ⟨r4, er4⟩ : ∃ z : Int32, fX4_hasSecond k = z := ⟨_, rfl⟩
        have hr4 := kX4_hasSecond l E k
        rw [er4] at hr4
        refine gcSi (pc := 19) (As := [.int k]) (rest := []) ⟨hx, hb, hml, hown, hts⟩ hr4 (cwS 1 hts gX4_isKind_X4_hasSecond rfl rfl rfl qsX4_hasSecond ⟨Nat.le_of_ble_eq_true rfl, Nat.le_of_ble_eq_true rfl⟩) hK hP hD hS hA rfl hl.1 rfl (Nat.le_of_ble_eq_true rfl) dX4_isKind_19 ⟨Nat.zero_le _, Nat.zero_le _⟩ (fun H locs hP hD hS => ?_)
        refine lv_if_eq (tgt := 29) (pc := 22) hx hb dX4_isKind_22 (by decide) (fun c_5 => ?_) (fun c_5 => ?_)
        · refine lv_iconst (v := 0) (pc := 29) hx hb dX4_isKind_29 rfl ?_
          subst er4
          have hfn : fX4_isKind k = 0 := bz_f (by (try simp only [fX4_hasSecond, bz_0] at c_1 c_2 c_3 c_5); simp only [Int32.le_iff_toInt_le, Int32.lt_iff_toInt_lt, Int64.le_iff_toInt_le, Int64.lt_iff_toInt_lt, ← Int32.toInt_inj, Int32.reduceToInt, Int64.reduceToInt] at c_1 c_2 c_3 c_5 ⊢; omega)
          rw [hfn] at hQ
          exact hQ _ _ _ _ _ rfl hP hD hS dX4_isKind_30
        · refine lv_iconst (v := 1) (pc := 25) hx hb dX4_isKind_25 rfl ?_
          refine lv_goto (tgt := 30) (pc := 26) hx hb dX4_isKind_26 (by decide) ?_
          subst er4
          have hfn : fX4_isKind k = 1 := bz_t (by (try simp only [fX4_hasSecond, bz_0] at c_1 c_2 c_3 c_5); simp only [Int32.le_iff_toInt_le, Int32.lt_iff_toInt_lt, Int64.le_iff_toInt_le, Int64.lt_iff_toInt_lt, ← Int32.toInt_inj, Int32.reduceToInt, Int64.reduceToInt] at c_1 c_2 c_3 c_5 ⊢; omega)
          rw [hfn] at hQ
          exact hQ _ _ _ _ _ rfl hP hD hS dX4_isKind_30

def fX4_isFigure (k : Int32) : Int32 :=
  bz (48 ≤ k ∧ k ≤ 57)
abbrev rX4_isFigure : Room := { frames := 0, cells := 0, slots := 0, locals := 0 }
theorem qsX4_isFigure : yX4_isFigure.cls = RX4 ∧ yX4_isFigure.cls ≠ "java/lang/invoke/MethodHandle" ∧ yX4_isFigure.cls ≠ "java/lang/invoke/VarHandle" ∧ (parseMethodDescriptor yX4_isFigure.desc).map (fun d => d.parameters.length) = some 1 := by decide +kernel
theorem qnX4_isFigure : yX4_isFigure.cls ≠ "java/lang/invoke/MethodHandle" ∧ yX4_isFigure.cls ≠ "java/lang/invoke/VarHandle" ∧ (parseMethodDescriptor yX4_isFigure.desc).map (fun d => d.parameters.length) = some 1 := by decide +kernel
set_option maxHeartbeats 4000000 in
set_option maxRecDepth 100000 in
theorem kX4_isFigure (l : Launch) (E : gEnv) (k : Int32) : gMi l E yX4_isFigure wsX4_isFigure rX4_isFigure [.int k] [] (fX4_isFigure k) [] := by
  refine gMz_of (cc := cX4_isFigure) (maxL := 1) (ret := (some .boolean)) (by decide) rfl rfl (Nat.le_of_ble_eq_true rfl) bz_n ?_
  intro p e s m args below meth c A Q ls hB hQ
  obtain ⟨hx, hb, hml, hown, hts, hK, hP, hD, hA, hS, hl⟩ := hB
  have hown : s.vm.findClass RX4 = some m.cls := hown
  have hP : va_P E.1 vwCl [] s.heap := hP
  have hD : va_D A [] := hD
  have hl : lv_has ls 1 [(0, .int k)] := hl
  refine lv_iload_n (pc := 0) hx hb dX4_isFigure_0 rfl (lv_at hl 0 rfl) ?_
  refine lv_bipush (v := 48) (pc := 1) hx hb dX4_isFigure_1 rfl ?_
  refine lv_icmp_lt (tgt := 16) (pc := 3) hx hb dX4_isFigure_3 (by decide) (fun c_1 => ?_) (fun c_1 => ?_)
  · refine lv_iconst (v := 0) (pc := 16) hx hb dX4_isFigure_16 rfl ?_
    have hfn : fX4_isFigure k = 0 := bz_f (by (try simp only [bz_0] at c_1); simp only [Int32.le_iff_toInt_le, Int32.lt_iff_toInt_lt, Int64.le_iff_toInt_le, Int64.lt_iff_toInt_lt, ← Int32.toInt_inj, Int32.reduceToInt, Int64.reduceToInt] at c_1 ⊢; omega)
    rw [hfn] at hQ
    exact hQ _ _ _ _ _ rfl hP hD hS dX4_isFigure_17
  · refine lv_iload_n (pc := 6) hx hb dX4_isFigure_6 rfl (lv_at hl 0 rfl) ?_
    refine lv_bipush (v := 57) (pc := 7) hx hb dX4_isFigure_7 rfl ?_
    refine lv_icmp_gt (tgt := 16) (pc := 9) hx hb dX4_isFigure_9 (by decide) (fun c_2 => ?_) (fun c_2 => ?_)
    · refine lv_iconst (v := 0) (pc := 16) hx hb dX4_isFigure_16 rfl ?_
      have hfn : fX4_isFigure k = 0 := bz_f (by (try simp only [bz_0] at c_1 c_2); simp only [Int32.le_iff_toInt_le, Int32.lt_iff_toInt_lt, Int64.le_iff_toInt_le, Int64.lt_iff_toInt_lt, ← Int32.toInt_inj, Int32.reduceToInt, Int64.reduceToInt] at c_1 c_2 ⊢; omega)
      rw [hfn] at hQ
      exact hQ _ _ _ _ _ rfl hP hD hS dX4_isFigure_17
    · refine lv_iconst (v := 1) (pc := 12) hx hb dX4_isFigure_12 rfl ?_
      refine lv_goto (tgt := 17) (pc := 13) hx hb dX4_isFigure_13 (by decide) ?_
      have hfn : fX4_isFigure k = 1 := bz_t (by (try simp only [bz_0] at c_1 c_2); simp only [Int32.le_iff_toInt_le, Int32.lt_iff_toInt_lt, Int64.le_iff_toInt_le, Int64.lt_iff_toInt_lt, ← Int32.toInt_inj, Int32.reduceToInt, Int64.reduceToInt] at c_1 c_2 ⊢; omega)
      rw [hfn] at hQ
      exact hQ _ _ _ _ _ rfl hP hD hS dX4_isFigure_17

def fX6_in (v : Int64) (lo : Int64) (hi : Int64) : Int32 :=
  bz (lo ≤ v ∧ v ≤ hi)
abbrev rX6_in : Room := { frames := 0, cells := 0, slots := 0, locals := 0 }
theorem qsX6_in : yX6_in.cls = RX6 ∧ yX6_in.cls ≠ "java/lang/invoke/MethodHandle" ∧ yX6_in.cls ≠ "java/lang/invoke/VarHandle" ∧ (parseMethodDescriptor yX6_in.desc).map (fun d => d.parameters.length) = some 3 := by decide +kernel
theorem qnX6_in : yX6_in.cls ≠ "java/lang/invoke/MethodHandle" ∧ yX6_in.cls ≠ "java/lang/invoke/VarHandle" ∧ (parseMethodDescriptor yX6_in.desc).map (fun d => d.parameters.length) = some 3 := by decide +kernel
set_option maxHeartbeats 4000000 in
set_option maxRecDepth 100000 in
theorem kX6_in (l : Launch) (E : gEnv) (v : Int64) (lo : Int64) (hi : Int64) : gMi l E yX6_in wsX6_in rX6_in [.long v, .long lo, .long hi] [] (fX6_in v lo hi) [] := by
  refine gMz_of (cc := cX6_in) (maxL := 6) (ret := (some .boolean)) (by decide) rfl rfl (Nat.le_of_ble_eq_true rfl) bz_n ?_
  intro p e s m args below meth c A Q ls hB hQ
  obtain ⟨hx, hb, hml, hown, hts, hK, hP, hD, hA, hS, hl⟩ := hB
  have hown : s.vm.findClass RX6 = some m.cls := hown
  have hP : va_P E.1 vwCl [] s.heap := hP
  have hD : va_D A [] := hD
  have hl : lv_has ls 6 [(0, .long v), (2, .long lo), (4, .long hi)] := hl
  refine lv_lload_n (pc := 0) hx hb dX6_in_0 rfl (lv_at hl 0 rfl) ?_
  refine lv_lload_n (pc := 1) hx hb dX6_in_1 rfl (lv_at hl 1 rfl) ?_
  refine gl_lt (tgt := 17) (pc := 2) hx hb dX6_in_2 dX6_in_3 rfl (fun c_1 => ?_) (fun c_1 => ?_)
  · refine lv_iconst (v := 0) (pc := 17) hx hb dX6_in_17 rfl ?_
    have hfn : fX6_in v lo hi = 0 := bz_f (by (try simp only [bz_0] at c_1); simp only [Int32.le_iff_toInt_le, Int32.lt_iff_toInt_lt, Int64.le_iff_toInt_le, Int64.lt_iff_toInt_lt, ← Int32.toInt_inj, Int32.reduceToInt, Int64.reduceToInt] at c_1 ⊢; omega)
    rw [hfn] at hQ
    exact hQ _ _ _ _ _ rfl hP hD hS dX6_in_18
  · refine lv_lload_n (pc := 6) hx hb dX6_in_6 rfl (lv_at hl 0 rfl) ?_
    refine lv_lload (pc := 7) hx hb dX6_in_7 (lv_at hl 2 rfl) ?_
    refine gl_gt (tgt := 17) (pc := 9) hx hb dX6_in_9 dX6_in_10 rfl (fun c_2 => ?_) (fun c_2 => ?_)
    · refine lv_iconst (v := 0) (pc := 17) hx hb dX6_in_17 rfl ?_
      have hfn : fX6_in v lo hi = 0 := bz_f (by (try simp only [bz_0] at c_1 c_2); simp only [Int32.le_iff_toInt_le, Int32.lt_iff_toInt_lt, Int64.le_iff_toInt_le, Int64.lt_iff_toInt_lt, ← Int32.toInt_inj, Int32.reduceToInt, Int64.reduceToInt] at c_1 c_2 ⊢; omega)
      rw [hfn] at hQ
      exact hQ _ _ _ _ _ rfl hP hD hS dX6_in_18
    · refine lv_iconst (v := 1) (pc := 13) hx hb dX6_in_13 rfl ?_
      refine lv_goto (tgt := 18) (pc := 14) hx hb dX6_in_14 (by decide) ?_
      have hfn : fX6_in v lo hi = 1 := bz_t (by (try simp only [bz_0] at c_1 c_2); simp only [Int32.le_iff_toInt_le, Int32.lt_iff_toInt_lt, Int64.le_iff_toInt_le, Int64.lt_iff_toInt_lt, ← Int32.toInt_inj, Int32.reduceToInt, Int64.reduceToInt] at c_1 c_2 ⊢; omega)
      rw [hfn] at hQ
      exact hQ _ _ _ _ _ rfl hP hD hS dX6_in_18
end
section
theorem ix_band {sg tn : Int32} (h : ¬ fX0_isBand sg tn = 0) : vp_in (sg * 11 + tn) 22 := by
  simp only [fX0_isBand, bz_0] at h
  simp only [Int32.le_iff_toInt_le, Int32.reduceToInt] at h
  have e1 : (sg * 11).toInt = sg.toInt * 11 := by
    rw [Int32.toInt_mul]
    exact Jvm.Kit.bmod32 (by simp only [Int32.reduceToInt]; omega) (by simp only [Int32.reduceToInt]; omega)
  have e2 : (sg * 11 + tn).toInt = sg.toInt * 11 + tn.toInt := by
    rw [Int32.toInt_add, e1]
    exact Jvm.Kit.bmod32 (by omega) (by omega)
  rw [vp_in_iff, e2]
  omega
theorem nz_l {x : Int32} (h : ¬ x = 0) : ¬ x.toInt64 = 0 := by
  intro q
  apply h
  have h1 := congrArg Int64.toInt q
  rw [Int32.toInt_toInt64] at h1
  rw [← Int32.toInt_inj]
  exact h1
theorem nz_p {x : Int32} (h : 0 < x) : ¬ x = 0 := fun q => by rw [q] at h; exact absurd h (by decide)
theorem i_div_100 {x : Int32} (h : ¬ x < 0) : (x / 100).toInt = x.toInt / 100 := by
  rw [Jvm.Kit.i32_div (by intro q; exact absurd q.2 (by decide))]
  rw [Int32.lt_iff_toInt_lt] at h
  exact Int.tdiv_eq_ediv_of_nonneg (by simp only [Int32.reduceToInt] at h; omega)
theorem ix_volts {v k : Int32} (h0 : ¬ v < 0) (h1 : v ≤ 1000) (hk : k = if v = 1000 then 9 else v / 100) : 0 ≤ k.toInt ∧ k.toInt ≤ 9 := by
  by_cases h : v = 1000
  · rw [if_pos h] at hk; rw [hk]; decide
  · rw [if_neg h] at hk
    have h2 := i_div_100 h0
    rw [← hk] at h2
    simp only [Int32.le_iff_toInt_le, Int32.lt_iff_toInt_lt, ← Int32.toInt_inj, Int32.reduceToInt] at h0 h1 h
    omega
theorem ix_volts0 {k : Int32} (h : 0 ≤ k.toInt ∧ k.toInt ≤ 9) : vp_in k 11 := vp_in_iff.mpr (by omega)
theorem ix_volts1 {k : Int32} (h : 0 ≤ k.toInt ∧ k.toInt ≤ 9) : vp_in (k + 1) 11 := vp_in_iff.mpr (by simp only [Int32.le_iff_toInt_le, Int32.lt_iff_toInt_lt, ← Int32.toInt_inj, Int32.toInt_add, Int32.toInt_sub, Int32.toInt_mul, Int.bmod_def, Int32.reduceToInt]; omega)

def fX2_point (C : Nat → Int32) (k : Int32) : Int32 :=
  let r1 : Int32 := fX5_within k 0 10
  let x3 : Int32 := (if r1 = 0 then (-10000002) else (C ((k).toNatClampNeg)))
  x3
abbrev rX2_point : Room := { frames := 1, cells := 0, slots := 0, locals := 22 }
theorem mm_X2_point_4 : Cond.initialized RX5 ∈ wsX2_point := List.mem_of_getElem? (i := 4) rfl
theorem mm_X2_point_3 : Cond.static yX5_within ∈ wsX2_point := List.mem_of_getElem? (i := 3) rfl
theorem mm_X2_point_2 : Cond.constant RX2 25 (-10000002) ∈ wsX2_point := List.mem_of_getElem? (i := 2) rfl
theorem mm_X2_point_1 : Cond.fieldLink RX2 11 "GaugeBounds$Curve" "points" "[I" ∈ wsX2_point := List.mem_of_getElem? (i := 1) rfl
theorem ii_X2_point_X2 : ∀ w ∈ wsX20, w ∈ wsX2_point := fun _ h => List.mem_cons_of_mem _ (List.mem_append_right _ (h))
theorem qvX2_point : yX2_point.cls = RX2 ∧ yX2_point.cls ≠ "java/lang/invoke/MethodHandle" ∧ yX2_point.cls ≠ "java/lang/invoke/VarHandle" ∧ (parseMethodDescriptor yX2_point.desc).map (fun d => d.parameters.length) = some 1 := by decide +kernel
set_option maxHeartbeats 4000000 in
set_option maxRecDepth 100000 in
theorem kX2_point (l : Launch) (E : gEnv) (q0 q1 : Nat) (C : Nat → Int32) (k : Int32) : gMi l E yX2_point wsX2_point rX2_point [.ref q0, .int k] (wCu E q0 q1 C) (fX2_point C k) (wCu E q0 q1 C) := by
  refine gMi_of (cc := cX2_point) (maxL := 2) (ret := (some .int)) (by decide) rfl rfl (Nat.le_of_ble_eq_true rfl) ?_
  intro p e s m args below meth c A Q ls hB hQ
  obtain ⟨hx, hb, hml, hown, hts, hK, hP, hD, hA, hS, hl⟩ := hB
  have hown : s.vm.findClass RX2 = some m.cls := hown
  have hP : va_P E.1 vwCl [(q0, .inr (2, [.ref q1])), (q1, .inl (eI E, 11, .inl C))] s.heap := hP
  have hD : va_D A [(q0, .inr (2, [.ref q1])), (q1, .inl (eI E, 11, .inl C))] := hD
  have hl : lv_has ls 2 [(0, .ref q0), (1, .int k)] := hl
  refine lv_iload_n (pc := 0) hx hb dX2_point_0 rfl (lv_at hl 1 rfl) ?_
  refine lv_iconst (v := 0) (pc := 1) hx hb dX2_point_1 rfl ?_
  refine lv_bipush (v := 10) (pc := 2) hx hb dX2_point_2 rfl ?_
  obtain ⟨r1, er1⟩ : ∃ z : Int32, fX5_within k 0 10 = z := ⟨_, rfl⟩
  have hr1 := kX5_within l E k 0 10
  rw [er1] at hr1
  refine gcNi (pc := 4) (As := [.int k, .int 0, .int 10]) (rest := []) ⟨hx, hb, hml, hown, hts⟩ hr1 ⟨va_cnB 3 hts ggX2_point_X5_within rfl rfl rfl hK.2.2.2.1 (hts _ mm_X2_point_4) qnX5_within ⟨Nat.le_of_ble_eq_true rfl, Nat.le_of_ble_eq_true rfl⟩, hts _ mm_X2_point_3, trivial⟩ hK hP hD hS hA rfl hl.1 rfl (Nat.le_of_ble_eq_true rfl) dX2_point_4 ⟨Nat.zero_le _, Nat.zero_le _⟩ (fun H locs hP hD hS => ?_)
  have J_4 : ∀ (H : Heap) (locs : List Loc) (ls : Array Slot) (x3 : Int32), (if r1 = 0 then (-10000002) else (C ((k).toNatClampNeg))) = x3 → va_P E.1 vwCl [(q0, .inr (2, [.ref q1])), (q1, .inl (eI E, 11, .inl C))] H → va_D A [(q0, .inr (2, [.ref q1])), (q1, .inl (eI E, 11, .inl C))] → va_S A s.heap H locs → lv_has ls 2 [(0, .ref q0), (1, .int k)] → W p l e rX2_point s m args below meth c H locs 0 0 Q (F0 m 21 ls [.int x3]) := by
    intro H locs ls x3 ex3 hP hD hS hl
    subst ex3
    subst er1
    exact hQ _ _ _ _ _ rfl hP hD hS dX2_point_21
  refine lv_if_eq (tgt := 19) (pc := 7) hx hb dX2_point_7 (by decide) (fun c_2 => ?_) (fun c_2 => ?_)
  · refine lv_ldc (v := (-10000002)) (pc := 19) hx hb hown (hts _ mm_X2_point_2) dX2_point_19 ?_
    exact J_4 _ _ _ _ (if_pos c_2) hP hD hS (lv_sub hl [0, 1] rfl)
  · refine lv_aload_n (pc := 10) hx hb dX2_point_10 rfl (lv_at hl 0 rfl) ?_
    refine g_get (v := .ref q1) (pc := 11) hx hb hts ii_X2_point_X2 hown hK.1 hP 0 rfl rfl 0 (by decide) ⟨rfl, rfl, rfl⟩ mm_X2_point_1 rfl dX2_point_11 ?_
    refine lv_iload_n (pc := 14) hx hb dX2_point_14 rfl (lv_at hl 1 rfl) ?_
    refine g_iald (j := (k).toNatClampNeg) (v := (C ((k).toNatClampNeg))) (pc := 15) hx hb hK.1 hP 1 0 rfl rfl (vp_in_iff.mpr (by subst er1; (try simp only [fX5_within, bz_0] at c_2); simp only [Int32.le_iff_toInt_le, Int32.lt_iff_toInt_lt, ← Int32.toInt_inj, Int32.toInt_add, Int32.toInt_sub, Int32.toInt_mul, Int.bmod_def, Int32.reduceToInt] at c_2 ⊢; omega)) rfl rfl dX2_point_15 ?_
    refine lv_goto (tgt := 21) (pc := 16) hx hb dX2_point_16 (by decide) ?_
    exact J_4 _ _ _ _ (if_neg c_2) hP hD hS (lv_sub hl [0, 1] rfl)

def fX2_putPoint (C : Nat → Int32) (k : Int32) (v : Int32) : Int32 × (Nat → Int32) :=
  let r1 : Int32 := fX5_within k 0 10
  if r1 = 0 then
    ((-10000002), C)
  else
    let r3 : Int32 := fX5_within v 0 9999
    if r3 = 0 then
      ((-10000002), C)
    else
      if k ≤ 0 then
        if 10 ≤ k then
          let x7 : Int32 := (C ((k).toNatClampNeg))
          (x7, (upd C ((k).toNatClampNeg) v))
        else
          if v < (C ((k + 1).toNatClampNeg)) then
            let x9 : Int32 := (C ((k).toNatClampNeg))
            (x9, (upd C ((k).toNatClampNeg) v))
          else
            ((-10000003), C)
      else
        if v ≤ (C ((k - 1).toNatClampNeg)) then
          ((-10000003), C)
        else
          if 10 ≤ k then
            let x12 : Int32 := (C ((k).toNatClampNeg))
            (x12, (upd C ((k).toNatClampNeg) v))
          else
            if v < (C ((k + 1).toNatClampNeg)) then
              let x14 : Int32 := (C ((k).toNatClampNeg))
              (x14, (upd C ((k).toNatClampNeg) v))
            else
              ((-10000003), C)
abbrev rX2_putPoint : Room := { frames := 1, cells := 0, slots := 0, locals := 22 }
theorem mm_X2_putPoint_5 : Cond.initialized RX5 ∈ wsX2_putPoint := List.mem_of_getElem? (i := 5) rfl
theorem mm_X2_putPoint_4 : Cond.static yX5_within ∈ wsX2_putPoint := List.mem_of_getElem? (i := 4) rfl
theorem mm_X2_putPoint_1 : Cond.constant RX2 25 (-10000002) ∈ wsX2_putPoint := List.mem_of_getElem? (i := 1) rfl
theorem mm_X2_putPoint_2 : Cond.fieldLink RX2 11 "GaugeBounds$Curve" "points" "[I" ∈ wsX2_putPoint := List.mem_of_getElem? (i := 2) rfl
theorem mm_X2_putPoint_3 : Cond.constant RX2 26 (-10000003) ∈ wsX2_putPoint := List.mem_of_getElem? (i := 3) rfl
theorem ii_X2_putPoint_X2 : ∀ w ∈ wsX20, w ∈ wsX2_putPoint := fun _ h => List.mem_cons_of_mem _ (List.mem_append_right _ (h))
theorem qvX2_putPoint : yX2_putPoint.cls = RX2 ∧ yX2_putPoint.cls ≠ "java/lang/invoke/MethodHandle" ∧ yX2_putPoint.cls ≠ "java/lang/invoke/VarHandle" ∧ (parseMethodDescriptor yX2_putPoint.desc).map (fun d => d.parameters.length) = some 2 := by decide +kernel
set_option maxHeartbeats 4000000 in
set_option maxRecDepth 100000 in
theorem kX2_putPoint (l : Launch) (E : gEnv) (q0 q1 : Nat) (C : Nat → Int32) (k : Int32) (v : Int32) : gMi l E yX2_putPoint wsX2_putPoint rX2_putPoint [.ref q0, .int k, .int v] (wCu E q0 q1 C) (fX2_putPoint C k v).1 (wCu E q0 q1 ((fX2_putPoint C k v).2)) := by
  refine gMi_of (cc := cX2_putPoint) (maxL := 4) (ret := (some .int)) (by decide) rfl rfl (Nat.le_of_ble_eq_true rfl) ?_
  intro p e s m args below meth c A Q ls hB hQ
  obtain ⟨hx, hb, hml, hown, hts, hK, hP, hD, hA, hS, hl⟩ := hB
  have hown : s.vm.findClass RX2 = some m.cls := hown
  have hP : va_P E.1 vwCl [(q0, .inr (2, [.ref q1])), (q1, .inl (eI E, 11, .inl C))] s.heap := hP
  have hD : va_D A [(q0, .inr (2, [.ref q1])), (q1, .inl (eI E, 11, .inl C))] := hD
  have hl : lv_has ls 4 [(0, .ref q0), (1, .int k), (2, .int v)] := hl
  refine lv_iload_n (pc := 0) hx hb dX2_putPoint_0 rfl (lv_at hl 1 rfl) ?_
  refine lv_iconst (v := 0) (pc := 1) hx hb dX2_putPoint_1 rfl ?_
  refine lv_bipush (v := 10) (pc := 2) hx hb dX2_putPoint_2 rfl ?_
  obtain ⟨r1, er1⟩ : ∃ z : Int32, fX5_within k 0 10 = z := ⟨_, rfl⟩
  have hr1 := kX5_within l E k 0 10
  rw [er1] at hr1
  refine gcNi (pc := 4) (As := [.int k, .int 0, .int 10]) (rest := []) ⟨hx, hb, hml, hown, hts⟩ hr1 ⟨va_cnB 3 hts ggX2_putPoint_X5_within rfl rfl rfl hK.2.2.2.1 (hts _ mm_X2_putPoint_5) qnX5_within ⟨Nat.le_of_ble_eq_true rfl, Nat.le_of_ble_eq_true rfl⟩, hts _ mm_X2_putPoint_4, trivial⟩ hK hP hD hS hA rfl hl.1 rfl (Nat.le_of_ble_eq_true rfl) dX2_putPoint_4 ⟨Nat.zero_le _, Nat.zero_le _⟩ (fun H locs hP hD hS => ?_)
  refine lv_if_eq (tgt := 21) (pc := 7) hx hb dX2_putPoint_7 (by decide) (fun c_2 => ?_) (fun c_2 => ?_)
  · refine lv_ldc (v := (-10000002)) (pc := 21) hx hb hown (hts _ mm_X2_putPoint_1) dX2_putPoint_21 ?_
    subst er1
    have hfn : fX2_putPoint C k v = _ := if_pos c_2
    rw [hfn] at hQ
    exact hQ _ _ _ _ _ rfl hP hD hS dX2_putPoint_23
  · refine lv_iload_n (pc := 10) hx hb dX2_putPoint_10 rfl (lv_at hl 2 rfl) ?_
    refine lv_iconst (v := 0) (pc := 11) hx hb dX2_putPoint_11 rfl ?_
    refine lv_sipush (v := 9999) (pc := 12) hx hb dX2_putPoint_12 rfl ?_
    obtain ⟨r3, er3⟩ : ∃ z : Int32, fX5_within v 0 9999 = z := ⟨_, rfl⟩
    have hr3 := kX5_within l E v 0 9999
    rw [er3] at hr3
    refine gcNi (pc := 15) (As := [.int v, .int 0, .int 9999]) (rest := []) ⟨hx, hb, hml, hown, hts⟩ hr3 ⟨va_cnB 3 hts ggX2_putPoint_X5_within rfl rfl rfl hK.2.2.2.1 (hts _ mm_X2_putPoint_5) qnX5_within ⟨Nat.le_of_ble_eq_true rfl, Nat.le_of_ble_eq_true rfl⟩, hts _ mm_X2_putPoint_4, trivial⟩ hK hP hD hS hA rfl hl.1 rfl (Nat.le_of_ble_eq_true rfl) dX2_putPoint_15 ⟨Nat.zero_le _, Nat.zero_le _⟩ (fun H locs hP hD hS => ?_)
    refine lv_if_ne (tgt := 24) (pc := 18) hx hb dX2_putPoint_18 (by decide) (fun c_4 => ?_) (fun c_4 => ?_)
    · refine lv_iload_n (pc := 24) hx hb dX2_putPoint_24 rfl (lv_at hl 1 rfl) ?_
      refine lv_if_le (tgt := 40) (pc := 25) hx hb dX2_putPoint_25 (by decide) (fun c_5 => ?_) (fun c_5 => ?_)
      · refine lv_iload_n (pc := 40) hx hb dX2_putPoint_40 rfl (lv_at hl 1 rfl) ?_
        refine lv_bipush (v := 10) (pc := 41) hx hb dX2_putPoint_41 rfl ?_
        refine lv_icmp_ge (tgt := 61) (pc := 43) hx hb dX2_putPoint_43 (by decide) (fun c_6 => ?_) (fun c_6 => ?_)
        · refine lv_aload_n (pc := 61) hx hb dX2_putPoint_61 rfl (lv_at hl 0 rfl) ?_
          refine g_get (v := .ref q1) (pc := 62) hx hb hts ii_X2_putPoint_X2 hown hK.1 hP 0 rfl rfl 0 (by decide) ⟨rfl, rfl, rfl⟩ mm_X2_putPoint_2 rfl dX2_putPoint_62 ?_
          refine lv_iload_n (pc := 65) hx hb dX2_putPoint_65 rfl (lv_at hl 1 rfl) ?_
          refine g_iald (j := (k).toNatClampNeg) (v := (C ((k).toNatClampNeg))) (pc := 66) hx hb hK.1 hP 1 0 rfl rfl (vp_in_iff.mpr (by subst er3; subst er1; (try simp only [fX5_within, bz_0] at c_2 c_4 c_5 c_6); simp only [Int32.le_iff_toInt_le, Int32.lt_iff_toInt_lt, ← Int32.toInt_inj, Int32.toInt_add, Int32.toInt_sub, Int32.toInt_mul, Int.bmod_def, Int32.reduceToInt] at c_2 c_4 c_5 c_6 ⊢; omega)) rfl rfl dX2_putPoint_66 ?_
          refine g_topi (fun x7 ex7 => ?_)
          refine lv_istore_n (lv' := [(3, .int x7), (0, .ref q0), (1, .int k), (2, .int v)]) (pc := 67) hx hb dX2_putPoint_67 rfl hl (by decide) rfl (fun ls hl => ?_)
          refine lv_aload_n (pc := 68) hx hb dX2_putPoint_68 rfl (lv_at hl 1 rfl) ?_
          refine g_get (v := .ref q1) (pc := 69) hx hb hts ii_X2_putPoint_X2 hown hK.1 hP 0 rfl rfl 0 (by decide) ⟨rfl, rfl, rfl⟩ mm_X2_putPoint_2 rfl dX2_putPoint_69 ?_
          refine lv_iload_n (pc := 72) hx hb dX2_putPoint_72 rfl (lv_at hl 2 rfl) ?_
          refine lv_iload_n (pc := 73) hx hb dX2_putPoint_73 rfl (lv_at hl 3 rfl) ?_
          refine g_iast (j := (k).toNatClampNeg) (w1 := [(q0, .inr (2, [.ref q1])), (q1, .inl (eI E, 11, .inl (upd C ((k).toNatClampNeg) v)))]) (pc := 74) hx hb hK.1 hP hD hS 1 0 rfl rfl (vp_in_iff.mpr (by subst ex7; subst er3; subst er1; (try simp only [fX5_within, bz_0] at c_2 c_4 c_5 c_6); simp only [Int32.le_iff_toInt_le, Int32.lt_iff_toInt_lt, ← Int32.toInt_inj, Int32.toInt_add, Int32.toInt_sub, Int32.toInt_mul, Int.bmod_def, Int32.reduceToInt] at c_2 c_4 c_5 c_6 ⊢; omega)) rfl rfl dX2_putPoint_74 (fun H locs hP hD hS => ?_)
          refine lv_iload_n (pc := 75) hx hb dX2_putPoint_75 rfl (lv_at hl 0 rfl) ?_
          subst ex7
          subst er3
          subst er1
          have hfn : fX2_putPoint C k v = _ := (if_neg c_2).trans ((if_neg c_4).trans ((if_pos c_5).trans (if_pos c_6)))
          rw [hfn] at hQ
          exact hQ _ _ _ _ _ rfl hP hD hS dX2_putPoint_76
        · refine lv_aload_n (pc := 46) hx hb dX2_putPoint_46 rfl (lv_at hl 0 rfl) ?_
          refine g_get (v := .ref q1) (pc := 47) hx hb hts ii_X2_putPoint_X2 hown hK.1 hP 0 rfl rfl 0 (by decide) ⟨rfl, rfl, rfl⟩ mm_X2_putPoint_2 rfl dX2_putPoint_47 ?_
          refine lv_iload_n (pc := 50) hx hb dX2_putPoint_50 rfl (lv_at hl 1 rfl) ?_
          refine lv_iconst (v := 1) (pc := 51) hx hb dX2_putPoint_51 rfl ?_
          refine lv_iadd (pc := 52) hx hb dX2_putPoint_52 ?_
          refine g_iald (j := (k + 1).toNatClampNeg) (v := (C ((k + 1).toNatClampNeg))) (pc := 53) hx hb hK.1 hP 1 0 rfl rfl (vp_in_iff.mpr (by subst er3; subst er1; (try simp only [fX5_within, bz_0] at c_2 c_4 c_5 c_6); simp only [Int32.le_iff_toInt_le, Int32.lt_iff_toInt_lt, ← Int32.toInt_inj, Int32.toInt_add, Int32.toInt_sub, Int32.toInt_mul, Int.bmod_def, Int32.reduceToInt] at c_2 c_4 c_5 c_6 ⊢; omega)) rfl rfl dX2_putPoint_53 ?_
          refine lv_iload_n (pc := 54) hx hb dX2_putPoint_54 rfl (lv_at hl 2 rfl) ?_
          refine lv_icmp_gt (tgt := 61) (pc := 55) hx hb dX2_putPoint_55 (by decide) (fun c_8 => ?_) (fun c_8 => ?_)
          · refine lv_aload_n (pc := 61) hx hb dX2_putPoint_61 rfl (lv_at hl 0 rfl) ?_
            refine g_get (v := .ref q1) (pc := 62) hx hb hts ii_X2_putPoint_X2 hown hK.1 hP 0 rfl rfl 0 (by decide) ⟨rfl, rfl, rfl⟩ mm_X2_putPoint_2 rfl dX2_putPoint_62 ?_
            refine lv_iload_n (pc := 65) hx hb dX2_putPoint_65 rfl (lv_at hl 1 rfl) ?_
            refine g_iald (j := (k).toNatClampNeg) (v := (C ((k).toNatClampNeg))) (pc := 66) hx hb hK.1 hP 1 0 rfl rfl (vp_in_iff.mpr (by subst er3; subst er1; (try simp only [fX5_within, bz_0] at c_2 c_4 c_5 c_6 c_8); simp only [Int32.le_iff_toInt_le, Int32.lt_iff_toInt_lt, ← Int32.toInt_inj, Int32.toInt_add, Int32.toInt_sub, Int32.toInt_mul, Int.bmod_def, Int32.reduceToInt] at c_2 c_4 c_5 c_6 c_8 ⊢; omega)) rfl rfl dX2_putPoint_66 ?_
            refine g_topi (fun x9 ex9 => ?_)
            refine lv_istore_n (lv' := [(3, .int x9), (0, .ref q0), (1, .int k), (2, .int v)]) (pc := 67) hx hb dX2_putPoint_67 rfl hl (by decide) rfl (fun ls hl => ?_)
            refine lv_aload_n (pc := 68) hx hb dX2_putPoint_68 rfl (lv_at hl 1 rfl) ?_
            refine g_get (v := .ref q1) (pc := 69) hx hb hts ii_X2_putPoint_X2 hown hK.1 hP 0 rfl rfl 0 (by decide) ⟨rfl, rfl, rfl⟩ mm_X2_putPoint_2 rfl dX2_putPoint_69 ?_
            refine lv_iload_n (pc := 72) hx hb dX2_putPoint_72 rfl (lv_at hl 2 rfl) ?_
            refine lv_iload_n (pc := 73) hx hb dX2_putPoint_73 rfl (lv_at hl 3 rfl) ?_
            refine g_iast (j := (k).toNatClampNeg) (w1 := [(q0, .inr (2, [.ref q1])), (q1, .inl (eI E, 11, .inl (upd C ((k).toNatClampNeg) v)))]) (pc := 74) hx hb hK.1 hP hD hS 1 0 rfl rfl (vp_in_iff.mpr (by subst ex9; subst er3; subst er1; (try simp only [fX5_within, bz_0] at c_2 c_4 c_5 c_6 c_8); simp only [Int32.le_iff_toInt_le, Int32.lt_iff_toInt_lt, ← Int32.toInt_inj, Int32.toInt_add, Int32.toInt_sub, Int32.toInt_mul, Int.bmod_def, Int32.reduceToInt] at c_2 c_4 c_5 c_6 c_8 ⊢; omega)) rfl rfl dX2_putPoint_74 (fun H locs hP hD hS => ?_)
            refine lv_iload_n (pc := 75) hx hb dX2_putPoint_75 rfl (lv_at hl 0 rfl) ?_
            subst ex9
            subst er3
            subst er1
            have hfn : fX2_putPoint C k v = _ := (if_neg c_2).trans ((if_neg c_4).trans ((if_pos c_5).trans ((if_neg c_6).trans (if_pos c_8))))
            rw [hfn] at hQ
            exact hQ _ _ _ _ _ rfl hP hD hS dX2_putPoint_76
          · refine lv_ldc (v := (-10000003)) (pc := 58) hx hb hown (hts _ mm_X2_putPoint_3) dX2_putPoint_58 ?_
            subst er3
            subst er1
            have hfn : fX2_putPoint C k v = _ := (if_neg c_2).trans ((if_neg c_4).trans ((if_pos c_5).trans ((if_neg c_6).trans (if_neg c_8))))
            rw [hfn] at hQ
            exact hQ _ _ _ _ _ rfl hP hD hS dX2_putPoint_60
      · refine lv_aload_n (pc := 28) hx hb dX2_putPoint_28 rfl (lv_at hl 0 rfl) ?_
        refine g_get (v := .ref q1) (pc := 29) hx hb hts ii_X2_putPoint_X2 hown hK.1 hP 0 rfl rfl 0 (by decide) ⟨rfl, rfl, rfl⟩ mm_X2_putPoint_2 rfl dX2_putPoint_29 ?_
        refine lv_iload_n (pc := 32) hx hb dX2_putPoint_32 rfl (lv_at hl 1 rfl) ?_
        refine lv_iconst (v := 1) (pc := 33) hx hb dX2_putPoint_33 rfl ?_
        refine lv_isub (pc := 34) hx hb dX2_putPoint_34 ?_
        refine g_iald (j := (k - 1).toNatClampNeg) (v := (C ((k - 1).toNatClampNeg))) (pc := 35) hx hb hK.1 hP 1 0 rfl rfl (vp_in_iff.mpr (by subst er3; subst er1; (try simp only [fX5_within, bz_0] at c_2 c_4 c_5); simp only [Int32.le_iff_toInt_le, Int32.lt_iff_toInt_lt, ← Int32.toInt_inj, Int32.toInt_add, Int32.toInt_sub, Int32.toInt_mul, Int.bmod_def, Int32.reduceToInt] at c_2 c_4 c_5 ⊢; omega)) rfl rfl dX2_putPoint_35 ?_
        refine lv_iload_n (pc := 36) hx hb dX2_putPoint_36 rfl (lv_at hl 2 rfl) ?_
        refine lv_icmp_ge (tgt := 58) (pc := 37) hx hb dX2_putPoint_37 (by decide) (fun c_10 => ?_) (fun c_10 => ?_)
        · refine lv_ldc (v := (-10000003)) (pc := 58) hx hb hown (hts _ mm_X2_putPoint_3) dX2_putPoint_58 ?_
          subst er3
          subst er1
          have hfn : fX2_putPoint C k v = _ := (if_neg c_2).trans ((if_neg c_4).trans ((if_neg c_5).trans (if_pos c_10)))
          rw [hfn] at hQ
          exact hQ _ _ _ _ _ rfl hP hD hS dX2_putPoint_60
        · refine lv_iload_n (pc := 40) hx hb dX2_putPoint_40 rfl (lv_at hl 1 rfl) ?_
          refine lv_bipush (v := 10) (pc := 41) hx hb dX2_putPoint_41 rfl ?_
          refine lv_icmp_ge (tgt := 61) (pc := 43) hx hb dX2_putPoint_43 (by decide) (fun c_11 => ?_) (fun c_11 => ?_)
          · refine lv_aload_n (pc := 61) hx hb dX2_putPoint_61 rfl (lv_at hl 0 rfl) ?_
            refine g_get (v := .ref q1) (pc := 62) hx hb hts ii_X2_putPoint_X2 hown hK.1 hP 0 rfl rfl 0 (by decide) ⟨rfl, rfl, rfl⟩ mm_X2_putPoint_2 rfl dX2_putPoint_62 ?_
            refine lv_iload_n (pc := 65) hx hb dX2_putPoint_65 rfl (lv_at hl 1 rfl) ?_
            refine g_iald (j := (k).toNatClampNeg) (v := (C ((k).toNatClampNeg))) (pc := 66) hx hb hK.1 hP 1 0 rfl rfl (vp_in_iff.mpr (by subst er3; subst er1; (try simp only [fX5_within, bz_0] at c_2 c_4 c_5 c_10 c_11); simp only [Int32.le_iff_toInt_le, Int32.lt_iff_toInt_lt, ← Int32.toInt_inj, Int32.toInt_add, Int32.toInt_sub, Int32.toInt_mul, Int.bmod_def, Int32.reduceToInt] at c_2 c_4 c_5 c_10 c_11 ⊢; omega)) rfl rfl dX2_putPoint_66 ?_
            refine g_topi (fun x12 ex12 => ?_)
            refine lv_istore_n (lv' := [(3, .int x12), (0, .ref q0), (1, .int k), (2, .int v)]) (pc := 67) hx hb dX2_putPoint_67 rfl hl (by decide) rfl (fun ls hl => ?_)
            refine lv_aload_n (pc := 68) hx hb dX2_putPoint_68 rfl (lv_at hl 1 rfl) ?_
            refine g_get (v := .ref q1) (pc := 69) hx hb hts ii_X2_putPoint_X2 hown hK.1 hP 0 rfl rfl 0 (by decide) ⟨rfl, rfl, rfl⟩ mm_X2_putPoint_2 rfl dX2_putPoint_69 ?_
            refine lv_iload_n (pc := 72) hx hb dX2_putPoint_72 rfl (lv_at hl 2 rfl) ?_
            refine lv_iload_n (pc := 73) hx hb dX2_putPoint_73 rfl (lv_at hl 3 rfl) ?_
            refine g_iast (j := (k).toNatClampNeg) (w1 := [(q0, .inr (2, [.ref q1])), (q1, .inl (eI E, 11, .inl (upd C ((k).toNatClampNeg) v)))]) (pc := 74) hx hb hK.1 hP hD hS 1 0 rfl rfl (vp_in_iff.mpr (by subst ex12; subst er3; subst er1; (try simp only [fX5_within, bz_0] at c_2 c_4 c_5 c_10 c_11); simp only [Int32.le_iff_toInt_le, Int32.lt_iff_toInt_lt, ← Int32.toInt_inj, Int32.toInt_add, Int32.toInt_sub, Int32.toInt_mul, Int.bmod_def, Int32.reduceToInt] at c_2 c_4 c_5 c_10 c_11 ⊢; omega)) rfl rfl dX2_putPoint_74 (fun H locs hP hD hS => ?_)
            refine lv_iload_n (pc := 75) hx hb dX2_putPoint_75 rfl (lv_at hl 0 rfl) ?_
            subst ex12
            subst er3
            subst er1
            have hfn : fX2_putPoint C k v = _ := (if_neg c_2).trans ((if_neg c_4).trans ((if_neg c_5).trans ((if_neg c_10).trans (if_pos c_11))))
            rw [hfn] at hQ
            exact hQ _ _ _ _ _ rfl hP hD hS dX2_putPoint_76
          · refine lv_aload_n (pc := 46) hx hb dX2_putPoint_46 rfl (lv_at hl 0 rfl) ?_
            refine g_get (v := .ref q1) (pc := 47) hx hb hts ii_X2_putPoint_X2 hown hK.1 hP 0 rfl rfl 0 (by decide) ⟨rfl, rfl, rfl⟩ mm_X2_putPoint_2 rfl dX2_putPoint_47 ?_
            refine lv_iload_n (pc := 50) hx hb dX2_putPoint_50 rfl (lv_at hl 1 rfl) ?_
            refine lv_iconst (v := 1) (pc := 51) hx hb dX2_putPoint_51 rfl ?_
            refine lv_iadd (pc := 52) hx hb dX2_putPoint_52 ?_
            refine g_iald (j := (k + 1).toNatClampNeg) (v := (C ((k + 1).toNatClampNeg))) (pc := 53) hx hb hK.1 hP 1 0 rfl rfl (vp_in_iff.mpr (by subst er3; subst er1; (try simp only [fX5_within, bz_0] at c_2 c_4 c_5 c_10 c_11); simp only [Int32.le_iff_toInt_le, Int32.lt_iff_toInt_lt, ← Int32.toInt_inj, Int32.toInt_add, Int32.toInt_sub, Int32.toInt_mul, Int.bmod_def, Int32.reduceToInt] at c_2 c_4 c_5 c_10 c_11 ⊢; omega)) rfl rfl dX2_putPoint_53 ?_
            refine lv_iload_n (pc := 54) hx hb dX2_putPoint_54 rfl (lv_at hl 2 rfl) ?_
            refine lv_icmp_gt (tgt := 61) (pc := 55) hx hb dX2_putPoint_55 (by decide) (fun c_13 => ?_) (fun c_13 => ?_)
            · refine lv_aload_n (pc := 61) hx hb dX2_putPoint_61 rfl (lv_at hl 0 rfl) ?_
              refine g_get (v := .ref q1) (pc := 62) hx hb hts ii_X2_putPoint_X2 hown hK.1 hP 0 rfl rfl 0 (by decide) ⟨rfl, rfl, rfl⟩ mm_X2_putPoint_2 rfl dX2_putPoint_62 ?_
              refine lv_iload_n (pc := 65) hx hb dX2_putPoint_65 rfl (lv_at hl 1 rfl) ?_
              refine g_iald (j := (k).toNatClampNeg) (v := (C ((k).toNatClampNeg))) (pc := 66) hx hb hK.1 hP 1 0 rfl rfl (vp_in_iff.mpr (by subst er3; subst er1; (try simp only [fX5_within, bz_0] at c_2 c_4 c_5 c_10 c_11 c_13); simp only [Int32.le_iff_toInt_le, Int32.lt_iff_toInt_lt, ← Int32.toInt_inj, Int32.toInt_add, Int32.toInt_sub, Int32.toInt_mul, Int.bmod_def, Int32.reduceToInt] at c_2 c_4 c_5 c_10 c_11 c_13 ⊢; omega)) rfl rfl dX2_putPoint_66 ?_
              refine g_topi (fun x14 ex14 => ?_)
              refine lv_istore_n (lv' := [(3, .int x14), (0, .ref q0), (1, .int k), (2, .int v)]) (pc := 67) hx hb dX2_putPoint_67 rfl hl (by decide) rfl (fun ls hl => ?_)
              refine lv_aload_n (pc := 68) hx hb dX2_putPoint_68 rfl (lv_at hl 1 rfl) ?_
              refine g_get (v := .ref q1) (pc := 69) hx hb hts ii_X2_putPoint_X2 hown hK.1 hP 0 rfl rfl 0 (by decide) ⟨rfl, rfl, rfl⟩ mm_X2_putPoint_2 rfl dX2_putPoint_69 ?_
              refine lv_iload_n (pc := 72) hx hb dX2_putPoint_72 rfl (lv_at hl 2 rfl) ?_
              refine lv_iload_n (pc := 73) hx hb dX2_putPoint_73 rfl (lv_at hl 3 rfl) ?_
              refine g_iast (j := (k).toNatClampNeg) (w1 := [(q0, .inr (2, [.ref q1])), (q1, .inl (eI E, 11, .inl (upd C ((k).toNatClampNeg) v)))]) (pc := 74) hx hb hK.1 hP hD hS 1 0 rfl rfl (vp_in_iff.mpr (by subst ex14; subst er3; subst er1; (try simp only [fX5_within, bz_0] at c_2 c_4 c_5 c_10 c_11 c_13); simp only [Int32.le_iff_toInt_le, Int32.lt_iff_toInt_lt, ← Int32.toInt_inj, Int32.toInt_add, Int32.toInt_sub, Int32.toInt_mul, Int.bmod_def, Int32.reduceToInt] at c_2 c_4 c_5 c_10 c_11 c_13 ⊢; omega)) rfl rfl dX2_putPoint_74 (fun H locs hP hD hS => ?_)
              refine lv_iload_n (pc := 75) hx hb dX2_putPoint_75 rfl (lv_at hl 0 rfl) ?_
              subst ex14
              subst er3
              subst er1
              have hfn : fX2_putPoint C k v = _ := (if_neg c_2).trans ((if_neg c_4).trans ((if_neg c_5).trans ((if_neg c_10).trans ((if_neg c_11).trans (if_pos c_13)))))
              rw [hfn] at hQ
              exact hQ _ _ _ _ _ rfl hP hD hS dX2_putPoint_76
            · refine lv_ldc (v := (-10000003)) (pc := 58) hx hb hown (hts _ mm_X2_putPoint_3) dX2_putPoint_58 ?_
              subst er3
              subst er1
              have hfn : fX2_putPoint C k v = _ := (if_neg c_2).trans ((if_neg c_4).trans ((if_neg c_5).trans ((if_neg c_10).trans ((if_neg c_11).trans (if_neg c_13)))))
              rw [hfn] at hQ
              exact hQ _ _ _ _ _ rfl hP hD hS dX2_putPoint_60
    · refine lv_ldc (v := (-10000002)) (pc := 21) hx hb hown (hts _ mm_X2_putPoint_1) dX2_putPoint_21 ?_
      subst er3
      subst er1
      have hfn : fX2_putPoint C k v = _ := (if_neg c_2).trans (if_pos c_4)
      rw [hfn] at hQ
      exact hQ _ _ _ _ _ rfl hP hD hS dX2_putPoint_23

def fX2_voltsAt (C : Nat → Int32) (v : Int32) : Int32 :=
  if v < 0 then
    (-10000002)
  else
    if v ≤ 1000 then
      let x4 : Int32 := (if v = 1000 then 9 else (v / 100))
      (C ((x4).toNatClampNeg)) + ((((C ((x4 + 1).toNatClampNeg)) - (C ((x4).toNatClampNeg))) * (v - (100 * x4))) / 100)
    else
      (-10000002)
abbrev rX2_voltsAt : Room := { frames := 0, cells := 0, slots := 0, locals := 0 }
theorem mm_X2_voltsAt_1 : Cond.constant RX2 25 (-10000002) ∈ wsX2_voltsAt := List.mem_of_getElem? (i := 1) rfl
theorem mm_X2_voltsAt_2 : Cond.fieldLink RX2 11 "GaugeBounds$Curve" "points" "[I" ∈ wsX2_voltsAt := List.mem_of_getElem? (i := 2) rfl
theorem ii_X2_voltsAt_X2 : ∀ w ∈ wsX20, w ∈ wsX2_voltsAt := fun _ h => List.mem_cons_of_mem _ (List.mem_append_right _ (h))
theorem qvX2_voltsAt : yX2_voltsAt.cls = RX2 ∧ yX2_voltsAt.cls ≠ "java/lang/invoke/MethodHandle" ∧ yX2_voltsAt.cls ≠ "java/lang/invoke/VarHandle" ∧ (parseMethodDescriptor yX2_voltsAt.desc).map (fun d => d.parameters.length) = some 1 := by decide +kernel
set_option maxHeartbeats 4000000 in
set_option maxRecDepth 100000 in
theorem kX2_voltsAt (l : Launch) (E : gEnv) (q0 q1 : Nat) (C : Nat → Int32) (v : Int32) : gMi l E yX2_voltsAt wsX2_voltsAt rX2_voltsAt [.ref q0, .int v] (wCu E q0 q1 C) (fX2_voltsAt C v) (wCu E q0 q1 C) := by
  refine gMi_of (cc := cX2_voltsAt) (maxL := 3) (ret := (some .int)) (by decide) rfl rfl (Nat.le_of_ble_eq_true rfl) ?_
  intro p e s m args below meth c A Q ls hB hQ
  obtain ⟨hx, hb, hml, hown, hts, hK, hP, hD, hA, hS, hl⟩ := hB
  have hown : s.vm.findClass RX2 = some m.cls := hown
  have hP : va_P E.1 vwCl [(q0, .inr (2, [.ref q1])), (q1, .inl (eI E, 11, .inl C))] s.heap := hP
  have hD : va_D A [(q0, .inr (2, [.ref q1])), (q1, .inl (eI E, 11, .inl C))] := hD
  have hl : lv_has ls 3 [(0, .ref q0), (1, .int v)] := hl
  refine lv_iload_n (pc := 0) hx hb dX2_voltsAt_0 rfl (lv_at hl 1 rfl) ?_
  refine lv_if_lt (tgt := 11) (pc := 1) hx hb dX2_voltsAt_1 (by decide) (fun c_1 => ?_) (fun c_1 => ?_)
  · refine lv_ldc (v := (-10000002)) (pc := 11) hx hb hown (hts _ mm_X2_voltsAt_1) dX2_voltsAt_11 ?_
    have hfn : fX2_voltsAt C v = _ := if_pos c_1
    rw [hfn] at hQ
    exact hQ _ _ _ _ _ rfl hP hD hS dX2_voltsAt_13
  · refine lv_iload_n (pc := 4) hx hb dX2_voltsAt_4 rfl (lv_at hl 1 rfl) ?_
    refine lv_sipush (v := 1000) (pc := 5) hx hb dX2_voltsAt_5 rfl ?_
    refine lv_icmp_le (tgt := 14) (pc := 8) hx hb dX2_voltsAt_8 (by decide) (fun c_2 => ?_) (fun c_2 => ?_)
    · refine lv_iload_n (pc := 14) hx hb dX2_voltsAt_14 rfl (lv_at hl 1 rfl) ?_
      refine lv_sipush (v := 1000) (pc := 15) hx hb dX2_voltsAt_15 rfl ?_
      have J_5 : ∀ (H : Heap) (locs : List Loc) (ls : Array Slot) (x4 : Int32), (if v = 1000 then 9 else (v / 100)) = x4 → va_P E.1 vwCl [(q0, .inr (2, [.ref q1])), (q1, .inl (eI E, 11, .inl C))] H → va_D A [(q0, .inr (2, [.ref q1])), (q1, .inl (eI E, 11, .inl C))] → va_S A s.heap H locs → lv_has ls 3 [(0, .ref q0), (1, .int v)] → W p l e rX2_voltsAt s m args below meth c H locs 0 0 Q (F0 m 30 ls [.int x4]) := by
        intro H locs ls x4 ex4 hP hD hS hl
        refine lv_istore_n (lv' := [(2, .int x4), (0, .ref q0), (1, .int v)]) (pc := 30) hx hb dX2_voltsAt_30 rfl hl (by decide) rfl (fun ls hl => ?_)
        refine lv_aload_n (pc := 31) hx hb dX2_voltsAt_31 rfl (lv_at hl 1 rfl) ?_
        refine g_get (v := .ref q1) (pc := 32) hx hb hts ii_X2_voltsAt_X2 hown hK.1 hP 0 rfl rfl 0 (by decide) ⟨rfl, rfl, rfl⟩ mm_X2_voltsAt_2 rfl dX2_voltsAt_32 ?_
        refine lv_iload_n (pc := 35) hx hb dX2_voltsAt_35 rfl (lv_at hl 0 rfl) ?_
        refine g_iald (j := (x4).toNatClampNeg) (v := (C ((x4).toNatClampNeg))) (pc := 36) hx hb hK.1 hP 1 0 rfl rfl (ix_volts0 (ix_volts c_1 c_2 ex4.symm)) rfl rfl dX2_voltsAt_36 ?_
        refine lv_aload_n (pc := 37) hx hb dX2_voltsAt_37 rfl (lv_at hl 1 rfl) ?_
        refine g_get (v := .ref q1) (pc := 38) hx hb hts ii_X2_voltsAt_X2 hown hK.1 hP 0 rfl rfl 0 (by decide) ⟨rfl, rfl, rfl⟩ mm_X2_voltsAt_2 rfl dX2_voltsAt_38 ?_
        refine lv_iload_n (pc := 41) hx hb dX2_voltsAt_41 rfl (lv_at hl 0 rfl) ?_
        refine lv_iconst (v := 1) (pc := 42) hx hb dX2_voltsAt_42 rfl ?_
        refine lv_iadd (pc := 43) hx hb dX2_voltsAt_43 ?_
        refine g_iald (j := (x4 + 1).toNatClampNeg) (v := (C ((x4 + 1).toNatClampNeg))) (pc := 44) hx hb hK.1 hP 1 0 rfl rfl (ix_volts1 (ix_volts c_1 c_2 ex4.symm)) rfl rfl dX2_voltsAt_44 ?_
        refine lv_aload_n (pc := 45) hx hb dX2_voltsAt_45 rfl (lv_at hl 1 rfl) ?_
        refine g_get (v := .ref q1) (pc := 46) hx hb hts ii_X2_voltsAt_X2 hown hK.1 hP 0 rfl rfl 0 (by decide) ⟨rfl, rfl, rfl⟩ mm_X2_voltsAt_2 rfl dX2_voltsAt_46 ?_
        refine lv_iload_n (pc := 49) hx hb dX2_voltsAt_49 rfl (lv_at hl 0 rfl) ?_
        refine g_iald (j := (x4).toNatClampNeg) (v := (C ((x4).toNatClampNeg))) (pc := 50) hx hb hK.1 hP 1 0 rfl rfl (ix_volts0 (ix_volts c_1 c_2 ex4.symm)) rfl rfl dX2_voltsAt_50 ?_
        refine lv_isub (pc := 51) hx hb dX2_voltsAt_51 ?_
        refine lv_iload_n (pc := 52) hx hb dX2_voltsAt_52 rfl (lv_at hl 2 rfl) ?_
        refine lv_bipush (v := 100) (pc := 53) hx hb dX2_voltsAt_53 rfl ?_
        refine lv_iload_n (pc := 55) hx hb dX2_voltsAt_55 rfl (lv_at hl 0 rfl) ?_
        refine lv_imul (pc := 56) hx hb dX2_voltsAt_56 ?_
        refine lv_isub (pc := 57) hx hb dX2_voltsAt_57 ?_
        refine lv_imul (pc := 58) hx hb dX2_voltsAt_58 ?_
        refine lv_bipush (v := 100) (pc := 59) hx hb dX2_voltsAt_59 rfl ?_
        refine lv_idiv (pc := 61) hx hb dX2_voltsAt_61 (by decide) ?_
        refine lv_iadd (pc := 62) hx hb dX2_voltsAt_62 ?_
        subst ex4
        have hfn : fX2_voltsAt C v = _ := (if_neg c_1).trans (if_pos c_2)
        rw [hfn] at hQ
        exact hQ _ _ _ _ _ rfl hP hD hS dX2_voltsAt_63
      refine lv_icmp_ne (tgt := 26) (pc := 18) hx hb dX2_voltsAt_18 (by decide) (fun c_3 => ?_) (fun c_3 => ?_)
      · refine lv_iload_n (pc := 26) hx hb dX2_voltsAt_26 rfl (lv_at hl 1 rfl) ?_
        refine lv_bipush (v := 100) (pc := 27) hx hb dX2_voltsAt_27 rfl ?_
        refine lv_idiv (pc := 29) hx hb dX2_voltsAt_29 (by decide) ?_
        exact J_5 _ _ _ _ (if_neg c_3) hP hD hS (lv_sub hl [0, 1] rfl)
      · refine lv_bipush (v := 9) (pc := 21) hx hb dX2_voltsAt_21 rfl ?_
        refine lv_goto (tgt := 30) (pc := 23) hx hb dX2_voltsAt_23 (by decide) ?_
        exact J_5 _ _ _ _ (if_pos c_3) hP hD hS (lv_sub hl [0, 1] rfl)
    · refine lv_ldc (v := (-10000002)) (pc := 11) hx hb hown (hts _ mm_X2_voltsAt_1) dX2_voltsAt_11 ?_
      have hfn : fX2_voltsAt C v = _ := (if_neg c_1).trans (if_neg c_2)
      rw [hfn] at hQ
      exact hQ _ _ _ _ _ rfl hP hD hS dX2_voltsAt_13

def fPB (C : Nat → Int32) (v : Int32) : Nat → Int32 → Int32 → Int32
  | 0, _, q => q
  | n + 1, z, q => fPB C v n (z / 2) (if 1001 < q + z then q else (if v ≤ fX2_voltsAt C (q + z - 1) then q else q + z))
def fX2_placesBelow (C : Nat → Int32) (v : Int32) : Int32 := fPB C v 10 512 0
theorem pb_pos {n : Nat} (h : n < 10) : ¬ nI (2 ^ n) ≤ 0 := nI_nle (Nat.pow_pos (by decide)) (Nat.lt_of_lt_of_le (Nat.pow_lt_pow_right (by decide) h) (by decide))
theorem pb_half {n : Nat} (h : n < 10) : nI (2 ^ n) / 2 = nI (2 ^ n / 2) := pk_div (a := 2 ^ n) (d := 2) (Nat.lt_of_lt_of_le (Nat.pow_lt_pow_right (by decide) h) (by decide)) (by decide) (by decide)

abbrev rX2_placesBelow : Room := { frames := 1, cells := 0, slots := 0, locals := 22 }
theorem qvX2_placesBelow : yX2_placesBelow.cls = RX2 ∧ yX2_placesBelow.cls ≠ "java/lang/invoke/MethodHandle" ∧ yX2_placesBelow.cls ≠ "java/lang/invoke/VarHandle" ∧ (parseMethodDescriptor yX2_placesBelow.desc).map (fun d => d.parameters.length) = some 1 := by decide +kernel
set_option maxHeartbeats 4000000 in
set_option maxRecDepth 100000 in
theorem kX2_placesBelow (l : Launch) (E : gEnv) (q0 q1 : Nat) (C : Nat → Int32) (v : Int32) : gMi l E yX2_placesBelow wsX2_placesBelow rX2_placesBelow [.ref q0, .int v] (wCu E q0 q1 C) (fX2_placesBelow C v) (wCu E q0 q1 C) := by
  refine gMi_of (cc := cX2_placesBelow) (maxL := 5) (ret := (some .int)) (by decide) rfl rfl (Nat.le_of_ble_eq_true rfl) ?_
  intro p e s m args below meth c A Q ls hB hQ
  obtain ⟨hx, hb, hml, hown, hts, hK, hP, hD, hA, hS, hl⟩ := hB
  have hown : s.vm.findClass RX2 = some m.cls := hown
  have hP : va_P E.1 vwCl [(q0, .inr (2, [.ref q1])), (q1, .inl (eI E, 11, .inl C))] s.heap := hP
  have hD : va_D A [(q0, .inr (2, [.ref q1])), (q1, .inl (eI E, 11, .inl C))] := hD
  have hl : lv_has ls 5 [(0, .ref q0), (1, .int v)] := hl
  refine lv_iconst (v := 0) (pc := 0) hx hb dX2_placesBelow_0 rfl ?_
  refine lv_istore_n (lv' := [(2, .int 0), (0, .ref q0), (1, .int v)]) (pc := 1) hx hb dX2_placesBelow_1 rfl hl (by decide) rfl (fun ls hl => ?_)
  refine lv_sipush (v := 512) (pc := 2) hx hb dX2_placesBelow_2 rfl ?_
  refine lv_istore_n (lv' := [(3, .int 512), (2, .int 0), (0, .ref q0), (1, .int v)]) (pc := 5) hx hb dX2_placesBelow_5 rfl hl (by decide) rfl (fun ls hl => ?_)
  have loop : ∀ (n : Nat), n ≤ 10 → ∀ (q : Int32), fPB C v n (nI (2 ^ n / 2)) q = fX2_placesBelow C v → ∀ (H : Heap) (locs : List Loc) (ls : Array Slot), va_P E.1 vwCl [(q0, .inr (2, [.ref q1])), (q1, .inl (eI E, 11, .inl C))] H → va_D A [(q0, .inr (2, [.ref q1])), (q1, .inl (eI E, 11, .inl C))] → va_S A s.heap H locs → lv_has ls 5 [(0, .ref q0), (1, .int v), (2, .int q), (3, .int (nI (2 ^ n / 2)))] → W p l e rX2_placesBelow s m args below meth c H locs 0 0 Q (F0 m 6 ls []) := by
    intro n
    induction n with
    | zero =>
      intro hn q hq H locs ls hP hD hS hl
      refine lv_iload_n (pc := 6) hx hb dX2_placesBelow_6 rfl (lv_at hl 3 rfl) ?_
      refine lv_if_le (tgt := 45) (pc := 7) hx hb dX2_placesBelow_7 (by decide) (fun c_1 => ?_) (fun c_1 => ?_)
      rotate_left
      · exact absurd (by decide : nI (2 ^ 0 / 2) ≤ 0) c_1
      refine lv_iload_n (pc := 45) hx hb dX2_placesBelow_45 rfl (lv_at hl 2 rfl) ?_
      rw [← hq] at hQ
      exact hQ _ _ _ _ _ rfl hP hD hS dX2_placesBelow_46
    | succ n ih =>
      intro hn q hq H locs ls hP hD hS hl
      have en : 2 ^ (n + 1) / 2 = 2 ^ n := by rw [Nat.pow_succ]; omega
      rw [en] at hl hq
      refine lv_iload_n (pc := 6) hx hb dX2_placesBelow_6 rfl (lv_at hl 3 rfl) ?_
      refine lv_if_le (tgt := 45) (pc := 7) hx hb dX2_placesBelow_7 (by decide) (fun c_2 => ?_) (fun c_2 => ?_)
      · exact absurd c_2 (pb_pos (by omega))
      refine lv_iload_n (pc := 10) hx hb dX2_placesBelow_10 rfl (lv_at hl 2 rfl) ?_
      refine lv_iload_n (pc := 11) hx hb dX2_placesBelow_11 rfl (lv_at hl 3 rfl) ?_
      refine lv_iadd (pc := 12) hx hb dX2_placesBelow_12 ?_
      refine g_topi (fun x3 ex3 => ?_)
      refine lv_istore (lv' := [(4, .int x3), (0, .ref q0), (1, .int v), (2, .int q), (3, .int (nI (2 ^ n)))]) (pc := 13) hx hb dX2_placesBelow_13 hl (by decide) rfl (fun ls hl => ?_)
      refine lv_iload (pc := 15) hx hb dX2_placesBelow_15 (lv_at hl 0 rfl) ?_
      refine lv_sipush (v := 1001) (pc := 17) hx hb dX2_placesBelow_17 rfl ?_
      have J_6 : ∀ (H : Heap) (locs : List Loc) (ls : Array Slot) (x5 : Int32), (if 1001 < x3 then q else (let r5 : Int32 := fX2_voltsAt C (x3 - 1); (if v ≤ r5 then q else x3))) = x5 → va_P E.1 vwCl [(q0, .inr (2, [.ref q1])), (q1, .inl (eI E, 11, .inl C))] H → va_D A [(q0, .inr (2, [.ref q1])), (q1, .inl (eI E, 11, .inl C))] → va_S A s.heap H locs → lv_has ls 5 [(0, .ref q0), (1, .int v), (2, .int x5), (3, .int (nI (2 ^ n))), (4, .int x3)] → W p l e rX2_placesBelow s m args below meth c H locs 0 0 Q (F0 m 38 ls []) := by
        intro H locs ls x5 ex5 hP hD hS hl
        refine lv_iload_n (pc := 38) hx hb dX2_placesBelow_38 rfl (lv_at hl 3 rfl) ?_
        refine lv_iconst (v := 2) (pc := 39) hx hb dX2_placesBelow_39 rfl ?_
        refine lv_idiv (pc := 40) hx hb dX2_placesBelow_40 (by decide) ?_
        refine g_topi (fun x7 ex7 => ?_)
        refine lv_istore_n (lv' := [(3, .int x7), (0, .ref q0), (1, .int v), (2, .int x5), (4, .int x3)]) (pc := 41) hx hb dX2_placesBelow_41 rfl hl (by decide) rfl (fun ls hl => ?_)
        refine lv_goto (tgt := 6) (pc := 42) hx hb dX2_placesBelow_42 (by decide) ?_
        subst ex7
        subst ex5
        subst ex3
        rw [pb_half (by omega)] at hl
        refine ih (by omega) _ ?_ _ _ _ hP hD hS (lv_sub hl [1, 2, 3, 0] rfl)
        rw [← pb_half (by omega)]
        exact hq
      refine lv_icmp_gt (tgt := 38) (pc := 20) hx hb dX2_placesBelow_20 (by decide) (fun c_4 => ?_) (fun c_4 => ?_)
      · exact J_6 _ _ _ _ (if_pos c_4) hP hD hS (lv_sub hl [1, 2, 3, 4, 0] rfl)
      · refine lv_aload_n (pc := 23) hx hb dX2_placesBelow_23 rfl (lv_at hl 1 rfl) ?_
        refine lv_iload (pc := 24) hx hb dX2_placesBelow_24 (lv_at hl 0 rfl) ?_
        refine lv_iconst (v := 1) (pc := 26) hx hb dX2_placesBelow_26 rfl ?_
        refine lv_isub (pc := 27) hx hb dX2_placesBelow_27 ?_
        obtain ⟨r5, er5⟩ : ∃ z : Int32, fX2_voltsAt C (x3 - 1) = z := ⟨_, rfl⟩
        have hr5 := kX2_voltsAt l E q0 q1 C (x3 - 1)
        rw [er5] at hr5
        refine gcVi (pc := 28) (w1 := [(q0, .inr (2, [.ref q1])), (q1, .inl (eI E, 11, .inl C))]) (pre := []) (post := []) (As := [.int (x3 - 1)]) (rest := []) (q0 := 0) ⟨hx, hb, hml, hown, hts⟩ hr5 (cwV 1 hts gX2_placesBelow_X2_voltsAt rfl rfl rfl qvX2_voltsAt ⟨Nat.le_of_ble_eq_true rfl, Nat.le_of_ble_eq_true rfl⟩) hK hP hD hS hA rfl rfl rfl rfl rfl hl.1 rfl (Nat.le_of_ble_eq_true rfl) dX2_placesBelow_28 ⟨Nat.zero_le _, Nat.zero_le _⟩ (fun H locs hP hD hS => ?_)
        refine lv_iload_n (pc := 31) hx hb dX2_placesBelow_31 rfl (lv_at hl 2 rfl) ?_
        refine lv_icmp_ge (tgt := 38) (pc := 32) hx hb dX2_placesBelow_32 (by decide) (fun c_6 => ?_) (fun c_6 => ?_)
        · subst er5
          exact J_6 _ _ _ _ ((if_neg c_4).trans (if_pos c_6)) hP hD hS (lv_sub hl [1, 2, 3, 4, 0] rfl)
        · refine lv_iload (pc := 35) hx hb dX2_placesBelow_35 (lv_at hl 0 rfl) ?_
          refine lv_istore_n (lv' := [(2, .int x3), (4, .int x3), (0, .ref q0), (1, .int v), (3, .int (nI (2 ^ n)))]) (pc := 37) hx hb dX2_placesBelow_37 rfl hl (by decide) rfl (fun ls hl => ?_)
          subst er5
          exact J_6 _ _ _ _ ((if_neg c_4).trans (if_neg c_6)) hP hD hS (lv_sub hl [2, 3, 0, 4, 1] rfl)
  exact loop 10 (Nat.le_refl 10) 0 rfl _ _ _ hP hD hS (lv_sub hl [2, 3, 1, 0] rfl)

def fX2_leastReaching (C : Nat → Int32) (v : Int32) : Int32 :=
  let r1 : Int32 := fX2_placesBelow C v
  let x3 : Int32 := (if r1 ≤ 1000 then r1 else (-10000001))
  x3
abbrev rX2_leastReaching : Room := { frames := 2, cells := 0, slots := 0, locals := 46 }
theorem mm_X2_leastReaching_1 : Cond.constant RX2 31 (-10000001) ∈ wsX2_leastReaching := List.mem_of_getElem? (i := 1) rfl
theorem qvX2_leastReaching : yX2_leastReaching.cls = RX2 ∧ yX2_leastReaching.cls ≠ "java/lang/invoke/MethodHandle" ∧ yX2_leastReaching.cls ≠ "java/lang/invoke/VarHandle" ∧ (parseMethodDescriptor yX2_leastReaching.desc).map (fun d => d.parameters.length) = some 1 := by decide +kernel
set_option maxHeartbeats 4000000 in
set_option maxRecDepth 100000 in
theorem kX2_leastReaching (l : Launch) (E : gEnv) (q0 q1 : Nat) (C : Nat → Int32) (v : Int32) : gMi l E yX2_leastReaching wsX2_leastReaching rX2_leastReaching [.ref q0, .int v] (wCu E q0 q1 C) (fX2_leastReaching C v) (wCu E q0 q1 C) := by
  refine gMi_of (cc := cX2_leastReaching) (maxL := 3) (ret := (some .int)) (by decide) rfl rfl (Nat.le_of_ble_eq_true rfl) ?_
  intro p e s m args below meth c A Q ls hB hQ
  obtain ⟨hx, hb, hml, hown, hts, hK, hP, hD, hA, hS, hl⟩ := hB
  have hown : s.vm.findClass RX2 = some m.cls := hown
  have hP : va_P E.1 vwCl [(q0, .inr (2, [.ref q1])), (q1, .inl (eI E, 11, .inl C))] s.heap := hP
  have hD : va_D A [(q0, .inr (2, [.ref q1])), (q1, .inl (eI E, 11, .inl C))] := hD
  have hl : lv_has ls 3 [(0, .ref q0), (1, .int v)] := hl
  refine lv_aload_n (pc := 0) hx hb dX2_leastReaching_0 rfl (lv_at hl 0 rfl) ?_
  refine lv_iload_n (pc := 1) hx hb dX2_leastReaching_1 rfl (lv_at hl 1 rfl) ?_
  obtain ⟨r1, er1⟩ : ∃ z : Int32, fX2_placesBelow C v = z := ⟨_, rfl⟩
  have hr1 := kX2_placesBelow l E q0 q1 C v
  rw [er1] at hr1
  refine gcVi (pc := 2) (w1 := [(q0, .inr (2, [.ref q1])), (q1, .inl (eI E, 11, .inl C))]) (pre := []) (post := []) (As := [.int v]) (rest := []) (q0 := 0) ⟨hx, hb, hml, hown, hts⟩ hr1 (cwV 1 hts gX2_leastReaching_X2_placesBelow rfl rfl rfl qvX2_placesBelow ⟨Nat.le_of_ble_eq_true rfl, Nat.le_of_ble_eq_true rfl⟩) hK hP hD hS hA rfl rfl rfl rfl rfl hl.1 rfl (Nat.le_of_ble_eq_true rfl) dX2_leastReaching_2 ⟨Nat.zero_le _, Nat.zero_le _⟩ (fun H locs hP hD hS => ?_)
  refine lv_istore_n (lv' := [(2, .int r1), (0, .ref q0), (1, .int v)]) (pc := 5) hx hb dX2_leastReaching_5 rfl hl (by decide) rfl (fun ls hl => ?_)
  refine lv_iload_n (pc := 6) hx hb dX2_leastReaching_6 rfl (lv_at hl 0 rfl) ?_
  refine lv_sipush (v := 1000) (pc := 7) hx hb dX2_leastReaching_7 rfl ?_
  have J_4 : ∀ (H : Heap) (locs : List Loc) (ls : Array Slot) (x3 : Int32), (if r1 ≤ 1000 then r1 else (-10000001)) = x3 → va_P E.1 vwCl [(q0, .inr (2, [.ref q1])), (q1, .inl (eI E, 11, .inl C))] H → va_D A [(q0, .inr (2, [.ref q1])), (q1, .inl (eI E, 11, .inl C))] → va_S A s.heap H locs → lv_has ls 3 [(0, .ref q0), (1, .int v), (2, .int r1)] → W p l e rX2_leastReaching s m args below meth c H locs 0 0 Q (F0 m 19 ls [.int x3]) := by
    intro H locs ls x3 ex3 hP hD hS hl
    subst ex3
    subst er1
    exact hQ _ _ _ _ _ rfl hP hD hS dX2_leastReaching_19
  refine lv_icmp_le (tgt := 18) (pc := 10) hx hb dX2_leastReaching_10 (by decide) (fun c_2 => ?_) (fun c_2 => ?_)
  · refine lv_iload_n (pc := 18) hx hb dX2_leastReaching_18 rfl (lv_at hl 0 rfl) ?_
    exact J_4 _ _ _ _ (if_pos c_2) hP hD hS (lv_sub hl [1, 2, 0] rfl)
  · refine lv_ldc (v := (-10000001)) (pc := 13) hx hb hown (hts _ mm_X2_leastReaching_1) dX2_leastReaching_13 ?_
    refine lv_goto (tgt := 19) (pc := 15) hx hb dX2_leastReaching_15 (by decide) ?_
    exact J_4 _ _ _ _ (if_neg c_2) hP hD hS (lv_sub hl [1, 2, 0] rfl)

def fX2_greatestWithin (C : Nat → Int32) (v : Int32) : Int32 :=
  let r1 : Int32 := fX2_placesBelow C (v + 1)
  let x3 : Int32 := (if r1 = 0 then (-10000001) else (r1 - 1))
  x3
abbrev rX2_greatestWithin : Room := { frames := 2, cells := 0, slots := 0, locals := 46 }
theorem mm_X2_greatestWithin_1 : Cond.constant RX2 31 (-10000001) ∈ wsX2_greatestWithin := List.mem_of_getElem? (i := 1) rfl
theorem qvX2_greatestWithin : yX2_greatestWithin.cls = RX2 ∧ yX2_greatestWithin.cls ≠ "java/lang/invoke/MethodHandle" ∧ yX2_greatestWithin.cls ≠ "java/lang/invoke/VarHandle" ∧ (parseMethodDescriptor yX2_greatestWithin.desc).map (fun d => d.parameters.length) = some 1 := by decide +kernel
set_option maxHeartbeats 4000000 in
set_option maxRecDepth 100000 in
theorem kX2_greatestWithin (l : Launch) (E : gEnv) (q0 q1 : Nat) (C : Nat → Int32) (v : Int32) : gMi l E yX2_greatestWithin wsX2_greatestWithin rX2_greatestWithin [.ref q0, .int v] (wCu E q0 q1 C) (fX2_greatestWithin C v) (wCu E q0 q1 C) := by
  refine gMi_of (cc := cX2_greatestWithin) (maxL := 3) (ret := (some .int)) (by decide) rfl rfl (Nat.le_of_ble_eq_true rfl) ?_
  intro p e s m args below meth c A Q ls hB hQ
  obtain ⟨hx, hb, hml, hown, hts, hK, hP, hD, hA, hS, hl⟩ := hB
  have hown : s.vm.findClass RX2 = some m.cls := hown
  have hP : va_P E.1 vwCl [(q0, .inr (2, [.ref q1])), (q1, .inl (eI E, 11, .inl C))] s.heap := hP
  have hD : va_D A [(q0, .inr (2, [.ref q1])), (q1, .inl (eI E, 11, .inl C))] := hD
  have hl : lv_has ls 3 [(0, .ref q0), (1, .int v)] := hl
  refine lv_aload_n (pc := 0) hx hb dX2_greatestWithin_0 rfl (lv_at hl 0 rfl) ?_
  refine lv_iload_n (pc := 1) hx hb dX2_greatestWithin_1 rfl (lv_at hl 1 rfl) ?_
  refine lv_iconst (v := 1) (pc := 2) hx hb dX2_greatestWithin_2 rfl ?_
  refine lv_iadd (pc := 3) hx hb dX2_greatestWithin_3 ?_
  obtain ⟨r1, er1⟩ : ∃ z : Int32, fX2_placesBelow C (v + 1) = z := ⟨_, rfl⟩
  have hr1 := kX2_placesBelow l E q0 q1 C (v + 1)
  rw [er1] at hr1
  refine gcVi (pc := 4) (w1 := [(q0, .inr (2, [.ref q1])), (q1, .inl (eI E, 11, .inl C))]) (pre := []) (post := []) (As := [.int (v + 1)]) (rest := []) (q0 := 0) ⟨hx, hb, hml, hown, hts⟩ hr1 (cwV 1 hts gX2_greatestWithin_X2_placesBelow rfl rfl rfl qvX2_placesBelow ⟨Nat.le_of_ble_eq_true rfl, Nat.le_of_ble_eq_true rfl⟩) hK hP hD hS hA rfl rfl rfl rfl rfl hl.1 rfl (Nat.le_of_ble_eq_true rfl) dX2_greatestWithin_4 ⟨Nat.zero_le _, Nat.zero_le _⟩ (fun H locs hP hD hS => ?_)
  refine lv_istore_n (lv' := [(2, .int r1), (0, .ref q0), (1, .int v)]) (pc := 7) hx hb dX2_greatestWithin_7 rfl hl (by decide) rfl (fun ls hl => ?_)
  refine lv_iload_n (pc := 8) hx hb dX2_greatestWithin_8 rfl (lv_at hl 0 rfl) ?_
  have J_4 : ∀ (H : Heap) (locs : List Loc) (ls : Array Slot) (x3 : Int32), (if r1 = 0 then (-10000001) else (r1 - 1)) = x3 → va_P E.1 vwCl [(q0, .inr (2, [.ref q1])), (q1, .inl (eI E, 11, .inl C))] H → va_D A [(q0, .inr (2, [.ref q1])), (q1, .inl (eI E, 11, .inl C))] → va_S A s.heap H locs → lv_has ls 3 [(0, .ref q0), (1, .int v), (2, .int r1)] → W p l e rX2_greatestWithin s m args below meth c H locs 0 0 Q (F0 m 20 ls [.int x3]) := by
    intro H locs ls x3 ex3 hP hD hS hl
    subst ex3
    subst er1
    exact hQ _ _ _ _ _ rfl hP hD hS dX2_greatestWithin_20
  refine lv_if_ne (tgt := 17) (pc := 9) hx hb dX2_greatestWithin_9 (by decide) (fun c_2 => ?_) (fun c_2 => ?_)
  · refine lv_iload_n (pc := 17) hx hb dX2_greatestWithin_17 rfl (lv_at hl 0 rfl) ?_
    refine lv_iconst (v := 1) (pc := 18) hx hb dX2_greatestWithin_18 rfl ?_
    refine lv_isub (pc := 19) hx hb dX2_greatestWithin_19 ?_
    exact J_4 _ _ _ _ (if_neg c_2) hP hD hS (lv_sub hl [1, 2, 0] rfl)
  · refine lv_ldc (v := (-10000001)) (pc := 12) hx hb hown (hts _ mm_X2_greatestWithin_1) dX2_greatestWithin_12 ?_
    refine lv_goto (tgt := 20) (pc := 14) hx hb dX2_greatestWithin_14 (by decide) ?_
    exact J_4 _ _ _ _ (if_pos c_2) hP hD hS (lv_sub hl [1, 2, 0] rfl)

def fX0_add (S : Nat → Int64) (N : Nat → Int32) (sg : Int32) (tn : Int32) (v : Int32) : (Nat → Int64) × (Nat → Int32) :=
  let r1 : Int32 := fX0_isBand sg tn
  if r1 = 0 then
    (S, N)
  else
    let x3 : Int32 := (sg * 11) + tn
    let x4 : Int64 := (S ((x3).toNatClampNeg)) + v.toInt64
    let x5 : Int32 := (N ((x3).toNatClampNeg)) + 1
    ((vp_updL S ((x3).toNatClampNeg) x4), (upd N ((x3).toNatClampNeg) x5))
abbrev rX0_add : Room := { frames := 2, cells := 0, slots := 0, locals := 43 }
theorem mm_X0_add_1 : Cond.fieldLink RX0 11 "GaugeBounds$Bands" "sums" "[J" ∈ wsX0_add := List.mem_of_getElem? (i := 1) rfl
theorem mm_X0_add_2 : Cond.fieldLink RX0 15 "GaugeBounds$Bands" "counts" "[I" ∈ wsX0_add := List.mem_of_getElem? (i := 2) rfl
theorem ii_X0_add_X0 : ∀ w ∈ wsX00, w ∈ wsX0_add := fun _ h => List.mem_cons_of_mem _ (List.mem_append_right _ (h))
theorem qvX0_add : yX0_add.cls = RX0 ∧ yX0_add.cls ≠ "java/lang/invoke/MethodHandle" ∧ yX0_add.cls ≠ "java/lang/invoke/VarHandle" ∧ (parseMethodDescriptor yX0_add.desc).map (fun d => d.parameters.length) = some 3 := by decide +kernel
set_option maxHeartbeats 4000000 in
set_option maxRecDepth 100000 in
theorem kX0_add (l : Launch) (E : gEnv) (q0 q1 q2 : Nat) (S : Nat → Int64) (N : Nat → Int32) (sg : Int32) (tn : Int32) (v : Int32) : gMv l E yX0_add wsX0_add rX0_add [.ref q0, .int sg, .int tn, .int v] (wBn E q0 q1 q2 S N) (wBn E q0 q1 q2 ((fX0_add S N sg tn v).1) ((fX0_add S N sg tn v).2)) := by
  refine gMv_of (cc := cX0_add) (maxL := 5) (ret := none) (by decide) rfl rfl (Nat.le_of_ble_eq_true rfl) ?_
  intro p e s m args below meth c A Q ls hB hQ
  obtain ⟨hx, hb, hml, hown, hts, hK, hP, hD, hA, hS, hl⟩ := hB
  have hown : s.vm.findClass RX0 = some m.cls := hown
  have hP : va_P E.1 vwCl [(q0, .inr (0, [.ref q1, .ref q2])), (q1, .inl (eJ E, 22, .inr (.inl S))), (q2, .inl (eI E, 22, .inl N))] s.heap := hP
  have hD : va_D A [(q0, .inr (0, [.ref q1, .ref q2])), (q1, .inl (eJ E, 22, .inr (.inl S))), (q2, .inl (eI E, 22, .inl N))] := hD
  have hl : lv_has ls 5 [(0, .ref q0), (1, .int sg), (2, .int tn), (3, .int v)] := hl
  refine lv_iload_n (pc := 0) hx hb dX0_add_0 rfl (lv_at hl 1 rfl) ?_
  refine lv_iload_n (pc := 1) hx hb dX0_add_1 rfl (lv_at hl 2 rfl) ?_
  obtain ⟨r1, er1⟩ : ∃ z : Int32, fX0_isBand sg tn = z := ⟨_, rfl⟩
  have hr1 := kX0_isBand l E sg tn
  rw [er1] at hr1
  refine gcSi (pc := 2) (As := [.int sg, .int tn]) (rest := []) ⟨hx, hb, hml, hown, hts⟩ hr1 (cwS 2 hts gX0_add_X0_isBand rfl rfl rfl qsX0_isBand ⟨Nat.le_of_ble_eq_true rfl, Nat.le_of_ble_eq_true rfl⟩) hK hP hD hS hA rfl hl.1 rfl (Nat.le_of_ble_eq_true rfl) dX0_add_2 ⟨Nat.zero_le _, Nat.zero_le _⟩ (fun H locs hP hD hS => ?_)
  refine lv_if_eq (tgt := 39) (pc := 5) hx hb dX0_add_5 (by decide) (fun c_2 => ?_) (fun c_2 => ?_)
  · subst er1
    have hfn : fX0_add S N sg tn v = _ := if_pos c_2
    rw [hfn] at hQ
    exact hQ _ _ _ _ hP hD hS dX0_add_39
  · refine lv_iload_n (pc := 8) hx hb dX0_add_8 rfl (lv_at hl 1 rfl) ?_
    refine lv_bipush (v := 11) (pc := 9) hx hb dX0_add_9 rfl ?_
    refine lv_imul (pc := 11) hx hb dX0_add_11 ?_
    refine lv_iload_n (pc := 12) hx hb dX0_add_12 rfl (lv_at hl 2 rfl) ?_
    refine lv_iadd (pc := 13) hx hb dX0_add_13 ?_
    refine g_topi (fun x3 ex3 => ?_)
    refine lv_istore (lv' := [(4, .int x3), (0, .ref q0), (1, .int sg), (2, .int tn), (3, .int v)]) (pc := 14) hx hb dX0_add_14 hl (by decide) rfl (fun ls hl => ?_)
    refine lv_aload_n (pc := 16) hx hb dX0_add_16 rfl (lv_at hl 1 rfl) ?_
    refine g_get (v := .ref q1) (pc := 17) hx hb hts ii_X0_add_X0 hown hK.1 hP 0 rfl rfl 0 (by decide) ⟨rfl, rfl, rfl⟩ mm_X0_add_1 rfl dX0_add_17 ?_
    refine lv_iload (pc := 20) hx hb dX0_add_20 (lv_at hl 0 rfl) ?_
    refine lv_dup2_11 (pc := 22) hx hb dX0_add_22 rfl rfl ?_
    refine g_lald (j := (x3).toNatClampNeg) (v := (S ((x3).toNatClampNeg))) (pc := 23) hx hb hK.1 hP 1 1 rfl rfl (by subst ex3; subst er1; exact ix_band c_2) rfl rfl dX0_add_23 ?_
    refine lv_iload_n (pc := 24) hx hb dX0_add_24 rfl (lv_at hl 4 rfl) ?_
    refine lv_i2l (v := v.toInt64) (pc := 25) hx hb dX0_add_25 rfl ?_
    refine lv_ladd (pc := 26) hx hb dX0_add_26 ?_
    refine g_topl (fun x4 ex4 => ?_)
    refine g_last (j := (x3).toNatClampNeg) (w1 := [(q0, .inr (0, [.ref q1, .ref q2])), (q1, .inl (eJ E, 22, .inr (.inl (vp_updL S ((x3).toNatClampNeg) x4)))), (q2, .inl (eI E, 22, .inl N))]) (pc := 27) hx hb hK.1 hP hD hS 1 1 rfl rfl (by subst ex3; subst er1; exact ix_band c_2) rfl rfl dX0_add_27 (fun H locs hP hD hS => ?_)
    refine lv_aload_n (pc := 28) hx hb dX0_add_28 rfl (lv_at hl 1 rfl) ?_
    refine g_get (v := .ref q2) (pc := 29) hx hb hts ii_X0_add_X0 hown hK.1 hP 0 rfl rfl 1 (by decide) ⟨rfl, rfl, rfl⟩ mm_X0_add_2 rfl dX0_add_29 ?_
    refine lv_iload (pc := 32) hx hb dX0_add_32 (lv_at hl 0 rfl) ?_
    refine lv_dup2_11 (pc := 34) hx hb dX0_add_34 rfl rfl ?_
    refine g_iald (j := (x3).toNatClampNeg) (v := (N ((x3).toNatClampNeg))) (pc := 35) hx hb hK.1 hP 2 0 rfl rfl (by subst ex3; subst er1; exact ix_band c_2) rfl rfl dX0_add_35 ?_
    refine lv_iconst (v := 1) (pc := 36) hx hb dX0_add_36 rfl ?_
    refine lv_iadd (pc := 37) hx hb dX0_add_37 ?_
    refine g_topi (fun x5 ex5 => ?_)
    refine g_iast (j := (x3).toNatClampNeg) (w1 := [(q0, .inr (0, [.ref q1, .ref q2])), (q1, .inl (eJ E, 22, .inr (.inl (vp_updL S ((x3).toNatClampNeg) x4)))), (q2, .inl (eI E, 22, .inl (upd N ((x3).toNatClampNeg) x5)))]) (pc := 38) hx hb hK.1 hP hD hS 2 0 rfl rfl (by subst ex3; subst er1; exact ix_band c_2) rfl rfl dX0_add_38 (fun H locs hP hD hS => ?_)
    subst ex5
    subst ex4
    subst ex3
    subst er1
    have hfn : fX0_add S N sg tn v = _ := if_neg c_2
    rw [hfn] at hQ
    exact hQ _ _ _ _ hP hD hS dX0_add_39

def fX0_resistance (S : Nat → Int64) (N : Nat → Int32) (sg : Int32) (tn : Int32) : Int32 :=
  let r1 : Int32 := fX0_isBand sg tn
  if r1 = 0 then
    (-10000002)
  else
    let x3 : Int32 := (sg * 11) + tn
    let x5 : Int32 := (if (N ((x3).toNatClampNeg)) = 0 then (-10000001) else (((S ((x3).toNatClampNeg)) / ((N ((x3).toNatClampNeg)).toInt64)).toInt32))
    x5
abbrev rX0_resistance : Room := { frames := 2, cells := 0, slots := 0, locals := 43 }
theorem mm_X0_resistance_2 : Cond.fieldLink RX0 15 "GaugeBounds$Bands" "counts" "[I" ∈ wsX0_resistance := List.mem_of_getElem? (i := 2) rfl
theorem mm_X0_resistance_4 : Cond.fieldLink RX0 11 "GaugeBounds$Bands" "sums" "[J" ∈ wsX0_resistance := List.mem_of_getElem? (i := 4) rfl
theorem mm_X0_resistance_3 : Cond.constant RX0 30 (-10000001) ∈ wsX0_resistance := List.mem_of_getElem? (i := 3) rfl
theorem mm_X0_resistance_1 : Cond.constant RX0 29 (-10000002) ∈ wsX0_resistance := List.mem_of_getElem? (i := 1) rfl
theorem ii_X0_resistance_X0 : ∀ w ∈ wsX00, w ∈ wsX0_resistance := fun _ h => List.mem_cons_of_mem _ (List.mem_append_right _ (h))
theorem qvX0_resistance : yX0_resistance.cls = RX0 ∧ yX0_resistance.cls ≠ "java/lang/invoke/MethodHandle" ∧ yX0_resistance.cls ≠ "java/lang/invoke/VarHandle" ∧ (parseMethodDescriptor yX0_resistance.desc).map (fun d => d.parameters.length) = some 2 := by decide +kernel
set_option maxHeartbeats 4000000 in
set_option maxRecDepth 100000 in
theorem kX0_resistance (l : Launch) (E : gEnv) (q0 q1 q2 : Nat) (S : Nat → Int64) (N : Nat → Int32) (sg : Int32) (tn : Int32) : gMi l E yX0_resistance wsX0_resistance rX0_resistance [.ref q0, .int sg, .int tn] (wBn E q0 q1 q2 S N) (fX0_resistance S N sg tn) (wBn E q0 q1 q2 S N) := by
  refine gMi_of (cc := cX0_resistance) (maxL := 4) (ret := (some .int)) (by decide) rfl rfl (Nat.le_of_ble_eq_true rfl) ?_
  intro p e s m args below meth c A Q ls hB hQ
  obtain ⟨hx, hb, hml, hown, hts, hK, hP, hD, hA, hS, hl⟩ := hB
  have hown : s.vm.findClass RX0 = some m.cls := hown
  have hP : va_P E.1 vwCl [(q0, .inr (0, [.ref q1, .ref q2])), (q1, .inl (eJ E, 22, .inr (.inl S))), (q2, .inl (eI E, 22, .inl N))] s.heap := hP
  have hD : va_D A [(q0, .inr (0, [.ref q1, .ref q2])), (q1, .inl (eJ E, 22, .inr (.inl S))), (q2, .inl (eI E, 22, .inl N))] := hD
  have hl : lv_has ls 4 [(0, .ref q0), (1, .int sg), (2, .int tn)] := hl
  refine lv_iload_n (pc := 0) hx hb dX0_resistance_0 rfl (lv_at hl 1 rfl) ?_
  refine lv_iload_n (pc := 1) hx hb dX0_resistance_1 rfl (lv_at hl 2 rfl) ?_
  obtain ⟨r1, er1⟩ : ∃ z : Int32, fX0_isBand sg tn = z := ⟨_, rfl⟩
  have hr1 := kX0_isBand l E sg tn
  rw [er1] at hr1
  refine gcSi (pc := 2) (As := [.int sg, .int tn]) (rest := []) ⟨hx, hb, hml, hown, hts⟩ hr1 (cwS 2 hts gX0_resistance_X0_isBand rfl rfl rfl qsX0_isBand ⟨Nat.le_of_ble_eq_true rfl, Nat.le_of_ble_eq_true rfl⟩) hK hP hD hS hA rfl hl.1 rfl (Nat.le_of_ble_eq_true rfl) dX0_resistance_2 ⟨Nat.zero_le _, Nat.zero_le _⟩ (fun H locs hP hD hS => ?_)
  refine lv_if_ne (tgt := 11) (pc := 5) hx hb dX0_resistance_5 (by decide) (fun c_2 => ?_) (fun c_2 => ?_)
  · refine lv_iload_n (pc := 11) hx hb dX0_resistance_11 rfl (lv_at hl 1 rfl) ?_
    refine lv_bipush (v := 11) (pc := 12) hx hb dX0_resistance_12 rfl ?_
    refine lv_imul (pc := 14) hx hb dX0_resistance_14 ?_
    refine lv_iload_n (pc := 15) hx hb dX0_resistance_15 rfl (lv_at hl 2 rfl) ?_
    refine lv_iadd (pc := 16) hx hb dX0_resistance_16 ?_
    refine g_topi (fun x3 ex3 => ?_)
    refine lv_istore_n (lv' := [(3, .int x3), (0, .ref q0), (1, .int sg), (2, .int tn)]) (pc := 17) hx hb dX0_resistance_17 rfl hl (by decide) rfl (fun ls hl => ?_)
    refine lv_aload_n (pc := 18) hx hb dX0_resistance_18 rfl (lv_at hl 1 rfl) ?_
    refine g_get (v := .ref q2) (pc := 19) hx hb hts ii_X0_resistance_X0 hown hK.1 hP 0 rfl rfl 1 (by decide) ⟨rfl, rfl, rfl⟩ mm_X0_resistance_2 rfl dX0_resistance_19 ?_
    refine lv_iload_n (pc := 22) hx hb dX0_resistance_22 rfl (lv_at hl 0 rfl) ?_
    refine g_iald (j := (x3).toNatClampNeg) (v := (N ((x3).toNatClampNeg))) (pc := 23) hx hb hK.1 hP 2 0 rfl rfl (by subst ex3; subst er1; exact ix_band c_2) rfl rfl dX0_resistance_23 ?_
    have J_6 : ∀ (H : Heap) (locs : List Loc) (ls : Array Slot) (x5 : Int32), (if (N ((x3).toNatClampNeg)) = 0 then (-10000001) else (((S ((x3).toNatClampNeg)) / ((N ((x3).toNatClampNeg)).toInt64)).toInt32)) = x5 → va_P E.1 vwCl [(q0, .inr (0, [.ref q1, .ref q2])), (q1, .inl (eJ E, 22, .inr (.inl S))), (q2, .inl (eI E, 22, .inl N))] H → va_D A [(q0, .inr (0, [.ref q1, .ref q2])), (q1, .inl (eJ E, 22, .inr (.inl S))), (q2, .inl (eI E, 22, .inl N))] → va_S A s.heap H locs → lv_has ls 4 [(0, .ref q0), (1, .int sg), (2, .int tn), (3, .int x3)] → W p l e rX0_resistance s m args below meth c H locs 0 0 Q (F0 m 47 ls [.int x5]) := by
      intro H locs ls x5 ex5 hP hD hS hl
      subst ex5
      subst ex3
      subst er1
      have hfn : fX0_resistance S N sg tn = _ := if_neg c_2
      rw [hfn] at hQ
      exact hQ _ _ _ _ _ rfl hP hD hS dX0_resistance_47
    refine lv_if_ne (tgt := 32) (pc := 24) hx hb dX0_resistance_24 (by decide) (fun c_4 => ?_) (fun c_4 => ?_)
    · refine lv_aload_n (pc := 32) hx hb dX0_resistance_32 rfl (lv_at hl 1 rfl) ?_
      refine g_get (v := .ref q1) (pc := 33) hx hb hts ii_X0_resistance_X0 hown hK.1 hP 0 rfl rfl 0 (by decide) ⟨rfl, rfl, rfl⟩ mm_X0_resistance_4 rfl dX0_resistance_33 ?_
      refine lv_iload_n (pc := 36) hx hb dX0_resistance_36 rfl (lv_at hl 0 rfl) ?_
      refine g_lald (j := (x3).toNatClampNeg) (v := (S ((x3).toNatClampNeg))) (pc := 37) hx hb hK.1 hP 1 1 rfl rfl (by subst ex3; subst er1; exact ix_band c_2) rfl rfl dX0_resistance_37 ?_
      refine lv_aload_n (pc := 38) hx hb dX0_resistance_38 rfl (lv_at hl 1 rfl) ?_
      refine g_get (v := .ref q2) (pc := 39) hx hb hts ii_X0_resistance_X0 hown hK.1 hP 0 rfl rfl 1 (by decide) ⟨rfl, rfl, rfl⟩ mm_X0_resistance_2 rfl dX0_resistance_39 ?_
      refine lv_iload_n (pc := 42) hx hb dX0_resistance_42 rfl (lv_at hl 0 rfl) ?_
      refine g_iald (j := (x3).toNatClampNeg) (v := (N ((x3).toNatClampNeg))) (pc := 43) hx hb hK.1 hP 2 0 rfl rfl (by subst ex3; subst er1; exact ix_band c_2) rfl rfl dX0_resistance_43 ?_
      refine lv_i2l (v := (N ((x3).toNatClampNeg)).toInt64) (pc := 44) hx hb dX0_resistance_44 rfl ?_
      refine lv_ldiv (pc := 45) hx hb dX0_resistance_45 (nz_l c_4) ?_
      refine lv_l2i (v := ((S ((x3).toNatClampNeg)) / ((N ((x3).toNatClampNeg)).toInt64)).toInt32) (pc := 46) hx hb dX0_resistance_46 rfl ?_
      exact J_6 _ _ _ _ (if_neg c_4) hP hD hS (lv_sub hl [1, 2, 3, 0] rfl)
    · refine lv_ldc (v := (-10000001)) (pc := 27) hx hb hown (hts _ mm_X0_resistance_3) dX0_resistance_27 ?_
      refine lv_goto (tgt := 47) (pc := 29) hx hb dX0_resistance_29 (by decide) ?_
      exact J_6 _ _ _ _ (if_pos c_4) hP hD hS (lv_sub hl [1, 2, 3, 0] rfl)
  · refine lv_ldc (v := (-10000002)) (pc := 8) hx hb hown (hts _ mm_X0_resistance_1) dX0_resistance_8 ?_
    subst er1
    have hfn : fX0_resistance S N sg tn = _ := if_pos c_2
    rw [hfn] at hQ
    exact hQ _ _ _ _ _ rfl hP hD hS dX0_resistance_10

def fX0_howMany (S : Nat → Int64) (N : Nat → Int32) (sg : Int32) (tn : Int32) : Int32 :=
  let r1 : Int32 := fX0_isBand sg tn
  let x3 : Int32 := (if r1 = 0 then (-10000002) else (N (((sg * 11) + tn).toNatClampNeg)))
  x3
abbrev rX0_howMany : Room := { frames := 2, cells := 0, slots := 0, locals := 43 }
theorem mm_X0_howMany_2 : Cond.constant RX0 29 (-10000002) ∈ wsX0_howMany := List.mem_of_getElem? (i := 2) rfl
theorem mm_X0_howMany_1 : Cond.fieldLink RX0 15 "GaugeBounds$Bands" "counts" "[I" ∈ wsX0_howMany := List.mem_of_getElem? (i := 1) rfl
theorem ii_X0_howMany_X0 : ∀ w ∈ wsX00, w ∈ wsX0_howMany := fun _ h => List.mem_cons_of_mem _ (List.mem_append_right _ (h))
theorem qvX0_howMany : yX0_howMany.cls = RX0 ∧ yX0_howMany.cls ≠ "java/lang/invoke/MethodHandle" ∧ yX0_howMany.cls ≠ "java/lang/invoke/VarHandle" ∧ (parseMethodDescriptor yX0_howMany.desc).map (fun d => d.parameters.length) = some 2 := by decide +kernel
set_option maxHeartbeats 4000000 in
set_option maxRecDepth 100000 in
theorem kX0_howMany (l : Launch) (E : gEnv) (q0 q1 q2 : Nat) (S : Nat → Int64) (N : Nat → Int32) (sg : Int32) (tn : Int32) : gMi l E yX0_howMany wsX0_howMany rX0_howMany [.ref q0, .int sg, .int tn] (wBn E q0 q1 q2 S N) (fX0_howMany S N sg tn) (wBn E q0 q1 q2 S N) := by
  refine gMi_of (cc := cX0_howMany) (maxL := 3) (ret := (some .int)) (by decide) rfl rfl (Nat.le_of_ble_eq_true rfl) ?_
  intro p e s m args below meth c A Q ls hB hQ
  obtain ⟨hx, hb, hml, hown, hts, hK, hP, hD, hA, hS, hl⟩ := hB
  have hown : s.vm.findClass RX0 = some m.cls := hown
  have hP : va_P E.1 vwCl [(q0, .inr (0, [.ref q1, .ref q2])), (q1, .inl (eJ E, 22, .inr (.inl S))), (q2, .inl (eI E, 22, .inl N))] s.heap := hP
  have hD : va_D A [(q0, .inr (0, [.ref q1, .ref q2])), (q1, .inl (eJ E, 22, .inr (.inl S))), (q2, .inl (eI E, 22, .inl N))] := hD
  have hl : lv_has ls 3 [(0, .ref q0), (1, .int sg), (2, .int tn)] := hl
  refine lv_iload_n (pc := 0) hx hb dX0_howMany_0 rfl (lv_at hl 1 rfl) ?_
  refine lv_iload_n (pc := 1) hx hb dX0_howMany_1 rfl (lv_at hl 2 rfl) ?_
  obtain ⟨r1, er1⟩ : ∃ z : Int32, fX0_isBand sg tn = z := ⟨_, rfl⟩
  have hr1 := kX0_isBand l E sg tn
  rw [er1] at hr1
  refine gcSi (pc := 2) (As := [.int sg, .int tn]) (rest := []) ⟨hx, hb, hml, hown, hts⟩ hr1 (cwS 2 hts gX0_howMany_X0_isBand rfl rfl rfl qsX0_isBand ⟨Nat.le_of_ble_eq_true rfl, Nat.le_of_ble_eq_true rfl⟩) hK hP hD hS hA rfl hl.1 rfl (Nat.le_of_ble_eq_true rfl) dX0_howMany_2 ⟨Nat.zero_le _, Nat.zero_le _⟩ (fun H locs hP hD hS => ?_)
  have J_4 : ∀ (H : Heap) (locs : List Loc) (ls : Array Slot) (x3 : Int32), (if r1 = 0 then (-10000002) else (N (((sg * 11) + tn).toNatClampNeg))) = x3 → va_P E.1 vwCl [(q0, .inr (0, [.ref q1, .ref q2])), (q1, .inl (eJ E, 22, .inr (.inl S))), (q2, .inl (eI E, 22, .inl N))] H → va_D A [(q0, .inr (0, [.ref q1, .ref q2])), (q1, .inl (eJ E, 22, .inr (.inl S))), (q2, .inl (eI E, 22, .inl N))] → va_S A s.heap H locs → lv_has ls 3 [(0, .ref q0), (1, .int sg), (2, .int tn)] → W p l e rX0_howMany s m args below meth c H locs 0 0 Q (F0 m 24 ls [.int x3]) := by
    intro H locs ls x3 ex3 hP hD hS hl
    subst ex3
    subst er1
    exact hQ _ _ _ _ _ rfl hP hD hS dX0_howMany_24
  refine lv_if_eq (tgt := 22) (pc := 5) hx hb dX0_howMany_5 (by decide) (fun c_2 => ?_) (fun c_2 => ?_)
  · refine lv_ldc (v := (-10000002)) (pc := 22) hx hb hown (hts _ mm_X0_howMany_2) dX0_howMany_22 ?_
    exact J_4 _ _ _ _ (if_pos c_2) hP hD hS (lv_sub hl [0, 1, 2] rfl)
  · refine lv_aload_n (pc := 8) hx hb dX0_howMany_8 rfl (lv_at hl 0 rfl) ?_
    refine g_get (v := .ref q2) (pc := 9) hx hb hts ii_X0_howMany_X0 hown hK.1 hP 0 rfl rfl 1 (by decide) ⟨rfl, rfl, rfl⟩ mm_X0_howMany_1 rfl dX0_howMany_9 ?_
    refine lv_iload_n (pc := 12) hx hb dX0_howMany_12 rfl (lv_at hl 1 rfl) ?_
    refine lv_bipush (v := 11) (pc := 13) hx hb dX0_howMany_13 rfl ?_
    refine lv_imul (pc := 15) hx hb dX0_howMany_15 ?_
    refine lv_iload_n (pc := 16) hx hb dX0_howMany_16 rfl (lv_at hl 2 rfl) ?_
    refine lv_iadd (pc := 17) hx hb dX0_howMany_17 ?_
    refine g_iald (j := ((sg * 11) + tn).toNatClampNeg) (v := (N (((sg * 11) + tn).toNatClampNeg))) (pc := 18) hx hb hK.1 hP 2 0 rfl rfl (by subst er1; exact ix_band c_2) rfl rfl dX0_howMany_18 ?_
    refine lv_goto (tgt := 24) (pc := 19) hx hb dX0_howMany_19 (by decide) ?_
    exact J_4 _ _ _ _ (if_neg c_2) hP hD hS (lv_sub hl [0, 1, 2] rfl)

def lpUsed (N : Nat → Int32) : Nat → Int32
  | 0 => 0
  | i + 1 => if N i = 0 then lpUsed N i else lpUsed N i + 1
def lpForS (S : Nat → Int64) : Nat → Nat → Int64
  | 0 => S
  | i + 1 => vp_updL (lpForS S i) i 0
def lpForN (N : Nat → Int32) : Nat → Nat → Int32
  | 0 => N
  | i + 1 => upd (lpForN N i) i 0

def fX0_used (S : Nat → Int64) (N : Nat → Int32) : Int32 :=
  lpUsed N 22
abbrev rX0_used : Room := { frames := 0, cells := 0, slots := 0, locals := 0 }
theorem mm_X0_used_1 : Cond.fieldLink RX0 15 "GaugeBounds$Bands" "counts" "[I" ∈ wsX0_used := List.mem_of_getElem? (i := 1) rfl
theorem ii_X0_used_X0 : ∀ w ∈ wsX00, w ∈ wsX0_used := fun _ h => List.mem_cons_of_mem _ (List.mem_append_right _ (h))
theorem qvX0_used : yX0_used.cls = RX0 ∧ yX0_used.cls ≠ "java/lang/invoke/MethodHandle" ∧ yX0_used.cls ≠ "java/lang/invoke/VarHandle" ∧ (parseMethodDescriptor yX0_used.desc).map (fun d => d.parameters.length) = some 0 := by decide +kernel
set_option maxHeartbeats 4000000 in
set_option maxRecDepth 100000 in
theorem kX0_used (l : Launch) (E : gEnv) (q0 q1 q2 : Nat) (S : Nat → Int64) (N : Nat → Int32) : gMi l E yX0_used wsX0_used rX0_used [.ref q0] (wBn E q0 q1 q2 S N) (fX0_used S N) (wBn E q0 q1 q2 S N) := by
  refine gMi_of (cc := cX0_used) (maxL := 3) (ret := (some .int)) (by decide) rfl rfl (Nat.le_of_ble_eq_true rfl) ?_
  intro p e s m args below meth c A Q ls hB hQ
  obtain ⟨hx, hb, hml, hown, hts, hK, hP, hD, hA, hS, hl⟩ := hB
  have hown : s.vm.findClass RX0 = some m.cls := hown
  have hP : va_P E.1 vwCl [(q0, .inr (0, [.ref q1, .ref q2])), (q1, .inl (eJ E, 22, .inr (.inl S))), (q2, .inl (eI E, 22, .inl N))] s.heap := hP
  have hD : va_D A [(q0, .inr (0, [.ref q1, .ref q2])), (q1, .inl (eJ E, 22, .inr (.inl S))), (q2, .inl (eI E, 22, .inl N))] := hD
  have hl : lv_has ls 3 [(0, .ref q0)] := hl
  refine lv_iconst (v := 0) (pc := 0) hx hb dX0_used_0 rfl ?_
  refine lv_istore_n (lv' := [(1, .int 0), (0, .ref q0)]) (pc := 1) hx hb dX0_used_1 rfl hl (by decide) rfl (fun ls hl => ?_)
  refine lv_iconst (v := 0) (pc := 2) hx hb dX0_used_2 rfl ?_
  refine lv_istore_n (lv' := [(2, .int 0), (1, .int 0), (0, .ref q0)]) (pc := 3) hx hb dX0_used_3 rfl hl (by decide) rfl (fun ls hl => ?_)
  have loop4 : ∀ (n2 i1 : Nat), i1 + n2 = 22 → ∀ (H : Heap) (locs : List Loc) (ls : Array Slot), va_P E.1 vwCl [(q0, .inr (0, [.ref q1, .ref q2])), (q1, .inl (eJ E, 22, .inr (.inl S))), (q2, .inl (eI E, 22, .inl N))] H → va_D A [(q0, .inr (0, [.ref q1, .ref q2])), (q1, .inl (eJ E, 22, .inr (.inl S))), (q2, .inl (eI E, 22, .inl N))] → va_S A s.heap H locs → lv_has ls 3 [(0, .ref q0), (1, .int (lpUsed N i1)), (2, .int (nI i1))] → W p l e rX0_used s m args below meth c H locs 0 0 Q (F0 m 4 ls []) := by
    intro n2
    induction n2 with
    | zero =>
      intro i1 hi H locs ls hP hD hS hl
      obtain rfl : i1 = 22 := by omega
      refine lv_iload_n (pc := 4) hx hb dX0_used_4 rfl (lv_at hl 2 rfl) ?_
      refine lv_bipush (v := 22) (pc := 5) hx hb dX0_used_5 rfl ?_
      refine lv_icmp_ge (tgt := 28) (pc := 7) hx hb dX0_used_7 (by decide) (fun c_5 => ?_) (fun c_5 => ?_)
      rotate_left
      · exact absurd (nI_le (Nat.le_refl 22) (by decide)) c_5
      refine lv_iload_n (pc := 28) hx hb dX0_used_28 rfl (lv_at hl 1 rfl) ?_
      exact hQ _ _ _ _ _ rfl hP hD hS dX0_used_29
    | succ n2 ih3 =>
      intro i1 hi H locs ls hP hD hS hl
      have hlt : i1 < 22 := by omega
      refine lv_iload_n (pc := 4) hx hb dX0_used_4 rfl (lv_at hl 2 rfl) ?_
      refine lv_bipush (v := 22) (pc := 5) hx hb dX0_used_5 rfl ?_
      refine lv_icmp_ge (tgt := 28) (pc := 7) hx hb dX0_used_7 (by decide) (fun c_6 => ?_) (fun c_6 => ?_)
      · exact absurd c_6 (nI_ge hlt (by decide))
      refine lv_aload_n (pc := 10) hx hb dX0_used_10 rfl (lv_at hl 0 rfl) ?_
      refine g_get (v := .ref q2) (pc := 11) hx hb hts ii_X0_used_X0 hown hK.1 hP 0 rfl rfl 1 (by decide) ⟨rfl, rfl, rfl⟩ mm_X0_used_1 rfl dX0_used_11 ?_
      refine lv_iload_n (pc := 14) hx hb dX0_used_14 rfl (lv_at hl 2 rfl) ?_
      refine g_iald (j := i1) (v := (N i1)) (pc := 15) hx hb hK.1 hP 2 0 rfl rfl (vp_in_nI hlt (by decide)) (nI_clamp (by omega)) rfl dX0_used_15 ?_
      have J_9 : ∀ (H : Heap) (locs : List Loc) (ls : Array Slot) (x8 : Int32), (if (N i1) = 0 then (lpUsed N i1) else ((lpUsed N i1) + 1)) = x8 → va_P E.1 vwCl [(q0, .inr (0, [.ref q1, .ref q2])), (q1, .inl (eJ E, 22, .inr (.inl S))), (q2, .inl (eI E, 22, .inl N))] H → va_D A [(q0, .inr (0, [.ref q1, .ref q2])), (q1, .inl (eJ E, 22, .inr (.inl S))), (q2, .inl (eI E, 22, .inl N))] → va_S A s.heap H locs → lv_has ls 3 [(0, .ref q0), (1, .int x8), (2, .int (nI i1))] → W p l e rX0_used s m args below meth c H locs 0 0 Q (F0 m 22 ls []) := by
        intro H locs ls x8 ex8 hP hD hS hl
        refine lv_iinc (v := nI (i1 + 1)) (lv' := [(2, .int (nI (i1 + 1))), (0, .ref q0), (1, .int x8)]) (pc := 22) hx hb dX0_used_22 hl (k := 2) rfl (nI_1 i1) (by decide) rfl (fun ls hl => ?_)
        refine lv_goto (tgt := 4) (pc := 25) hx hb dX0_used_25 (by decide) ?_
        subst ex8
        exact ih3 (i1 + 1) (by omega) _ _ _ hP hD hS (lv_sub hl [1, 2, 0] rfl)
      refine lv_if_eq (tgt := 22) (pc := 16) hx hb dX0_used_16 (by decide) (fun c_7 => ?_) (fun c_7 => ?_)
      · exact J_9 _ _ _ _ (if_pos c_7) hP hD hS (lv_sub hl [0, 1, 2] rfl)
      · refine lv_iinc (v := (lpUsed N i1) + 1) (lv' := [(1, .int ((lpUsed N i1) + 1)), (0, .ref q0), (2, .int (nI i1))]) (pc := 19) hx hb dX0_used_19 hl (k := 1) rfl rfl (by decide) rfl (fun ls hl => ?_)
        exact J_9 _ _ _ _ (if_neg c_7) hP hD hS (lv_sub hl [1, 0, 2] rfl)
  exact loop4 22 0 (by decide) _ _ _ hP hD hS (lv_sub hl [2, 1, 0] rfl)

def fX0_forget (S : Nat → Int64) (N : Nat → Int32) : (Nat → Int64) × (Nat → Int32) :=
  ((lpForS S 22), (lpForN N 22))
abbrev rX0_forget : Room := { frames := 0, cells := 0, slots := 0, locals := 0 }
theorem mm_X0_forget_1 : Cond.fieldLink RX0 11 "GaugeBounds$Bands" "sums" "[J" ∈ wsX0_forget := List.mem_of_getElem? (i := 1) rfl
theorem mm_X0_forget_2 : Cond.fieldLink RX0 15 "GaugeBounds$Bands" "counts" "[I" ∈ wsX0_forget := List.mem_of_getElem? (i := 2) rfl
theorem ii_X0_forget_X0 : ∀ w ∈ wsX00, w ∈ wsX0_forget := fun _ h => List.mem_cons_of_mem _ (List.mem_append_right _ (h))
theorem qvX0_forget : yX0_forget.cls = RX0 ∧ yX0_forget.cls ≠ "java/lang/invoke/MethodHandle" ∧ yX0_forget.cls ≠ "java/lang/invoke/VarHandle" ∧ (parseMethodDescriptor yX0_forget.desc).map (fun d => d.parameters.length) = some 0 := by decide +kernel
set_option maxHeartbeats 4000000 in
set_option maxRecDepth 100000 in
theorem kX0_forget (l : Launch) (E : gEnv) (q0 q1 q2 : Nat) (S : Nat → Int64) (N : Nat → Int32) : gMv l E yX0_forget wsX0_forget rX0_forget [.ref q0] (wBn E q0 q1 q2 S N) (wBn E q0 q1 q2 ((fX0_forget S N).1) ((fX0_forget S N).2)) := by
  refine gMv_of (cc := cX0_forget) (maxL := 2) (ret := none) (by decide) rfl rfl (Nat.le_of_ble_eq_true rfl) ?_
  intro p e s m args below meth c A Q ls hB hQ
  obtain ⟨hx, hb, hml, hown, hts, hK, hP, hD, hA, hS, hl⟩ := hB
  have hown : s.vm.findClass RX0 = some m.cls := hown
  have hP : va_P E.1 vwCl [(q0, .inr (0, [.ref q1, .ref q2])), (q1, .inl (eJ E, 22, .inr (.inl S))), (q2, .inl (eI E, 22, .inl N))] s.heap := hP
  have hD : va_D A [(q0, .inr (0, [.ref q1, .ref q2])), (q1, .inl (eJ E, 22, .inr (.inl S))), (q2, .inl (eI E, 22, .inl N))] := hD
  have hl : lv_has ls 2 [(0, .ref q0)] := hl
  refine lv_iconst (v := 0) (pc := 0) hx hb dX0_forget_0 rfl ?_
  refine lv_istore_n (lv' := [(1, .int 0), (0, .ref q0)]) (pc := 1) hx hb dX0_forget_1 rfl hl (by decide) rfl (fun ls hl => ?_)
  have loop4 : ∀ (n2 i1 : Nat), i1 + n2 = 22 → ∀ (H : Heap) (locs : List Loc) (ls : Array Slot), va_P E.1 vwCl [(q0, .inr (0, [.ref q1, .ref q2])), (q1, .inl (eJ E, 22, .inr (.inl (lpForS S i1)))), (q2, .inl (eI E, 22, .inl (lpForN N i1)))] H → va_D A [(q0, .inr (0, [.ref q1, .ref q2])), (q1, .inl (eJ E, 22, .inr (.inl (lpForS S i1)))), (q2, .inl (eI E, 22, .inl (lpForN N i1)))] → va_S A s.heap H locs → lv_has ls 2 [(0, .ref q0), (1, .int (nI i1))] → W p l e rX0_forget s m args below meth c H locs 0 0 Q (F0 m 2 ls []) := by
    intro n2
    induction n2 with
    | zero =>
      intro i1 hi H locs ls hP hD hS hl
      obtain rfl : i1 = 22 := by omega
      refine lv_iload_n (pc := 2) hx hb dX0_forget_2 rfl (lv_at hl 1 rfl) ?_
      refine lv_bipush (v := 22) (pc := 3) hx hb dX0_forget_3 rfl ?_
      refine lv_icmp_ge (tgt := 28) (pc := 5) hx hb dX0_forget_5 (by decide) (fun c_5 => ?_) (fun c_5 => ?_)
      rotate_left
      · exact absurd (nI_le (Nat.le_refl 22) (by decide)) c_5
      exact hQ _ _ _ _ hP hD hS dX0_forget_28
    | succ n2 ih3 =>
      intro i1 hi H locs ls hP hD hS hl
      have hlt : i1 < 22 := by omega
      refine lv_iload_n (pc := 2) hx hb dX0_forget_2 rfl (lv_at hl 1 rfl) ?_
      refine lv_bipush (v := 22) (pc := 3) hx hb dX0_forget_3 rfl ?_
      refine lv_icmp_ge (tgt := 28) (pc := 5) hx hb dX0_forget_5 (by decide) (fun c_6 => ?_) (fun c_6 => ?_)
      · exact absurd c_6 (nI_ge hlt (by decide))
      refine lv_aload_n (pc := 8) hx hb dX0_forget_8 rfl (lv_at hl 0 rfl) ?_
      refine g_get (v := .ref q1) (pc := 9) hx hb hts ii_X0_forget_X0 hown hK.1 hP 0 rfl rfl 0 (by decide) ⟨rfl, rfl, rfl⟩ mm_X0_forget_1 rfl dX0_forget_9 ?_
      refine lv_iload_n (pc := 12) hx hb dX0_forget_12 rfl (lv_at hl 1 rfl) ?_
      refine lv_lconst (v := 0) (pc := 13) hx hb dX0_forget_13 rfl ?_
      refine g_last (j := i1) (w1 := [(q0, .inr (0, [.ref q1, .ref q2])), (q1, .inl (eJ E, 22, .inr (.inl (vp_updL (lpForS S i1) i1 0)))), (q2, .inl (eI E, 22, .inl (lpForN N i1)))]) (pc := 14) hx hb hK.1 hP hD hS 1 1 rfl rfl (vp_in_nI hlt (by decide)) (nI_clamp (by omega)) rfl dX0_forget_14 (fun H locs hP hD hS => ?_)
      refine lv_aload_n (pc := 15) hx hb dX0_forget_15 rfl (lv_at hl 0 rfl) ?_
      refine g_get (v := .ref q2) (pc := 16) hx hb hts ii_X0_forget_X0 hown hK.1 hP 0 rfl rfl 1 (by decide) ⟨rfl, rfl, rfl⟩ mm_X0_forget_2 rfl dX0_forget_16 ?_
      refine lv_iload_n (pc := 19) hx hb dX0_forget_19 rfl (lv_at hl 1 rfl) ?_
      refine lv_iconst (v := 0) (pc := 20) hx hb dX0_forget_20 rfl ?_
      refine g_iast (j := i1) (w1 := [(q0, .inr (0, [.ref q1, .ref q2])), (q1, .inl (eJ E, 22, .inr (.inl (vp_updL (lpForS S i1) i1 0)))), (q2, .inl (eI E, 22, .inl (upd (lpForN N i1) i1 0)))]) (pc := 21) hx hb hK.1 hP hD hS 2 0 rfl rfl (vp_in_nI hlt (by decide)) (nI_clamp (by omega)) rfl dX0_forget_21 (fun H locs hP hD hS => ?_)
      refine lv_iinc (v := nI (i1 + 1)) (lv' := [(1, .int (nI (i1 + 1))), (0, .ref q0)]) (pc := 22) hx hb dX0_forget_22 hl (k := 1) rfl (nI_1 i1) (by decide) rfl (fun ls hl => ?_)
      refine lv_goto (tgt := 2) (pc := 25) hx hb dX0_forget_25 (by decide) ?_
      exact ih3 (i1 + 1) (by omega) _ _ _ hP hD hS (lv_sub hl [1, 0] rfl)
  exact loop4 22 0 (by decide) _ _ _ hP hD hS (lv_sub hl [1, 0] rfl)
end
