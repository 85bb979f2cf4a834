section
-- ===== PART A: goes FIRST, ahead of the names: the tables' words, and 'selects' of the private methods out of them =====
/-- a private method of a class that the tables say can be made, by its rows of tables_1 -/
def lw_okq (q : MethodName × Nat) : Prop := (q.1.cls ≠ "java/lang/invoke/MethodHandle" ∧ q.1.cls ≠ "java/lang/invoke/VarHandle") ∧ Cond.instantiable q.1.cls q.2 ∈ tables_1 ∧ Cond.privateMethod q.1 ∈ tables_1 ∧ Cond.instanceMethod q.1 ∈ tables_1
theorem lw_p0 : lw_okq (⟨"DiscArcs", "toldIsInRange", "()Z"⟩, 9) := ⟨⟨by decide +kernel, by decide +kernel⟩, List.mem_of_getElem? (i := 13) (by decide +kernel), List.mem_of_getElem? (i := 177) (by decide +kernel), List.mem_of_getElem? (i := 178) (by decide +kernel)⟩
theorem lw_p1 : lw_okq (⟨"DiscArcs", "addTold", "()I"⟩, 9) := ⟨⟨by decide +kernel, by decide +kernel⟩, List.mem_of_getElem? (i := 13) (by decide +kernel), List.mem_of_getElem? (i := 184) (by decide +kernel), List.mem_of_getElem? (i := 185) (by decide +kernel)⟩
theorem lw_p2 : lw_okq (⟨"DiscArcs$History", "dropOldest", "()V"⟩, 2) := ⟨⟨by decide +kernel, by decide +kernel⟩, List.mem_of_getElem? (i := 44) (by decide +kernel), List.mem_of_getElem? (i := 196) (by decide +kernel), List.mem_of_getElem? (i := 197) (by decide +kernel)⟩
theorem lw_p3 : lw_okq (⟨"DiscArcs$Text", "readPlace", "([I)Z"⟩, 4) := ⟨⟨by decide +kernel, by decide +kernel⟩, List.mem_of_getElem? (i := 61) (by decide +kernel), List.mem_of_getElem? (i := 219) (by decide +kernel), List.mem_of_getElem? (i := 220) (by decide +kernel)⟩
theorem lw_p4 : lw_okq (⟨"DiscArcs$Text", "readNumber", "([IIZ)Z"⟩, 4) := ⟨⟨by decide +kernel, by decide +kernel⟩, List.mem_of_getElem? (i := 61) (by decide +kernel), List.mem_of_getElem? (i := 223) (by decide +kernel), List.mem_of_getElem? (i := 224) (by decide +kernel)⟩
theorem lw_p5 : lw_okq (⟨"DiscArcs$Text", "pass", "(C)Z"⟩, 4) := ⟨⟨by decide +kernel, by decide +kernel⟩, List.mem_of_getElem? (i := 61) (by decide +kernel), List.mem_of_getElem? (i := 227) (by decide +kernel), List.mem_of_getElem? (i := 228) (by decide +kernel)⟩
theorem lw_p6 : lw_okq (⟨"DiscArcs$Text", "isDigit", "()Z"⟩, 4) := ⟨⟨by decide +kernel, by decide +kernel⟩, List.mem_of_getElem? (i := 61) (by decide +kernel), List.mem_of_getElem? (i := 231) (by decide +kernel), List.mem_of_getElem? (i := 232) (by decide +kernel)⟩
theorem lw_p7 : lw_okq (⟨"DiscArcs$Text", "readDigit", "()I"⟩, 4) := ⟨⟨by decide +kernel, by decide +kernel⟩, List.mem_of_getElem? (i := 61) (by decide +kernel), List.mem_of_getElem? (i := 235) (by decide +kernel), List.mem_of_getElem? (i := 236) (by decide +kernel)⟩
theorem lw_p8 : lw_okq (⟨"DiscArcs", "missedByBest", "()I"⟩, 9) := ⟨⟨by decide +kernel, by decide +kernel⟩, List.mem_of_getElem? (i := 13) (by decide +kernel), List.mem_of_getElem? (i := 251) (by decide +kernel), List.mem_of_getElem? (i := 252) (by decide +kernel)⟩
theorem lw_p9 : lw_okq (⟨"DiscArcs$Arc", "layThrough", "(I)V"⟩, 4) := ⟨⟨by decide +kernel, by decide +kernel⟩, List.mem_of_getElem? (i := 84) (by decide +kernel), List.mem_of_getElem? (i := 295) (by decide +kernel), List.mem_of_getElem? (i := 296) (by decide +kernel)⟩
theorem lw_p10 : lw_okq (⟨"DiscArcs", "whetherSpinFits", "(I)I"⟩, 9) := ⟨⟨by decide +kernel, by decide +kernel⟩, List.mem_of_getElem? (i := 13) (by decide +kernel), List.mem_of_getElem? (i := 353) (by decide +kernel), List.mem_of_getElem? (i := 354) (by decide +kernel)⟩
theorem lw_p11 : lw_okq (⟨"DiscArcs$Spin", "tryTurn", "(I)V"⟩, 4) := ⟨⟨by decide +kernel, by decide +kernel⟩, List.mem_of_getElem? (i := 123) (by decide +kernel), List.mem_of_getElem? (i := 374) (by decide +kernel), List.mem_of_getElem? (i := 375) (by decide +kernel)⟩
theorem lw_p12 : lw_okq (⟨"DiscArcs$Spin", "tryBeginning", "(IIZ)V"⟩, 4) := ⟨⟨by decide +kernel, by decide +kernel⟩, List.mem_of_getElem? (i := 123) (by decide +kernel), List.mem_of_getElem? (i := 378) (by decide +kernel), List.mem_of_getElem? (i := 379) (by decide +kernel)⟩
theorem lw_p13 : lw_okq (⟨"DiscArcs$Spin", "isNear", "(III)Z"⟩, 4) := ⟨⟨by decide +kernel, by decide +kernel⟩, List.mem_of_getElem? (i := 123) (by decide +kernel), List.mem_of_getElem? (i := 387) (by decide +kernel), List.mem_of_getElem? (i := 388) (by decide +kernel)⟩
theorem lw_p14 : lw_okq (⟨"DiscArcs", "areHeld", "(III)Z"⟩, 9) := ⟨⟨by decide +kernel, by decide +kernel⟩, List.mem_of_getElem? (i := 13) (by decide +kernel), List.mem_of_getElem? (i := 409) (by decide +kernel), List.mem_of_getElem? (i := 410) (by decide +kernel)⟩
theorem lw_p15 : lw_okq (⟨"DiscArcs", "areUsable", "(III)Z"⟩, 9) := ⟨⟨by decide +kernel, by decide +kernel⟩, List.mem_of_getElem? (i := 13) (by decide +kernel), List.mem_of_getElem? (i := 421) (by decide +kernel), List.mem_of_getElem? (i := 422) (by decide +kernel)⟩
def lw_privs_1 : List (MethodName × Nat) := [(⟨"DiscArcs", "toldIsInRange", "()Z"⟩, 9), (⟨"DiscArcs", "addTold", "()I"⟩, 9), (⟨"DiscArcs$History", "dropOldest", "()V"⟩, 2), (⟨"DiscArcs$Text", "readPlace", "([I)Z"⟩, 4), (⟨"DiscArcs$Text", "readNumber", "([IIZ)Z"⟩, 4), (⟨"DiscArcs$Text", "pass", "(C)Z"⟩, 4), (⟨"DiscArcs$Text", "isDigit", "()Z"⟩, 4), (⟨"DiscArcs$Text", "readDigit", "()I"⟩, 4), (⟨"DiscArcs", "missedByBest", "()I"⟩, 9), (⟨"DiscArcs$Arc", "layThrough", "(I)V"⟩, 4), (⟨"DiscArcs", "whetherSpinFits", "(I)I"⟩, 9), (⟨"DiscArcs$Spin", "tryTurn", "(I)V"⟩, 4), (⟨"DiscArcs$Spin", "tryBeginning", "(IIZ)V"⟩, 4), (⟨"DiscArcs$Spin", "isNear", "(III)Z"⟩, 4), (⟨"DiscArcs", "areHeld", "(III)Z"⟩, 9), (⟨"DiscArcs", "areUsable", "(III)Z"⟩, 9)]
theorem lw_r1 : ∀ q ∈ lw_privs_1, lw_okq q := List.forall_mem_cons.mpr ⟨lw_p0, List.forall_mem_cons.mpr ⟨lw_p1, List.forall_mem_cons.mpr ⟨lw_p2, List.forall_mem_cons.mpr ⟨lw_p3, List.forall_mem_cons.mpr ⟨lw_p4, List.forall_mem_cons.mpr ⟨lw_p5, List.forall_mem_cons.mpr ⟨lw_p6, List.forall_mem_cons.mpr ⟨lw_p7, List.forall_mem_cons.mpr ⟨lw_p8, List.forall_mem_cons.mpr ⟨lw_p9, List.forall_mem_cons.mpr ⟨lw_p10, List.forall_mem_cons.mpr ⟨lw_p11, List.forall_mem_cons.mpr ⟨lw_p12, List.forall_mem_cons.mpr ⟨lw_p13, List.forall_mem_cons.mpr ⟨lw_p14, List.forall_mem_cons.mpr ⟨lw_p15, fun _ h => absurd h List.not_mem_nil⟩⟩⟩⟩⟩⟩⟩⟩⟩⟩⟩⟩⟩⟩⟩⟩
theorem lw_p16 : lw_okq (⟨"DiscArcs", "layInOrder", "(III)V"⟩, 9) := ⟨⟨by decide +kernel, by decide +kernel⟩, List.mem_of_getElem? (i := 13) (by decide +kernel), List.mem_of_getElem? (i := 426) (by decide +kernel), List.mem_of_getElem? (i := 427) (by decide +kernel)⟩
theorem lw_p17 : lw_okq (⟨"DiscArcs$Track", "planFrom", "(I)V"⟩, 4) := ⟨⟨by decide +kernel, by decide +kernel⟩, List.mem_of_getElem? (i := 104) (by decide +kernel), List.mem_of_getElem? (i := 477) (by decide +kernel), List.mem_of_getElem? (i := 478) (by decide +kernel)⟩
theorem lw_p18 : lw_okq (⟨"DiscArcsModel", "comes", "(IIIIII)I"⟩, 19) := ⟨⟨by decide +kernel, by decide +kernel⟩, List.mem_of_getElem? (i := 528) (by decide +kernel), List.mem_of_getElem? (i := 602) (by decide +kernel), List.mem_of_getElem? (i := 603) (by decide +kernel)⟩
theorem lw_p19 : lw_okq (⟨"DiscArcsModel", "isThere", "(I)Z"⟩, 19) := ⟨⟨by decide +kernel, by decide +kernel⟩, List.mem_of_getElem? (i := 528) (by decide +kernel), List.mem_of_getElem? (i := 606) (by decide +kernel), List.mem_of_getElem? (i := 607) (by decide +kernel)⟩
theorem lw_p20 : lw_okq (⟨"DiscArcsModel", "of", "(II)I"⟩, 19) := ⟨⟨by decide +kernel, by decide +kernel⟩, List.mem_of_getElem? (i := 528) (by decide +kernel), List.mem_of_getElem? (i := 610) (by decide +kernel), List.mem_of_getElem? (i := 611) (by decide +kernel)⟩
theorem lw_p21 : lw_okq (⟨"DiscArcsModel", "record", "()V"⟩, 19) := ⟨⟨by decide +kernel, by decide +kernel⟩, List.mem_of_getElem? (i := 528) (by decide +kernel), List.mem_of_getElem? (i := 614) (by decide +kernel), List.mem_of_getElem? (i := 615) (by decide +kernel)⟩
theorem lw_p22 : lw_okq (⟨"DiscArcsModel", "no", "(I)Z"⟩, 19) := ⟨⟨by decide +kernel, by decide +kernel⟩, List.mem_of_getElem? (i := 528) (by decide +kernel), List.mem_of_getElem? (i := 622) (by decide +kernel), List.mem_of_getElem? (i := 623) (by decide +kernel)⟩
theorem lw_p23 : lw_okq (⟨"DiscArcsModel", "missed", "()I"⟩, 19) := ⟨⟨by decide +kernel, by decide +kernel⟩, List.mem_of_getElem? (i := 528) (by decide +kernel), List.mem_of_getElem? (i := 630) (by decide +kernel), List.mem_of_getElem? (i := 631) (by decide +kernel)⟩
theorem lw_p24 : lw_okq (⟨"DiscArcsModel", "hasBest", "()Z"⟩, 19) := ⟨⟨by decide +kernel, by decide +kernel⟩, List.mem_of_getElem? (i := 528) (by decide +kernel), List.mem_of_getElem? (i := 634) (by decide +kernel), List.mem_of_getElem? (i := 635) (by decide +kernel)⟩
theorem lw_p25 : lw_okq (⟨"DiscArcsModel", "usable", "()I"⟩, 19) := ⟨⟨by decide +kernel, by decide +kernel⟩, List.mem_of_getElem? (i := 528) (by decide +kernel), List.mem_of_getElem? (i := 638) (by decide +kernel), List.mem_of_getElem? (i := 639) (by decide +kernel)⟩
theorem lw_p26 : lw_okq (⟨"DiscArcsModel", "isUsable", "(I)Z"⟩, 19) := ⟨⟨by decide +kernel, by decide +kernel⟩, List.mem_of_getElem? (i := 528) (by decide +kernel), List.mem_of_getElem? (i := 642) (by decide +kernel), List.mem_of_getElem? (i := 643) (by decide +kernel)⟩
theorem lw_p27 : lw_okq (⟨"DiscArcsModel", "finds", "(I)Z"⟩, 19) := ⟨⟨by decide +kernel, by decide +kernel⟩, List.mem_of_getElem? (i := 528) (by decide +kernel), List.mem_of_getElem? (i := 646) (by decide +kernel), List.mem_of_getElem? (i := 647) (by decide +kernel)⟩
theorem lw_p28 : lw_okq (⟨"DiscArcsModel", "hitBy", "(III)I"⟩, 19) := ⟨⟨by decide +kernel, by decide +kernel⟩, List.mem_of_getElem? (i := 528) (by decide +kernel), List.mem_of_getElem? (i := 650) (by decide +kernel), List.mem_of_getElem? (i := 651) (by decide +kernel)⟩
theorem lw_p29 : lw_okq (⟨"DiscArcsModel", "isHit", "(IIII)Z"⟩, 19) := ⟨⟨by decide +kernel, by decide +kernel⟩, List.mem_of_getElem? (i := 528) (by decide +kernel), List.mem_of_getElem? (i := 654) (by decide +kernel), List.mem_of_getElem? (i := 655) (by decide +kernel)⟩
theorem lw_p30 : lw_okq (⟨"DiscArcsModel", "lower", "(III)J"⟩, 19) := ⟨⟨by decide +kernel, by decide +kernel⟩, List.mem_of_getElem? (i := 528) (by decide +kernel), List.mem_of_getElem? (i := 658) (by decide +kernel), List.mem_of_getElem? (i := 659) (by decide +kernel)⟩
theorem lw_p31 : lw_okq (⟨"DiscArcsModel", "upper", "(IIIII)J"⟩, 19) := ⟨⟨by decide +kernel, by decide +kernel⟩, List.mem_of_getElem? (i := 528) (by decide +kernel), List.mem_of_getElem? (i := 662) (by decide +kernel), List.mem_of_getElem? (i := 663) (by decide +kernel)⟩
def lw_privs_2 : List (MethodName × Nat) := [(⟨"DiscArcs", "layInOrder", "(III)V"⟩, 9), (⟨"DiscArcs$Track", "planFrom", "(I)V"⟩, 4), (⟨"DiscArcsModel", "comes", "(IIIIII)I"⟩, 19), (⟨"DiscArcsModel", "isThere", "(I)Z"⟩, 19), (⟨"DiscArcsModel", "of", "(II)I"⟩, 19), (⟨"DiscArcsModel", "record", "()V"⟩, 19), (⟨"DiscArcsModel", "no", "(I)Z"⟩, 19), (⟨"DiscArcsModel", "missed", "()I"⟩, 19), (⟨"DiscArcsModel", "hasBest", "()Z"⟩, 19), (⟨"DiscArcsModel", "usable", "()I"⟩, 19), (⟨"DiscArcsModel", "isUsable", "(I)Z"⟩, 19), (⟨"DiscArcsModel", "finds", "(I)Z"⟩, 19), (⟨"DiscArcsModel", "hitBy", "(III)I"⟩, 19), (⟨"DiscArcsModel", "isHit", "(IIII)Z"⟩, 19), (⟨"DiscArcsModel", "lower", "(III)J"⟩, 19), (⟨"DiscArcsModel", "upper", "(IIIII)J"⟩, 19)]
theorem lw_r2 : ∀ q ∈ lw_privs_2, lw_okq q := List.forall_mem_cons.mpr ⟨lw_p16, List.forall_mem_cons.mpr ⟨lw_p17, List.forall_mem_cons.mpr ⟨lw_p18, List.forall_mem_cons.mpr ⟨lw_p19, List.forall_mem_cons.mpr ⟨lw_p20, List.forall_mem_cons.mpr ⟨lw_p21, List.forall_mem_cons.mpr ⟨lw_p22, List.forall_mem_cons.mpr ⟨lw_p23, List.forall_mem_cons.mpr ⟨lw_p24, List.forall_mem_cons.mpr ⟨lw_p25, List.forall_mem_cons.mpr ⟨lw_p26, List.forall_mem_cons.mpr ⟨lw_p27, List.forall_mem_cons.mpr ⟨lw_p28, List.forall_mem_cons.mpr ⟨lw_p29, List.forall_mem_cons.mpr ⟨lw_p30, List.forall_mem_cons.mpr ⟨lw_p31, fun _ h => absurd h List.not_mem_nil⟩⟩⟩⟩⟩⟩⟩⟩⟩⟩⟩⟩⟩⟩⟩⟩
theorem lw_p32 : lw_okq (⟨"DiscArcsModel", "isRead", "()Z"⟩, 19) := ⟨⟨by decide +kernel, by decide +kernel⟩, List.mem_of_getElem? (i := 528) (by decide +kernel), List.mem_of_getElem? (i := 696) (by decide +kernel), List.mem_of_getElem? (i := 697) (by decide +kernel)⟩
theorem lw_p33 : lw_okq (⟨"DiscArcsModel", "takes", "(I)Z"⟩, 19) := ⟨⟨by decide +kernel, by decide +kernel⟩, List.mem_of_getElem? (i := 528) (by decide +kernel), List.mem_of_getElem? (i := 700) (by decide +kernel), List.mem_of_getElem? (i := 701) (by decide +kernel)⟩
theorem lw_p34 : lw_okq (⟨"DiscArcsModel", "takesNumber", "(Z)Z"⟩, 19) := ⟨⟨by decide +kernel, by decide +kernel⟩, List.mem_of_getElem? (i := 528) (by decide +kernel), List.mem_of_getElem? (i := 704) (by decide +kernel), List.mem_of_getElem? (i := 705) (by decide +kernel)⟩
theorem lw_p35 : lw_okq (⟨"DiscArcsModel", "isDigit", "()Z"⟩, 19) := ⟨⟨by decide +kernel, by decide +kernel⟩, List.mem_of_getElem? (i := 528) (by decide +kernel), List.mem_of_getElem? (i := 708) (by decide +kernel), List.mem_of_getElem? (i := 709) (by decide +kernel)⟩
theorem lw_p36 : lw_okq (⟨"DiscArcsModel", "isTold", "()Z"⟩, 19) := ⟨⟨by decide +kernel, by decide +kernel⟩, List.mem_of_getElem? (i := 528) (by decide +kernel), List.mem_of_getElem? (i := 712) (by decide +kernel), List.mem_of_getElem? (i := 713) (by decide +kernel)⟩
theorem lw_p37 : lw_okq (⟨"DiscArcsModel", "hasAngle", "(I)Z"⟩, 19) := ⟨⟨by decide +kernel, by decide +kernel⟩, List.mem_of_getElem? (i := 528) (by decide +kernel), List.mem_of_getElem? (i := 732) (by decide +kernel), List.mem_of_getElem? (i := 733) (by decide +kernel)⟩
theorem lw_p38 : lw_okq (⟨"DiscArcsModel", "findsSpin", "()Z"⟩, 19) := ⟨⟨by decide +kernel, by decide +kernel⟩, List.mem_of_getElem? (i := 528) (by decide +kernel), List.mem_of_getElem? (i := 736) (by decide +kernel), List.mem_of_getElem? (i := 737) (by decide +kernel)⟩
theorem lw_p39 : lw_okq (⟨"DiscArcsModel", "fitted", "(II)I"⟩, 19) := ⟨⟨by decide +kernel, by decide +kernel⟩, List.mem_of_getElem? (i := 528) (by decide +kernel), List.mem_of_getElem? (i := 740) (by decide +kernel), List.mem_of_getElem? (i := 741) (by decide +kernel)⟩
theorem lw_p40 : lw_okq (⟨"DiscArcsModel", "isFitted", "(III)Z"⟩, 19) := ⟨⟨by decide +kernel, by decide +kernel⟩, List.mem_of_getElem? (i := 528) (by decide +kernel), List.mem_of_getElem? (i := 744) (by decide +kernel), List.mem_of_getElem? (i := 745) (by decide +kernel)⟩
theorem lw_p41 : lw_okq (⟨"DiscArcsModel", "areThree", "(III)Z"⟩, 19) := ⟨⟨by decide +kernel, by decide +kernel⟩, List.mem_of_getElem? (i := 528) (by decide +kernel), List.mem_of_getElem? (i := 759) (by decide +kernel), List.mem_of_getElem? (i := 760) (by decide +kernel)⟩
theorem lw_p42 : lw_okq (⟨"DiscArcsModel", "areUsable", "(III)Z"⟩, 19) := ⟨⟨by decide +kernel, by decide +kernel⟩, List.mem_of_getElem? (i := 528) (by decide +kernel), List.mem_of_getElem? (i := 764) (by decide +kernel), List.mem_of_getElem? (i := 765) (by decide +kernel)⟩
theorem lw_p43 : lw_okq (⟨"DiscArcsModel", "findsTrack", "()V"⟩, 19) := ⟨⟨by decide +kernel, by decide +kernel⟩, List.mem_of_getElem? (i := 528) (by decide +kernel), List.mem_of_getElem? (i := 793) (by decide +kernel), List.mem_of_getElem? (i := 794) (by decide +kernel)⟩
theorem lw_p44 : lw_okq (⟨"DiscArcsModel", "orders", "()V"⟩, 19) := ⟨⟨by decide +kernel, by decide +kernel⟩, List.mem_of_getElem? (i := 528) (by decide +kernel), List.mem_of_getElem? (i := 797) (by decide +kernel), List.mem_of_getElem? (i := 798) (by decide +kernel)⟩
theorem lw_p45 : lw_okq (⟨"DiscArcsModel", "fitsAsRow", "(II)Z"⟩, 19) := ⟨⟨by decide +kernel, by decide +kernel⟩, List.mem_of_getElem? (i := 528) (by decide +kernel), List.mem_of_getElem? (i := 801) (by decide +kernel), List.mem_of_getElem? (i := 802) (by decide +kernel)⟩
theorem lw_p46 : lw_okq (⟨"DiscArcsModel", "setOf", "(II)I"⟩, 19) := ⟨⟨by decide +kernel, by decide +kernel⟩, List.mem_of_getElem? (i := 528) (by decide +kernel), List.mem_of_getElem? (i := 805) (by decide +kernel), List.mem_of_getElem? (i := 806) (by decide +kernel)⟩
theorem lw_p47 : lw_okq (⟨"DiscArcsModel", "withAngle", "()I"⟩, 19) := ⟨⟨by decide +kernel, by decide +kernel⟩, List.mem_of_getElem? (i := 528) (by decide +kernel), List.mem_of_getElem? (i := 829) (by decide +kernel), List.mem_of_getElem? (i := 830) (by decide +kernel)⟩
def lw_privs_3 : List (MethodName × Nat) := [(⟨"DiscArcsModel", "isRead", "()Z"⟩, 19), (⟨"DiscArcsModel", "takes", "(I)Z"⟩, 19), (⟨"DiscArcsModel", "takesNumber", "(Z)Z"⟩, 19), (⟨"DiscArcsModel", "isDigit", "()Z"⟩, 19), (⟨"DiscArcsModel", "isTold", "()Z"⟩, 19), (⟨"DiscArcsModel", "hasAngle", "(I)Z"⟩, 19), (⟨"DiscArcsModel", "findsSpin", "()Z"⟩, 19), (⟨"DiscArcsModel", "fitted", "(II)I"⟩, 19), (⟨"DiscArcsModel", "isFitted", "(III)Z"⟩, 19), (⟨"DiscArcsModel", "areThree", "(III)Z"⟩, 19), (⟨"DiscArcsModel", "areUsable", "(III)Z"⟩, 19), (⟨"DiscArcsModel", "findsTrack", "()V"⟩, 19), (⟨"DiscArcsModel", "orders", "()V"⟩, 19), (⟨"DiscArcsModel", "fitsAsRow", "(II)Z"⟩, 19), (⟨"DiscArcsModel", "setOf", "(II)I"⟩, 19), (⟨"DiscArcsModel", "withAngle", "()I"⟩, 19)]
theorem lw_r3 : ∀ q ∈ lw_privs_3, lw_okq q := List.forall_mem_cons.mpr ⟨lw_p32, List.forall_mem_cons.mpr ⟨lw_p33, List.forall_mem_cons.mpr ⟨lw_p34, List.forall_mem_cons.mpr ⟨lw_p35, List.forall_mem_cons.mpr ⟨lw_p36, List.forall_mem_cons.mpr ⟨lw_p37, List.forall_mem_cons.mpr ⟨lw_p38, List.forall_mem_cons.mpr ⟨lw_p39, List.forall_mem_cons.mpr ⟨lw_p40, List.forall_mem_cons.mpr ⟨lw_p41, List.forall_mem_cons.mpr ⟨lw_p42, List.forall_mem_cons.mpr ⟨lw_p43, List.forall_mem_cons.mpr ⟨lw_p44, List.forall_mem_cons.mpr ⟨lw_p45, List.forall_mem_cons.mpr ⟨lw_p46, List.forall_mem_cons.mpr ⟨lw_p47, fun _ h => absurd h List.not_mem_nil⟩⟩⟩⟩⟩⟩⟩⟩⟩⟩⟩⟩⟩⟩⟩⟩
def lw_privs : List (MethodName × Nat) := lw_privs_1 ++ (lw_privs_2 ++ (lw_privs_3))
def lw_tbl : List Cond := k2_sels lw_privs ++ tables_1
theorem lw_privs_ok : ∀ q ∈ lw_privs, lw_okq q := by
  show ∀ q ∈ lw_privs_1 ++ (lw_privs_2 ++ (lw_privs_3)), lw_okq q
  exact List.forall_mem_append.mpr ⟨lw_r1, List.forall_mem_append.mpr ⟨lw_r2, lw_r3⟩⟩
end
section
/-! ===== BEGIN words of one list among another's, by their places ===== -/
theorem goodIn_r {big : List Cond} (ws : List Cond) (ps : List Nat) (hp : ws = ps.filterMap (fun i => big[i]?)) (h : ws.all goodWord = true) : GoodIn big ws := by
  intro w hw
  have h1 := List.all_eq_true.mp h w hw
  rw [hp] at hw
  obtain ⟨i, -, hi⟩ := List.mem_filterMap.mp hw
  have hm : w ∈ big := by first | exact List.mem_of_getElem? hi | exact List.getElem?_mem hi
  exact ⟨hm, good_of_word h1⟩
theorem goodIn_app {big a b : List Cond} (ha : GoodIn big a) (hb : GoodIn big b) : GoodIn big (a ++ b) := fun w h => (List.mem_append.mp h).elim (ha w) (hb w)
theorem goodIn_ca {big a b : List Cond} {c : Cond} (ha : GoodIn big (c :: a)) (hb : GoodIn big b) : GoodIn big (c :: (a ++ b)) := fun w h => (List.mem_cons.mp h).elim (fun e => ha w (List.mem_cons.mpr (Or.inl e))) (fun h => (List.mem_append.mp h).elim (fun h => ha w (List.mem_cons.mpr (Or.inr h))) (hb w))
theorem goodIn_sub {big ws : List Cond} (hm : ∀ w ∈ ws, w ∈ big) (h : ws.all goodWord = true) : GoodIn big ws := fun w hw => ⟨hm w hw, good_of_word (List.all_eq_true.mp h w hw)⟩
/-! ===== END ===== -/
/-! ===== BEGIN printed: names, fields, word lists, decode rows ===== -/
def RX0 : String := "DiscArcs$Arc"
def TX0 : u_T := fun k => match k with
  | 0 => ("DiscArcs$Arc", "photos", "LDiscArcs$Photos;", true)
  | 1 => ("DiscArcs$Arc", "first", "I", false)
  | 2 => ("DiscArcs$Arc", "second", "I", false)
  | _ => ("DiscArcs$Arc", "third", "I", false)
def tyX0 : Nat → FieldType := fun k => match k with
  | 0 => .object "DiscArcs$Photos"
  | 1 => .int
  | 2 => .int
  | _ => .int
abbrev wsX00 : List Cond := u_ws RX0 TX0 4
theorem nmX0 : ∀ a, a < 4 → ∀ b, b < 4 → a ≠ b → (TX0 a).2.1 ≠ (TX0 b).2.1 := by decide +kernel
theorem tyX0_ok : ∀ k, k < 4 → parseFieldDescriptor (TX0 k).2.2.1 = some (tyX0 k) := by decide +kernel
abbrev cX0_init : ByteArray := prog_2_method_1_code
def yX0_init : MethodName := ⟨RX0, "<init>", "(LDiscArcs$Photos;)V"⟩
abbrev cX0_lay : ByteArray := prog_2_method_2_code
def yX0_lay : MethodName := ⟨RX0, "lay", "(III)V"⟩
abbrev cX0_layBest : ByteArray := prog_2_method_3_code
def yX0_layBest : MethodName := ⟨RX0, "layBest", "(I)Z"⟩
abbrev cX0_photoOf : ByteArray := prog_2_method_4_code
def yX0_photoOf : MethodName := ⟨RX0, "photoOf", "(I)I"⟩
abbrev cX0_upper : ByteArray := prog_2_method_5_code
def yX0_upper : MethodName := ⟨RX0, "upper", "(IJ)J"⟩
abbrev cX0_lower : ByteArray := prog_2_method_6_code
def yX0_lower : MethodName := ⟨RX0, "lower", "()J"⟩
abbrev cX0_missedOf : ByteArray := prog_2_method_7_code
def yX0_missedOf : MethodName := ⟨RX0, "missedOf", "(I)I"⟩
abbrev cX0_layThrough : ByteArray := prog_2_method_8_code
def yX0_layThrough : MethodName := ⟨RX0, "layThrough", "(I)V"⟩
def RX1 : String := "DiscArcs$History"
def TX1 : u_T := fun k => match k with
  | 0 => ("DiscArcs$History", "states", "[LDiscArcs$Photos;", true)
  | _ => ("DiscArcs$History", "size", "I", false)
def tyX1 : Nat → FieldType := fun k => match k with
  | 0 => .array (.object "DiscArcs$Photos")
  | _ => .int
abbrev wsX10 : List Cond := u_ws RX1 TX1 2
theorem nmX1 : ∀ a, a < 2 → ∀ b, b < 2 → a ≠ b → (TX1 a).2.1 ≠ (TX1 b).2.1 := by decide +kernel
theorem tyX1_ok : ∀ k, k < 2 → parseFieldDescriptor (TX1 k).2.2.1 = some (tyX1 k) := by decide +kernel
abbrev cX1_init : ByteArray := prog_3_method_1_code
def yX1_init : MethodName := ⟨RX1, "<init>", "()V"⟩
abbrev cX1_record : ByteArray := prog_3_method_2_code
def yX1_record : MethodName := ⟨RX1, "record", "(LDiscArcs$Photos;)V"⟩
abbrev cX1_takeBack : ByteArray := prog_3_method_3_code
def yX1_takeBack : MethodName := ⟨RX1, "takeBack", "(LDiscArcs$Photos;)Z"⟩
abbrev cX1_dropOldest : ByteArray := prog_3_method_4_code
def yX1_dropOldest : MethodName := ⟨RX1, "dropOldest", "()V"⟩
def RX2 : String := "DiscArcs$Photos"
def TX2 : u_T := fun k => match k with
  | 0 => ("DiscArcs$Photos", "rows", "[[I", true)
  | _ => ("DiscArcs$Photos", "size", "I", false)
def tyX2 : Nat → FieldType := fun k => match k with
  | 0 => .array (.array .int)
  | _ => .int
abbrev wsX20 : List Cond := u_ws RX2 TX2 2
theorem nmX2 : ∀ a, a < 2 → ∀ b, b < 2 → a ≠ b → (TX2 a).2.1 ≠ (TX2 b).2.1 := by decide +kernel
theorem tyX2_ok : ∀ k, k < 2 → parseFieldDescriptor (TX2 k).2.2.1 = some (tyX2 k) := by decide +kernel
abbrev cX2_init : ByteArray := prog_4_method_1_code
def yX2_init : MethodName := ⟨RX2, "<init>", "()V"⟩
abbrev cX2_copyFrom : ByteArray := prog_4_method_2_code
def yX2_copyFrom : MethodName := ⟨RX2, "copyFrom", "(LDiscArcs$Photos;)V"⟩
abbrev cX2_holds : ByteArray := prog_4_method_3_code
def yX2_holds : MethodName := ⟨RX2, "holds", "(I)Z"⟩
abbrev cX2_isUsable : ByteArray := prog_4_method_4_code
def yX2_isUsable : MethodName := ⟨RX2, "isUsable", "(I)Z"⟩
abbrev cX2_hasAngle : ByteArray := prog_4_method_5_code
def yX2_hasAngle : MethodName := ⟨RX2, "hasAngle", "(I)Z"⟩
abbrev cX2_isMarked : ByteArray := prog_4_method_6_code
def yX2_isMarked : MethodName := ⟨RX2, "isMarked", "(I)Z"⟩
abbrev cX2_usable : ByteArray := prog_4_method_7_code
def yX2_usable : MethodName := ⟨RX2, "usable", "()I"⟩
abbrev cX2_marked : ByteArray := prog_4_method_8_code
def yX2_marked : MethodName := ⟨RX2, "marked", "()I"⟩
abbrev cX2_numberAt : ByteArray := prog_4_method_9_code
def yX2_numberAt : MethodName := ⟨RX2, "numberAt", "(I)I"⟩
abbrev cX2_insert : ByteArray := prog_4_method_10_code
def yX2_insert : MethodName := ⟨RX2, "insert", "(I[I)V"⟩
abbrev cX2_delete : ByteArray := prog_4_method_11_code
def yX2_delete : MethodName := ⟨RX2, "delete", "(I)V"⟩
def RX3 : String := "DiscArcs$Spin"
def TX3 : u_T := fun k => match k with
  | 0 => ("DiscArcs$Spin", "photos", "LDiscArcs$Photos;", true)
  | 1 => ("DiscArcs$Spin", "turn", "I", false)
  | 2 => ("DiscArcs$Spin", "beginning", "I", false)
  | _ => ("DiscArcs$Spin", "fitted", "I", false)
def tyX3 : Nat → FieldType := fun k => match k with
  | 0 => .object "DiscArcs$Photos"
  | 1 => .int
  | 2 => .int
  | _ => .int
abbrev wsX30 : List Cond := u_ws RX3 TX3 4
theorem nmX3 : ∀ a, a < 4 → ∀ b, b < 4 → a ≠ b → (TX3 a).2.1 ≠ (TX3 b).2.1 := by decide +kernel
theorem tyX3_ok : ∀ k, k < 4 → parseFieldDescriptor (TX3 k).2.2.1 = some (tyX3 k) := by decide +kernel
abbrev cX3_init : ByteArray := prog_5_method_1_code
def yX3_init : MethodName := ⟨RX3, "<init>", "(LDiscArcs$Photos;)V"⟩
abbrev cX3_angleOf : ByteArray := prog_5_method_2_code
def yX3_angleOf : MethodName := ⟨RX3, "angleOf", "(III)I"⟩
abbrev cX3_fittedBy : ByteArray := prog_5_method_3_code
def yX3_fittedBy : MethodName := ⟨RX3, "fittedBy", "(II)I"⟩
abbrev cX3_isNear : ByteArray := prog_5_method_4_code
def yX3_isNear : MethodName := ⟨RX3, "isNear", "(III)Z"⟩
abbrev cX3_search : ByteArray := prog_5_method_5_code
def yX3_search : MethodName := ⟨RX3, "search", "()Z"⟩
abbrev cX3_tryTurn : ByteArray := prog_5_method_6_code
def yX3_tryTurn : MethodName := ⟨RX3, "tryTurn", "(I)V"⟩
abbrev cX3_tryBeginning : ByteArray := prog_5_method_7_code
def yX3_tryBeginning : MethodName := ⟨RX3, "tryBeginning", "(IIZ)V"⟩
def RX4 : String := "DiscArcs$Text"
def TX4 : u_T := fun k => match k with
  | 0 => ("DiscArcs$Text", "characters", "[C", true)
  | 1 => ("DiscArcs$Text", "length", "I", false)
  | 2 => ("DiscArcs$Text", "position", "I", false)
  | _ => ("DiscArcs$Text", "tellsAngle", "Z", false)
def tyX4 : Nat → FieldType := fun k => match k with
  | 0 => .array .char
  | 1 => .int
  | 2 => .int
  | _ => .boolean
abbrev wsX40 : List Cond := u_ws RX4 TX4 4
theorem nmX4 : ∀ a, a < 4 → ∀ b, b < 4 → a ≠ b → (TX4 a).2.1 ≠ (TX4 b).2.1 := by decide +kernel
theorem tyX4_ok : ∀ k, k < 4 → parseFieldDescriptor (TX4 k).2.2.1 = some (tyX4 k) := by decide +kernel
abbrev cX4_init : ByteArray := prog_6_method_1_code
def yX4_init : MethodName := ⟨RX4, "<init>", "()V"⟩
abbrev cX4_append : ByteArray := prog_6_method_2_code
def yX4_append : MethodName := ⟨RX4, "append", "(C)Z"⟩
abbrev cX4_readInto : ByteArray := prog_6_method_3_code
def yX4_readInto : MethodName := ⟨RX4, "readInto", "([I)Z"⟩
abbrev cX4_readPlace : ByteArray := prog_6_method_4_code
def yX4_readPlace : MethodName := ⟨RX4, "readPlace", "([I)Z"⟩
abbrev cX4_readNumber : ByteArray := prog_6_method_5_code
def yX4_readNumber : MethodName := ⟨RX4, "readNumber", "([IIZ)Z"⟩
abbrev cX4_isDigit : ByteArray := prog_6_method_6_code
def yX4_isDigit : MethodName := ⟨RX4, "isDigit", "()Z"⟩
abbrev cX4_readDigit : ByteArray := prog_6_method_7_code
def yX4_readDigit : MethodName := ⟨RX4, "readDigit", "()I"⟩
abbrev cX4_pass : ByteArray := prog_6_method_8_code
def yX4_pass : MethodName := ⟨RX4, "pass", "(C)Z"⟩
def RX5 : String := "DiscArcs$Track"
def TX5 : u_T := fun k => match k with
  | 0 => ("DiscArcs$Track", "photos", "LDiscArcs$Photos;", true)
  | 1 => ("DiscArcs$Track", "curve", "LDiscArcs$Arc;", true)
  | 2 => ("DiscArcs$Track", "rowsFrom", "[I", true)
  | _ => ("DiscArcs$Track", "endFrom", "[I", true)
def tyX5 : Nat → FieldType := fun k => match k with
  | 0 => .object "DiscArcs$Photos"
  | 1 => .object "DiscArcs$Arc"
  | 2 => .array .int
  | _ => .array .int
abbrev wsX50 : List Cond := u_ws RX5 TX5 4
theorem nmX5 : ∀ a, a < 4 → ∀ b, b < 4 → a ≠ b → (TX5 a).2.1 ≠ (TX5 b).2.1 := by decide +kernel
theorem tyX5_ok : ∀ k, k < 4 → parseFieldDescriptor (TX5 k).2.2.1 = some (tyX5 k) := by decide +kernel
abbrev cX5_init : ByteArray := prog_7_method_1_code
def yX5_init : MethodName := ⟨RX5, "<init>", "(LDiscArcs$Photos;LDiscArcs$Arc;)V"⟩
abbrev cX5_between : ByteArray := prog_7_method_2_code
def yX5_between : MethodName := ⟨RX5, "between", "(II)I"⟩
abbrev cX5_isFitting : ByteArray := prog_7_method_3_code
def yX5_isFitting : MethodName := ⟨RX5, "isFitting", "(I)Z"⟩
abbrev cX5_plan : ByteArray := prog_7_method_4_code
def yX5_plan : MethodName := ⟨RX5, "plan", "()I"⟩
abbrev cX5_planFrom : ByteArray := prog_7_method_5_code
def yX5_planFrom : MethodName := ⟨RX5, "planFrom", "(I)V"⟩
abbrev cX5_rowAt : ByteArray := prog_7_method_6_code
def yX5_rowAt : MethodName := ⟨RX5, "rowAt", "(I)I"⟩
def RX6 : String := "DiscArcs"
def TX6 : u_T := fun k => match k with
  | 0 => ("DiscArcs", "photos", "LDiscArcs$Photos;", true)
  | 1 => ("DiscArcs", "snapshot", "LDiscArcs$Photos;", true)
  | 2 => ("DiscArcs", "hasSnapshot", "Z", false)
  | 3 => ("DiscArcs", "history", "LDiscArcs$History;", true)
  | 4 => ("DiscArcs", "text", "LDiscArcs$Text;", true)
  | 5 => ("DiscArcs", "told", "[I", true)
  | 6 => ("DiscArcs", "curve", "LDiscArcs$Arc;", true)
  | 7 => ("DiscArcs", "parting", "LDiscArcs$Track;", true)
  | _ => ("DiscArcs", "turning", "LDiscArcs$Spin;", true)
def tyX6 : Nat → FieldType := fun k => match k with
  | 0 => .object "DiscArcs$Photos"
  | 1 => .object "DiscArcs$Photos"
  | 2 => .boolean
  | 3 => .object "DiscArcs$History"
  | 4 => .object "DiscArcs$Text"
  | 5 => .array .int
  | 6 => .object "DiscArcs$Arc"
  | 7 => .object "DiscArcs$Track"
  | _ => .object "DiscArcs$Spin"
abbrev wsX60 : List Cond := u_ws RX6 TX6 9
theorem nmX6 : ∀ a, a < 9 → ∀ b, b < 9 → a ≠ b → (TX6 a).2.1 ≠ (TX6 b).2.1 := by decide +kernel
theorem tyX6_ok : ∀ k, k < 9 → parseFieldDescriptor (TX6 k).2.2.1 = some (tyX6 k) := by decide +kernel
abbrev cX6_init : ByteArray := prog_1_method_1_code
def yX6_init : MethodName := ⟨RX6, "<init>", "()V"⟩
abbrev cX6_addPhoto : ByteArray := prog_1_method_2_code
def yX6_addPhoto : MethodName := ⟨RX6, "addPhoto", "(IIII)I"⟩
abbrev cX6_readPhoto : ByteArray := prog_1_method_3_code
def yX6_readPhoto : MethodName := ⟨RX6, "readPhoto", "()I"⟩
abbrev cX6_setAngle : ByteArray := prog_1_method_4_code
def yX6_setAngle : MethodName := ⟨RX6, "setAngle", "(III)I"⟩
abbrev cX6_move : ByteArray := prog_1_method_5_code
def yX6_move : MethodName := ⟨RX6, "move", "(III)I"⟩
abbrev cX6_setAside : ByteArray := prog_1_method_6_code
def yX6_setAside : MethodName := ⟨RX6, "setAside", "(IZ)I"⟩
abbrev cX6_dropMissed : ByteArray := prog_1_method_7_code
def yX6_dropMissed : MethodName := ⟨RX6, "dropMissed", "()I"⟩
abbrev cX6_remove : ByteArray := prog_1_method_8_code
def yX6_remove : MethodName := ⟨RX6, "remove", "(I)I"⟩
abbrev cX6_type : ByteArray := prog_1_method_9_code
def yX6_type : MethodName := ⟨RX6, "type", "(C)I"⟩
abbrev cX6_clearText : ByteArray := prog_1_method_10_code
def yX6_clearText : MethodName := ⟨RX6, "clearText", "()I"⟩
abbrev cX6_undo : ByteArray := prog_1_method_11_code
def yX6_undo : MethodName := ⟨RX6, "undo", "()I"⟩
abbrev cX6_keep : ByteArray := prog_1_method_12_code
def yX6_keep : MethodName := ⟨RX6, "keep", "()I"⟩
abbrev cX6_restore : ByteArray := prog_1_method_13_code
def yX6_restore : MethodName := ⟨RX6, "restore", "()I"⟩
abbrev cX6_photo : ByteArray := prog_1_method_14_code
def yX6_photo : MethodName := ⟨RX6, "photo", "(II)I"⟩
abbrev cX6_arc : ByteArray := prog_1_method_15_code
def yX6_arc : MethodName := ⟨RX6, "arc", "(IIIIII)J"⟩
abbrev cX6_hits : ByteArray := prog_1_method_16_code
def yX6_hits : MethodName := ⟨RX6, "hits", "(III)I"⟩
abbrev cX6_best : ByteArray := prog_1_method_17_code
def yX6_best : MethodName := ⟨RX6, "best", "(I)I"⟩
abbrev cX6_bestAt : ByteArray := prog_1_method_18_code
def yX6_bestAt : MethodName := ⟨RX6, "bestAt", "(III)J"⟩
abbrev cX6_lands : ByteArray := prog_1_method_19_code
def yX6_lands : MethodName := ⟨RX6, "lands", "()I"⟩
abbrev cX6_track : ByteArray := prog_1_method_20_code
def yX6_track : MethodName := ⟨RX6, "track", "(II)I"⟩
abbrev cX6_fitsFrom : ByteArray := prog_1_method_21_code
def yX6_fitsFrom : MethodName := ⟨RX6, "fitsFrom", "(I)I"⟩
abbrev cX6_spin : ByteArray := prog_1_method_22_code
def yX6_spin : MethodName := ⟨RX6, "spin", "(I)I"⟩
abbrev cX6_fits : ByteArray := prog_1_method_23_code
def yX6_fits : MethodName := ⟨RX6, "fits", "(II)I"⟩
abbrev cX6_angleAt : ByteArray := prog_1_method_24_code
def yX6_angleAt : MethodName := ⟨RX6, "angleAt", "(I)I"⟩
abbrev cX6_count : ByteArray := prog_1_method_25_code
def yX6_count : MethodName := ⟨RX6, "count", "(I)I"⟩
abbrev cX6_isWithin : ByteArray := prog_1_method_26_code
def yX6_isWithin : MethodName := ⟨RX6, "isWithin", "(III)Z"⟩
abbrev cX6_isIn : ByteArray := prog_1_method_27_code
def yX6_isIn : MethodName := ⟨RX6, "isIn", "(II)Z"⟩
abbrev cX6_toldIsInRange : ByteArray := prog_1_method_28_code
def yX6_toldIsInRange : MethodName := ⟨RX6, "toldIsInRange", "()Z"⟩
abbrev cX6_addTold : ByteArray := prog_1_method_29_code
def yX6_addTold : MethodName := ⟨RX6, "addTold", "()I"⟩
abbrev cX6_missedByBest : ByteArray := prog_1_method_30_code
def yX6_missedByBest : MethodName := ⟨RX6, "missedByBest", "()I"⟩
abbrev cX6_whetherSpinFits : ByteArray := prog_1_method_31_code
def yX6_whetherSpinFits : MethodName := ⟨RX6, "whetherSpinFits", "(I)I"⟩
abbrev cX6_areHeld : ByteArray := prog_1_method_32_code
def yX6_areHeld : MethodName := ⟨RX6, "areHeld", "(III)Z"⟩
abbrev cX6_areUsable : ByteArray := prog_1_method_33_code
def yX6_areUsable : MethodName := ⟨RX6, "areUsable", "(III)Z"⟩
abbrev cX6_areAnySame : ByteArray := prog_1_method_34_code
def yX6_areAnySame : MethodName := ⟨RX6, "areAnySame", "(III)Z"⟩
abbrev cX6_isAskForFraction : ByteArray := prog_1_method_35_code
def yX6_isAskForFraction : MethodName := ⟨RX6, "isAskForFraction", "(III)Z"⟩
abbrev cX6_layInOrder : ByteArray := prog_1_method_36_code
def yX6_layInOrder : MethodName := ⟨RX6, "layInOrder", "(III)V"⟩
abbrev cX6_partOf : ByteArray := prog_1_method_37_code
def yX6_partOf : MethodName := ⟨RX6, "partOf", "(JJI)J"⟩
abbrev cX6_commonDivisor : ByteArray := prog_1_method_38_code
def yX6_commonDivisor : MethodName := ⟨RX6, "commonDivisor", "(JJ)J"⟩
def RX7 : String := "DiscArcsModel"
def TX7 : u_T := fun k => match k with
  | 0 => ("DiscArcsModel", "now", "[I", true)
  | 1 => ("DiscArcsModel", "history", "[I", true)
  | 2 => ("DiscArcsModel", "kept", "I", false)
  | 3 => ("DiscArcsModel", "slot", "[I", true)
  | 4 => ("DiscArcsModel", "isFilled", "Z", false)
  | 5 => ("DiscArcsModel", "arc", "[I", true)
  | 6 => ("DiscArcsModel", "hit", "I", false)
  | 7 => ("DiscArcsModel", "rows", "[I", true)
  | 8 => ("DiscArcsModel", "longest", "[I", true)
  | 9 => ("DiscArcsModel", "order", "[I", true)
  | 10 => ("DiscArcsModel", "ordered", "I", false)
  | 11 => ("DiscArcsModel", "bestSpin", "I", false)
  | 12 => ("DiscArcsModel", "bestBeginning", "I", false)
  | 13 => ("DiscArcsModel", "bestFitted", "I", false)
  | 14 => ("DiscArcsModel", "typed", "I", false)
  | 15 => ("DiscArcsModel", "text", "[C", true)
  | 16 => ("DiscArcsModel", "at", "I", false)
  | 17 => ("DiscArcsModel", "number", "I", false)
  | _ => ("DiscArcsModel", "read", "[I", true)
def tyX7 : Nat → FieldType := fun k => match k with
  | 0 => .array .int
  | 1 => .array .int
  | 2 => .int
  | 3 => .array .int
  | 4 => .boolean
  | 5 => .array .int
  | 6 => .int
  | 7 => .array .int
  | 8 => .array .int
  | 9 => .array .int
  | 10 => .int
  | 11 => .int
  | 12 => .int
  | 13 => .int
  | 14 => .int
  | 15 => .array .char
  | 16 => .int
  | 17 => .int
  | _ => .array .int
abbrev wsX70 : List Cond := u_ws RX7 TX7 19
theorem nmX7 : ∀ a, a < 19 → ∀ b, b < 19 → a ≠ b → (TX7 a).2.1 ≠ (TX7 b).2.1 := by decide +kernel
theorem tyX7_ok : ∀ k, k < 19 → parseFieldDescriptor (TX7 k).2.2.1 = some (tyX7 k) := by decide +kernel
abbrev cX7_init : ByteArray := prog_9_method_1_code
def yX7_init : MethodName := ⟨RX7, "<init>", "()V"⟩
abbrev cX7_in : ByteArray := prog_9_method_2_code
def yX7_in : MethodName := ⟨RX7, "in", "(III)Z"⟩
abbrev cX7_of : ByteArray := prog_9_method_3_code
def yX7_of : MethodName := ⟨RX7, "of", "(II)I"⟩
abbrev cX7_no : ByteArray := prog_9_method_4_code
def yX7_no : MethodName := ⟨RX7, "no", "(I)Z"⟩
abbrev cX7_isUsable : ByteArray := prog_9_method_5_code
def yX7_isUsable : MethodName := ⟨RX7, "isUsable", "(I)Z"⟩
abbrev cX7_hasAngle : ByteArray := prog_9_method_6_code
def yX7_hasAngle : MethodName := ⟨RX7, "hasAngle", "(I)Z"⟩
abbrev cX7_usable : ByteArray := prog_9_method_7_code
def yX7_usable : MethodName := ⟨RX7, "usable", "()I"⟩
abbrev cX7_bits : ByteArray := prog_9_method_8_code
def yX7_bits : MethodName := ⟨RX7, "bits", "(I)I"⟩
abbrev cX7_record : ByteArray := prog_9_method_9_code
def yX7_record : MethodName := ⟨RX7, "record", "()V"⟩
abbrev cX7_upper : ByteArray := prog_9_method_10_code
def yX7_upper : MethodName := ⟨RX7, "upper", "(IIIII)J"⟩
abbrev cX7_lower : ByteArray := prog_9_method_11_code
def yX7_lower : MethodName := ⟨RX7, "lower", "(III)J"⟩
abbrev cX7_without : ByteArray := prog_9_method_12_code
def yX7_without : MethodName := ⟨RX7, "without", "(J)J"⟩
abbrev cX7_isHit : ByteArray := prog_9_method_13_code
def yX7_isHit : MethodName := ⟨RX7, "isHit", "(IIII)Z"⟩
abbrev cX7_hitBy : ByteArray := prog_9_method_14_code
def yX7_hitBy : MethodName := ⟨RX7, "hitBy", "(III)I"⟩
abbrev cX7_part : ByteArray := prog_9_method_15_code
def yX7_part : MethodName := ⟨RX7, "part", "(JJI)J"⟩
abbrev cX7_finds : ByteArray := prog_9_method_16_code
def yX7_finds : MethodName := ⟨RX7, "finds", "(I)Z"⟩
abbrev cX7_hasBest : ByteArray := prog_9_method_17_code
def yX7_hasBest : MethodName := ⟨RX7, "hasBest", "()Z"⟩
abbrev cX7_missed : ByteArray := prog_9_method_18_code
def yX7_missed : MethodName := ⟨RX7, "missed", "()I"⟩
abbrev cX7_orders : ByteArray := prog_9_method_19_code
def yX7_orders : MethodName := ⟨RX7, "orders", "()V"⟩
abbrev cX7_setOf : ByteArray := prog_9_method_20_code
def yX7_setOf : MethodName := ⟨RX7, "setOf", "(II)I"⟩
abbrev cX7_fitsAsRow : ByteArray := prog_9_method_21_code
def yX7_fitsAsRow : MethodName := ⟨RX7, "fitsAsRow", "(II)Z"⟩
abbrev cX7_findsTrack : ByteArray := prog_9_method_22_code
def yX7_findsTrack : MethodName := ⟨RX7, "findsTrack", "()V"⟩
abbrev cX7_angle : ByteArray := prog_9_method_23_code
def yX7_angle : MethodName := ⟨RX7, "angle", "(III)I"⟩
abbrev cX7_isFitted : ByteArray := prog_9_method_24_code
def yX7_isFitted : MethodName := ⟨RX7, "isFitted", "(III)Z"⟩
abbrev cX7_fitted : ByteArray := prog_9_method_25_code
def yX7_fitted : MethodName := ⟨RX7, "fitted", "(II)I"⟩
abbrev cX7_findsSpin : ByteArray := prog_9_method_26_code
def yX7_findsSpin : MethodName := ⟨RX7, "findsSpin", "()Z"⟩
abbrev cX7_isPhoto : ByteArray := prog_9_method_27_code
def yX7_isPhoto : MethodName := ⟨RX7, "isPhoto", "(IIII)Z"⟩
abbrev cX7_isThere : ByteArray := prog_9_method_28_code
def yX7_isThere : MethodName := ⟨RX7, "isThere", "(I)Z"⟩
abbrev cX7_comes : ByteArray := prog_9_method_29_code
def yX7_comes : MethodName := ⟨RX7, "comes", "(IIIIII)I"⟩
abbrev cX7_addPhoto : ByteArray := prog_9_method_30_code
def yX7_addPhoto : MethodName := ⟨RX7, "addPhoto", "(IIII)I"⟩
abbrev cX7_setAngle : ByteArray := prog_9_method_31_code
def yX7_setAngle : MethodName := ⟨RX7, "setAngle", "(III)I"⟩
abbrev cX7_move : ByteArray := prog_9_method_32_code
def yX7_move : MethodName := ⟨RX7, "move", "(III)I"⟩
abbrev cX7_setAside : ByteArray := prog_9_method_33_code
def yX7_setAside : MethodName := ⟨RX7, "setAside", "(IZ)I"⟩
abbrev cX7_dropMissed : ByteArray := prog_9_method_34_code
def yX7_dropMissed : MethodName := ⟨RX7, "dropMissed", "()I"⟩
abbrev cX7_remove : ByteArray := prog_9_method_35_code
def yX7_remove : MethodName := ⟨RX7, "remove", "(I)I"⟩
abbrev cX7_type : ByteArray := prog_9_method_36_code
def yX7_type : MethodName := ⟨RX7, "type", "(C)I"⟩
abbrev cX7_clearText : ByteArray := prog_9_method_37_code
def yX7_clearText : MethodName := ⟨RX7, "clearText", "()I"⟩
abbrev cX7_isDigit : ByteArray := prog_9_method_38_code
def yX7_isDigit : MethodName := ⟨RX7, "isDigit", "()Z"⟩
abbrev cX7_takes : ByteArray := prog_9_method_39_code
def yX7_takes : MethodName := ⟨RX7, "takes", "(I)Z"⟩
abbrev cX7_takesNumber : ByteArray := prog_9_method_40_code
def yX7_takesNumber : MethodName := ⟨RX7, "takesNumber", "(Z)Z"⟩
abbrev cX7_isRead : ByteArray := prog_9_method_41_code
def yX7_isRead : MethodName := ⟨RX7, "isRead", "()Z"⟩
abbrev cX7_readPhoto : ByteArray := prog_9_method_42_code
def yX7_readPhoto : MethodName := ⟨RX7, "readPhoto", "()I"⟩
abbrev cX7_isTold : ByteArray := prog_9_method_43_code
def yX7_isTold : MethodName := ⟨RX7, "isTold", "()Z"⟩
abbrev cX7_undo : ByteArray := prog_9_method_44_code
def yX7_undo : MethodName := ⟨RX7, "undo", "()I"⟩
abbrev cX7_keep : ByteArray := prog_9_method_45_code
def yX7_keep : MethodName := ⟨RX7, "keep", "()I"⟩
abbrev cX7_restore : ByteArray := prog_9_method_46_code
def yX7_restore : MethodName := ⟨RX7, "restore", "()I"⟩
abbrev cX7_photo : ByteArray := prog_9_method_47_code
def yX7_photo : MethodName := ⟨RX7, "photo", "(II)I"⟩
abbrev cX7_areThree : ByteArray := prog_9_method_48_code
def yX7_areThree : MethodName := ⟨RX7, "areThree", "(III)Z"⟩
abbrev cX7_areUsable : ByteArray := prog_9_method_49_code
def yX7_areUsable : MethodName := ⟨RX7, "areUsable", "(III)Z"⟩
abbrev cX7_isAsked : ByteArray := prog_9_method_50_code
def yX7_isAsked : MethodName := ⟨RX7, "isAsked", "(III)Z"⟩
abbrev cX7_arc : ByteArray := prog_9_method_51_code
def yX7_arc : MethodName := ⟨RX7, "arc", "(IIIIII)J"⟩
abbrev cX7_hits : ByteArray := prog_9_method_52_code
def yX7_hits : MethodName := ⟨RX7, "hits", "(III)I"⟩
abbrev cX7_best : ByteArray := prog_9_method_53_code
def yX7_best : MethodName := ⟨RX7, "best", "(I)I"⟩
abbrev cX7_bestAt : ByteArray := prog_9_method_54_code
def yX7_bestAt : MethodName := ⟨RX7, "bestAt", "(III)J"⟩
abbrev cX7_lands : ByteArray := prog_9_method_55_code
def yX7_lands : MethodName := ⟨RX7, "lands", "()I"⟩
abbrev cX7_track : ByteArray := prog_9_method_56_code
def yX7_track : MethodName := ⟨RX7, "track", "(II)I"⟩
abbrev cX7_fitsFrom : ByteArray := prog_9_method_57_code
def yX7_fitsFrom : MethodName := ⟨RX7, "fitsFrom", "(I)I"⟩
abbrev cX7_spin : ByteArray := prog_9_method_58_code
def yX7_spin : MethodName := ⟨RX7, "spin", "(I)I"⟩
abbrev cX7_fits : ByteArray := prog_9_method_59_code
def yX7_fits : MethodName := ⟨RX7, "fits", "(II)I"⟩
abbrev cX7_angleAt : ByteArray := prog_9_method_60_code
def yX7_angleAt : MethodName := ⟨RX7, "angleAt", "(I)I"⟩
abbrev cX7_withAngle : ByteArray := prog_9_method_61_code
def yX7_withAngle : MethodName := ⟨RX7, "withAngle", "()I"⟩
abbrev cX7_count : ByteArray := prog_9_method_62_code
def yX7_count : MethodName := ⟨RX7, "count", "(I)I"⟩
def RJ6 : String := "java/lang/Integer"
def TJ6 : u_T := fun k => match k with
  | _ => ("", "", "", false)
def tyJ6 : Nat → FieldType := fun k => match k with
  | _ => .int
abbrev wsJ60 : List Cond := u_ws RJ6 TJ6 0
theorem nmJ6 : ∀ a, a < 0 → ∀ b, b < 0 → a ≠ b → (TJ6 a).2.1 ≠ (TJ6 b).2.1 := by decide +kernel
theorem tyJ6_ok : ∀ k, k < 0 → parseFieldDescriptor (TJ6 k).2.2.1 = some (tyJ6 k) := by decide +kernel
abbrev cJ6_numberOfLeadingZeros_0f7a4 : ByteArray := prog_10_method_47_code
def yJ6_numberOfLeadingZeros_0f7a4 : MethodName := ⟨RJ6, "numberOfLeadingZeros", "(I)I"⟩
abbrev cJ6_numberOfTrailingZeros_0f7a4 : ByteArray := prog_10_method_48_code
def yJ6_numberOfTrailingZeros_0f7a4 : MethodName := ⟨RJ6, "numberOfTrailingZeros", "(I)I"⟩
abbrev cJ6_bitCount_0f7a4 : ByteArray := prog_10_method_49_code
def yJ6_bitCount_0f7a4 : MethodName := ⟨RJ6, "bitCount", "(I)I"⟩
def RJ9 : String := "java/lang/Math"
def TJ9 : u_T := fun k => match k with
  | _ => ("", "", "", false)
def tyJ9 : Nat → FieldType := fun k => match k with
  | _ => .int
abbrev wsJ90 : List Cond := u_ws RJ9 TJ9 0
theorem nmJ9 : ∀ a, a < 0 → ∀ b, b < 0 → a ≠ b → (TJ9 a).2.1 ≠ (TJ9 b).2.1 := by decide +kernel
theorem tyJ9_ok : ∀ k, k < 0 → parseFieldDescriptor (TJ9 k).2.2.1 = some (tyJ9 k) := by decide +kernel
abbrev cJ9_floorMod_7cf53 : ByteArray := prog_11_method_50_code
def yJ9_floorMod_7cf53 : MethodName := ⟨RJ9, "floorMod", "(II)I"⟩
abbrev cJ9_abs_0f7a4 : ByteArray := prog_11_method_59_code
def yJ9_abs_0f7a4 : MethodName := ⟨RJ9, "abs", "(I)I"⟩
abbrev cJ9_abs_067f4 : ByteArray := prog_11_method_61_code
def yJ9_abs_067f4 : MethodName := ⟨RJ9, "abs", "(J)J"⟩
abbrev cJ9_max_7cf53 : ByteArray := prog_11_method_65_code
def yJ9_max_7cf53 : MethodName := ⟨RJ9, "max", "(II)I"⟩
abbrev cJ9_max_f86c9 : ByteArray := prog_11_method_66_code
def yJ9_max_f86c9 : MethodName := ⟨RJ9, "max", "(JJ)J"⟩
abbrev cJ9_min_7cf53 : ByteArray := prog_11_method_69_code
def yJ9_min_7cf53 : MethodName := ⟨RJ9, "min", "(II)I"⟩
def RJ10 : String := "java/lang/System"
def TJ10 : u_T := fun k => match k with
  | _ => ("", "", "", false)
def tyJ10 : Nat → FieldType := fun k => match k with
  | _ => .int
abbrev wsJ100 : List Cond := u_ws RJ10 TJ10 0
theorem nmJ10 : ∀ a, a < 0 → ∀ b, b < 0 → a ≠ b → (TJ10 a).2.1 ≠ (TJ10 b).2.1 := by decide +kernel
theorem tyJ10_ok : ∀ k, k < 0 → parseFieldDescriptor (TJ10 k).2.2.1 = some (tyJ10 k) := by decide +kernel
def RL : String := "DiscArcsLaw"
abbrev cL_law : ByteArray := code
def yL_law : MethodName := ⟨RL, "law", "([I)Z"⟩
def wsX0_init : List Cond := .code yX0_init cX0_init 2 none :: ([.methodLink RX0 3 objectInit, .instanceMethod objectInit, .code objectInit ⟨#[0xb1]⟩ 1 none, .fieldLink RX0 9 "DiscArcs$Arc" "photos" "LDiscArcs$Photos;"] ++ wsX00)
def wsX0_lay : List Cond := .code yX0_lay cX0_lay 4 none :: ([.fieldLink RX0 15 "DiscArcs$Arc" "first" "I", .fieldLink RX0 19 "DiscArcs$Arc" "second" "I", .fieldLink RX0 22 "DiscArcs$Arc" "third" "I"] ++ wsX00)
def wsX0_lower : List Cond := .code yX0_lower cX0_lower 7 (some .long) :: ([.fieldLink RX0 9 "DiscArcs$Arc" "photos" "LDiscArcs$Photos;", .fieldLink RX0 47 "DiscArcs$Photos" "rows" "[[I", .fieldLink RX0 15 "DiscArcs$Arc" "first" "I", .fieldLink RX0 19 "DiscArcs$Arc" "second" "I", .fieldLink RX0 22 "DiscArcs$Arc" "third" "I"] ++ wsX00 ++ wsX20)
def wsX6_isIn : List Cond := .code yX6_isIn cX6_isIn 2 (some .boolean) :: ([])
def wsX0_upper : List Cond := .code yX0_upper cX0_upper 11 (some .long) :: ([.fieldLink RX0 9 "DiscArcs$Arc" "photos" "LDiscArcs$Photos;", .fieldLink RX0 47 "DiscArcs$Photos" "rows" "[[I", .fieldLink RX0 15 "DiscArcs$Arc" "first" "I", .fieldLink RX0 19 "DiscArcs$Arc" "second" "I", .fieldLink RX0 22 "DiscArcs$Arc" "third" "I"] ++ wsX00 ++ wsX20)
def wsX0_missedOf : List Cond := .code yX0_missedOf cX0_missedOf 14 (some .int) :: ([.fieldLink RX0 9 "DiscArcs$Arc" "photos" "LDiscArcs$Photos;", .fieldLink RX0 25 "DiscArcs$Photos" "size" "I", .fieldLink RX0 47 "DiscArcs$Photos" "rows" "[[I", .methodLink RX0 63 Lib.MathLoose.abs_long.x, .static Lib.MathLoose.abs_long.x, .initialized "java/lang/Math", .code Lib.MathLoose.abs_long.x Lib.MathLoose.abs_long.code 2 (some .long), .methodLink RX0 51 yX0_lower, .instanceMethod yX0_lower, .selects RX0 yX0_lower yX0_lower, .initialized RX0, .code yX0_lower cX0_lower 7 (some .long), .fieldLink RX0 15 "DiscArcs$Arc" "first" "I", .fieldLink RX0 19 "DiscArcs$Arc" "second" "I", .fieldLink RX0 22 "DiscArcs$Arc" "third" "I", .static yX6_isIn, .initialized RX6, .code yX6_isIn cX6_isIn 2 (some .boolean), .methodLink RX0 59 yX0_upper, .instanceMethod yX0_upper, .selects RX0 yX0_upper yX0_upper, .code yX0_upper cX0_upper 11 (some .long)] ++ wsX00 ++ wsX20)
def wsJ6_bitCount_0f7a4 : List Cond := .code yJ6_bitCount_0f7a4 cJ6_bitCount_0f7a4 1 (some .int) :: ([.constant RJ6 265 (1431655765), .constant RJ6 266 (858993459), .constant RJ6 267 (252645135)])
def wsX0_layThrough : List Cond := .code yX0_layThrough cX0_layThrough 4 none :: ([.fieldLink RX0 9 "DiscArcs$Arc" "photos" "LDiscArcs$Photos;", .fieldLink RX0 25 "DiscArcs$Photos" "size" "I", .fieldLink RX0 15 "DiscArcs$Arc" "first" "I", .fieldLink RX0 19 "DiscArcs$Arc" "second" "I", .fieldLink RX0 22 "DiscArcs$Arc" "third" "I", .static yX6_isIn, .initialized RX6, .code yX6_isIn cX6_isIn 2 (some .boolean)] ++ wsX00 ++ wsX20)
def wsX0_layBest_r1 : List Cond := [Cond.fieldLink RX0 9 "DiscArcs$Arc" "photos" "LDiscArcs$Photos;", Cond.fieldLink RX0 25 "DiscArcs$Photos" "size" "I", Cond.methodLink RX0 30 yX0_lay, Cond.instanceMethod yX0_lay, Cond.selects RX0 yX0_lay yX0_lay, Cond.initialized RX0, Cond.code yX0_lay cX0_lay 4 none, Cond.fieldLink RX0 15 "DiscArcs$Arc" "first" "I", Cond.fieldLink RX0 19 "DiscArcs$Arc" "second" "I", Cond.fieldLink RX0 22 "DiscArcs$Arc" "third" "I", Cond.methodLink RX0 34 yX0_missedOf, Cond.instanceMethod yX0_missedOf, Cond.selects RX0 yX0_missedOf yX0_missedOf, Cond.code yX0_missedOf cX0_missedOf 14 (some .int), Cond.fieldLink RX0 47 "DiscArcs$Photos" "rows" "[[I", Cond.methodLink RX0 63 Lib.MathLoose.abs_long.x, Cond.static Lib.MathLoose.abs_long.x, Cond.initialized "java/lang/Math", Cond.code Lib.MathLoose.abs_long.x Lib.MathLoose.abs_long.code 2 (some .long), Cond.methodLink RX0 51 yX0_lower, Cond.instanceMethod yX0_lower, Cond.selects RX0 yX0_lower yX0_lower, Cond.code yX0_lower cX0_lower 7 (some .long), Cond.static yX6_isIn]
def wsX0_layBest_r2 : List Cond := [Cond.initialized RX6, Cond.code yX6_isIn cX6_isIn 2 (some .boolean), Cond.methodLink RX0 59 yX0_upper, Cond.instanceMethod yX0_upper, Cond.selects RX0 yX0_upper yX0_upper, Cond.code yX0_upper cX0_upper 11 (some .long), Cond.methodLink RX0 38 yJ6_bitCount_0f7a4, Cond.static yJ6_bitCount_0f7a4, Cond.initialized RJ6, Cond.code yJ6_bitCount_0f7a4 cJ6_bitCount_0f7a4 1 (some .int), Cond.constant RJ6 265 (1431655765), Cond.constant RJ6 266 (858993459), Cond.constant RJ6 267 (252645135), Cond.methodLink RX0 43 yX0_layThrough, Cond.instanceMethod yX0_layThrough, Cond.selects RX0 yX0_layThrough yX0_layThrough, Cond.code yX0_layThrough cX0_layThrough 4 none]
def wsX0_layBest : List Cond := .code yX0_layBest cX0_layBest 9 (some .boolean) :: ((wsX0_layBest_r1 ++ wsX0_layBest_r2) ++ wsX00 ++ wsX20)
def wsX0_photoOf : List Cond := .code yX0_photoOf cX0_photoOf 2 (some .int) :: ([.fieldLink RX0 15 "DiscArcs$Arc" "first" "I", .fieldLink RX0 19 "DiscArcs$Arc" "second" "I", .fieldLink RX0 22 "DiscArcs$Arc" "third" "I"] ++ wsX00)
def wsX2_init : List Cond := .code yX2_init cX2_init 1 none :: ([.methodLink RX2 3 objectInit, .instanceMethod objectInit, .code objectInit ⟨#[0xb1]⟩ 1 none, .classLink RX2 9 "[[I", .arrayClass .int, .fieldLink RX2 11 "DiscArcs$Photos" "rows" "[[I"] ++ wsX20)
def wsX1_init : List Cond := .code yX1_init cX1_init 2 none :: ([.methodLink RX1 3 objectInit, .instanceMethod objectInit, .code objectInit ⟨#[0xb1]⟩ 1 none, .classLink RX1 9 RX2, .fieldLink RX1 11 "DiscArcs$History" "states" "[LDiscArcs$Photos;", .instantiable RX2 2, .initialized RX2, .instanceMethod yX2_init, .code yX2_init cX2_init 1 none, .methodLink RX2 3 objectInit, .classLink RX2 9 "[[I", .arrayClass .int, .fieldLink RX2 11 "DiscArcs$Photos" "rows" "[[I"] ++ wsX10 ++ wsX20)
def wsX1_dropOldest : List Cond := .code yX1_dropOldest cX1_dropOldest 3 none :: ([.fieldLink RX1 11 "DiscArcs$History" "states" "[LDiscArcs$Photos;", .fieldLink RX1 18 "DiscArcs$History" "size" "I"] ++ wsX10)
def wsX2_copyFrom : List Cond := .code yX2_copyFrom cX2_copyFrom 3 none :: ([.fieldLink RX2 11 "DiscArcs$Photos" "rows" "[[I", .methodLink RX2 16 arraycopyName, .native arraycopyName, .static arraycopyName, .initialized "java/lang/System", .fieldLink RX2 22 "DiscArcs$Photos" "size" "I"] ++ wsX20)
def wsX1_record : List Cond := .code yX1_record cX1_record 2 none :: ([.fieldLink RX1 18 "DiscArcs$History" "size" "I", .fieldLink RX1 11 "DiscArcs$History" "states" "[LDiscArcs$Photos;", .methodLink RX1 22 yX1_dropOldest, .instanceMethod yX1_dropOldest, .selects RX1 yX1_dropOldest yX1_dropOldest, .initialized RX1, .code yX1_dropOldest cX1_dropOldest 3 none, .methodLink RX1 25 yX2_copyFrom, .instanceMethod yX2_copyFrom, .selects RX2 yX2_copyFrom yX2_copyFrom, .initialized RX2, .code yX2_copyFrom cX2_copyFrom 3 none, .fieldLink RX2 11 "DiscArcs$Photos" "rows" "[[I", .methodLink RX2 16 arraycopyName, .native arraycopyName, .static arraycopyName, .initialized "java/lang/System", .fieldLink RX2 22 "DiscArcs$Photos" "size" "I"] ++ wsX10 ++ wsX20)
def wsX1_takeBack : List Cond := .code yX1_takeBack cX1_takeBack 2 (some .boolean) :: ([.fieldLink RX1 18 "DiscArcs$History" "size" "I", .fieldLink RX1 11 "DiscArcs$History" "states" "[LDiscArcs$Photos;", .methodLink RX1 25 yX2_copyFrom, .instanceMethod yX2_copyFrom, .selects RX2 yX2_copyFrom yX2_copyFrom, .initialized RX2, .code yX2_copyFrom cX2_copyFrom 3 none, .fieldLink RX2 11 "DiscArcs$Photos" "rows" "[[I", .methodLink RX2 16 arraycopyName, .native arraycopyName, .static arraycopyName, .initialized "java/lang/System", .fieldLink RX2 22 "DiscArcs$Photos" "size" "I"] ++ wsX10 ++ wsX20)
def wsX2_holds : List Cond := .code yX2_holds cX2_holds 2 (some .boolean) :: ([.fieldLink RX2 22 "DiscArcs$Photos" "size" "I"] ++ wsX20)
def wsX2_isUsable : List Cond := .code yX2_isUsable cX2_isUsable 2 (some .boolean) :: ([.fieldLink RX2 11 "DiscArcs$Photos" "rows" "[[I"] ++ wsX20)
def wsX2_hasAngle : List Cond := .code yX2_hasAngle cX2_hasAngle 2 (some .boolean) :: ([.fieldLink RX2 11 "DiscArcs$Photos" "rows" "[[I"] ++ wsX20)
def wsX2_isMarked : List Cond := .code yX2_isMarked cX2_isMarked 2 (some .boolean) :: ([.methodLink RX2 26 yX2_isUsable, .instanceMethod yX2_isUsable, .selects RX2 yX2_isUsable yX2_isUsable, .initialized RX2, .code yX2_isUsable cX2_isUsable 2 (some .boolean), .fieldLink RX2 11 "DiscArcs$Photos" "rows" "[[I", .methodLink RX2 30 yX2_hasAngle, .instanceMethod yX2_hasAngle, .selects RX2 yX2_hasAngle yX2_hasAngle, .code yX2_hasAngle cX2_hasAngle 2 (some .boolean)] ++ wsX20)
def wsX2_usable : List Cond := .code yX2_usable cX2_usable 3 (some .int) :: ([.fieldLink RX2 22 "DiscArcs$Photos" "size" "I", .methodLink RX2 26 yX2_isUsable, .instanceMethod yX2_isUsable, .selects RX2 yX2_isUsable yX2_isUsable, .initialized RX2, .code yX2_isUsable cX2_isUsable 2 (some .boolean), .fieldLink RX2 11 "DiscArcs$Photos" "rows" "[[I"] ++ wsX20)
def wsX2_marked : List Cond := .code yX2_marked cX2_marked 3 (some .int) :: ([.fieldLink RX2 22 "DiscArcs$Photos" "size" "I", .methodLink RX2 33 yX2_isMarked, .instanceMethod yX2_isMarked, .selects RX2 yX2_isMarked yX2_isMarked, .initialized RX2, .code yX2_isMarked cX2_isMarked 2 (some .boolean), .methodLink RX2 26 yX2_isUsable, .instanceMethod yX2_isUsable, .selects RX2 yX2_isUsable yX2_isUsable, .code yX2_isUsable cX2_isUsable 2 (some .boolean), .fieldLink RX2 11 "DiscArcs$Photos" "rows" "[[I", .methodLink RX2 30 yX2_hasAngle, .instanceMethod yX2_hasAngle, .selects RX2 yX2_hasAngle yX2_hasAngle, .code yX2_hasAngle cX2_hasAngle 2 (some .boolean)] ++ wsX20)
def wsX2_numberAt : List Cond := .code yX2_numberAt cX2_numberAt 3 (some .int) :: ([.fieldLink RX2 22 "DiscArcs$Photos" "size" "I", .fieldLink RX2 11 "DiscArcs$Photos" "rows" "[[I"] ++ wsX20)
def wsX2_insert : List Cond := .code yX2_insert cX2_insert 4 none :: ([.fieldLink RX2 22 "DiscArcs$Photos" "size" "I", .fieldLink RX2 11 "DiscArcs$Photos" "rows" "[[I", .methodLink RX2 16 arraycopyName, .native arraycopyName, .static arraycopyName, .initialized "java/lang/System"] ++ wsX20)
def wsX2_delete : List Cond := .code yX2_delete cX2_delete 3 none :: ([.fieldLink RX2 11 "DiscArcs$Photos" "rows" "[[I", .fieldLink RX2 22 "DiscArcs$Photos" "size" "I", .methodLink RX2 16 arraycopyName, .native arraycopyName, .static arraycopyName, .initialized "java/lang/System", .methodLink RX2 36 yX2_holds, .instanceMethod yX2_holds, .selects RX2 yX2_holds yX2_holds, .initialized RX2, .code yX2_holds cX2_holds 2 (some .boolean)] ++ wsX20)
def wsX3_init : List Cond := .code yX3_init cX3_init 2 none :: ([.methodLink RX3 3 objectInit, .instanceMethod objectInit, .code objectInit ⟨#[0xb1]⟩ 1 none, .fieldLink RX3 9 "DiscArcs$Spin" "photos" "LDiscArcs$Photos;"] ++ wsX30)
def wsJ9_floorMod_7cf53 : List Cond := .code yJ9_floorMod_7cf53 cJ9_floorMod_7cf53 3 (some .int) :: ([])
def wsX3_angleOf : List Cond := .code yX3_angleOf cX3_angleOf 3 (some .int) :: ([.methodLink RX3 15 yJ9_floorMod_7cf53, .static yJ9_floorMod_7cf53, .initialized RJ9, .code yJ9_floorMod_7cf53 cJ9_floorMod_7cf53 3 (some .int)])
def wsX3_isNear : List Cond := .code yX3_isNear cX3_isNear 6 (some .boolean) :: ([.fieldLink RX3 9 "DiscArcs$Spin" "photos" "LDiscArcs$Photos;", .fieldLink RX3 35 "DiscArcs$Photos" "rows" "[[I", .methodLink RX3 43 Lib.Math.abs.name, .static Lib.Math.abs.name, .initialized "java/lang/Math", .code Lib.Math.abs.name Lib.Math.abs.code 1 (some .int), .methodLink RX3 47 Lib.Math.min.name, .static Lib.Math.min.name, .code Lib.Math.min.name Lib.Math.min.code 2 (some .int), .methodLink RX3 39 yX3_angleOf, .static yX3_angleOf, .initialized RX3, .code yX3_angleOf cX3_angleOf 3 (some .int), .methodLink RX3 15 yJ9_floorMod_7cf53, .static yJ9_floorMod_7cf53, .initialized RJ9, .code yJ9_floorMod_7cf53 cJ9_floorMod_7cf53 3 (some .int)] ++ wsX30 ++ wsX20)
def wsX3_fittedBy_r1 : List Cond := [Cond.fieldLink RX3 9 "DiscArcs$Spin" "photos" "LDiscArcs$Photos;", Cond.fieldLink RX3 21 "DiscArcs$Photos" "size" "I", Cond.methodLink RX3 27 yX2_isMarked, Cond.instanceMethod yX2_isMarked, Cond.selects RX2 yX2_isMarked yX2_isMarked, Cond.initialized RX2, Cond.code yX2_isMarked cX2_isMarked 2 (some .boolean), Cond.methodLink RX2 26 yX2_isUsable, Cond.instanceMethod yX2_isUsable, Cond.selects RX2 yX2_isUsable yX2_isUsable, Cond.code yX2_isUsable cX2_isUsable 2 (some .boolean), Cond.fieldLink RX2 11 "DiscArcs$Photos" "rows" "[[I", Cond.methodLink RX2 30 yX2_hasAngle, Cond.instanceMethod yX2_hasAngle, Cond.selects RX2 yX2_hasAngle yX2_hasAngle, Cond.code yX2_hasAngle cX2_hasAngle 2 (some .boolean), Cond.methodLink RX3 31 yX3_isNear, Cond.instanceMethod yX3_isNear, Cond.selects RX3 yX3_isNear yX3_isNear, Cond.initialized RX3, Cond.code yX3_isNear cX3_isNear 6 (some .boolean), Cond.fieldLink RX3 35 "DiscArcs$Photos" "rows" "[[I", Cond.methodLink RX3 43 Lib.Math.abs.name, Cond.static Lib.Math.abs.name]
def wsX3_fittedBy_r2 : List Cond := [Cond.initialized "java/lang/Math", Cond.code Lib.Math.abs.name Lib.Math.abs.code 1 (some .int), Cond.methodLink RX3 47 Lib.Math.min.name, Cond.static Lib.Math.min.name, Cond.code Lib.Math.min.name Lib.Math.min.code 2 (some .int), Cond.methodLink RX3 39 yX3_angleOf, Cond.static yX3_angleOf, Cond.code yX3_angleOf cX3_angleOf 3 (some .int), Cond.methodLink RX3 15 yJ9_floorMod_7cf53, Cond.static yJ9_floorMod_7cf53, Cond.initialized RJ9, Cond.code yJ9_floorMod_7cf53 cJ9_floorMod_7cf53 3 (some .int)]
def wsX3_fittedBy : List Cond := .code yX3_fittedBy cX3_fittedBy 5 (some .int) :: ((wsX3_fittedBy_r1 ++ wsX3_fittedBy_r2) ++ wsX30 ++ wsX20)
def wsX3_tryBeginning_r1 : List Cond := [Cond.fieldLink RX3 56 "DiscArcs$Spin" "fitted" "I", Cond.fieldLink RX3 50 "DiscArcs$Spin" "turn" "I", Cond.fieldLink RX3 53 "DiscArcs$Spin" "beginning" "I", Cond.methodLink RX3 71 yX3_fittedBy, Cond.instanceMethod yX3_fittedBy, Cond.selects RX3 yX3_fittedBy yX3_fittedBy, Cond.initialized RX3, Cond.code yX3_fittedBy cX3_fittedBy 5 (some .int), Cond.fieldLink RX3 9 "DiscArcs$Spin" "photos" "LDiscArcs$Photos;", Cond.fieldLink RX3 21 "DiscArcs$Photos" "size" "I", Cond.methodLink RX3 27 yX2_isMarked, Cond.instanceMethod yX2_isMarked, Cond.selects RX2 yX2_isMarked yX2_isMarked, Cond.initialized RX2, Cond.code yX2_isMarked cX2_isMarked 2 (some .boolean), Cond.methodLink RX2 26 yX2_isUsable, Cond.instanceMethod yX2_isUsable, Cond.selects RX2 yX2_isUsable yX2_isUsable, Cond.code yX2_isUsable cX2_isUsable 2 (some .boolean), Cond.fieldLink RX2 11 "DiscArcs$Photos" "rows" "[[I", Cond.methodLink RX2 30 yX2_hasAngle, Cond.instanceMethod yX2_hasAngle, Cond.selects RX2 yX2_hasAngle yX2_hasAngle, Cond.code yX2_hasAngle cX2_hasAngle 2 (some .boolean)]
def wsX3_tryBeginning_r2 : List Cond := [Cond.methodLink RX3 31 yX3_isNear, Cond.instanceMethod yX3_isNear, Cond.selects RX3 yX3_isNear yX3_isNear, Cond.code yX3_isNear cX3_isNear 6 (some .boolean), Cond.fieldLink RX3 35 "DiscArcs$Photos" "rows" "[[I", Cond.methodLink RX3 43 Lib.Math.abs.name, Cond.static Lib.Math.abs.name, Cond.initialized "java/lang/Math", Cond.code Lib.Math.abs.name Lib.Math.abs.code 1 (some .int), Cond.methodLink RX3 47 Lib.Math.min.name, Cond.static Lib.Math.min.name, Cond.code Lib.Math.min.name Lib.Math.min.code 2 (some .int), Cond.methodLink RX3 39 yX3_angleOf, Cond.static yX3_angleOf, Cond.code yX3_angleOf cX3_angleOf 3 (some .int), Cond.methodLink RX3 15 yJ9_floorMod_7cf53, Cond.static yJ9_floorMod_7cf53, Cond.initialized RJ9, Cond.code yJ9_floorMod_7cf53 cJ9_floorMod_7cf53 3 (some .int), Cond.methodLink RX3 74 yJ6_bitCount_0f7a4, Cond.static yJ6_bitCount_0f7a4, Cond.initialized RJ6, Cond.code yJ6_bitCount_0f7a4 cJ6_bitCount_0f7a4 1 (some .int), Cond.constant RJ6 265 (1431655765)]
def wsX3_tryBeginning_r3 : List Cond := [Cond.constant RJ6 266 (858993459), Cond.constant RJ6 267 (252645135)]
def wsX3_tryBeginning : List Cond := .code yX3_tryBeginning cX3_tryBeginning 6 none :: ((wsX3_tryBeginning_r1 ++ (wsX3_tryBeginning_r2 ++ wsX3_tryBeginning_r3)) ++ wsX30 ++ wsX20)
def wsX3_tryTurn_r1 : List Cond := [Cond.fieldLink RX3 9 "DiscArcs$Spin" "photos" "LDiscArcs$Photos;", Cond.fieldLink RX3 21 "DiscArcs$Photos" "size" "I", Cond.fieldLink RX3 35 "DiscArcs$Photos" "rows" "[[I", Cond.fieldLink RX3 50 "DiscArcs$Spin" "turn" "I", Cond.fieldLink RX3 53 "DiscArcs$Spin" "beginning" "I", Cond.methodLink RX3 67 yX3_tryBeginning, Cond.instanceMethod yX3_tryBeginning, Cond.selects RX3 yX3_tryBeginning yX3_tryBeginning, Cond.initialized RX3, Cond.code yX3_tryBeginning cX3_tryBeginning 6 none, Cond.fieldLink RX3 56 "DiscArcs$Spin" "fitted" "I", Cond.methodLink RX3 71 yX3_fittedBy, Cond.instanceMethod yX3_fittedBy, Cond.selects RX3 yX3_fittedBy yX3_fittedBy, Cond.code yX3_fittedBy cX3_fittedBy 5 (some .int), Cond.methodLink RX3 27 yX2_isMarked, Cond.instanceMethod yX2_isMarked, Cond.selects RX2 yX2_isMarked yX2_isMarked, Cond.initialized RX2, Cond.code yX2_isMarked cX2_isMarked 2 (some .boolean), Cond.methodLink RX2 26 yX2_isUsable, Cond.instanceMethod yX2_isUsable, Cond.selects RX2 yX2_isUsable yX2_isUsable, Cond.code yX2_isUsable cX2_isUsable 2 (some .boolean)]
def wsX3_tryTurn_r2 : List Cond := [Cond.fieldLink RX2 11 "DiscArcs$Photos" "rows" "[[I", Cond.methodLink RX2 30 yX2_hasAngle, Cond.instanceMethod yX2_hasAngle, Cond.selects RX2 yX2_hasAngle yX2_hasAngle, Cond.code yX2_hasAngle cX2_hasAngle 2 (some .boolean), Cond.methodLink RX3 31 yX3_isNear, Cond.instanceMethod yX3_isNear, Cond.selects RX3 yX3_isNear yX3_isNear, Cond.code yX3_isNear cX3_isNear 6 (some .boolean), Cond.methodLink RX3 43 Lib.Math.abs.name, Cond.static Lib.Math.abs.name, Cond.initialized "java/lang/Math", Cond.code Lib.Math.abs.name Lib.Math.abs.code 1 (some .int), Cond.methodLink RX3 47 Lib.Math.min.name, Cond.static Lib.Math.min.name, Cond.code Lib.Math.min.name Lib.Math.min.code 2 (some .int), Cond.methodLink RX3 39 yX3_angleOf, Cond.static yX3_angleOf, Cond.code yX3_angleOf cX3_angleOf 3 (some .int), Cond.methodLink RX3 15 yJ9_floorMod_7cf53, Cond.static yJ9_floorMod_7cf53, Cond.initialized RJ9, Cond.code yJ9_floorMod_7cf53 cJ9_floorMod_7cf53 3 (some .int), Cond.methodLink RX3 74 yJ6_bitCount_0f7a4]
def wsX3_tryTurn_r3 : List Cond := [Cond.static yJ6_bitCount_0f7a4, Cond.initialized RJ6, Cond.code yJ6_bitCount_0f7a4 cJ6_bitCount_0f7a4 1 (some .int), Cond.constant RJ6 265 (1431655765), Cond.constant RJ6 266 (858993459), Cond.constant RJ6 267 (252645135)]
def wsX3_tryTurn : List Cond := .code yX3_tryTurn cX3_tryTurn 5 none :: ((wsX3_tryTurn_r1 ++ (wsX3_tryTurn_r2 ++ wsX3_tryTurn_r3)) ++ wsX30 ++ wsX20)
def wsX3_search_r1 : List Cond := [Cond.fieldLink RX3 50 "DiscArcs$Spin" "turn" "I", Cond.fieldLink RX3 53 "DiscArcs$Spin" "beginning" "I", Cond.fieldLink RX3 56 "DiscArcs$Spin" "fitted" "I", Cond.fieldLink RX3 9 "DiscArcs$Spin" "photos" "LDiscArcs$Photos;", Cond.methodLink RX3 59 yX2_marked, Cond.instanceMethod yX2_marked, Cond.selects RX2 yX2_marked yX2_marked, Cond.initialized RX2, Cond.code yX2_marked cX2_marked 3 (some .int), Cond.fieldLink RX2 22 "DiscArcs$Photos" "size" "I", Cond.methodLink RX2 33 yX2_isMarked, Cond.instanceMethod yX2_isMarked, Cond.selects RX2 yX2_isMarked yX2_isMarked, Cond.code yX2_isMarked cX2_isMarked 2 (some .boolean), Cond.methodLink RX2 26 yX2_isUsable, Cond.instanceMethod yX2_isUsable, Cond.selects RX2 yX2_isUsable yX2_isUsable, Cond.code yX2_isUsable cX2_isUsable 2 (some .boolean), Cond.fieldLink RX2 11 "DiscArcs$Photos" "rows" "[[I", Cond.methodLink RX2 30 yX2_hasAngle, Cond.instanceMethod yX2_hasAngle, Cond.selects RX2 yX2_hasAngle yX2_hasAngle, Cond.code yX2_hasAngle cX2_hasAngle 2 (some .boolean), Cond.methodLink RX3 63 yX3_tryTurn]
def wsX3_search_r2 : List Cond := [Cond.instanceMethod yX3_tryTurn, Cond.selects RX3 yX3_tryTurn yX3_tryTurn, Cond.initialized RX3, Cond.code yX3_tryTurn cX3_tryTurn 5 none, Cond.fieldLink RX3 21 "DiscArcs$Photos" "size" "I", Cond.fieldLink RX3 35 "DiscArcs$Photos" "rows" "[[I", Cond.methodLink RX3 67 yX3_tryBeginning, Cond.instanceMethod yX3_tryBeginning, Cond.selects RX3 yX3_tryBeginning yX3_tryBeginning, Cond.code yX3_tryBeginning cX3_tryBeginning 6 none, Cond.methodLink RX3 71 yX3_fittedBy, Cond.instanceMethod yX3_fittedBy, Cond.selects RX3 yX3_fittedBy yX3_fittedBy, Cond.code yX3_fittedBy cX3_fittedBy 5 (some .int), Cond.methodLink RX3 27 yX2_isMarked, Cond.methodLink RX3 31 yX3_isNear, Cond.instanceMethod yX3_isNear, Cond.selects RX3 yX3_isNear yX3_isNear, Cond.code yX3_isNear cX3_isNear 6 (some .boolean), Cond.methodLink RX3 43 Lib.Math.abs.name, Cond.static Lib.Math.abs.name, Cond.initialized "java/lang/Math", Cond.code Lib.Math.abs.name Lib.Math.abs.code 1 (some .int), Cond.methodLink RX3 47 Lib.Math.min.name]
def wsX3_search_r3 : List Cond := [Cond.static Lib.Math.min.name, Cond.code Lib.Math.min.name Lib.Math.min.code 2 (some .int), Cond.methodLink RX3 39 yX3_angleOf, Cond.static yX3_angleOf, Cond.code yX3_angleOf cX3_angleOf 3 (some .int), Cond.methodLink RX3 15 yJ9_floorMod_7cf53, Cond.static yJ9_floorMod_7cf53, Cond.initialized RJ9, Cond.code yJ9_floorMod_7cf53 cJ9_floorMod_7cf53 3 (some .int), Cond.methodLink RX3 74 yJ6_bitCount_0f7a4, Cond.static yJ6_bitCount_0f7a4, Cond.initialized RJ6, Cond.code yJ6_bitCount_0f7a4 cJ6_bitCount_0f7a4 1 (some .int), Cond.constant RJ6 265 (1431655765), Cond.constant RJ6 266 (858993459), Cond.constant RJ6 267 (252645135)]
def wsX3_search : List Cond := .code yX3_search cX3_search 3 (some .boolean) :: ((wsX3_search_r1 ++ (wsX3_search_r2 ++ wsX3_search_r3)) ++ wsX30 ++ wsX20)
def wsX4_init : List Cond := .code yX4_init cX4_init 1 none :: ([.methodLink RX4 3 objectInit, .instanceMethod objectInit, .code objectInit ⟨#[0xb1]⟩ 1 none, .arrayClass .char, .fieldLink RX4 9 "DiscArcs$Text" "characters" "[C"] ++ wsX40)
def wsX4_append : List Cond := .code yX4_append cX4_append 2 (some .boolean) :: ([.fieldLink RX4 15 "DiscArcs$Text" "length" "I", .fieldLink RX4 9 "DiscArcs$Text" "characters" "[C"] ++ wsX40)
def wsX4_pass : List Cond := .code yX4_pass cX4_pass 2 (some .boolean) :: ([.fieldLink RX4 19 "DiscArcs$Text" "position" "I", .fieldLink RX4 15 "DiscArcs$Text" "length" "I", .fieldLink RX4 9 "DiscArcs$Text" "characters" "[C"] ++ wsX40)
def wsX4_isDigit : List Cond := .code yX4_isDigit cX4_isDigit 1 (some .boolean) :: ([.fieldLink RX4 19 "DiscArcs$Text" "position" "I", .fieldLink RX4 15 "DiscArcs$Text" "length" "I", .fieldLink RX4 9 "DiscArcs$Text" "characters" "[C"] ++ wsX40)
def wsX4_readDigit : List Cond := .code yX4_readDigit cX4_readDigit 2 (some .int) :: ([.fieldLink RX4 9 "DiscArcs$Text" "characters" "[C", .fieldLink RX4 19 "DiscArcs$Text" "position" "I"] ++ wsX40)
def wsX4_readNumber : List Cond := .code yX4_readNumber cX4_readNumber 7 (some .boolean) :: ([.fieldLink RX4 9 "DiscArcs$Text" "characters" "[C", .fieldLink RX4 19 "DiscArcs$Text" "position" "I", .methodLink RX4 30 yX4_pass, .instanceMethod yX4_pass, .selects RX4 yX4_pass yX4_pass, .initialized RX4, .code yX4_pass cX4_pass 2 (some .boolean), .fieldLink RX4 15 "DiscArcs$Text" "length" "I", .methodLink RX4 38 yX4_isDigit, .instanceMethod yX4_isDigit, .selects RX4 yX4_isDigit yX4_isDigit, .code yX4_isDigit cX4_isDigit 1 (some .boolean), .methodLink RX4 42 yX4_readDigit, .instanceMethod yX4_readDigit, .selects RX4 yX4_readDigit yX4_readDigit, .code yX4_readDigit cX4_readDigit 2 (some .int)] ++ wsX40)
def wsX4_readPlace : List Cond := .code yX4_readPlace cX4_readPlace 2 (some .boolean) :: ([.methodLink RX4 34 yX4_readNumber, .instanceMethod yX4_readNumber, .selects RX4 yX4_readNumber yX4_readNumber, .initialized RX4, .code yX4_readNumber cX4_readNumber 7 (some .boolean), .fieldLink RX4 9 "DiscArcs$Text" "characters" "[C", .fieldLink RX4 19 "DiscArcs$Text" "position" "I", .methodLink RX4 30 yX4_pass, .instanceMethod yX4_pass, .selects RX4 yX4_pass yX4_pass, .code yX4_pass cX4_pass 2 (some .boolean), .fieldLink RX4 15 "DiscArcs$Text" "length" "I", .methodLink RX4 38 yX4_isDigit, .instanceMethod yX4_isDigit, .selects RX4 yX4_isDigit yX4_isDigit, .code yX4_isDigit cX4_isDigit 1 (some .boolean), .methodLink RX4 42 yX4_readDigit, .instanceMethod yX4_readDigit, .selects RX4 yX4_readDigit yX4_readDigit, .code yX4_readDigit cX4_readDigit 2 (some .int)] ++ wsX40)
def wsX4_readInto_r1 : List Cond := [Cond.fieldLink RX4 19 "DiscArcs$Text" "position" "I", Cond.fieldLink RX4 22 "DiscArcs$Text" "tellsAngle" "Z", Cond.fieldLink RX4 15 "DiscArcs$Text" "length" "I", Cond.methodLink RX4 26 yX4_readPlace, Cond.instanceMethod yX4_readPlace, Cond.selects RX4 yX4_readPlace yX4_readPlace, Cond.initialized RX4, Cond.code yX4_readPlace cX4_readPlace 2 (some .boolean), Cond.methodLink RX4 34 yX4_readNumber, Cond.instanceMethod yX4_readNumber, Cond.selects RX4 yX4_readNumber yX4_readNumber, Cond.code yX4_readNumber cX4_readNumber 7 (some .boolean), Cond.fieldLink RX4 9 "DiscArcs$Text" "characters" "[C", Cond.methodLink RX4 30 yX4_pass, Cond.instanceMethod yX4_pass, Cond.selects RX4 yX4_pass yX4_pass, Cond.code yX4_pass cX4_pass 2 (some .boolean), Cond.methodLink RX4 38 yX4_isDigit, Cond.instanceMethod yX4_isDigit, Cond.selects RX4 yX4_isDigit yX4_isDigit, Cond.code yX4_isDigit cX4_isDigit 1 (some .boolean), Cond.methodLink RX4 42 yX4_readDigit, Cond.instanceMethod yX4_readDigit, Cond.selects RX4 yX4_readDigit yX4_readDigit]
def wsX4_readInto_r2 : List Cond := [Cond.code yX4_readDigit cX4_readDigit 2 (some .int)]
def wsX4_readInto : List Cond := .code yX4_readInto cX4_readInto 2 (some .boolean) :: ((wsX4_readInto_r1 ++ wsX4_readInto_r2) ++ wsX40)
def wsX5_init : List Cond := .code yX5_init cX5_init 3 none :: ([.methodLink RX5 3 objectInit, .instanceMethod objectInit, .code objectInit ⟨#[0xb1]⟩ 1 none, .arrayClass .int, .fieldLink RX5 9 "DiscArcs$Track" "rowsFrom" "[I", .fieldLink RX5 15 "DiscArcs$Track" "endFrom" "[I", .fieldLink RX5 18 "DiscArcs$Track" "photos" "LDiscArcs$Photos;", .fieldLink RX5 22 "DiscArcs$Track" "curve" "LDiscArcs$Arc;"] ++ wsX50)
def wsX5_between : List Cond := .code yX5_between cX5_between 3 (some .int) :: ([.fieldLink RX5 18 "DiscArcs$Track" "photos" "LDiscArcs$Photos;", .methodLink RX5 26 yX2_usable, .instanceMethod yX2_usable, .selects RX2 yX2_usable yX2_usable, .initialized RX2, .code yX2_usable cX2_usable 3 (some .int), .fieldLink RX2 22 "DiscArcs$Photos" "size" "I", .methodLink RX2 26 yX2_isUsable, .instanceMethod yX2_isUsable, .selects RX2 yX2_isUsable yX2_isUsable, .code yX2_isUsable cX2_isUsable 2 (some .boolean), .fieldLink RX2 11 "DiscArcs$Photos" "rows" "[[I"] ++ wsX50 ++ wsX20)
def wsX5_isFitting_r1 : List Cond := [Cond.fieldLink RX5 22 "DiscArcs$Track" "curve" "LDiscArcs$Arc;", Cond.methodLink RX5 32 yX0_layBest, Cond.instanceMethod yX0_layBest, Cond.selects RX0 yX0_layBest yX0_layBest, Cond.initialized RX0, Cond.code yX0_layBest cX0_layBest 9 (some .boolean), Cond.fieldLink RX0 9 "DiscArcs$Arc" "photos" "LDiscArcs$Photos;", Cond.fieldLink RX0 25 "DiscArcs$Photos" "size" "I", Cond.methodLink RX0 30 yX0_lay, Cond.instanceMethod yX0_lay, Cond.selects RX0 yX0_lay yX0_lay, Cond.code yX0_lay cX0_lay 4 none, Cond.fieldLink RX0 15 "DiscArcs$Arc" "first" "I", Cond.fieldLink RX0 19 "DiscArcs$Arc" "second" "I", Cond.fieldLink RX0 22 "DiscArcs$Arc" "third" "I", Cond.methodLink RX0 34 yX0_missedOf, Cond.instanceMethod yX0_missedOf, Cond.selects RX0 yX0_missedOf yX0_missedOf, Cond.code yX0_missedOf cX0_missedOf 14 (some .int), Cond.fieldLink RX0 47 "DiscArcs$Photos" "rows" "[[I", Cond.methodLink RX0 63 Lib.MathLoose.abs_long.x, Cond.static Lib.MathLoose.abs_long.x, Cond.initialized "java/lang/Math", Cond.code Lib.MathLoose.abs_long.x Lib.MathLoose.abs_long.code 2 (some .long)]
def wsX5_isFitting_r2 : List Cond := [Cond.methodLink RX0 51 yX0_lower, Cond.instanceMethod yX0_lower, Cond.selects RX0 yX0_lower yX0_lower, Cond.code yX0_lower cX0_lower 7 (some .long), Cond.static yX6_isIn, Cond.initialized RX6, Cond.code yX6_isIn cX6_isIn 2 (some .boolean), Cond.methodLink RX0 59 yX0_upper, Cond.instanceMethod yX0_upper, Cond.selects RX0 yX0_upper yX0_upper, Cond.code yX0_upper cX0_upper 11 (some .long), Cond.methodLink RX0 38 yJ6_bitCount_0f7a4, Cond.static yJ6_bitCount_0f7a4, Cond.initialized RJ6, Cond.code yJ6_bitCount_0f7a4 cJ6_bitCount_0f7a4 1 (some .int), Cond.constant RJ6 265 (1431655765), Cond.constant RJ6 266 (858993459), Cond.constant RJ6 267 (252645135), Cond.methodLink RX0 43 yX0_layThrough, Cond.instanceMethod yX0_layThrough, Cond.selects RX0 yX0_layThrough yX0_layThrough, Cond.code yX0_layThrough cX0_layThrough 4 none, Cond.methodLink RX5 38 yX0_missedOf]
def wsX5_isFitting : List Cond := .code yX5_isFitting cX5_isFitting 2 (some .boolean) :: ((wsX5_isFitting_r1 ++ wsX5_isFitting_r2) ++ wsX50 ++ wsX00 ++ wsX20)
def wsX5_planFrom_r1 : List Cond := [Cond.fieldLink RX5 9 "DiscArcs$Track" "rowsFrom" "[I", Cond.fieldLink RX5 18 "DiscArcs$Track" "photos" "LDiscArcs$Photos;", Cond.fieldLink RX5 42 "DiscArcs$Photos" "size" "I", Cond.fieldLink RX5 15 "DiscArcs$Track" "endFrom" "[I", Cond.methodLink RX5 53 yX5_between, Cond.instanceMethod yX5_between, Cond.selects RX5 yX5_between yX5_between, Cond.initialized RX5, Cond.code yX5_between cX5_between 3 (some .int), Cond.methodLink RX5 26 yX2_usable, Cond.instanceMethod yX2_usable, Cond.selects RX2 yX2_usable yX2_usable, Cond.initialized RX2, Cond.code yX2_usable cX2_usable 3 (some .int), Cond.fieldLink RX2 22 "DiscArcs$Photos" "size" "I", Cond.methodLink RX2 26 yX2_isUsable, Cond.instanceMethod yX2_isUsable, Cond.selects RX2 yX2_isUsable yX2_isUsable, Cond.code yX2_isUsable cX2_isUsable 2 (some .boolean), Cond.fieldLink RX2 11 "DiscArcs$Photos" "rows" "[[I", Cond.methodLink RX5 57 yX5_isFitting, Cond.instanceMethod yX5_isFitting, Cond.selects RX5 yX5_isFitting yX5_isFitting, Cond.code yX5_isFitting cX5_isFitting 2 (some .boolean)]
def wsX5_planFrom_r2 : List Cond := [Cond.fieldLink RX5 22 "DiscArcs$Track" "curve" "LDiscArcs$Arc;", Cond.methodLink RX5 32 yX0_layBest, Cond.instanceMethod yX0_layBest, Cond.selects RX0 yX0_layBest yX0_layBest, Cond.initialized RX0, Cond.code yX0_layBest cX0_layBest 9 (some .boolean), Cond.fieldLink RX0 9 "DiscArcs$Arc" "photos" "LDiscArcs$Photos;", Cond.fieldLink RX0 25 "DiscArcs$Photos" "size" "I", Cond.methodLink RX0 30 yX0_lay, Cond.instanceMethod yX0_lay, Cond.selects RX0 yX0_lay yX0_lay, Cond.code yX0_lay cX0_lay 4 none, Cond.fieldLink RX0 15 "DiscArcs$Arc" "first" "I", Cond.fieldLink RX0 19 "DiscArcs$Arc" "second" "I", Cond.fieldLink RX0 22 "DiscArcs$Arc" "third" "I", Cond.methodLink RX0 34 yX0_missedOf, Cond.instanceMethod yX0_missedOf, Cond.selects RX0 yX0_missedOf yX0_missedOf, Cond.code yX0_missedOf cX0_missedOf 14 (some .int), Cond.fieldLink RX0 47 "DiscArcs$Photos" "rows" "[[I", Cond.methodLink RX0 63 Lib.MathLoose.abs_long.x, Cond.static Lib.MathLoose.abs_long.x, Cond.initialized "java/lang/Math", Cond.code Lib.MathLoose.abs_long.x Lib.MathLoose.abs_long.code 2 (some .long)]
def wsX5_planFrom_r3 : List Cond := [Cond.methodLink RX0 51 yX0_lower, Cond.instanceMethod yX0_lower, Cond.selects RX0 yX0_lower yX0_lower, Cond.code yX0_lower cX0_lower 7 (some .long), Cond.static yX6_isIn, Cond.initialized RX6, Cond.code yX6_isIn cX6_isIn 2 (some .boolean), Cond.methodLink RX0 59 yX0_upper, Cond.instanceMethod yX0_upper, Cond.selects RX0 yX0_upper yX0_upper, Cond.code yX0_upper cX0_upper 11 (some .long), Cond.methodLink RX0 38 yJ6_bitCount_0f7a4, Cond.static yJ6_bitCount_0f7a4, Cond.initialized RJ6, Cond.code yJ6_bitCount_0f7a4 cJ6_bitCount_0f7a4 1 (some .int), Cond.constant RJ6 265 (1431655765), Cond.constant RJ6 266 (858993459), Cond.constant RJ6 267 (252645135), Cond.methodLink RX0 43 yX0_layThrough, Cond.instanceMethod yX0_layThrough, Cond.selects RX0 yX0_layThrough yX0_layThrough, Cond.code yX0_layThrough cX0_layThrough 4 none, Cond.methodLink RX5 38 yX0_missedOf]
def wsX5_planFrom : List Cond := .code yX5_planFrom cX5_planFrom 3 none :: ((wsX5_planFrom_r1 ++ (wsX5_planFrom_r2 ++ wsX5_planFrom_r3)) ++ wsX50 ++ wsX20 ++ wsX00)
def wsX5_plan_r1 : List Cond := [Cond.fieldLink RX5 9 "DiscArcs$Track" "rowsFrom" "[I", Cond.fieldLink RX5 18 "DiscArcs$Track" "photos" "LDiscArcs$Photos;", Cond.fieldLink RX5 42 "DiscArcs$Photos" "size" "I", Cond.fieldLink RX5 15 "DiscArcs$Track" "endFrom" "[I", Cond.methodLink RX5 46 yX2_isUsable, Cond.instanceMethod yX2_isUsable, Cond.selects RX2 yX2_isUsable yX2_isUsable, Cond.initialized RX2, Cond.code yX2_isUsable cX2_isUsable 2 (some .boolean), Cond.fieldLink RX2 11 "DiscArcs$Photos" "rows" "[[I", Cond.methodLink RX5 49 yX5_planFrom, Cond.instanceMethod yX5_planFrom, Cond.selects RX5 yX5_planFrom yX5_planFrom, Cond.initialized RX5, Cond.code yX5_planFrom cX5_planFrom 3 none, Cond.methodLink RX5 53 yX5_between, Cond.instanceMethod yX5_between, Cond.selects RX5 yX5_between yX5_between, Cond.code yX5_between cX5_between 3 (some .int), Cond.methodLink RX5 26 yX2_usable, Cond.instanceMethod yX2_usable, Cond.selects RX2 yX2_usable yX2_usable, Cond.code yX2_usable cX2_usable 3 (some .int), Cond.fieldLink RX2 22 "DiscArcs$Photos" "size" "I"]
def wsX5_plan_r2 : List Cond := [Cond.methodLink RX2 26 yX2_isUsable, Cond.methodLink RX5 57 yX5_isFitting, Cond.instanceMethod yX5_isFitting, Cond.selects RX5 yX5_isFitting yX5_isFitting, Cond.code yX5_isFitting cX5_isFitting 2 (some .boolean), Cond.fieldLink RX5 22 "DiscArcs$Track" "curve" "LDiscArcs$Arc;", Cond.methodLink RX5 32 yX0_layBest, Cond.instanceMethod yX0_layBest, Cond.selects RX0 yX0_layBest yX0_layBest, Cond.initialized RX0, Cond.code yX0_layBest cX0_layBest 9 (some .boolean), Cond.fieldLink RX0 9 "DiscArcs$Arc" "photos" "LDiscArcs$Photos;", Cond.fieldLink RX0 25 "DiscArcs$Photos" "size" "I", Cond.methodLink RX0 30 yX0_lay, Cond.instanceMethod yX0_lay, Cond.selects RX0 yX0_lay yX0_lay, Cond.code yX0_lay cX0_lay 4 none, Cond.fieldLink RX0 15 "DiscArcs$Arc" "first" "I", Cond.fieldLink RX0 19 "DiscArcs$Arc" "second" "I", Cond.fieldLink RX0 22 "DiscArcs$Arc" "third" "I", Cond.methodLink RX0 34 yX0_missedOf, Cond.instanceMethod yX0_missedOf, Cond.selects RX0 yX0_missedOf yX0_missedOf, Cond.code yX0_missedOf cX0_missedOf 14 (some .int)]
def wsX5_plan_r3 : List Cond := [Cond.fieldLink RX0 47 "DiscArcs$Photos" "rows" "[[I", Cond.methodLink RX0 63 Lib.MathLoose.abs_long.x, Cond.static Lib.MathLoose.abs_long.x, Cond.initialized "java/lang/Math", Cond.code Lib.MathLoose.abs_long.x Lib.MathLoose.abs_long.code 2 (some .long), Cond.methodLink RX0 51 yX0_lower, Cond.instanceMethod yX0_lower, Cond.selects RX0 yX0_lower yX0_lower, Cond.code yX0_lower cX0_lower 7 (some .long), Cond.static yX6_isIn, Cond.initialized RX6, Cond.code yX6_isIn cX6_isIn 2 (some .boolean), Cond.methodLink RX0 59 yX0_upper, Cond.instanceMethod yX0_upper, Cond.selects RX0 yX0_upper yX0_upper, Cond.code yX0_upper cX0_upper 11 (some .long), Cond.methodLink RX0 38 yJ6_bitCount_0f7a4, Cond.static yJ6_bitCount_0f7a4, Cond.initialized RJ6, Cond.code yJ6_bitCount_0f7a4 cJ6_bitCount_0f7a4 1 (some .int), Cond.constant RJ6 265 (1431655765), Cond.constant RJ6 266 (858993459), Cond.constant RJ6 267 (252645135), Cond.methodLink RX0 43 yX0_layThrough]
def wsX5_plan_r4 : List Cond := [Cond.instanceMethod yX0_layThrough, Cond.selects RX0 yX0_layThrough yX0_layThrough, Cond.code yX0_layThrough cX0_layThrough 4 none, Cond.methodLink RX5 38 yX0_missedOf]
def wsX5_plan : List Cond := .code yX5_plan cX5_plan 2 (some .int) :: ((wsX5_plan_r1 ++ (wsX5_plan_r2 ++ (wsX5_plan_r3 ++ wsX5_plan_r4))) ++ wsX50 ++ wsX20 ++ wsX00)
def wsX5_rowAt : List Cond := .code yX5_rowAt cX5_rowAt 4 (some .int) :: ([.fieldLink RX5 18 "DiscArcs$Track" "photos" "LDiscArcs$Photos;", .fieldLink RX5 42 "DiscArcs$Photos" "size" "I", .fieldLink RX5 15 "DiscArcs$Track" "endFrom" "[I", .methodLink RX5 53 yX5_between, .instanceMethod yX5_between, .selects RX5 yX5_between yX5_between, .initialized RX5, .code yX5_between cX5_between 3 (some .int), .methodLink RX5 26 yX2_usable, .instanceMethod yX2_usable, .selects RX2 yX2_usable yX2_usable, .initialized RX2, .code yX2_usable cX2_usable 3 (some .int), .fieldLink RX2 22 "DiscArcs$Photos" "size" "I", .methodLink RX2 26 yX2_isUsable, .instanceMethod yX2_isUsable, .selects RX2 yX2_isUsable yX2_isUsable, .code yX2_isUsable cX2_isUsable 2 (some .boolean), .fieldLink RX2 11 "DiscArcs$Photos" "rows" "[[I"] ++ wsX50 ++ wsX20)
def wsX6_init_r1 : List Cond := [Cond.methodLink RX6 1 objectInit, Cond.instanceMethod objectInit, Cond.code objectInit ⟨#[0xb1]⟩ 1 none, Cond.classLink RX6 7 RX2, Cond.instantiable RX2 2, Cond.initialized RX2, Cond.fieldLink RX6 10 "DiscArcs" "photos" "LDiscArcs$Photos;", Cond.fieldLink RX6 16 "DiscArcs" "snapshot" "LDiscArcs$Photos;", Cond.classLink RX6 19 RX1, Cond.instantiable RX1 2, Cond.initialized RX1, Cond.fieldLink RX6 22 "DiscArcs" "history" "LDiscArcs$History;", Cond.classLink RX6 26 RX4, Cond.instantiable RX4 4, Cond.initialized RX4, Cond.fieldLink RX6 29 "DiscArcs" "text" "LDiscArcs$Text;", Cond.arrayClass .int, Cond.fieldLink RX6 33 "DiscArcs" "told" "[I", Cond.classLink RX6 37 RX0, Cond.instantiable RX0 4, Cond.initialized RX0, Cond.fieldLink RX6 42 "DiscArcs" "curve" "LDiscArcs$Arc;", Cond.classLink RX6 46 RX5, Cond.instantiable RX5 4]
def wsX6_init_r2 : List Cond := [Cond.initialized RX5, Cond.fieldLink RX6 51 "DiscArcs" "parting" "LDiscArcs$Track;", Cond.classLink RX6 55 RX3, Cond.instantiable RX3 4, Cond.initialized RX3, Cond.fieldLink RX6 58 "DiscArcs" "turning" "LDiscArcs$Spin;", Cond.instanceMethod yX2_init, Cond.code yX2_init cX2_init 1 none, Cond.methodLink RX2 3 objectInit, Cond.classLink RX2 9 "[[I", Cond.fieldLink RX2 11 "DiscArcs$Photos" "rows" "[[I", Cond.methodLink RX6 21 yX1_init, Cond.instanceMethod yX1_init, Cond.code yX1_init cX1_init 2 none, Cond.methodLink RX1 3 objectInit, Cond.classLink RX1 9 RX2, Cond.fieldLink RX1 11 "DiscArcs$History" "states" "[LDiscArcs$Photos;", Cond.instanceMethod yX4_init, Cond.code yX4_init cX4_init 1 none, Cond.methodLink RX4 3 objectInit, Cond.arrayClass .char, Cond.fieldLink RX4 9 "DiscArcs$Text" "characters" "[C", Cond.methodLink RX6 39 yX0_init, Cond.instanceMethod yX0_init]
def wsX6_init_r3 : List Cond := [Cond.code yX0_init cX0_init 2 none, Cond.methodLink RX0 3 objectInit, Cond.fieldLink RX0 9 "DiscArcs$Arc" "photos" "LDiscArcs$Photos;", Cond.methodLink RX6 48 yX5_init, Cond.instanceMethod yX5_init, Cond.code yX5_init cX5_init 3 none, Cond.methodLink RX5 3 objectInit, Cond.fieldLink RX5 9 "DiscArcs$Track" "rowsFrom" "[I", Cond.fieldLink RX5 15 "DiscArcs$Track" "endFrom" "[I", Cond.fieldLink RX5 18 "DiscArcs$Track" "photos" "LDiscArcs$Photos;", Cond.fieldLink RX5 22 "DiscArcs$Track" "curve" "LDiscArcs$Arc;", Cond.methodLink RX6 57 yX3_init, Cond.instanceMethod yX3_init, Cond.code yX3_init cX3_init 2 none, Cond.methodLink RX3 3 objectInit, Cond.fieldLink RX3 9 "DiscArcs$Spin" "photos" "LDiscArcs$Photos;"]
def wsX6_init : List Cond := .code yX6_init cX6_init 1 none :: ((wsX6_init_r1 ++ (wsX6_init_r2 ++ wsX6_init_r3)) ++ wsX20 ++ wsX60 ++ wsX10 ++ wsX40 ++ wsX00 ++ wsX50 ++ wsX30)
def wsX6_isWithin : List Cond := .code yX6_isWithin cX6_isWithin 3 (some .boolean) :: ([])
def wsX6_toldIsInRange : List Cond := .code yX6_toldIsInRange cX6_toldIsInRange 1 (some .boolean) :: ([.fieldLink RX6 33 "DiscArcs" "told" "[I", .methodLink RX6 86 yX6_isWithin, .static yX6_isWithin, .initialized RX6, .code yX6_isWithin cX6_isWithin 3 (some .boolean)] ++ wsX60)
def wsX6_addTold_r1 : List Cond := [Cond.fieldLink RX6 10 "DiscArcs" "photos" "LDiscArcs$Photos;", Cond.fieldLink RX6 33 "DiscArcs" "told" "[I", Cond.fieldLink RX6 118 "DiscArcs$Photos" "size" "I", Cond.fieldLink RX6 90 "DiscArcs$Photos" "rows" "[[I", Cond.fieldLink RX6 22 "DiscArcs" "history" "LDiscArcs$History;", Cond.methodLink RX6 234 yX2_numberAt, Cond.instanceMethod yX2_numberAt, Cond.selects RX2 yX2_numberAt yX2_numberAt, Cond.initialized RX2, Cond.code yX2_numberAt cX2_numberAt 3 (some .int), Cond.fieldLink RX2 22 "DiscArcs$Photos" "size" "I", Cond.fieldLink RX2 11 "DiscArcs$Photos" "rows" "[[I", Cond.methodLink RX6 94 yX1_record, Cond.instanceMethod yX1_record, Cond.selects RX1 yX1_record yX1_record, Cond.initialized RX1, Cond.code yX1_record cX1_record 2 none, Cond.fieldLink RX1 18 "DiscArcs$History" "size" "I", Cond.fieldLink RX1 11 "DiscArcs$History" "states" "[LDiscArcs$Photos;", Cond.methodLink RX1 22 yX1_dropOldest, Cond.instanceMethod yX1_dropOldest, Cond.selects RX1 yX1_dropOldest yX1_dropOldest, Cond.code yX1_dropOldest cX1_dropOldest 3 none, Cond.methodLink RX1 25 yX2_copyFrom]
def wsX6_addTold_r2 : List Cond := [Cond.instanceMethod yX2_copyFrom, Cond.selects RX2 yX2_copyFrom yX2_copyFrom, Cond.code yX2_copyFrom cX2_copyFrom 3 none, Cond.methodLink RX2 16 arraycopyName, Cond.native arraycopyName, Cond.static arraycopyName, Cond.initialized "java/lang/System", Cond.methodLink RX6 237 yX2_insert, Cond.instanceMethod yX2_insert, Cond.selects RX2 yX2_insert yX2_insert, Cond.code yX2_insert cX2_insert 4 none]
def wsX6_addTold : List Cond := .code yX6_addTold cX6_addTold 2 (some .int) :: ((wsX6_addTold_r1 ++ wsX6_addTold_r2) ++ wsX60 ++ wsX20 ++ wsX10)
def wsX6_addPhoto_r1 : List Cond := [Cond.fieldLink RX6 33 "DiscArcs" "told" "[I", Cond.methodLink RX6 62 yX6_toldIsInRange, Cond.instanceMethod yX6_toldIsInRange, Cond.selects RX6 yX6_toldIsInRange yX6_toldIsInRange, Cond.initialized RX6, Cond.code yX6_toldIsInRange cX6_toldIsInRange 1 (some .boolean), Cond.methodLink RX6 86 yX6_isWithin, Cond.static yX6_isWithin, Cond.code yX6_isWithin cX6_isWithin 3 (some .boolean), Cond.methodLink RX6 66 yX6_addTold, Cond.instanceMethod yX6_addTold, Cond.selects RX6 yX6_addTold yX6_addTold, Cond.code yX6_addTold cX6_addTold 2 (some .int), Cond.fieldLink RX6 10 "DiscArcs" "photos" "LDiscArcs$Photos;", Cond.fieldLink RX6 118 "DiscArcs$Photos" "size" "I", Cond.fieldLink RX6 90 "DiscArcs$Photos" "rows" "[[I", Cond.fieldLink RX6 22 "DiscArcs" "history" "LDiscArcs$History;", Cond.methodLink RX6 234 yX2_numberAt, Cond.instanceMethod yX2_numberAt, Cond.selects RX2 yX2_numberAt yX2_numberAt, Cond.initialized RX2, Cond.code yX2_numberAt cX2_numberAt 3 (some .int), Cond.fieldLink RX2 22 "DiscArcs$Photos" "size" "I", Cond.fieldLink RX2 11 "DiscArcs$Photos" "rows" "[[I"]
def wsX6_addPhoto_r2 : List Cond := [Cond.methodLink RX6 94 yX1_record, Cond.instanceMethod yX1_record, Cond.selects RX1 yX1_record yX1_record, Cond.initialized RX1, Cond.code yX1_record cX1_record 2 none, Cond.fieldLink RX1 18 "DiscArcs$History" "size" "I", Cond.fieldLink RX1 11 "DiscArcs$History" "states" "[LDiscArcs$Photos;", Cond.methodLink RX1 22 yX1_dropOldest, Cond.instanceMethod yX1_dropOldest, Cond.selects RX1 yX1_dropOldest yX1_dropOldest, Cond.code yX1_dropOldest cX1_dropOldest 3 none, Cond.methodLink RX1 25 yX2_copyFrom, Cond.instanceMethod yX2_copyFrom, Cond.selects RX2 yX2_copyFrom yX2_copyFrom, Cond.code yX2_copyFrom cX2_copyFrom 3 none, Cond.methodLink RX2 16 arraycopyName, Cond.native arraycopyName, Cond.static arraycopyName, Cond.initialized "java/lang/System", Cond.methodLink RX6 237 yX2_insert, Cond.instanceMethod yX2_insert, Cond.selects RX2 yX2_insert yX2_insert, Cond.code yX2_insert cX2_insert 4 none]
def wsX6_addPhoto : List Cond := .code yX6_addPhoto cX6_addPhoto 5 (some .int) :: ((wsX6_addPhoto_r1 ++ wsX6_addPhoto_r2) ++ wsX60 ++ wsX20 ++ wsX10)
def wsX6_readPhoto_r1 : List Cond := [Cond.fieldLink RX6 29 "DiscArcs" "text" "LDiscArcs$Text;", Cond.fieldLink RX6 33 "DiscArcs" "told" "[I", Cond.fieldLink RX6 74 "DiscArcs$Text" "position" "I", Cond.fieldLink RX6 78 "DiscArcs$Text" "tellsAngle" "Z", Cond.methodLink RX6 70 yX4_readInto, Cond.instanceMethod yX4_readInto, Cond.selects RX4 yX4_readInto yX4_readInto, Cond.initialized RX4, Cond.code yX4_readInto cX4_readInto 2 (some .boolean), Cond.fieldLink RX4 19 "DiscArcs$Text" "position" "I", Cond.fieldLink RX4 22 "DiscArcs$Text" "tellsAngle" "Z", Cond.fieldLink RX4 15 "DiscArcs$Text" "length" "I", Cond.methodLink RX4 26 yX4_readPlace, Cond.instanceMethod yX4_readPlace, Cond.selects RX4 yX4_readPlace yX4_readPlace, Cond.code yX4_readPlace cX4_readPlace 2 (some .boolean), Cond.methodLink RX4 34 yX4_readNumber, Cond.instanceMethod yX4_readNumber, Cond.selects RX4 yX4_readNumber yX4_readNumber, Cond.code yX4_readNumber cX4_readNumber 7 (some .boolean), Cond.fieldLink RX4 9 "DiscArcs$Text" "characters" "[C", Cond.methodLink RX4 30 yX4_pass, Cond.instanceMethod yX4_pass, Cond.selects RX4 yX4_pass yX4_pass]
def wsX6_readPhoto_r2 : List Cond := [Cond.code yX4_pass cX4_pass 2 (some .boolean), Cond.methodLink RX4 38 yX4_isDigit, Cond.instanceMethod yX4_isDigit, Cond.selects RX4 yX4_isDigit yX4_isDigit, Cond.code yX4_isDigit cX4_isDigit 1 (some .boolean), Cond.methodLink RX4 42 yX4_readDigit, Cond.instanceMethod yX4_readDigit, Cond.selects RX4 yX4_readDigit yX4_readDigit, Cond.code yX4_readDigit cX4_readDigit 2 (some .int), Cond.methodLink RX6 62 yX6_toldIsInRange, Cond.instanceMethod yX6_toldIsInRange, Cond.selects RX6 yX6_toldIsInRange yX6_toldIsInRange, Cond.initialized RX6, Cond.code yX6_toldIsInRange cX6_toldIsInRange 1 (some .boolean), Cond.methodLink RX6 86 yX6_isWithin, Cond.static yX6_isWithin, Cond.code yX6_isWithin cX6_isWithin 3 (some .boolean), Cond.methodLink RX6 66 yX6_addTold, Cond.instanceMethod yX6_addTold, Cond.selects RX6 yX6_addTold yX6_addTold, Cond.code yX6_addTold cX6_addTold 2 (some .int), Cond.fieldLink RX6 10 "DiscArcs" "photos" "LDiscArcs$Photos;", Cond.fieldLink RX6 118 "DiscArcs$Photos" "size" "I", Cond.fieldLink RX6 90 "DiscArcs$Photos" "rows" "[[I"]
def wsX6_readPhoto_r3 : List Cond := [Cond.fieldLink RX6 22 "DiscArcs" "history" "LDiscArcs$History;", Cond.methodLink RX6 234 yX2_numberAt, Cond.instanceMethod yX2_numberAt, Cond.selects RX2 yX2_numberAt yX2_numberAt, Cond.initialized RX2, Cond.code yX2_numberAt cX2_numberAt 3 (some .int), Cond.fieldLink RX2 22 "DiscArcs$Photos" "size" "I", Cond.fieldLink RX2 11 "DiscArcs$Photos" "rows" "[[I", Cond.methodLink RX6 94 yX1_record, Cond.instanceMethod yX1_record, Cond.selects RX1 yX1_record yX1_record, Cond.initialized RX1, Cond.code yX1_record cX1_record 2 none, Cond.fieldLink RX1 18 "DiscArcs$History" "size" "I", Cond.fieldLink RX1 11 "DiscArcs$History" "states" "[LDiscArcs$Photos;", Cond.methodLink RX1 22 yX1_dropOldest, Cond.instanceMethod yX1_dropOldest, Cond.selects RX1 yX1_dropOldest yX1_dropOldest, Cond.code yX1_dropOldest cX1_dropOldest 3 none, Cond.methodLink RX1 25 yX2_copyFrom, Cond.instanceMethod yX2_copyFrom, Cond.selects RX2 yX2_copyFrom yX2_copyFrom, Cond.code yX2_copyFrom cX2_copyFrom 3 none, Cond.methodLink RX2 16 arraycopyName]
def wsX6_readPhoto_r4 : List Cond := [Cond.native arraycopyName, Cond.static arraycopyName, Cond.initialized "java/lang/System", Cond.methodLink RX6 237 yX2_insert, Cond.instanceMethod yX2_insert, Cond.selects RX2 yX2_insert yX2_insert, Cond.code yX2_insert cX2_insert 4 none]
def wsX6_readPhoto : List Cond := .code yX6_readPhoto cX6_readPhoto 1 (some .int) :: ((wsX6_readPhoto_r1 ++ (wsX6_readPhoto_r2 ++ (wsX6_readPhoto_r3 ++ wsX6_readPhoto_r4))) ++ wsX60 ++ wsX40 ++ wsX20 ++ wsX10)
def wsX6_setAngle_r1 : List Cond := [Cond.fieldLink RX6 10 "DiscArcs" "photos" "LDiscArcs$Photos;", Cond.fieldLink RX6 90 "DiscArcs$Photos" "rows" "[[I", Cond.fieldLink RX6 22 "DiscArcs" "history" "LDiscArcs$History;", Cond.methodLink RX6 82 yX2_holds, Cond.instanceMethod yX2_holds, Cond.selects RX2 yX2_holds yX2_holds, Cond.initialized RX2, Cond.code yX2_holds cX2_holds 2 (some .boolean), Cond.fieldLink RX2 22 "DiscArcs$Photos" "size" "I", Cond.methodLink RX6 86 yX6_isWithin, Cond.static yX6_isWithin, Cond.initialized RX6, Cond.code yX6_isWithin cX6_isWithin 3 (some .boolean), Cond.methodLink RX6 94 yX1_record, Cond.instanceMethod yX1_record, Cond.selects RX1 yX1_record yX1_record, Cond.initialized RX1, Cond.code yX1_record cX1_record 2 none, Cond.fieldLink RX1 18 "DiscArcs$History" "size" "I", Cond.fieldLink RX1 11 "DiscArcs$History" "states" "[LDiscArcs$Photos;", Cond.methodLink RX1 22 yX1_dropOldest, Cond.instanceMethod yX1_dropOldest, Cond.selects RX1 yX1_dropOldest yX1_dropOldest, Cond.code yX1_dropOldest cX1_dropOldest 3 none]
def wsX6_setAngle_r2 : List Cond := [Cond.methodLink RX1 25 yX2_copyFrom, Cond.instanceMethod yX2_copyFrom, Cond.selects RX2 yX2_copyFrom yX2_copyFrom, Cond.code yX2_copyFrom cX2_copyFrom 3 none, Cond.fieldLink RX2 11 "DiscArcs$Photos" "rows" "[[I", Cond.methodLink RX2 16 arraycopyName, Cond.native arraycopyName, Cond.static arraycopyName, Cond.initialized "java/lang/System"]
def wsX6_setAngle : List Cond := .code yX6_setAngle cX6_setAngle 5 (some .int) :: ((wsX6_setAngle_r1 ++ wsX6_setAngle_r2) ++ wsX60 ++ wsX20 ++ wsX10)
def wsX6_missedByBest_r1 : List Cond := [Cond.fieldLink RX6 10 "DiscArcs" "photos" "LDiscArcs$Photos;", Cond.fieldLink RX6 42 "DiscArcs" "curve" "LDiscArcs$Arc;", Cond.methodLink RX6 109 yX2_usable, Cond.instanceMethod yX2_usable, Cond.selects RX2 yX2_usable yX2_usable, Cond.initialized RX2, Cond.code yX2_usable cX2_usable 3 (some .int), Cond.fieldLink RX2 22 "DiscArcs$Photos" "size" "I", Cond.methodLink RX2 26 yX2_isUsable, Cond.instanceMethod yX2_isUsable, Cond.selects RX2 yX2_isUsable yX2_isUsable, Cond.code yX2_isUsable cX2_isUsable 2 (some .boolean), Cond.fieldLink RX2 11 "DiscArcs$Photos" "rows" "[[I", Cond.methodLink RX6 112 yX0_layBest, Cond.instanceMethod yX0_layBest, Cond.selects RX0 yX0_layBest yX0_layBest, Cond.initialized RX0, Cond.code yX0_layBest cX0_layBest 9 (some .boolean), Cond.fieldLink RX0 9 "DiscArcs$Arc" "photos" "LDiscArcs$Photos;", Cond.fieldLink RX0 25 "DiscArcs$Photos" "size" "I", Cond.methodLink RX0 30 yX0_lay, Cond.instanceMethod yX0_lay, Cond.selects RX0 yX0_lay yX0_lay, Cond.code yX0_lay cX0_lay 4 none]
def wsX6_missedByBest_r2 : List Cond := [Cond.fieldLink RX0 15 "DiscArcs$Arc" "first" "I", Cond.fieldLink RX0 19 "DiscArcs$Arc" "second" "I", Cond.fieldLink RX0 22 "DiscArcs$Arc" "third" "I", Cond.methodLink RX0 34 yX0_missedOf, Cond.instanceMethod yX0_missedOf, Cond.selects RX0 yX0_missedOf yX0_missedOf, Cond.code yX0_missedOf cX0_missedOf 14 (some .int), Cond.fieldLink RX0 47 "DiscArcs$Photos" "rows" "[[I", Cond.methodLink RX0 63 Lib.MathLoose.abs_long.x, Cond.static Lib.MathLoose.abs_long.x, Cond.initialized "java/lang/Math", Cond.code Lib.MathLoose.abs_long.x Lib.MathLoose.abs_long.code 2 (some .long), Cond.methodLink RX0 51 yX0_lower, Cond.instanceMethod yX0_lower, Cond.selects RX0 yX0_lower yX0_lower, Cond.code yX0_lower cX0_lower 7 (some .long), Cond.static yX6_isIn, Cond.initialized RX6, Cond.code yX6_isIn cX6_isIn 2 (some .boolean), Cond.methodLink RX0 59 yX0_upper, Cond.instanceMethod yX0_upper, Cond.selects RX0 yX0_upper yX0_upper, Cond.code yX0_upper cX0_upper 11 (some .long), Cond.methodLink RX0 38 yJ6_bitCount_0f7a4]
def wsX6_missedByBest_r3 : List Cond := [Cond.static yJ6_bitCount_0f7a4, Cond.initialized RJ6, Cond.code yJ6_bitCount_0f7a4 cJ6_bitCount_0f7a4 1 (some .int), Cond.constant RJ6 265 (1431655765), Cond.constant RJ6 266 (858993459), Cond.constant RJ6 267 (252645135), Cond.methodLink RX0 43 yX0_layThrough, Cond.instanceMethod yX0_layThrough, Cond.selects RX0 yX0_layThrough yX0_layThrough, Cond.code yX0_layThrough cX0_layThrough 4 none, Cond.methodLink RX6 115 yX0_missedOf]
def wsX6_missedByBest : List Cond := .code yX6_missedByBest cX6_missedByBest 2 (some .int) :: ((wsX6_missedByBest_r1 ++ (wsX6_missedByBest_r2 ++ wsX6_missedByBest_r3)) ++ wsX60 ++ wsX20 ++ wsX00)
def wsX6_move_r1 : List Cond := [Cond.fieldLink RX6 10 "DiscArcs" "photos" "LDiscArcs$Photos;", Cond.fieldLink RX6 90 "DiscArcs$Photos" "rows" "[[I", Cond.fieldLink RX6 22 "DiscArcs" "history" "LDiscArcs$History;", Cond.methodLink RX6 82 yX2_holds, Cond.instanceMethod yX2_holds, Cond.selects RX2 yX2_holds yX2_holds, Cond.initialized RX2, Cond.code yX2_holds cX2_holds 2 (some .boolean), Cond.fieldLink RX2 22 "DiscArcs$Photos" "size" "I", Cond.methodLink RX6 86 yX6_isWithin, Cond.static yX6_isWithin, Cond.initialized RX6, Cond.code yX6_isWithin cX6_isWithin 3 (some .boolean), Cond.methodLink RX6 94 yX1_record, Cond.instanceMethod yX1_record, Cond.selects RX1 yX1_record yX1_record, Cond.initialized RX1, Cond.code yX1_record cX1_record 2 none, Cond.fieldLink RX1 18 "DiscArcs$History" "size" "I", Cond.fieldLink RX1 11 "DiscArcs$History" "states" "[LDiscArcs$Photos;", Cond.methodLink RX1 22 yX1_dropOldest, Cond.instanceMethod yX1_dropOldest, Cond.selects RX1 yX1_dropOldest yX1_dropOldest, Cond.code yX1_dropOldest cX1_dropOldest 3 none]
def wsX6_move_r2 : List Cond := [Cond.methodLink RX1 25 yX2_copyFrom, Cond.instanceMethod yX2_copyFrom, Cond.selects RX2 yX2_copyFrom yX2_copyFrom, Cond.code yX2_copyFrom cX2_copyFrom 3 none, Cond.fieldLink RX2 11 "DiscArcs$Photos" "rows" "[[I", Cond.methodLink RX2 16 arraycopyName, Cond.native arraycopyName, Cond.static arraycopyName, Cond.initialized "java/lang/System", Cond.methodLink RX6 97 yX6_missedByBest, Cond.instanceMethod yX6_missedByBest, Cond.selects RX6 yX6_missedByBest yX6_missedByBest, Cond.code yX6_missedByBest cX6_missedByBest 2 (some .int), Cond.fieldLink RX6 42 "DiscArcs" "curve" "LDiscArcs$Arc;", Cond.methodLink RX6 109 yX2_usable, Cond.instanceMethod yX2_usable, Cond.selects RX2 yX2_usable yX2_usable, Cond.code yX2_usable cX2_usable 3 (some .int), Cond.methodLink RX2 26 yX2_isUsable, Cond.instanceMethod yX2_isUsable, Cond.selects RX2 yX2_isUsable yX2_isUsable, Cond.code yX2_isUsable cX2_isUsable 2 (some .boolean), Cond.methodLink RX6 112 yX0_layBest, Cond.instanceMethod yX0_layBest]
def wsX6_move_r3 : List Cond := [Cond.selects RX0 yX0_layBest yX0_layBest, Cond.initialized RX0, Cond.code yX0_layBest cX0_layBest 9 (some .boolean), Cond.fieldLink RX0 9 "DiscArcs$Arc" "photos" "LDiscArcs$Photos;", Cond.fieldLink RX0 25 "DiscArcs$Photos" "size" "I", Cond.methodLink RX0 30 yX0_lay, Cond.instanceMethod yX0_lay, Cond.selects RX0 yX0_lay yX0_lay, Cond.code yX0_lay cX0_lay 4 none, Cond.fieldLink RX0 15 "DiscArcs$Arc" "first" "I", Cond.fieldLink RX0 19 "DiscArcs$Arc" "second" "I", Cond.fieldLink RX0 22 "DiscArcs$Arc" "third" "I", Cond.methodLink RX0 34 yX0_missedOf, Cond.instanceMethod yX0_missedOf, Cond.selects RX0 yX0_missedOf yX0_missedOf, Cond.code yX0_missedOf cX0_missedOf 14 (some .int), Cond.fieldLink RX0 47 "DiscArcs$Photos" "rows" "[[I", Cond.methodLink RX0 63 Lib.MathLoose.abs_long.x, Cond.static Lib.MathLoose.abs_long.x, Cond.initialized "java/lang/Math", Cond.code Lib.MathLoose.abs_long.x Lib.MathLoose.abs_long.code 2 (some .long), Cond.methodLink RX0 51 yX0_lower, Cond.instanceMethod yX0_lower, Cond.selects RX0 yX0_lower yX0_lower]
def wsX6_move_r4 : List Cond := [Cond.code yX0_lower cX0_lower 7 (some .long), Cond.static yX6_isIn, Cond.code yX6_isIn cX6_isIn 2 (some .boolean), Cond.methodLink RX0 59 yX0_upper, Cond.instanceMethod yX0_upper, Cond.selects RX0 yX0_upper yX0_upper, Cond.code yX0_upper cX0_upper 11 (some .long), Cond.methodLink RX0 38 yJ6_bitCount_0f7a4, Cond.static yJ6_bitCount_0f7a4, Cond.initialized RJ6, Cond.code yJ6_bitCount_0f7a4 cJ6_bitCount_0f7a4 1 (some .int), Cond.constant RJ6 265 (1431655765), Cond.constant RJ6 266 (858993459), Cond.constant RJ6 267 (252645135), Cond.methodLink RX0 43 yX0_layThrough, Cond.instanceMethod yX0_layThrough, Cond.selects RX0 yX0_layThrough yX0_layThrough, Cond.code yX0_layThrough cX0_layThrough 4 none, Cond.methodLink RX6 115 yX0_missedOf, Cond.methodLink RX6 100 yJ6_bitCount_0f7a4]
def wsX6_move : List Cond := .code yX6_move cX6_move 4 (some .int) :: ((wsX6_move_r1 ++ (wsX6_move_r2 ++ (wsX6_move_r3 ++ wsX6_move_r4))) ++ wsX60 ++ wsX20 ++ wsX10 ++ wsX00)
def wsX6_setAside_r1 : List Cond := [Cond.fieldLink RX6 10 "DiscArcs" "photos" "LDiscArcs$Photos;", Cond.fieldLink RX6 22 "DiscArcs" "history" "LDiscArcs$History;", Cond.fieldLink RX6 90 "DiscArcs$Photos" "rows" "[[I", Cond.methodLink RX6 82 yX2_holds, Cond.instanceMethod yX2_holds, Cond.selects RX2 yX2_holds yX2_holds, Cond.initialized RX2, Cond.code yX2_holds cX2_holds 2 (some .boolean), Cond.fieldLink RX2 22 "DiscArcs$Photos" "size" "I", Cond.methodLink RX6 106 yX2_isUsable, Cond.instanceMethod yX2_isUsable, Cond.selects RX2 yX2_isUsable yX2_isUsable, Cond.code yX2_isUsable cX2_isUsable 2 (some .boolean), Cond.fieldLink RX2 11 "DiscArcs$Photos" "rows" "[[I", Cond.methodLink RX6 94 yX1_record, Cond.instanceMethod yX1_record, Cond.selects RX1 yX1_record yX1_record, Cond.initialized RX1, Cond.code yX1_record cX1_record 2 none, Cond.fieldLink RX1 18 "DiscArcs$History" "size" "I", Cond.fieldLink RX1 11 "DiscArcs$History" "states" "[LDiscArcs$Photos;", Cond.methodLink RX1 22 yX1_dropOldest, Cond.instanceMethod yX1_dropOldest, Cond.selects RX1 yX1_dropOldest yX1_dropOldest]
def wsX6_setAside_r2 : List Cond := [Cond.code yX1_dropOldest cX1_dropOldest 3 none, Cond.methodLink RX1 25 yX2_copyFrom, Cond.instanceMethod yX2_copyFrom, Cond.selects RX2 yX2_copyFrom yX2_copyFrom, Cond.code yX2_copyFrom cX2_copyFrom 3 none, Cond.methodLink RX2 16 arraycopyName, Cond.native arraycopyName, Cond.static arraycopyName, Cond.initialized "java/lang/System", Cond.methodLink RX6 109 yX2_usable, Cond.instanceMethod yX2_usable, Cond.selects RX2 yX2_usable yX2_usable, Cond.code yX2_usable cX2_usable 3 (some .int), Cond.methodLink RX2 26 yX2_isUsable, Cond.methodLink RX6 100 yJ6_bitCount_0f7a4, Cond.static yJ6_bitCount_0f7a4, Cond.initialized RJ6, Cond.code yJ6_bitCount_0f7a4 cJ6_bitCount_0f7a4 1 (some .int), Cond.constant RJ6 265 (1431655765), Cond.constant RJ6 266 (858993459), Cond.constant RJ6 267 (252645135)]
def wsX6_setAside : List Cond := .code yX6_setAside cX6_setAside 3 (some .int) :: ((wsX6_setAside_r1 ++ wsX6_setAside_r2) ++ wsX60 ++ wsX20 ++ wsX10)
def wsX6_dropMissed_r1 : List Cond := [Cond.fieldLink RX6 10 "DiscArcs" "photos" "LDiscArcs$Photos;", Cond.fieldLink RX6 42 "DiscArcs" "curve" "LDiscArcs$Arc;", Cond.fieldLink RX6 22 "DiscArcs" "history" "LDiscArcs$History;", Cond.fieldLink RX6 118 "DiscArcs$Photos" "size" "I", Cond.fieldLink RX6 90 "DiscArcs$Photos" "rows" "[[I", Cond.methodLink RX6 109 yX2_usable, Cond.instanceMethod yX2_usable, Cond.selects RX2 yX2_usable yX2_usable, Cond.initialized RX2, Cond.code yX2_usable cX2_usable 3 (some .int), Cond.fieldLink RX2 22 "DiscArcs$Photos" "size" "I", Cond.methodLink RX2 26 yX2_isUsable, Cond.instanceMethod yX2_isUsable, Cond.selects RX2 yX2_isUsable yX2_isUsable, Cond.code yX2_isUsable cX2_isUsable 2 (some .boolean), Cond.fieldLink RX2 11 "DiscArcs$Photos" "rows" "[[I", Cond.methodLink RX6 112 yX0_layBest, Cond.instanceMethod yX0_layBest, Cond.selects RX0 yX0_layBest yX0_layBest, Cond.initialized RX0, Cond.code yX0_layBest cX0_layBest 9 (some .boolean), Cond.fieldLink RX0 9 "DiscArcs$Arc" "photos" "LDiscArcs$Photos;", Cond.fieldLink RX0 25 "DiscArcs$Photos" "size" "I", Cond.methodLink RX0 30 yX0_lay]
def wsX6_dropMissed_r2 : List Cond := [Cond.instanceMethod yX0_lay, Cond.selects RX0 yX0_lay yX0_lay, Cond.code yX0_lay cX0_lay 4 none, Cond.fieldLink RX0 15 "DiscArcs$Arc" "first" "I", Cond.fieldLink RX0 19 "DiscArcs$Arc" "second" "I", Cond.fieldLink RX0 22 "DiscArcs$Arc" "third" "I", Cond.methodLink RX0 34 yX0_missedOf, Cond.instanceMethod yX0_missedOf, Cond.selects RX0 yX0_missedOf yX0_missedOf, Cond.code yX0_missedOf cX0_missedOf 14 (some .int), Cond.fieldLink RX0 47 "DiscArcs$Photos" "rows" "[[I", Cond.methodLink RX0 63 Lib.MathLoose.abs_long.x, Cond.static Lib.MathLoose.abs_long.x, Cond.initialized "java/lang/Math", Cond.code Lib.MathLoose.abs_long.x Lib.MathLoose.abs_long.code 2 (some .long), Cond.methodLink RX0 51 yX0_lower, Cond.instanceMethod yX0_lower, Cond.selects RX0 yX0_lower yX0_lower, Cond.code yX0_lower cX0_lower 7 (some .long), Cond.static yX6_isIn, Cond.initialized RX6, Cond.code yX6_isIn cX6_isIn 2 (some .boolean), Cond.methodLink RX0 59 yX0_upper, Cond.instanceMethod yX0_upper]
def wsX6_dropMissed_r3 : List Cond := [Cond.selects RX0 yX0_upper yX0_upper, Cond.code yX0_upper cX0_upper 11 (some .long), Cond.methodLink RX0 38 yJ6_bitCount_0f7a4, Cond.static yJ6_bitCount_0f7a4, Cond.initialized RJ6, Cond.code yJ6_bitCount_0f7a4 cJ6_bitCount_0f7a4 1 (some .int), Cond.constant RJ6 265 (1431655765), Cond.constant RJ6 266 (858993459), Cond.constant RJ6 267 (252645135), Cond.methodLink RX0 43 yX0_layThrough, Cond.instanceMethod yX0_layThrough, Cond.selects RX0 yX0_layThrough yX0_layThrough, Cond.code yX0_layThrough cX0_layThrough 4 none, Cond.methodLink RX6 115 yX0_missedOf, Cond.methodLink RX6 94 yX1_record, Cond.instanceMethod yX1_record, Cond.selects RX1 yX1_record yX1_record, Cond.initialized RX1, Cond.code yX1_record cX1_record 2 none, Cond.fieldLink RX1 18 "DiscArcs$History" "size" "I", Cond.fieldLink RX1 11 "DiscArcs$History" "states" "[LDiscArcs$Photos;", Cond.methodLink RX1 22 yX1_dropOldest, Cond.instanceMethod yX1_dropOldest, Cond.selects RX1 yX1_dropOldest yX1_dropOldest]
def wsX6_dropMissed_r4 : List Cond := [Cond.code yX1_dropOldest cX1_dropOldest 3 none, Cond.methodLink RX1 25 yX2_copyFrom, Cond.instanceMethod yX2_copyFrom, Cond.selects RX2 yX2_copyFrom yX2_copyFrom, Cond.code yX2_copyFrom cX2_copyFrom 3 none, Cond.methodLink RX2 16 arraycopyName, Cond.native arraycopyName, Cond.static arraycopyName, Cond.initialized "java/lang/System", Cond.methodLink RX6 121 yX6_isIn, Cond.methodLink RX6 100 yJ6_bitCount_0f7a4]
def wsX6_dropMissed : List Cond := .code yX6_dropMissed cX6_dropMissed 4 (some .int) :: ((wsX6_dropMissed_r1 ++ (wsX6_dropMissed_r2 ++ (wsX6_dropMissed_r3 ++ wsX6_dropMissed_r4))) ++ wsX60 ++ wsX20 ++ wsX00 ++ wsX10)
def wsX6_remove_r1 : List Cond := [Cond.fieldLink RX6 10 "DiscArcs" "photos" "LDiscArcs$Photos;", Cond.fieldLink RX6 22 "DiscArcs" "history" "LDiscArcs$History;", Cond.fieldLink RX6 118 "DiscArcs$Photos" "size" "I", Cond.methodLink RX6 82 yX2_holds, Cond.instanceMethod yX2_holds, Cond.selects RX2 yX2_holds yX2_holds, Cond.initialized RX2, Cond.code yX2_holds cX2_holds 2 (some .boolean), Cond.fieldLink RX2 22 "DiscArcs$Photos" "size" "I", Cond.methodLink RX6 94 yX1_record, Cond.instanceMethod yX1_record, Cond.selects RX1 yX1_record yX1_record, Cond.initialized RX1, Cond.code yX1_record cX1_record 2 none, Cond.fieldLink RX1 18 "DiscArcs$History" "size" "I", Cond.fieldLink RX1 11 "DiscArcs$History" "states" "[LDiscArcs$Photos;", Cond.methodLink RX1 22 yX1_dropOldest, Cond.instanceMethod yX1_dropOldest, Cond.selects RX1 yX1_dropOldest yX1_dropOldest, Cond.code yX1_dropOldest cX1_dropOldest 3 none, Cond.methodLink RX1 25 yX2_copyFrom, Cond.instanceMethod yX2_copyFrom, Cond.selects RX2 yX2_copyFrom yX2_copyFrom, Cond.code yX2_copyFrom cX2_copyFrom 3 none]
def wsX6_remove_r2 : List Cond := [Cond.fieldLink RX2 11 "DiscArcs$Photos" "rows" "[[I", Cond.methodLink RX2 16 arraycopyName, Cond.native arraycopyName, Cond.static arraycopyName, Cond.initialized "java/lang/System", Cond.methodLink RX6 125 yX2_delete, Cond.instanceMethod yX2_delete, Cond.selects RX2 yX2_delete yX2_delete, Cond.code yX2_delete cX2_delete 3 none, Cond.methodLink RX2 36 yX2_holds]
def wsX6_remove : List Cond := .code yX6_remove cX6_remove 2 (some .int) :: ((wsX6_remove_r1 ++ wsX6_remove_r2) ++ wsX60 ++ wsX20 ++ wsX10)
def wsX6_type : List Cond := .code yX6_type cX6_type 2 (some .int) :: ([.fieldLink RX6 29 "DiscArcs" "text" "LDiscArcs$Text;", .fieldLink RX6 133 "DiscArcs$Text" "length" "I", .methodLink RX6 129 yX4_append, .instanceMethod yX4_append, .selects RX4 yX4_append yX4_append, .initialized RX4, .code yX4_append cX4_append 2 (some .boolean), .fieldLink RX4 15 "DiscArcs$Text" "length" "I", .fieldLink RX4 9 "DiscArcs$Text" "characters" "[C"] ++ wsX60 ++ wsX40)
def wsX6_clearText : List Cond := .code yX6_clearText cX6_clearText 2 (some .int) :: ([.fieldLink RX6 29 "DiscArcs" "text" "LDiscArcs$Text;", .fieldLink RX6 133 "DiscArcs$Text" "length" "I"] ++ wsX60 ++ wsX40)
def wsX6_undo : List Cond := .code yX6_undo cX6_undo 1 (some .int) :: ([.fieldLink RX6 22 "DiscArcs" "history" "LDiscArcs$History;", .fieldLink RX6 10 "DiscArcs" "photos" "LDiscArcs$Photos;", .fieldLink RX6 140 "DiscArcs$History" "size" "I", .methodLink RX6 136 yX1_takeBack, .instanceMethod yX1_takeBack, .selects RX1 yX1_takeBack yX1_takeBack, .initialized RX1, .code yX1_takeBack cX1_takeBack 2 (some .boolean), .fieldLink RX1 18 "DiscArcs$History" "size" "I", .fieldLink RX1 11 "DiscArcs$History" "states" "[LDiscArcs$Photos;", .methodLink RX1 25 yX2_copyFrom, .instanceMethod yX2_copyFrom, .selects RX2 yX2_copyFrom yX2_copyFrom, .initialized RX2, .code yX2_copyFrom cX2_copyFrom 3 none, .fieldLink RX2 11 "DiscArcs$Photos" "rows" "[[I", .methodLink RX2 16 arraycopyName, .native arraycopyName, .static arraycopyName, .initialized "java/lang/System", .fieldLink RX2 22 "DiscArcs$Photos" "size" "I"] ++ wsX60 ++ wsX10 ++ wsX20)
def wsX6_keep : List Cond := .code yX6_keep cX6_keep 1 (some .int) :: ([.fieldLink RX6 16 "DiscArcs" "snapshot" "LDiscArcs$Photos;", .fieldLink RX6 10 "DiscArcs" "photos" "LDiscArcs$Photos;", .fieldLink RX6 144 "DiscArcs" "hasSnapshot" "Z", .fieldLink RX6 118 "DiscArcs$Photos" "size" "I", .methodLink RX6 141 yX2_copyFrom, .instanceMethod yX2_copyFrom, .selects RX2 yX2_copyFrom yX2_copyFrom, .initialized RX2, .code yX2_copyFrom cX2_copyFrom 3 none, .fieldLink RX2 11 "DiscArcs$Photos" "rows" "[[I", .methodLink RX2 16 arraycopyName, .native arraycopyName, .static arraycopyName, .initialized "java/lang/System", .fieldLink RX2 22 "DiscArcs$Photos" "size" "I"] ++ wsX60 ++ wsX20)
def wsX6_restore_r1 : List Cond := [Cond.fieldLink RX6 144 "DiscArcs" "hasSnapshot" "Z", Cond.fieldLink RX6 22 "DiscArcs" "history" "LDiscArcs$History;", Cond.fieldLink RX6 10 "DiscArcs" "photos" "LDiscArcs$Photos;", Cond.fieldLink RX6 16 "DiscArcs" "snapshot" "LDiscArcs$Photos;", Cond.fieldLink RX6 118 "DiscArcs$Photos" "size" "I", Cond.methodLink RX6 94 yX1_record, Cond.instanceMethod yX1_record, Cond.selects RX1 yX1_record yX1_record, Cond.initialized RX1, Cond.code yX1_record cX1_record 2 none, Cond.fieldLink RX1 18 "DiscArcs$History" "size" "I", Cond.fieldLink RX1 11 "DiscArcs$History" "states" "[LDiscArcs$Photos;", Cond.methodLink RX1 22 yX1_dropOldest, Cond.instanceMethod yX1_dropOldest, Cond.selects RX1 yX1_dropOldest yX1_dropOldest, Cond.code yX1_dropOldest cX1_dropOldest 3 none, Cond.methodLink RX1 25 yX2_copyFrom, Cond.instanceMethod yX2_copyFrom, Cond.selects RX2 yX2_copyFrom yX2_copyFrom, Cond.initialized RX2, Cond.code yX2_copyFrom cX2_copyFrom 3 none, Cond.fieldLink RX2 11 "DiscArcs$Photos" "rows" "[[I", Cond.methodLink RX2 16 arraycopyName, Cond.native arraycopyName]
def wsX6_restore_r2 : List Cond := [Cond.static arraycopyName, Cond.initialized "java/lang/System", Cond.fieldLink RX2 22 "DiscArcs$Photos" "size" "I", Cond.methodLink RX6 141 yX2_copyFrom]
def wsX6_restore : List Cond := .code yX6_restore cX6_restore 1 (some .int) :: ((wsX6_restore_r1 ++ wsX6_restore_r2) ++ wsX60 ++ wsX20 ++ wsX10)
def wsX6_whetherSpinFits_r1 : List Cond := [Cond.fieldLink RX6 10 "DiscArcs" "photos" "LDiscArcs$Photos;", Cond.fieldLink RX6 58 "DiscArcs" "turning" "LDiscArcs$Spin;", Cond.fieldLink RX6 221 "DiscArcs$Spin" "fitted" "I", Cond.methodLink RX6 241 yX2_isMarked, Cond.instanceMethod yX2_isMarked, Cond.selects RX2 yX2_isMarked yX2_isMarked, Cond.initialized RX2, Cond.code yX2_isMarked cX2_isMarked 2 (some .boolean), Cond.methodLink RX2 26 yX2_isUsable, Cond.instanceMethod yX2_isUsable, Cond.selects RX2 yX2_isUsable yX2_isUsable, Cond.code yX2_isUsable cX2_isUsable 2 (some .boolean), Cond.fieldLink RX2 11 "DiscArcs$Photos" "rows" "[[I", Cond.methodLink RX2 30 yX2_hasAngle, Cond.instanceMethod yX2_hasAngle, Cond.selects RX2 yX2_hasAngle yX2_hasAngle, Cond.code yX2_hasAngle cX2_hasAngle 2 (some .boolean), Cond.methodLink RX6 212 yX3_search, Cond.instanceMethod yX3_search, Cond.selects RX3 yX3_search yX3_search, Cond.initialized RX3, Cond.code yX3_search cX3_search 3 (some .boolean), Cond.fieldLink RX3 50 "DiscArcs$Spin" "turn" "I", Cond.fieldLink RX3 53 "DiscArcs$Spin" "beginning" "I"]
def wsX6_whetherSpinFits_r2 : List Cond := [Cond.fieldLink RX3 56 "DiscArcs$Spin" "fitted" "I", Cond.fieldLink RX3 9 "DiscArcs$Spin" "photos" "LDiscArcs$Photos;", Cond.methodLink RX3 59 yX2_marked, Cond.instanceMethod yX2_marked, Cond.selects RX2 yX2_marked yX2_marked, Cond.code yX2_marked cX2_marked 3 (some .int), Cond.fieldLink RX2 22 "DiscArcs$Photos" "size" "I", Cond.methodLink RX2 33 yX2_isMarked, Cond.methodLink RX3 63 yX3_tryTurn, Cond.instanceMethod yX3_tryTurn, Cond.selects RX3 yX3_tryTurn yX3_tryTurn, Cond.code yX3_tryTurn cX3_tryTurn 5 none, Cond.fieldLink RX3 21 "DiscArcs$Photos" "size" "I", Cond.fieldLink RX3 35 "DiscArcs$Photos" "rows" "[[I", Cond.methodLink RX3 67 yX3_tryBeginning, Cond.instanceMethod yX3_tryBeginning, Cond.selects RX3 yX3_tryBeginning yX3_tryBeginning, Cond.code yX3_tryBeginning cX3_tryBeginning 6 none, Cond.methodLink RX3 71 yX3_fittedBy, Cond.instanceMethod yX3_fittedBy, Cond.selects RX3 yX3_fittedBy yX3_fittedBy, Cond.code yX3_fittedBy cX3_fittedBy 5 (some .int), Cond.methodLink RX3 27 yX2_isMarked, Cond.methodLink RX3 31 yX3_isNear]
def wsX6_whetherSpinFits_r3 : List Cond := [Cond.instanceMethod yX3_isNear, Cond.selects RX3 yX3_isNear yX3_isNear, Cond.code yX3_isNear cX3_isNear 6 (some .boolean), Cond.methodLink RX3 43 Lib.Math.abs.name, Cond.static Lib.Math.abs.name, Cond.initialized "java/lang/Math", Cond.code Lib.Math.abs.name Lib.Math.abs.code 1 (some .int), Cond.methodLink RX3 47 Lib.Math.min.name, Cond.static Lib.Math.min.name, Cond.code Lib.Math.min.name Lib.Math.min.code 2 (some .int), Cond.methodLink RX3 39 yX3_angleOf, Cond.static yX3_angleOf, Cond.code yX3_angleOf cX3_angleOf 3 (some .int), Cond.methodLink RX3 15 yJ9_floorMod_7cf53, Cond.static yJ9_floorMod_7cf53, Cond.initialized RJ9, Cond.code yJ9_floorMod_7cf53 cJ9_floorMod_7cf53 3 (some .int), Cond.methodLink RX3 74 yJ6_bitCount_0f7a4, Cond.static yJ6_bitCount_0f7a4, Cond.initialized RJ6, Cond.code yJ6_bitCount_0f7a4 cJ6_bitCount_0f7a4 1 (some .int), Cond.constant RJ6 265 (1431655765), Cond.constant RJ6 266 (858993459), Cond.constant RJ6 267 (252645135)]
def wsX6_whetherSpinFits_r4 : List Cond := [Cond.methodLink RX6 121 yX6_isIn, Cond.static yX6_isIn, Cond.initialized RX6, Cond.code yX6_isIn cX6_isIn 2 (some .boolean)]
def wsX6_whetherSpinFits : List Cond := .code yX6_whetherSpinFits cX6_whetherSpinFits 2 (some .int) :: ((wsX6_whetherSpinFits_r1 ++ (wsX6_whetherSpinFits_r2 ++ (wsX6_whetherSpinFits_r3 ++ wsX6_whetherSpinFits_r4))) ++ wsX60 ++ wsX30 ++ wsX20)
def wsX6_photo_r1 : List Cond := [Cond.fieldLink RX6 10 "DiscArcs" "photos" "LDiscArcs$Photos;", Cond.fieldLink RX6 90 "DiscArcs$Photos" "rows" "[[I", Cond.methodLink RX6 82 yX2_holds, Cond.instanceMethod yX2_holds, Cond.selects RX2 yX2_holds yX2_holds, Cond.initialized RX2, Cond.code yX2_holds cX2_holds 2 (some .boolean), Cond.fieldLink RX2 22 "DiscArcs$Photos" "size" "I", Cond.methodLink RX6 86 yX6_isWithin, Cond.static yX6_isWithin, Cond.initialized RX6, Cond.code yX6_isWithin cX6_isWithin 3 (some .boolean), Cond.methodLink RX6 147 yX6_whetherSpinFits, Cond.instanceMethod yX6_whetherSpinFits, Cond.selects RX6 yX6_whetherSpinFits yX6_whetherSpinFits, Cond.code yX6_whetherSpinFits cX6_whetherSpinFits 2 (some .int), Cond.fieldLink RX6 58 "DiscArcs" "turning" "LDiscArcs$Spin;", Cond.fieldLink RX6 221 "DiscArcs$Spin" "fitted" "I", Cond.methodLink RX6 241 yX2_isMarked, Cond.instanceMethod yX2_isMarked, Cond.selects RX2 yX2_isMarked yX2_isMarked, Cond.code yX2_isMarked cX2_isMarked 2 (some .boolean), Cond.methodLink RX2 26 yX2_isUsable, Cond.instanceMethod yX2_isUsable]
def wsX6_photo_r2 : List Cond := [Cond.selects RX2 yX2_isUsable yX2_isUsable, Cond.code yX2_isUsable cX2_isUsable 2 (some .boolean), Cond.fieldLink RX2 11 "DiscArcs$Photos" "rows" "[[I", Cond.methodLink RX2 30 yX2_hasAngle, Cond.instanceMethod yX2_hasAngle, Cond.selects RX2 yX2_hasAngle yX2_hasAngle, Cond.code yX2_hasAngle cX2_hasAngle 2 (some .boolean), Cond.methodLink RX6 212 yX3_search, Cond.instanceMethod yX3_search, Cond.selects RX3 yX3_search yX3_search, Cond.initialized RX3, Cond.code yX3_search cX3_search 3 (some .boolean), Cond.fieldLink RX3 50 "DiscArcs$Spin" "turn" "I", Cond.fieldLink RX3 53 "DiscArcs$Spin" "beginning" "I", Cond.fieldLink RX3 56 "DiscArcs$Spin" "fitted" "I", Cond.fieldLink RX3 9 "DiscArcs$Spin" "photos" "LDiscArcs$Photos;", Cond.methodLink RX3 59 yX2_marked, Cond.instanceMethod yX2_marked, Cond.selects RX2 yX2_marked yX2_marked, Cond.code yX2_marked cX2_marked 3 (some .int), Cond.methodLink RX2 33 yX2_isMarked, Cond.methodLink RX3 63 yX3_tryTurn, Cond.instanceMethod yX3_tryTurn, Cond.selects RX3 yX3_tryTurn yX3_tryTurn]
def wsX6_photo_r3 : List Cond := [Cond.code yX3_tryTurn cX3_tryTurn 5 none, Cond.fieldLink RX3 21 "DiscArcs$Photos" "size" "I", Cond.fieldLink RX3 35 "DiscArcs$Photos" "rows" "[[I", Cond.methodLink RX3 67 yX3_tryBeginning, Cond.instanceMethod yX3_tryBeginning, Cond.selects RX3 yX3_tryBeginning yX3_tryBeginning, Cond.code yX3_tryBeginning cX3_tryBeginning 6 none, Cond.methodLink RX3 71 yX3_fittedBy, Cond.instanceMethod yX3_fittedBy, Cond.selects RX3 yX3_fittedBy yX3_fittedBy, Cond.code yX3_fittedBy cX3_fittedBy 5 (some .int), Cond.methodLink RX3 27 yX2_isMarked, Cond.methodLink RX3 31 yX3_isNear, Cond.instanceMethod yX3_isNear, Cond.selects RX3 yX3_isNear yX3_isNear, Cond.code yX3_isNear cX3_isNear 6 (some .boolean), Cond.methodLink RX3 43 Lib.Math.abs.name, Cond.static Lib.Math.abs.name, Cond.initialized "java/lang/Math", Cond.code Lib.Math.abs.name Lib.Math.abs.code 1 (some .int), Cond.methodLink RX3 47 Lib.Math.min.name, Cond.static Lib.Math.min.name, Cond.code Lib.Math.min.name Lib.Math.min.code 2 (some .int), Cond.methodLink RX3 39 yX3_angleOf]
def wsX6_photo_r4 : List Cond := [Cond.static yX3_angleOf, Cond.code yX3_angleOf cX3_angleOf 3 (some .int), Cond.methodLink RX3 15 yJ9_floorMod_7cf53, Cond.static yJ9_floorMod_7cf53, Cond.initialized RJ9, Cond.code yJ9_floorMod_7cf53 cJ9_floorMod_7cf53 3 (some .int), Cond.methodLink RX3 74 yJ6_bitCount_0f7a4, Cond.static yJ6_bitCount_0f7a4, Cond.initialized RJ6, Cond.code yJ6_bitCount_0f7a4 cJ6_bitCount_0f7a4 1 (some .int), Cond.constant RJ6 265 (1431655765), Cond.constant RJ6 266 (858993459), Cond.constant RJ6 267 (252645135), Cond.methodLink RX6 121 yX6_isIn, Cond.static yX6_isIn, Cond.code yX6_isIn cX6_isIn 2 (some .boolean), Cond.methodLink RX6 150 yX2_hasAngle]
def wsX6_photo : List Cond := .code yX6_photo cX6_photo 4 (some .int) :: ((wsX6_photo_r1 ++ (wsX6_photo_r2 ++ (wsX6_photo_r3 ++ wsX6_photo_r4))) ++ wsX60 ++ wsX20 ++ wsX30)
def wsX6_areHeld : List Cond := .code yX6_areHeld cX6_areHeld 4 (some .boolean) :: ([.fieldLink RX6 10 "DiscArcs" "photos" "LDiscArcs$Photos;", .methodLink RX6 82 yX2_holds, .instanceMethod yX2_holds, .selects RX2 yX2_holds yX2_holds, .initialized RX2, .code yX2_holds cX2_holds 2 (some .boolean), .fieldLink RX2 22 "DiscArcs$Photos" "size" "I"] ++ wsX60 ++ wsX20)
def wsX6_areAnySame : List Cond := .code yX6_areAnySame cX6_areAnySame 3 (some .boolean) :: ([])
def wsX6_isAskForFraction : List Cond := .code yX6_isAskForFraction cX6_isAskForFraction 3 (some .boolean) :: ([.methodLink RX6 86 yX6_isWithin, .static yX6_isWithin, .initialized RX6, .code yX6_isWithin cX6_isWithin 3 (some .boolean)])
def wsX6_areUsable : List Cond := .code yX6_areUsable cX6_areUsable 4 (some .boolean) :: ([.fieldLink RX6 10 "DiscArcs" "photos" "LDiscArcs$Photos;", .methodLink RX6 106 yX2_isUsable, .instanceMethod yX2_isUsable, .selects RX2 yX2_isUsable yX2_isUsable, .initialized RX2, .code yX2_isUsable cX2_isUsable 2 (some .boolean), .fieldLink RX2 11 "DiscArcs$Photos" "rows" "[[I"] ++ wsX60 ++ wsX20)
def wsX6_layInOrder : List Cond := .code yX6_layInOrder cX6_layInOrder 6 none :: ([.methodLink RX6 244 Lib.Math.min.name, .static Lib.Math.min.name, .initialized "java/lang/Math", .code Lib.Math.min.name Lib.Math.min.code 2 (some .int), .methodLink RX6 249 Lib.Math.max.name, .static Lib.Math.max.name, .code Lib.Math.max.name Lib.Math.max.code 2 (some .int), .fieldLink RX6 42 "DiscArcs" "curve" "LDiscArcs$Arc;", .methodLink RX6 252 yX0_lay, .instanceMethod yX0_lay, .selects RX0 yX0_lay yX0_lay, .initialized RX0, .code yX0_lay cX0_lay 4 none, .fieldLink RX0 15 "DiscArcs$Arc" "first" "I", .fieldLink RX0 19 "DiscArcs$Arc" "second" "I", .fieldLink RX0 22 "DiscArcs$Arc" "third" "I"] ++ wsX60 ++ wsX00)
def wsX6_commonDivisor : List Cond := .code yX6_commonDivisor cX6_commonDivisor 11 (some .long) :: ([])
def wsX6_partOf : List Cond := .code yX6_partOf cX6_partOf 7 (some .long) :: ([.methodLink RX6 255 Lib.MathLoose.abs_long.x, .static Lib.MathLoose.abs_long.x, .initialized "java/lang/Math", .code Lib.MathLoose.abs_long.x Lib.MathLoose.abs_long.code 2 (some .long), .methodLink RX6 263 Lib.MathLoose.max_long.x, .static Lib.MathLoose.max_long.x, .code Lib.MathLoose.max_long.x Lib.MathLoose.max_long.code 4 (some .long), .constantLong RX6 265 (10000000000), .methodLink RX6 259 yX6_commonDivisor, .static yX6_commonDivisor, .initialized RX6, .code yX6_commonDivisor cX6_commonDivisor 11 (some .long)])
def wsX6_arc_r1 : List Cond := [Cond.constantLong RX6 156 (-1), Cond.constantLong RX6 164 (-2), Cond.constantLong RX6 169 (-4), Cond.fieldLink RX6 42 "DiscArcs" "curve" "LDiscArcs$Arc;", Cond.methodLink RX6 153 yX6_areHeld, Cond.instanceMethod yX6_areHeld, Cond.selects RX6 yX6_areHeld yX6_areHeld, Cond.initialized RX6, Cond.code yX6_areHeld cX6_areHeld 4 (some .boolean), Cond.fieldLink RX6 10 "DiscArcs" "photos" "LDiscArcs$Photos;", Cond.methodLink RX6 82 yX2_holds, Cond.instanceMethod yX2_holds, Cond.selects RX2 yX2_holds yX2_holds, Cond.initialized RX2, Cond.code yX2_holds cX2_holds 2 (some .boolean), Cond.fieldLink RX2 22 "DiscArcs$Photos" "size" "I", Cond.methodLink RX6 158 yX6_areAnySame, Cond.static yX6_areAnySame, Cond.code yX6_areAnySame cX6_areAnySame 3 (some .boolean), Cond.methodLink RX6 161 yX6_isAskForFraction, Cond.static yX6_isAskForFraction, Cond.code yX6_isAskForFraction cX6_isAskForFraction 3 (some .boolean), Cond.methodLink RX6 86 yX6_isWithin, Cond.static yX6_isWithin]
def wsX6_arc_r2 : List Cond := [Cond.code yX6_isWithin cX6_isWithin 3 (some .boolean), Cond.methodLink RX6 166 yX6_areUsable, Cond.instanceMethod yX6_areUsable, Cond.selects RX6 yX6_areUsable yX6_areUsable, Cond.code yX6_areUsable cX6_areUsable 4 (some .boolean), Cond.methodLink RX6 106 yX2_isUsable, Cond.instanceMethod yX2_isUsable, Cond.selects RX2 yX2_isUsable yX2_isUsable, Cond.code yX2_isUsable cX2_isUsable 2 (some .boolean), Cond.fieldLink RX2 11 "DiscArcs$Photos" "rows" "[[I", Cond.methodLink RX6 171 yX6_layInOrder, Cond.instanceMethod yX6_layInOrder, Cond.selects RX6 yX6_layInOrder yX6_layInOrder, Cond.code yX6_layInOrder cX6_layInOrder 6 none, Cond.methodLink RX6 244 Lib.Math.min.name, Cond.static Lib.Math.min.name, Cond.initialized "java/lang/Math", Cond.code Lib.Math.min.name Lib.Math.min.code 2 (some .int), Cond.methodLink RX6 249 Lib.Math.max.name, Cond.static Lib.Math.max.name, Cond.code Lib.Math.max.name Lib.Math.max.code 2 (some .int), Cond.methodLink RX6 252 yX0_lay, Cond.instanceMethod yX0_lay, Cond.selects RX0 yX0_lay yX0_lay]
def wsX6_arc_r3 : List Cond := [Cond.initialized RX0, Cond.code yX0_lay cX0_lay 4 none, Cond.fieldLink RX0 15 "DiscArcs$Arc" "first" "I", Cond.fieldLink RX0 19 "DiscArcs$Arc" "second" "I", Cond.fieldLink RX0 22 "DiscArcs$Arc" "third" "I", Cond.methodLink RX6 175 yX0_upper, Cond.instanceMethod yX0_upper, Cond.selects RX0 yX0_upper yX0_upper, Cond.code yX0_upper cX0_upper 11 (some .long), Cond.fieldLink RX0 9 "DiscArcs$Arc" "photos" "LDiscArcs$Photos;", Cond.fieldLink RX0 47 "DiscArcs$Photos" "rows" "[[I", Cond.methodLink RX6 179 yX0_lower, Cond.instanceMethod yX0_lower, Cond.selects RX0 yX0_lower yX0_lower, Cond.code yX0_lower cX0_lower 7 (some .long), Cond.methodLink RX6 183 yX6_partOf, Cond.static yX6_partOf, Cond.code yX6_partOf cX6_partOf 7 (some .long), Cond.methodLink RX6 255 Lib.MathLoose.abs_long.x, Cond.static Lib.MathLoose.abs_long.x, Cond.code Lib.MathLoose.abs_long.x Lib.MathLoose.abs_long.code 2 (some .long), Cond.methodLink RX6 263 Lib.MathLoose.max_long.x, Cond.static Lib.MathLoose.max_long.x, Cond.code Lib.MathLoose.max_long.x Lib.MathLoose.max_long.code 4 (some .long)]
def wsX6_arc_r4 : List Cond := [Cond.constantLong RX6 265 (10000000000), Cond.methodLink RX6 259 yX6_commonDivisor, Cond.static yX6_commonDivisor, Cond.code yX6_commonDivisor cX6_commonDivisor 11 (some .long)]
def wsX6_arc : List Cond := .code yX6_arc cX6_arc 7 (some .long) :: ((wsX6_arc_r1 ++ (wsX6_arc_r2 ++ (wsX6_arc_r3 ++ wsX6_arc_r4))) ++ wsX60 ++ wsX20 ++ wsX00)
def wsX6_hits_r1 : List Cond := [Cond.fieldLink RX6 10 "DiscArcs" "photos" "LDiscArcs$Photos;", Cond.fieldLink RX6 42 "DiscArcs" "curve" "LDiscArcs$Arc;", Cond.methodLink RX6 153 yX6_areHeld, Cond.instanceMethod yX6_areHeld, Cond.selects RX6 yX6_areHeld yX6_areHeld, Cond.initialized RX6, Cond.code yX6_areHeld cX6_areHeld 4 (some .boolean), Cond.methodLink RX6 82 yX2_holds, Cond.instanceMethod yX2_holds, Cond.selects RX2 yX2_holds yX2_holds, Cond.initialized RX2, Cond.code yX2_holds cX2_holds 2 (some .boolean), Cond.fieldLink RX2 22 "DiscArcs$Photos" "size" "I", Cond.methodLink RX6 158 yX6_areAnySame, Cond.static yX6_areAnySame, Cond.code yX6_areAnySame cX6_areAnySame 3 (some .boolean), Cond.methodLink RX6 166 yX6_areUsable, Cond.instanceMethod yX6_areUsable, Cond.selects RX6 yX6_areUsable yX6_areUsable, Cond.code yX6_areUsable cX6_areUsable 4 (some .boolean), Cond.methodLink RX6 106 yX2_isUsable, Cond.instanceMethod yX2_isUsable, Cond.selects RX2 yX2_isUsable yX2_isUsable, Cond.code yX2_isUsable cX2_isUsable 2 (some .boolean)]
def wsX6_hits_r2 : List Cond := [Cond.fieldLink RX2 11 "DiscArcs$Photos" "rows" "[[I", Cond.methodLink RX6 171 yX6_layInOrder, Cond.instanceMethod yX6_layInOrder, Cond.selects RX6 yX6_layInOrder yX6_layInOrder, Cond.code yX6_layInOrder cX6_layInOrder 6 none, Cond.methodLink RX6 244 Lib.Math.min.name, Cond.static Lib.Math.min.name, Cond.initialized "java/lang/Math", Cond.code Lib.Math.min.name Lib.Math.min.code 2 (some .int), Cond.methodLink RX6 249 Lib.Math.max.name, Cond.static Lib.Math.max.name, Cond.code Lib.Math.max.name Lib.Math.max.code 2 (some .int), Cond.methodLink RX6 252 yX0_lay, Cond.instanceMethod yX0_lay, Cond.selects RX0 yX0_lay yX0_lay, Cond.initialized RX0, Cond.code yX0_lay cX0_lay 4 none, Cond.fieldLink RX0 15 "DiscArcs$Arc" "first" "I", Cond.fieldLink RX0 19 "DiscArcs$Arc" "second" "I", Cond.fieldLink RX0 22 "DiscArcs$Arc" "third" "I", Cond.methodLink RX6 109 yX2_usable, Cond.instanceMethod yX2_usable, Cond.selects RX2 yX2_usable yX2_usable, Cond.code yX2_usable cX2_usable 3 (some .int)]
def wsX6_hits_r3 : List Cond := [Cond.methodLink RX2 26 yX2_isUsable, Cond.methodLink RX6 115 yX0_missedOf, Cond.instanceMethod yX0_missedOf, Cond.selects RX0 yX0_missedOf yX0_missedOf, Cond.code yX0_missedOf cX0_missedOf 14 (some .int), Cond.fieldLink RX0 9 "DiscArcs$Arc" "photos" "LDiscArcs$Photos;", Cond.fieldLink RX0 25 "DiscArcs$Photos" "size" "I", Cond.fieldLink RX0 47 "DiscArcs$Photos" "rows" "[[I", Cond.methodLink RX0 63 Lib.MathLoose.abs_long.x, Cond.static Lib.MathLoose.abs_long.x, Cond.code Lib.MathLoose.abs_long.x Lib.MathLoose.abs_long.code 2 (some .long), Cond.methodLink RX0 51 yX0_lower, Cond.instanceMethod yX0_lower, Cond.selects RX0 yX0_lower yX0_lower, Cond.code yX0_lower cX0_lower 7 (some .long), Cond.static yX6_isIn, Cond.code yX6_isIn cX6_isIn 2 (some .boolean), Cond.methodLink RX0 59 yX0_upper, Cond.instanceMethod yX0_upper, Cond.selects RX0 yX0_upper yX0_upper, Cond.code yX0_upper cX0_upper 11 (some .long)]
def wsX6_hits : List Cond := .code yX6_hits cX6_hits 5 (some .int) :: ((wsX6_hits_r1 ++ (wsX6_hits_r2 ++ wsX6_hits_r3)) ++ wsX60 ++ wsX20 ++ wsX00)
def wsX6_best_r1 : List Cond := [Cond.fieldLink RX6 10 "DiscArcs" "photos" "LDiscArcs$Photos;", Cond.fieldLink RX6 42 "DiscArcs" "curve" "LDiscArcs$Arc;", Cond.methodLink RX6 86 yX6_isWithin, Cond.static yX6_isWithin, Cond.initialized RX6, Cond.code yX6_isWithin cX6_isWithin 3 (some .boolean), Cond.methodLink RX6 109 yX2_usable, Cond.instanceMethod yX2_usable, Cond.selects RX2 yX2_usable yX2_usable, Cond.initialized RX2, Cond.code yX2_usable cX2_usable 3 (some .int), Cond.fieldLink RX2 22 "DiscArcs$Photos" "size" "I", Cond.methodLink RX2 26 yX2_isUsable, Cond.instanceMethod yX2_isUsable, Cond.selects RX2 yX2_isUsable yX2_isUsable, Cond.code yX2_isUsable cX2_isUsable 2 (some .boolean), Cond.fieldLink RX2 11 "DiscArcs$Photos" "rows" "[[I", Cond.methodLink RX6 112 yX0_layBest, Cond.instanceMethod yX0_layBest, Cond.selects RX0 yX0_layBest yX0_layBest, Cond.initialized RX0, Cond.code yX0_layBest cX0_layBest 9 (some .boolean), Cond.fieldLink RX0 9 "DiscArcs$Arc" "photos" "LDiscArcs$Photos;", Cond.fieldLink RX0 25 "DiscArcs$Photos" "size" "I"]
def wsX6_best_r2 : List Cond := [Cond.methodLink RX0 30 yX0_lay, Cond.instanceMethod yX0_lay, Cond.selects RX0 yX0_lay yX0_lay, Cond.code yX0_lay cX0_lay 4 none, Cond.fieldLink RX0 15 "DiscArcs$Arc" "first" "I", Cond.fieldLink RX0 19 "DiscArcs$Arc" "second" "I", Cond.fieldLink RX0 22 "DiscArcs$Arc" "third" "I", Cond.methodLink RX0 34 yX0_missedOf, Cond.instanceMethod yX0_missedOf, Cond.selects RX0 yX0_missedOf yX0_missedOf, Cond.code yX0_missedOf cX0_missedOf 14 (some .int), Cond.fieldLink RX0 47 "DiscArcs$Photos" "rows" "[[I", Cond.methodLink RX0 63 Lib.MathLoose.abs_long.x, Cond.static Lib.MathLoose.abs_long.x, Cond.initialized "java/lang/Math", Cond.code Lib.MathLoose.abs_long.x Lib.MathLoose.abs_long.code 2 (some .long), Cond.methodLink RX0 51 yX0_lower, Cond.instanceMethod yX0_lower, Cond.selects RX0 yX0_lower yX0_lower, Cond.code yX0_lower cX0_lower 7 (some .long), Cond.static yX6_isIn, Cond.code yX6_isIn cX6_isIn 2 (some .boolean), Cond.methodLink RX0 59 yX0_upper, Cond.instanceMethod yX0_upper]
def wsX6_best_r3 : List Cond := [Cond.selects RX0 yX0_upper yX0_upper, Cond.code yX0_upper cX0_upper 11 (some .long), Cond.methodLink RX0 38 yJ6_bitCount_0f7a4, Cond.static yJ6_bitCount_0f7a4, Cond.initialized RJ6, Cond.code yJ6_bitCount_0f7a4 cJ6_bitCount_0f7a4 1 (some .int), Cond.constant RJ6 265 (1431655765), Cond.constant RJ6 266 (858993459), Cond.constant RJ6 267 (252645135), Cond.methodLink RX0 43 yX0_layThrough, Cond.instanceMethod yX0_layThrough, Cond.selects RX0 yX0_layThrough yX0_layThrough, Cond.code yX0_layThrough cX0_layThrough 4 none, Cond.methodLink RX6 115 yX0_missedOf, Cond.methodLink RX6 100 yJ6_bitCount_0f7a4, Cond.methodLink RX6 187 yX0_photoOf, Cond.instanceMethod yX0_photoOf, Cond.selects RX0 yX0_photoOf yX0_photoOf, Cond.code yX0_photoOf cX0_photoOf 2 (some .int)]
def wsX6_best : List Cond := .code yX6_best cX6_best 3 (some .int) :: ((wsX6_best_r1 ++ (wsX6_best_r2 ++ wsX6_best_r3)) ++ wsX60 ++ wsX20 ++ wsX00)
def wsX6_bestAt_r1 : List Cond := [Cond.constantLong RX6 164 (-2), Cond.fieldLink RX6 42 "DiscArcs" "curve" "LDiscArcs$Arc;", Cond.fieldLink RX6 10 "DiscArcs" "photos" "LDiscArcs$Photos;", Cond.constantLong RX6 169 (-4), Cond.methodLink RX6 161 yX6_isAskForFraction, Cond.static yX6_isAskForFraction, Cond.initialized RX6, Cond.code yX6_isAskForFraction cX6_isAskForFraction 3 (some .boolean), Cond.methodLink RX6 86 yX6_isWithin, Cond.static yX6_isWithin, Cond.code yX6_isWithin cX6_isWithin 3 (some .boolean), Cond.methodLink RX6 109 yX2_usable, Cond.instanceMethod yX2_usable, Cond.selects RX2 yX2_usable yX2_usable, Cond.initialized RX2, Cond.code yX2_usable cX2_usable 3 (some .int), Cond.fieldLink RX2 22 "DiscArcs$Photos" "size" "I", Cond.methodLink RX2 26 yX2_isUsable, Cond.instanceMethod yX2_isUsable, Cond.selects RX2 yX2_isUsable yX2_isUsable, Cond.code yX2_isUsable cX2_isUsable 2 (some .boolean), Cond.fieldLink RX2 11 "DiscArcs$Photos" "rows" "[[I", Cond.methodLink RX6 112 yX0_layBest, Cond.instanceMethod yX0_layBest]
def wsX6_bestAt_r2 : List Cond := [Cond.selects RX0 yX0_layBest yX0_layBest, Cond.initialized RX0, Cond.code yX0_layBest cX0_layBest 9 (some .boolean), Cond.fieldLink RX0 9 "DiscArcs$Arc" "photos" "LDiscArcs$Photos;", Cond.fieldLink RX0 25 "DiscArcs$Photos" "size" "I", Cond.methodLink RX0 30 yX0_lay, Cond.instanceMethod yX0_lay, Cond.selects RX0 yX0_lay yX0_lay, Cond.code yX0_lay cX0_lay 4 none, Cond.fieldLink RX0 15 "DiscArcs$Arc" "first" "I", Cond.fieldLink RX0 19 "DiscArcs$Arc" "second" "I", Cond.fieldLink RX0 22 "DiscArcs$Arc" "third" "I", Cond.methodLink RX0 34 yX0_missedOf, Cond.instanceMethod yX0_missedOf, Cond.selects RX0 yX0_missedOf yX0_missedOf, Cond.code yX0_missedOf cX0_missedOf 14 (some .int), Cond.fieldLink RX0 47 "DiscArcs$Photos" "rows" "[[I", Cond.methodLink RX0 63 Lib.MathLoose.abs_long.x, Cond.static Lib.MathLoose.abs_long.x, Cond.initialized "java/lang/Math", Cond.code Lib.MathLoose.abs_long.x Lib.MathLoose.abs_long.code 2 (some .long), Cond.methodLink RX0 51 yX0_lower, Cond.instanceMethod yX0_lower, Cond.selects RX0 yX0_lower yX0_lower]
def wsX6_bestAt_r3 : List Cond := [Cond.code yX0_lower cX0_lower 7 (some .long), Cond.static yX6_isIn, Cond.code yX6_isIn cX6_isIn 2 (some .boolean), Cond.methodLink RX0 59 yX0_upper, Cond.instanceMethod yX0_upper, Cond.selects RX0 yX0_upper yX0_upper, Cond.code yX0_upper cX0_upper 11 (some .long), Cond.methodLink RX0 38 yJ6_bitCount_0f7a4, Cond.static yJ6_bitCount_0f7a4, Cond.initialized RJ6, Cond.code yJ6_bitCount_0f7a4 cJ6_bitCount_0f7a4 1 (some .int), Cond.constant RJ6 265 (1431655765), Cond.constant RJ6 266 (858993459), Cond.constant RJ6 267 (252645135), Cond.methodLink RX0 43 yX0_layThrough, Cond.instanceMethod yX0_layThrough, Cond.selects RX0 yX0_layThrough yX0_layThrough, Cond.code yX0_layThrough cX0_layThrough 4 none, Cond.methodLink RX6 175 yX0_upper, Cond.methodLink RX6 179 yX0_lower, Cond.methodLink RX6 183 yX6_partOf, Cond.static yX6_partOf, Cond.code yX6_partOf cX6_partOf 7 (some .long), Cond.methodLink RX6 255 Lib.MathLoose.abs_long.x]
def wsX6_bestAt_r4 : List Cond := [Cond.methodLink RX6 263 Lib.MathLoose.max_long.x, Cond.static Lib.MathLoose.max_long.x, Cond.code Lib.MathLoose.max_long.x Lib.MathLoose.max_long.code 4 (some .long), Cond.constantLong RX6 265 (10000000000), Cond.methodLink RX6 259 yX6_commonDivisor, Cond.static yX6_commonDivisor, Cond.code yX6_commonDivisor cX6_commonDivisor 11 (some .long)]
def wsX6_bestAt : List Cond := .code yX6_bestAt cX6_bestAt 4 (some .long) :: ((wsX6_bestAt_r1 ++ (wsX6_bestAt_r2 ++ (wsX6_bestAt_r3 ++ wsX6_bestAt_r4))) ++ wsX60 ++ wsX20 ++ wsX00)
def wsX6_lands_r1 : List Cond := [Cond.fieldLink RX6 42 "DiscArcs" "curve" "LDiscArcs$Arc;", Cond.fieldLink RX6 10 "DiscArcs" "photos" "LDiscArcs$Photos;", Cond.fieldLink RX6 90 "DiscArcs$Photos" "rows" "[[I", Cond.fieldLink RX6 190 "DiscArcs$Arc" "first" "I", Cond.methodLink RX6 109 yX2_usable, Cond.instanceMethod yX2_usable, Cond.selects RX2 yX2_usable yX2_usable, Cond.initialized RX2, Cond.code yX2_usable cX2_usable 3 (some .int), Cond.fieldLink RX2 22 "DiscArcs$Photos" "size" "I", Cond.methodLink RX2 26 yX2_isUsable, Cond.instanceMethod yX2_isUsable, Cond.selects RX2 yX2_isUsable yX2_isUsable, Cond.code yX2_isUsable cX2_isUsable 2 (some .boolean), Cond.fieldLink RX2 11 "DiscArcs$Photos" "rows" "[[I", Cond.methodLink RX6 112 yX0_layBest, Cond.instanceMethod yX0_layBest, Cond.selects RX0 yX0_layBest yX0_layBest, Cond.initialized RX0, Cond.code yX0_layBest cX0_layBest 9 (some .boolean), Cond.fieldLink RX0 9 "DiscArcs$Arc" "photos" "LDiscArcs$Photos;", Cond.fieldLink RX0 25 "DiscArcs$Photos" "size" "I", Cond.methodLink RX0 30 yX0_lay, Cond.instanceMethod yX0_lay]
def wsX6_lands_r2 : List Cond := [Cond.selects RX0 yX0_lay yX0_lay, Cond.code yX0_lay cX0_lay 4 none, Cond.fieldLink RX0 15 "DiscArcs$Arc" "first" "I", Cond.fieldLink RX0 19 "DiscArcs$Arc" "second" "I", Cond.fieldLink RX0 22 "DiscArcs$Arc" "third" "I", Cond.methodLink RX0 34 yX0_missedOf, Cond.instanceMethod yX0_missedOf, Cond.selects RX0 yX0_missedOf yX0_missedOf, Cond.code yX0_missedOf cX0_missedOf 14 (some .int), Cond.fieldLink RX0 47 "DiscArcs$Photos" "rows" "[[I", Cond.methodLink RX0 63 Lib.MathLoose.abs_long.x, Cond.static Lib.MathLoose.abs_long.x, Cond.initialized "java/lang/Math", Cond.code Lib.MathLoose.abs_long.x Lib.MathLoose.abs_long.code 2 (some .long), Cond.methodLink RX0 51 yX0_lower, Cond.instanceMethod yX0_lower, Cond.selects RX0 yX0_lower yX0_lower, Cond.code yX0_lower cX0_lower 7 (some .long), Cond.static yX6_isIn, Cond.initialized RX6, Cond.code yX6_isIn cX6_isIn 2 (some .boolean), Cond.methodLink RX0 59 yX0_upper, Cond.instanceMethod yX0_upper, Cond.selects RX0 yX0_upper yX0_upper]
def wsX6_lands_r3 : List Cond := [Cond.code yX0_upper cX0_upper 11 (some .long), Cond.methodLink RX0 38 yJ6_bitCount_0f7a4, Cond.static yJ6_bitCount_0f7a4, Cond.initialized RJ6, Cond.code yJ6_bitCount_0f7a4 cJ6_bitCount_0f7a4 1 (some .int), Cond.constant RJ6 265 (1431655765), Cond.constant RJ6 266 (858993459), Cond.constant RJ6 267 (252645135), Cond.methodLink RX0 43 yX0_layThrough, Cond.instanceMethod yX0_layThrough, Cond.selects RX0 yX0_layThrough yX0_layThrough, Cond.code yX0_layThrough cX0_layThrough 4 none, Cond.methodLink RX6 175 yX0_upper]
def wsX6_lands : List Cond := .code yX6_lands cX6_lands 2 (some .int) :: ((wsX6_lands_r1 ++ (wsX6_lands_r2 ++ wsX6_lands_r3)) ++ wsX60 ++ wsX20 ++ wsX00)
def wsJ6_numberOfTrailingZeros_0f7a4 : List Cond := .code yJ6_numberOfTrailingZeros_0f7a4 cJ6_numberOfTrailingZeros_0f7a4 2 (some .int) :: ([.constant RJ6 264 (65536)])
def wsJ6_numberOfLeadingZeros_0f7a4 : List Cond := .code yJ6_numberOfLeadingZeros_0f7a4 cJ6_numberOfLeadingZeros_0f7a4 2 (some .int) :: ([.constant RJ6 264 (65536)])
def wsX6_track_r1 : List Cond := [Cond.fieldLink RX6 51 "DiscArcs" "parting" "LDiscArcs$Track;", Cond.fieldLink RX6 42 "DiscArcs" "curve" "LDiscArcs$Arc;", Cond.methodLink RX6 86 yX6_isWithin, Cond.static yX6_isWithin, Cond.initialized RX6, Cond.code yX6_isWithin cX6_isWithin 3 (some .boolean), Cond.methodLink RX6 193 yX5_plan, Cond.instanceMethod yX5_plan, Cond.selects RX5 yX5_plan yX5_plan, Cond.initialized RX5, Cond.code yX5_plan cX5_plan 2 (some .int), Cond.fieldLink RX5 9 "DiscArcs$Track" "rowsFrom" "[I", Cond.fieldLink RX5 18 "DiscArcs$Track" "photos" "LDiscArcs$Photos;", Cond.fieldLink RX5 42 "DiscArcs$Photos" "size" "I", Cond.fieldLink RX5 15 "DiscArcs$Track" "endFrom" "[I", Cond.methodLink RX5 46 yX2_isUsable, Cond.instanceMethod yX2_isUsable, Cond.selects RX2 yX2_isUsable yX2_isUsable, Cond.initialized RX2, Cond.code yX2_isUsable cX2_isUsable 2 (some .boolean), Cond.fieldLink RX2 11 "DiscArcs$Photos" "rows" "[[I", Cond.methodLink RX5 49 yX5_planFrom, Cond.instanceMethod yX5_planFrom, Cond.selects RX5 yX5_planFrom yX5_planFrom]
def wsX6_track_r2 : List Cond := [Cond.code yX5_planFrom cX5_planFrom 3 none, Cond.methodLink RX5 53 yX5_between, Cond.instanceMethod yX5_between, Cond.selects RX5 yX5_between yX5_between, Cond.code yX5_between cX5_between 3 (some .int), Cond.methodLink RX5 26 yX2_usable, Cond.instanceMethod yX2_usable, Cond.selects RX2 yX2_usable yX2_usable, Cond.code yX2_usable cX2_usable 3 (some .int), Cond.fieldLink RX2 22 "DiscArcs$Photos" "size" "I", Cond.methodLink RX2 26 yX2_isUsable, Cond.methodLink RX5 57 yX5_isFitting, Cond.instanceMethod yX5_isFitting, Cond.selects RX5 yX5_isFitting yX5_isFitting, Cond.code yX5_isFitting cX5_isFitting 2 (some .boolean), Cond.fieldLink RX5 22 "DiscArcs$Track" "curve" "LDiscArcs$Arc;", Cond.methodLink RX5 32 yX0_layBest, Cond.instanceMethod yX0_layBest, Cond.selects RX0 yX0_layBest yX0_layBest, Cond.initialized RX0, Cond.code yX0_layBest cX0_layBest 9 (some .boolean), Cond.fieldLink RX0 9 "DiscArcs$Arc" "photos" "LDiscArcs$Photos;", Cond.fieldLink RX0 25 "DiscArcs$Photos" "size" "I", Cond.methodLink RX0 30 yX0_lay]
def wsX6_track_r3 : List Cond := [Cond.instanceMethod yX0_lay, Cond.selects RX0 yX0_lay yX0_lay, Cond.code yX0_lay cX0_lay 4 none, Cond.fieldLink RX0 15 "DiscArcs$Arc" "first" "I", Cond.fieldLink RX0 19 "DiscArcs$Arc" "second" "I", Cond.fieldLink RX0 22 "DiscArcs$Arc" "third" "I", Cond.methodLink RX0 34 yX0_missedOf, Cond.instanceMethod yX0_missedOf, Cond.selects RX0 yX0_missedOf yX0_missedOf, Cond.code yX0_missedOf cX0_missedOf 14 (some .int), Cond.fieldLink RX0 47 "DiscArcs$Photos" "rows" "[[I", Cond.methodLink RX0 63 Lib.MathLoose.abs_long.x, Cond.static Lib.MathLoose.abs_long.x, Cond.initialized "java/lang/Math", Cond.code Lib.MathLoose.abs_long.x Lib.MathLoose.abs_long.code 2 (some .long), Cond.methodLink RX0 51 yX0_lower, Cond.instanceMethod yX0_lower, Cond.selects RX0 yX0_lower yX0_lower, Cond.code yX0_lower cX0_lower 7 (some .long), Cond.static yX6_isIn, Cond.code yX6_isIn cX6_isIn 2 (some .boolean), Cond.methodLink RX0 59 yX0_upper, Cond.instanceMethod yX0_upper, Cond.selects RX0 yX0_upper yX0_upper]
def wsX6_track_r4 : List Cond := [Cond.code yX0_upper cX0_upper 11 (some .long), Cond.methodLink RX0 38 yJ6_bitCount_0f7a4, Cond.static yJ6_bitCount_0f7a4, Cond.initialized RJ6, Cond.code yJ6_bitCount_0f7a4 cJ6_bitCount_0f7a4 1 (some .int), Cond.constant RJ6 265 (1431655765), Cond.constant RJ6 266 (858993459), Cond.constant RJ6 267 (252645135), Cond.methodLink RX0 43 yX0_layThrough, Cond.instanceMethod yX0_layThrough, Cond.selects RX0 yX0_layThrough yX0_layThrough, Cond.code yX0_layThrough cX0_layThrough 4 none, Cond.methodLink RX5 38 yX0_missedOf, Cond.methodLink RX6 196 yX5_rowAt, Cond.instanceMethod yX5_rowAt, Cond.selects RX5 yX5_rowAt yX5_rowAt, Cond.code yX5_rowAt cX5_rowAt 4 (some .int), Cond.methodLink RX6 199 yJ6_numberOfTrailingZeros_0f7a4, Cond.static yJ6_numberOfTrailingZeros_0f7a4, Cond.code yJ6_numberOfTrailingZeros_0f7a4 cJ6_numberOfTrailingZeros_0f7a4 2 (some .int), Cond.constant RJ6 264 (65536), Cond.methodLink RX6 202 yJ6_numberOfLeadingZeros_0f7a4, Cond.static yJ6_numberOfLeadingZeros_0f7a4, Cond.code yJ6_numberOfLeadingZeros_0f7a4 cJ6_numberOfLeadingZeros_0f7a4 2 (some .int)]
def wsX6_track_r5 : List Cond := [Cond.methodLink RX6 112 yX0_layBest, Cond.methodLink RX6 187 yX0_photoOf, Cond.instanceMethod yX0_photoOf, Cond.selects RX0 yX0_photoOf yX0_photoOf, Cond.code yX0_photoOf cX0_photoOf 2 (some .int)]
def wsX6_track : List Cond := .code yX6_track cX6_track 4 (some .int) :: ((wsX6_track_r1 ++ (wsX6_track_r2 ++ (wsX6_track_r3 ++ (wsX6_track_r4 ++ wsX6_track_r5)))) ++ wsX60 ++ wsX50 ++ wsX20 ++ wsX00)
def wsX6_fitsFrom_r1 : List Cond := [Cond.fieldLink RX6 10 "DiscArcs" "photos" "LDiscArcs$Photos;", Cond.fieldLink RX6 118 "DiscArcs$Photos" "size" "I", Cond.fieldLink RX6 51 "DiscArcs" "parting" "LDiscArcs$Track;", Cond.methodLink RX6 82 yX2_holds, Cond.instanceMethod yX2_holds, Cond.selects RX2 yX2_holds yX2_holds, Cond.initialized RX2, Cond.code yX2_holds cX2_holds 2 (some .boolean), Cond.fieldLink RX2 22 "DiscArcs$Photos" "size" "I", Cond.methodLink RX6 106 yX2_isUsable, Cond.instanceMethod yX2_isUsable, Cond.selects RX2 yX2_isUsable yX2_isUsable, Cond.code yX2_isUsable cX2_isUsable 2 (some .boolean), Cond.fieldLink RX2 11 "DiscArcs$Photos" "rows" "[[I", Cond.methodLink RX6 205 yX5_between, Cond.instanceMethod yX5_between, Cond.selects RX5 yX5_between yX5_between, Cond.initialized RX5, Cond.code yX5_between cX5_between 3 (some .int), Cond.fieldLink RX5 18 "DiscArcs$Track" "photos" "LDiscArcs$Photos;", Cond.methodLink RX5 26 yX2_usable, Cond.instanceMethod yX2_usable, Cond.selects RX2 yX2_usable yX2_usable, Cond.code yX2_usable cX2_usable 3 (some .int)]
def wsX6_fitsFrom_r2 : List Cond := [Cond.methodLink RX2 26 yX2_isUsable, Cond.methodLink RX6 209 yX5_isFitting, Cond.instanceMethod yX5_isFitting, Cond.selects RX5 yX5_isFitting yX5_isFitting, Cond.code yX5_isFitting cX5_isFitting 2 (some .boolean), Cond.fieldLink RX5 22 "DiscArcs$Track" "curve" "LDiscArcs$Arc;", Cond.methodLink RX5 32 yX0_layBest, Cond.instanceMethod yX0_layBest, Cond.selects RX0 yX0_layBest yX0_layBest, Cond.initialized RX0, Cond.code yX0_layBest cX0_layBest 9 (some .boolean), Cond.fieldLink RX0 9 "DiscArcs$Arc" "photos" "LDiscArcs$Photos;", Cond.fieldLink RX0 25 "DiscArcs$Photos" "size" "I", Cond.methodLink RX0 30 yX0_lay, Cond.instanceMethod yX0_lay, Cond.selects RX0 yX0_lay yX0_lay, Cond.code yX0_lay cX0_lay 4 none, Cond.fieldLink RX0 15 "DiscArcs$Arc" "first" "I", Cond.fieldLink RX0 19 "DiscArcs$Arc" "second" "I", Cond.fieldLink RX0 22 "DiscArcs$Arc" "third" "I", Cond.methodLink RX0 34 yX0_missedOf, Cond.instanceMethod yX0_missedOf, Cond.selects RX0 yX0_missedOf yX0_missedOf, Cond.code yX0_missedOf cX0_missedOf 14 (some .int)]
def wsX6_fitsFrom_r3 : List Cond := [Cond.fieldLink RX0 47 "DiscArcs$Photos" "rows" "[[I", Cond.methodLink RX0 63 Lib.MathLoose.abs_long.x, Cond.static Lib.MathLoose.abs_long.x, Cond.initialized "java/lang/Math", Cond.code Lib.MathLoose.abs_long.x Lib.MathLoose.abs_long.code 2 (some .long), Cond.methodLink RX0 51 yX0_lower, Cond.instanceMethod yX0_lower, Cond.selects RX0 yX0_lower yX0_lower, Cond.code yX0_lower cX0_lower 7 (some .long), Cond.static yX6_isIn, Cond.initialized RX6, Cond.code yX6_isIn cX6_isIn 2 (some .boolean), Cond.methodLink RX0 59 yX0_upper, Cond.instanceMethod yX0_upper, Cond.selects RX0 yX0_upper yX0_upper, Cond.code yX0_upper cX0_upper 11 (some .long), Cond.methodLink RX0 38 yJ6_bitCount_0f7a4, Cond.static yJ6_bitCount_0f7a4, Cond.initialized RJ6, Cond.code yJ6_bitCount_0f7a4 cJ6_bitCount_0f7a4 1 (some .int), Cond.constant RJ6 265 (1431655765), Cond.constant RJ6 266 (858993459), Cond.constant RJ6 267 (252645135), Cond.methodLink RX0 43 yX0_layThrough]
def wsX6_fitsFrom_r4 : List Cond := [Cond.instanceMethod yX0_layThrough, Cond.selects RX0 yX0_layThrough yX0_layThrough, Cond.code yX0_layThrough cX0_layThrough 4 none, Cond.methodLink RX5 38 yX0_missedOf, Cond.methodLink RX6 100 yJ6_bitCount_0f7a4]
def wsX6_fitsFrom : List Cond := .code yX6_fitsFrom cX6_fitsFrom 4 (some .int) :: ((wsX6_fitsFrom_r1 ++ (wsX6_fitsFrom_r2 ++ (wsX6_fitsFrom_r3 ++ wsX6_fitsFrom_r4))) ++ wsX60 ++ wsX20 ++ wsX50 ++ wsX00)
def wsX6_spin_r1 : List Cond := [Cond.fieldLink RX6 58 "DiscArcs" "turning" "LDiscArcs$Spin;", Cond.fieldLink RX6 215 "DiscArcs$Spin" "turn" "I", Cond.fieldLink RX6 218 "DiscArcs$Spin" "beginning" "I", Cond.fieldLink RX6 221 "DiscArcs$Spin" "fitted" "I", Cond.methodLink RX6 86 yX6_isWithin, Cond.static yX6_isWithin, Cond.initialized RX6, Cond.code yX6_isWithin cX6_isWithin 3 (some .boolean), Cond.methodLink RX6 212 yX3_search, Cond.instanceMethod yX3_search, Cond.selects RX3 yX3_search yX3_search, Cond.initialized RX3, Cond.code yX3_search cX3_search 3 (some .boolean), Cond.fieldLink RX3 50 "DiscArcs$Spin" "turn" "I", Cond.fieldLink RX3 53 "DiscArcs$Spin" "beginning" "I", Cond.fieldLink RX3 56 "DiscArcs$Spin" "fitted" "I", Cond.fieldLink RX3 9 "DiscArcs$Spin" "photos" "LDiscArcs$Photos;", Cond.methodLink RX3 59 yX2_marked, Cond.instanceMethod yX2_marked, Cond.selects RX2 yX2_marked yX2_marked, Cond.initialized RX2, Cond.code yX2_marked cX2_marked 3 (some .int), Cond.fieldLink RX2 22 "DiscArcs$Photos" "size" "I", Cond.methodLink RX2 33 yX2_isMarked]
def wsX6_spin_r2 : List Cond := [Cond.instanceMethod yX2_isMarked, Cond.selects RX2 yX2_isMarked yX2_isMarked, Cond.code yX2_isMarked cX2_isMarked 2 (some .boolean), Cond.methodLink RX2 26 yX2_isUsable, Cond.instanceMethod yX2_isUsable, Cond.selects RX2 yX2_isUsable yX2_isUsable, Cond.code yX2_isUsable cX2_isUsable 2 (some .boolean), Cond.fieldLink RX2 11 "DiscArcs$Photos" "rows" "[[I", Cond.methodLink RX2 30 yX2_hasAngle, Cond.instanceMethod yX2_hasAngle, Cond.selects RX2 yX2_hasAngle yX2_hasAngle, Cond.code yX2_hasAngle cX2_hasAngle 2 (some .boolean), Cond.methodLink RX3 63 yX3_tryTurn, Cond.instanceMethod yX3_tryTurn, Cond.selects RX3 yX3_tryTurn yX3_tryTurn, Cond.code yX3_tryTurn cX3_tryTurn 5 none, Cond.fieldLink RX3 21 "DiscArcs$Photos" "size" "I", Cond.fieldLink RX3 35 "DiscArcs$Photos" "rows" "[[I", Cond.methodLink RX3 67 yX3_tryBeginning, Cond.instanceMethod yX3_tryBeginning, Cond.selects RX3 yX3_tryBeginning yX3_tryBeginning, Cond.code yX3_tryBeginning cX3_tryBeginning 6 none, Cond.methodLink RX3 71 yX3_fittedBy, Cond.instanceMethod yX3_fittedBy]
def wsX6_spin_r3 : List Cond := [Cond.selects RX3 yX3_fittedBy yX3_fittedBy, Cond.code yX3_fittedBy cX3_fittedBy 5 (some .int), Cond.methodLink RX3 27 yX2_isMarked, Cond.methodLink RX3 31 yX3_isNear, Cond.instanceMethod yX3_isNear, Cond.selects RX3 yX3_isNear yX3_isNear, Cond.code yX3_isNear cX3_isNear 6 (some .boolean), Cond.methodLink RX3 43 Lib.Math.abs.name, Cond.static Lib.Math.abs.name, Cond.initialized "java/lang/Math", Cond.code Lib.Math.abs.name Lib.Math.abs.code 1 (some .int), Cond.methodLink RX3 47 Lib.Math.min.name, Cond.static Lib.Math.min.name, Cond.code Lib.Math.min.name Lib.Math.min.code 2 (some .int), Cond.methodLink RX3 39 yX3_angleOf, Cond.static yX3_angleOf, Cond.code yX3_angleOf cX3_angleOf 3 (some .int), Cond.methodLink RX3 15 yJ9_floorMod_7cf53, Cond.static yJ9_floorMod_7cf53, Cond.initialized RJ9, Cond.code yJ9_floorMod_7cf53 cJ9_floorMod_7cf53 3 (some .int), Cond.methodLink RX3 74 yJ6_bitCount_0f7a4, Cond.static yJ6_bitCount_0f7a4, Cond.initialized RJ6]
def wsX6_spin_r4 : List Cond := [Cond.code yJ6_bitCount_0f7a4 cJ6_bitCount_0f7a4 1 (some .int), Cond.constant RJ6 265 (1431655765), Cond.constant RJ6 266 (858993459), Cond.constant RJ6 267 (252645135), Cond.methodLink RX6 100 yJ6_bitCount_0f7a4]
def wsX6_spin : List Cond := .code yX6_spin cX6_spin 2 (some .int) :: ((wsX6_spin_r1 ++ (wsX6_spin_r2 ++ (wsX6_spin_r3 ++ wsX6_spin_r4))) ++ wsX60 ++ wsX30 ++ wsX20)
def wsX6_fits_r1 : List Cond := [Cond.fieldLink RX6 58 "DiscArcs" "turning" "LDiscArcs$Spin;", Cond.methodLink RX6 86 yX6_isWithin, Cond.static yX6_isWithin, Cond.initialized RX6, Cond.code yX6_isWithin cX6_isWithin 3 (some .boolean), Cond.methodLink RX6 224 yX3_fittedBy, Cond.instanceMethod yX3_fittedBy, Cond.selects RX3 yX3_fittedBy yX3_fittedBy, Cond.initialized RX3, Cond.code yX3_fittedBy cX3_fittedBy 5 (some .int), Cond.fieldLink RX3 9 "DiscArcs$Spin" "photos" "LDiscArcs$Photos;", Cond.fieldLink RX3 21 "DiscArcs$Photos" "size" "I", Cond.methodLink RX3 27 yX2_isMarked, Cond.instanceMethod yX2_isMarked, Cond.selects RX2 yX2_isMarked yX2_isMarked, Cond.initialized RX2, Cond.code yX2_isMarked cX2_isMarked 2 (some .boolean), Cond.methodLink RX2 26 yX2_isUsable, Cond.instanceMethod yX2_isUsable, Cond.selects RX2 yX2_isUsable yX2_isUsable, Cond.code yX2_isUsable cX2_isUsable 2 (some .boolean), Cond.fieldLink RX2 11 "DiscArcs$Photos" "rows" "[[I", Cond.methodLink RX2 30 yX2_hasAngle, Cond.instanceMethod yX2_hasAngle]
def wsX6_fits_r2 : List Cond := [Cond.selects RX2 yX2_hasAngle yX2_hasAngle, Cond.code yX2_hasAngle cX2_hasAngle 2 (some .boolean), Cond.methodLink RX3 31 yX3_isNear, Cond.instanceMethod yX3_isNear, Cond.selects RX3 yX3_isNear yX3_isNear, Cond.code yX3_isNear cX3_isNear 6 (some .boolean), Cond.fieldLink RX3 35 "DiscArcs$Photos" "rows" "[[I", Cond.methodLink RX3 43 Lib.Math.abs.name, Cond.static Lib.Math.abs.name, Cond.initialized "java/lang/Math", Cond.code Lib.Math.abs.name Lib.Math.abs.code 1 (some .int), Cond.methodLink RX3 47 Lib.Math.min.name, Cond.static Lib.Math.min.name, Cond.code Lib.Math.min.name Lib.Math.min.code 2 (some .int), Cond.methodLink RX3 39 yX3_angleOf, Cond.static yX3_angleOf, Cond.code yX3_angleOf cX3_angleOf 3 (some .int), Cond.methodLink RX3 15 yJ9_floorMod_7cf53, Cond.static yJ9_floorMod_7cf53, Cond.initialized RJ9, Cond.code yJ9_floorMod_7cf53 cJ9_floorMod_7cf53 3 (some .int), Cond.methodLink RX6 100 yJ6_bitCount_0f7a4, Cond.static yJ6_bitCount_0f7a4, Cond.initialized RJ6]
def wsX6_fits_r3 : List Cond := [Cond.code yJ6_bitCount_0f7a4 cJ6_bitCount_0f7a4 1 (some .int), Cond.constant RJ6 265 (1431655765), Cond.constant RJ6 266 (858993459), Cond.constant RJ6 267 (252645135)]
def wsX6_fits : List Cond := .code yX6_fits cX6_fits 3 (some .int) :: ((wsX6_fits_r1 ++ (wsX6_fits_r2 ++ wsX6_fits_r3)) ++ wsX60 ++ wsX30 ++ wsX20)
def wsX6_angleAt_r1 : List Cond := [Cond.fieldLink RX6 58 "DiscArcs" "turning" "LDiscArcs$Spin;", Cond.fieldLink RX6 215 "DiscArcs$Spin" "turn" "I", Cond.fieldLink RX6 218 "DiscArcs$Spin" "beginning" "I", Cond.methodLink RX6 86 yX6_isWithin, Cond.static yX6_isWithin, Cond.initialized RX6, Cond.code yX6_isWithin cX6_isWithin 3 (some .boolean), Cond.methodLink RX6 212 yX3_search, Cond.instanceMethod yX3_search, Cond.selects RX3 yX3_search yX3_search, Cond.initialized RX3, Cond.code yX3_search cX3_search 3 (some .boolean), Cond.fieldLink RX3 50 "DiscArcs$Spin" "turn" "I", Cond.fieldLink RX3 53 "DiscArcs$Spin" "beginning" "I", Cond.fieldLink RX3 56 "DiscArcs$Spin" "fitted" "I", Cond.fieldLink RX3 9 "DiscArcs$Spin" "photos" "LDiscArcs$Photos;", Cond.methodLink RX3 59 yX2_marked, Cond.instanceMethod yX2_marked, Cond.selects RX2 yX2_marked yX2_marked, Cond.initialized RX2, Cond.code yX2_marked cX2_marked 3 (some .int), Cond.fieldLink RX2 22 "DiscArcs$Photos" "size" "I", Cond.methodLink RX2 33 yX2_isMarked, Cond.instanceMethod yX2_isMarked]
def wsX6_angleAt_r2 : List Cond := [Cond.selects RX2 yX2_isMarked yX2_isMarked, Cond.code yX2_isMarked cX2_isMarked 2 (some .boolean), Cond.methodLink RX2 26 yX2_isUsable, Cond.instanceMethod yX2_isUsable, Cond.selects RX2 yX2_isUsable yX2_isUsable, Cond.code yX2_isUsable cX2_isUsable 2 (some .boolean), Cond.fieldLink RX2 11 "DiscArcs$Photos" "rows" "[[I", Cond.methodLink RX2 30 yX2_hasAngle, Cond.instanceMethod yX2_hasAngle, Cond.selects RX2 yX2_hasAngle yX2_hasAngle, Cond.code yX2_hasAngle cX2_hasAngle 2 (some .boolean), Cond.methodLink RX3 63 yX3_tryTurn, Cond.instanceMethod yX3_tryTurn, Cond.selects RX3 yX3_tryTurn yX3_tryTurn, Cond.code yX3_tryTurn cX3_tryTurn 5 none, Cond.fieldLink RX3 21 "DiscArcs$Photos" "size" "I", Cond.fieldLink RX3 35 "DiscArcs$Photos" "rows" "[[I", Cond.methodLink RX3 67 yX3_tryBeginning, Cond.instanceMethod yX3_tryBeginning, Cond.selects RX3 yX3_tryBeginning yX3_tryBeginning, Cond.code yX3_tryBeginning cX3_tryBeginning 6 none, Cond.methodLink RX3 71 yX3_fittedBy, Cond.instanceMethod yX3_fittedBy, Cond.selects RX3 yX3_fittedBy yX3_fittedBy]
def wsX6_angleAt_r3 : List Cond := [Cond.code yX3_fittedBy cX3_fittedBy 5 (some .int), Cond.methodLink RX3 27 yX2_isMarked, Cond.methodLink RX3 31 yX3_isNear, Cond.instanceMethod yX3_isNear, Cond.selects RX3 yX3_isNear yX3_isNear, Cond.code yX3_isNear cX3_isNear 6 (some .boolean), Cond.methodLink RX3 43 Lib.Math.abs.name, Cond.static Lib.Math.abs.name, Cond.initialized "java/lang/Math", Cond.code Lib.Math.abs.name Lib.Math.abs.code 1 (some .int), Cond.methodLink RX3 47 Lib.Math.min.name, Cond.static Lib.Math.min.name, Cond.code Lib.Math.min.name Lib.Math.min.code 2 (some .int), Cond.methodLink RX3 39 yX3_angleOf, Cond.static yX3_angleOf, Cond.code yX3_angleOf cX3_angleOf 3 (some .int), Cond.methodLink RX3 15 yJ9_floorMod_7cf53, Cond.static yJ9_floorMod_7cf53, Cond.initialized RJ9, Cond.code yJ9_floorMod_7cf53 cJ9_floorMod_7cf53 3 (some .int), Cond.methodLink RX3 74 yJ6_bitCount_0f7a4, Cond.static yJ6_bitCount_0f7a4, Cond.initialized RJ6, Cond.code yJ6_bitCount_0f7a4 cJ6_bitCount_0f7a4 1 (some .int)]
def wsX6_angleAt_r4 : List Cond := [Cond.constant RJ6 265 (1431655765), Cond.constant RJ6 266 (858993459), Cond.constant RJ6 267 (252645135), Cond.methodLink RX6 227 yX3_angleOf]
def wsX6_angleAt : List Cond := .code yX6_angleAt cX6_angleAt 2 (some .int) :: ((wsX6_angleAt_r1 ++ (wsX6_angleAt_r2 ++ (wsX6_angleAt_r3 ++ wsX6_angleAt_r4))) ++ wsX60 ++ wsX30 ++ wsX20)
def wsX6_count_r1 : List Cond := [Cond.fieldLink RX6 10 "DiscArcs" "photos" "LDiscArcs$Photos;", Cond.fieldLink RX6 118 "DiscArcs$Photos" "size" "I", Cond.fieldLink RX6 51 "DiscArcs" "parting" "LDiscArcs$Track;", Cond.fieldLink RX6 22 "DiscArcs" "history" "LDiscArcs$History;", Cond.fieldLink RX6 140 "DiscArcs$History" "size" "I", Cond.fieldLink RX6 29 "DiscArcs" "text" "LDiscArcs$Text;", Cond.fieldLink RX6 133 "DiscArcs$Text" "length" "I", Cond.methodLink RX6 109 yX2_usable, Cond.instanceMethod yX2_usable, Cond.selects RX2 yX2_usable yX2_usable, Cond.initialized RX2, Cond.code yX2_usable cX2_usable 3 (some .int), Cond.fieldLink RX2 22 "DiscArcs$Photos" "size" "I", Cond.methodLink RX2 26 yX2_isUsable, Cond.instanceMethod yX2_isUsable, Cond.selects RX2 yX2_isUsable yX2_isUsable, Cond.code yX2_isUsable cX2_isUsable 2 (some .boolean), Cond.fieldLink RX2 11 "DiscArcs$Photos" "rows" "[[I", Cond.methodLink RX6 231 yX2_marked, Cond.instanceMethod yX2_marked, Cond.selects RX2 yX2_marked yX2_marked, Cond.code yX2_marked cX2_marked 3 (some .int), Cond.methodLink RX2 33 yX2_isMarked, Cond.instanceMethod yX2_isMarked]
def wsX6_count_r2 : List Cond := [Cond.selects RX2 yX2_isMarked yX2_isMarked, Cond.code yX2_isMarked cX2_isMarked 2 (some .boolean), Cond.methodLink RX2 30 yX2_hasAngle, Cond.instanceMethod yX2_hasAngle, Cond.selects RX2 yX2_hasAngle yX2_hasAngle, Cond.code yX2_hasAngle cX2_hasAngle 2 (some .boolean), Cond.methodLink RX6 193 yX5_plan, Cond.instanceMethod yX5_plan, Cond.selects RX5 yX5_plan yX5_plan, Cond.initialized RX5, Cond.code yX5_plan cX5_plan 2 (some .int), Cond.fieldLink RX5 9 "DiscArcs$Track" "rowsFrom" "[I", Cond.fieldLink RX5 18 "DiscArcs$Track" "photos" "LDiscArcs$Photos;", Cond.fieldLink RX5 42 "DiscArcs$Photos" "size" "I", Cond.fieldLink RX5 15 "DiscArcs$Track" "endFrom" "[I", Cond.methodLink RX5 46 yX2_isUsable, Cond.methodLink RX5 49 yX5_planFrom, Cond.instanceMethod yX5_planFrom, Cond.selects RX5 yX5_planFrom yX5_planFrom, Cond.code yX5_planFrom cX5_planFrom 3 none, Cond.methodLink RX5 53 yX5_between, Cond.instanceMethod yX5_between, Cond.selects RX5 yX5_between yX5_between, Cond.code yX5_between cX5_between 3 (some .int)]
def wsX6_count_r3 : List Cond := [Cond.methodLink RX5 26 yX2_usable, Cond.methodLink RX5 57 yX5_isFitting, Cond.instanceMethod yX5_isFitting, Cond.selects RX5 yX5_isFitting yX5_isFitting, Cond.code yX5_isFitting cX5_isFitting 2 (some .boolean), Cond.fieldLink RX5 22 "DiscArcs$Track" "curve" "LDiscArcs$Arc;", Cond.methodLink RX5 32 yX0_layBest, Cond.instanceMethod yX0_layBest, Cond.selects RX0 yX0_layBest yX0_layBest, Cond.initialized RX0, Cond.code yX0_layBest cX0_layBest 9 (some .boolean), Cond.fieldLink RX0 9 "DiscArcs$Arc" "photos" "LDiscArcs$Photos;", Cond.fieldLink RX0 25 "DiscArcs$Photos" "size" "I", Cond.methodLink RX0 30 yX0_lay, Cond.instanceMethod yX0_lay, Cond.selects RX0 yX0_lay yX0_lay, Cond.code yX0_lay cX0_lay 4 none, Cond.fieldLink RX0 15 "DiscArcs$Arc" "first" "I", Cond.fieldLink RX0 19 "DiscArcs$Arc" "second" "I", Cond.fieldLink RX0 22 "DiscArcs$Arc" "third" "I", Cond.methodLink RX0 34 yX0_missedOf, Cond.instanceMethod yX0_missedOf, Cond.selects RX0 yX0_missedOf yX0_missedOf, Cond.code yX0_missedOf cX0_missedOf 14 (some .int)]
def wsX6_count_r4 : List Cond := [Cond.fieldLink RX0 47 "DiscArcs$Photos" "rows" "[[I", Cond.methodLink RX0 63 Lib.MathLoose.abs_long.x, Cond.static Lib.MathLoose.abs_long.x, Cond.initialized "java/lang/Math", Cond.code Lib.MathLoose.abs_long.x Lib.MathLoose.abs_long.code 2 (some .long), Cond.methodLink RX0 51 yX0_lower, Cond.instanceMethod yX0_lower, Cond.selects RX0 yX0_lower yX0_lower, Cond.code yX0_lower cX0_lower 7 (some .long), Cond.static yX6_isIn, Cond.initialized RX6, Cond.code yX6_isIn cX6_isIn 2 (some .boolean), Cond.methodLink RX0 59 yX0_upper, Cond.instanceMethod yX0_upper, Cond.selects RX0 yX0_upper yX0_upper, Cond.code yX0_upper cX0_upper 11 (some .long), Cond.methodLink RX0 38 yJ6_bitCount_0f7a4, Cond.static yJ6_bitCount_0f7a4, Cond.initialized RJ6, Cond.code yJ6_bitCount_0f7a4 cJ6_bitCount_0f7a4 1 (some .int), Cond.constant RJ6 265 (1431655765), Cond.constant RJ6 266 (858993459), Cond.constant RJ6 267 (252645135), Cond.methodLink RX0 43 yX0_layThrough]
def wsX6_count_r5 : List Cond := [Cond.instanceMethod yX0_layThrough, Cond.selects RX0 yX0_layThrough yX0_layThrough, Cond.code yX0_layThrough cX0_layThrough 4 none, Cond.methodLink RX5 38 yX0_missedOf]
def wsX6_count : List Cond := .code yX6_count cX6_count 2 (some .int) :: ((wsX6_count_r1 ++ (wsX6_count_r2 ++ (wsX6_count_r3 ++ (wsX6_count_r4 ++ wsX6_count_r5)))) ++ wsX60 ++ wsX20 ++ wsX10 ++ wsX40 ++ wsX50 ++ wsX00)
def wsX7_init : List Cond := .code yX7_init cX7_init 1 none :: ([.methodLink RX7 1 objectInit, .instanceMethod objectInit, .code objectInit ⟨#[0xb1]⟩ 1 none, .arrayClass .int, .fieldLink RX7 7 "DiscArcsModel" "now" "[I", .fieldLink RX7 13 "DiscArcsModel" "history" "[I", .fieldLink RX7 16 "DiscArcsModel" "slot" "[I", .fieldLink RX7 19 "DiscArcsModel" "arc" "[I", .fieldLink RX7 22 "DiscArcsModel" "rows" "[I", .fieldLink RX7 25 "DiscArcsModel" "longest" "[I", .fieldLink RX7 28 "DiscArcsModel" "order" "[I", .arrayClass .char, .fieldLink RX7 31 "DiscArcsModel" "text" "[C", .fieldLink RX7 35 "DiscArcsModel" "read" "[I"] ++ wsX70)
def wsX7_in : List Cond := .code yX7_in cX7_in 3 (some .boolean) :: ([])
def wsX7_of : List Cond := .code yX7_of cX7_of 3 (some .int) :: ([.fieldLink RX7 7 "DiscArcsModel" "now" "[I"] ++ wsX70)
def wsX7_no : List Cond := .code yX7_no cX7_no 2 (some .boolean) :: ([.fieldLink RX7 7 "DiscArcsModel" "now" "[I", .methodLink RX7 38 yX7_in, .static yX7_in, .initialized RX7, .code yX7_in cX7_in 3 (some .boolean)] ++ wsX70)
def wsX7_isUsable : List Cond := .code yX7_isUsable cX7_isUsable 2 (some .boolean) :: ([.methodLink RX7 42 yX7_of, .instanceMethod yX7_of, .selects RX7 yX7_of yX7_of, .initialized RX7, .code yX7_of cX7_of 3 (some .int), .fieldLink RX7 7 "DiscArcsModel" "now" "[I"] ++ wsX70)
def wsX7_hasAngle : List Cond := .code yX7_hasAngle cX7_hasAngle 2 (some .boolean) :: ([.methodLink RX7 46 yX7_isUsable, .instanceMethod yX7_isUsable, .selects RX7 yX7_isUsable yX7_isUsable, .initialized RX7, .code yX7_isUsable cX7_isUsable 2 (some .boolean), .methodLink RX7 42 yX7_of, .instanceMethod yX7_of, .selects RX7 yX7_of yX7_of, .code yX7_of cX7_of 3 (some .int), .fieldLink RX7 7 "DiscArcsModel" "now" "[I"] ++ wsX70)
def wsX7_usable : List Cond := .code yX7_usable cX7_usable 3 (some .int) :: ([.fieldLink RX7 7 "DiscArcsModel" "now" "[I", .methodLink RX7 46 yX7_isUsable, .instanceMethod yX7_isUsable, .selects RX7 yX7_isUsable yX7_isUsable, .initialized RX7, .code yX7_isUsable cX7_isUsable 2 (some .boolean), .methodLink RX7 42 yX7_of, .instanceMethod yX7_of, .selects RX7 yX7_of yX7_of, .code yX7_of cX7_of 3 (some .int)] ++ wsX70)
def wsX7_bits : List Cond := .code yX7_bits cX7_bits 3 (some .int) :: ([])
def wsX7_record : List Cond := .code yX7_record cX7_record 2 none :: ([.fieldLink RX7 50 "DiscArcsModel" "kept" "I", .fieldLink RX7 13 "DiscArcsModel" "history" "[I", .fieldLink RX7 7 "DiscArcsModel" "now" "[I"] ++ wsX70)
def wsX7_upper : List Cond := .code yX7_upper cX7_upper 14 (some .long) :: ([.methodLink RX7 42 yX7_of, .instanceMethod yX7_of, .selects RX7 yX7_of yX7_of, .initialized RX7, .code yX7_of cX7_of 3 (some .int), .fieldLink RX7 7 "DiscArcsModel" "now" "[I"] ++ wsX70)
def wsX7_lower : List Cond := .code yX7_lower cX7_lower 10 (some .long) :: ([.methodLink RX7 42 yX7_of, .instanceMethod yX7_of, .selects RX7 yX7_of yX7_of, .initialized RX7, .code yX7_of cX7_of 3 (some .int), .fieldLink RX7 7 "DiscArcsModel" "now" "[I"] ++ wsX70)
def wsX7_without : List Cond := .code yX7_without cX7_without 2 (some .long) :: ([])
def wsX7_isHit : List Cond := .code yX7_isHit cX7_isHit 11 (some .boolean) :: ([.methodLink RX7 54 yX7_lower, .instanceMethod yX7_lower, .selects RX7 yX7_lower yX7_lower, .initialized RX7, .code yX7_lower cX7_lower 10 (some .long), .methodLink RX7 42 yX7_of, .instanceMethod yX7_of, .selects RX7 yX7_of yX7_of, .code yX7_of cX7_of 3 (some .int), .fieldLink RX7 7 "DiscArcsModel" "now" "[I", .methodLink RX7 58 yX7_upper, .instanceMethod yX7_upper, .selects RX7 yX7_upper yX7_upper, .code yX7_upper cX7_upper 14 (some .long), .methodLink RX7 62 yX7_without, .static yX7_without, .code yX7_without cX7_without 2 (some .long)] ++ wsX70)
def wsX7_hitBy_r1 : List Cond := [Cond.fieldLink RX7 7 "DiscArcsModel" "now" "[I", Cond.methodLink RX7 46 yX7_isUsable, Cond.instanceMethod yX7_isUsable, Cond.selects RX7 yX7_isUsable yX7_isUsable, Cond.initialized RX7, Cond.code yX7_isUsable cX7_isUsable 2 (some .boolean), Cond.methodLink RX7 42 yX7_of, Cond.instanceMethod yX7_of, Cond.selects RX7 yX7_of yX7_of, Cond.code yX7_of cX7_of 3 (some .int), Cond.methodLink RX7 66 yX7_isHit, Cond.instanceMethod yX7_isHit, Cond.selects RX7 yX7_isHit yX7_isHit, Cond.code yX7_isHit cX7_isHit 11 (some .boolean), Cond.methodLink RX7 54 yX7_lower, Cond.instanceMethod yX7_lower, Cond.selects RX7 yX7_lower yX7_lower, Cond.code yX7_lower cX7_lower 10 (some .long), Cond.methodLink RX7 58 yX7_upper, Cond.instanceMethod yX7_upper, Cond.selects RX7 yX7_upper yX7_upper, Cond.code yX7_upper cX7_upper 14 (some .long), Cond.methodLink RX7 62 yX7_without, Cond.static yX7_without]
def wsX7_hitBy_r2 : List Cond := [Cond.code yX7_without cX7_without 2 (some .long)]
def wsX7_hitBy : List Cond := .code yX7_hitBy cX7_hitBy 6 (some .int) :: ((wsX7_hitBy_r1 ++ wsX7_hitBy_r2) ++ wsX70)
def wsX7_part : List Cond := .code yX7_part cX7_part 11 (some .long) :: ([.constantLong RX7 70 (-1), .constantLong RX7 72 (10000000000), .methodLink RX7 62 yX7_without, .static yX7_without, .initialized RX7, .code yX7_without cX7_without 2 (some .long)])
def wsX7_finds_r1 : List Cond := [Cond.fieldLink RX7 7 "DiscArcsModel" "now" "[I", Cond.fieldLink RX7 19 "DiscArcsModel" "arc" "[I", Cond.fieldLink RX7 82 "DiscArcsModel" "hit" "I", Cond.methodLink RX7 74 yX7_hitBy, Cond.instanceMethod yX7_hitBy, Cond.selects RX7 yX7_hitBy yX7_hitBy, Cond.initialized RX7, Cond.code yX7_hitBy cX7_hitBy 6 (some .int), Cond.methodLink RX7 46 yX7_isUsable, Cond.instanceMethod yX7_isUsable, Cond.selects RX7 yX7_isUsable yX7_isUsable, Cond.code yX7_isUsable cX7_isUsable 2 (some .boolean), Cond.methodLink RX7 42 yX7_of, Cond.instanceMethod yX7_of, Cond.selects RX7 yX7_of yX7_of, Cond.code yX7_of cX7_of 3 (some .int), Cond.methodLink RX7 66 yX7_isHit, Cond.instanceMethod yX7_isHit, Cond.selects RX7 yX7_isHit yX7_isHit, Cond.code yX7_isHit cX7_isHit 11 (some .boolean), Cond.methodLink RX7 54 yX7_lower, Cond.instanceMethod yX7_lower, Cond.selects RX7 yX7_lower yX7_lower, Cond.code yX7_lower cX7_lower 10 (some .long)]
def wsX7_finds_r2 : List Cond := [Cond.methodLink RX7 58 yX7_upper, Cond.instanceMethod yX7_upper, Cond.selects RX7 yX7_upper yX7_upper, Cond.code yX7_upper cX7_upper 14 (some .long), Cond.methodLink RX7 62 yX7_without, Cond.static yX7_without, Cond.code yX7_without cX7_without 2 (some .long), Cond.methodLink RX7 78 yX7_bits, Cond.static yX7_bits, Cond.code yX7_bits cX7_bits 3 (some .int)]
def wsX7_finds : List Cond := .code yX7_finds cX7_finds 7 (some .boolean) :: ((wsX7_finds_r1 ++ wsX7_finds_r2) ++ wsX70)
def wsX7_hasBest_r1 : List Cond := [Cond.methodLink RX7 85 yX7_usable, Cond.instanceMethod yX7_usable, Cond.selects RX7 yX7_usable yX7_usable, Cond.initialized RX7, Cond.code yX7_usable cX7_usable 3 (some .int), Cond.fieldLink RX7 7 "DiscArcsModel" "now" "[I", Cond.methodLink RX7 46 yX7_isUsable, Cond.instanceMethod yX7_isUsable, Cond.selects RX7 yX7_isUsable yX7_isUsable, Cond.code yX7_isUsable cX7_isUsable 2 (some .boolean), Cond.methodLink RX7 42 yX7_of, Cond.instanceMethod yX7_of, Cond.selects RX7 yX7_of yX7_of, Cond.code yX7_of cX7_of 3 (some .int), Cond.methodLink RX7 89 yX7_finds, Cond.instanceMethod yX7_finds, Cond.selects RX7 yX7_finds yX7_finds, Cond.code yX7_finds cX7_finds 7 (some .boolean), Cond.fieldLink RX7 19 "DiscArcsModel" "arc" "[I", Cond.fieldLink RX7 82 "DiscArcsModel" "hit" "I", Cond.methodLink RX7 74 yX7_hitBy, Cond.instanceMethod yX7_hitBy, Cond.selects RX7 yX7_hitBy yX7_hitBy, Cond.code yX7_hitBy cX7_hitBy 6 (some .int)]
def wsX7_hasBest_r2 : List Cond := [Cond.methodLink RX7 66 yX7_isHit, Cond.instanceMethod yX7_isHit, Cond.selects RX7 yX7_isHit yX7_isHit, Cond.code yX7_isHit cX7_isHit 11 (some .boolean), Cond.methodLink RX7 54 yX7_lower, Cond.instanceMethod yX7_lower, Cond.selects RX7 yX7_lower yX7_lower, Cond.code yX7_lower cX7_lower 10 (some .long), Cond.methodLink RX7 58 yX7_upper, Cond.instanceMethod yX7_upper, Cond.selects RX7 yX7_upper yX7_upper, Cond.code yX7_upper cX7_upper 14 (some .long), Cond.methodLink RX7 62 yX7_without, Cond.static yX7_without, Cond.code yX7_without cX7_without 2 (some .long), Cond.methodLink RX7 78 yX7_bits, Cond.static yX7_bits, Cond.code yX7_bits cX7_bits 3 (some .int)]
def wsX7_hasBest : List Cond := .code yX7_hasBest cX7_hasBest 1 (some .boolean) :: ((wsX7_hasBest_r1 ++ wsX7_hasBest_r2) ++ wsX70)
def wsX7_missed_r1 : List Cond := [Cond.fieldLink RX7 82 "DiscArcsModel" "hit" "I", Cond.methodLink RX7 92 yX7_hasBest, Cond.instanceMethod yX7_hasBest, Cond.selects RX7 yX7_hasBest yX7_hasBest, Cond.initialized RX7, Cond.code yX7_hasBest cX7_hasBest 1 (some .boolean), Cond.methodLink RX7 85 yX7_usable, Cond.instanceMethod yX7_usable, Cond.selects RX7 yX7_usable yX7_usable, Cond.code yX7_usable cX7_usable 3 (some .int), Cond.fieldLink RX7 7 "DiscArcsModel" "now" "[I", Cond.methodLink RX7 46 yX7_isUsable, Cond.instanceMethod yX7_isUsable, Cond.selects RX7 yX7_isUsable yX7_isUsable, Cond.code yX7_isUsable cX7_isUsable 2 (some .boolean), Cond.methodLink RX7 42 yX7_of, Cond.instanceMethod yX7_of, Cond.selects RX7 yX7_of yX7_of, Cond.code yX7_of cX7_of 3 (some .int), Cond.methodLink RX7 89 yX7_finds, Cond.instanceMethod yX7_finds, Cond.selects RX7 yX7_finds yX7_finds, Cond.code yX7_finds cX7_finds 7 (some .boolean), Cond.fieldLink RX7 19 "DiscArcsModel" "arc" "[I"]
def wsX7_missed_r2 : List Cond := [Cond.methodLink RX7 74 yX7_hitBy, Cond.instanceMethod yX7_hitBy, Cond.selects RX7 yX7_hitBy yX7_hitBy, Cond.code yX7_hitBy cX7_hitBy 6 (some .int), Cond.methodLink RX7 66 yX7_isHit, Cond.instanceMethod yX7_isHit, Cond.selects RX7 yX7_isHit yX7_isHit, Cond.code yX7_isHit cX7_isHit 11 (some .boolean), Cond.methodLink RX7 54 yX7_lower, Cond.instanceMethod yX7_lower, Cond.selects RX7 yX7_lower yX7_lower, Cond.code yX7_lower cX7_lower 10 (some .long), Cond.methodLink RX7 58 yX7_upper, Cond.instanceMethod yX7_upper, Cond.selects RX7 yX7_upper yX7_upper, Cond.code yX7_upper cX7_upper 14 (some .long), Cond.methodLink RX7 62 yX7_without, Cond.static yX7_without, Cond.code yX7_without cX7_without 2 (some .long), Cond.methodLink RX7 78 yX7_bits, Cond.static yX7_bits, Cond.code yX7_bits cX7_bits 3 (some .int)]
def wsX7_missed : List Cond := .code yX7_missed cX7_missed 1 (some .int) :: ((wsX7_missed_r1 ++ wsX7_missed_r2) ++ wsX70)
def wsX7_orders : List Cond := .code yX7_orders cX7_orders 2 none :: ([.fieldLink RX7 96 "DiscArcsModel" "ordered" "I", .fieldLink RX7 7 "DiscArcsModel" "now" "[I", .fieldLink RX7 28 "DiscArcsModel" "order" "[I", .methodLink RX7 46 yX7_isUsable, .instanceMethod yX7_isUsable, .selects RX7 yX7_isUsable yX7_isUsable, .initialized RX7, .code yX7_isUsable cX7_isUsable 2 (some .boolean), .methodLink RX7 42 yX7_of, .instanceMethod yX7_of, .selects RX7 yX7_of yX7_of, .code yX7_of cX7_of 3 (some .int)] ++ wsX70)
def wsX7_setOf : List Cond := .code yX7_setOf cX7_setOf 5 (some .int) :: ([.fieldLink RX7 28 "DiscArcsModel" "order" "[I"] ++ wsX70)
def wsX7_fitsAsRow_r1 : List Cond := [Cond.fieldLink RX7 82 "DiscArcsModel" "hit" "I", Cond.methodLink RX7 99 yX7_setOf, Cond.instanceMethod yX7_setOf, Cond.selects RX7 yX7_setOf yX7_setOf, Cond.initialized RX7, Cond.code yX7_setOf cX7_setOf 5 (some .int), Cond.fieldLink RX7 28 "DiscArcsModel" "order" "[I", Cond.methodLink RX7 89 yX7_finds, Cond.instanceMethod yX7_finds, Cond.selects RX7 yX7_finds yX7_finds, Cond.code yX7_finds cX7_finds 7 (some .boolean), Cond.fieldLink RX7 7 "DiscArcsModel" "now" "[I", Cond.fieldLink RX7 19 "DiscArcsModel" "arc" "[I", Cond.methodLink RX7 74 yX7_hitBy, Cond.instanceMethod yX7_hitBy, Cond.selects RX7 yX7_hitBy yX7_hitBy, Cond.code yX7_hitBy cX7_hitBy 6 (some .int), Cond.methodLink RX7 46 yX7_isUsable, Cond.instanceMethod yX7_isUsable, Cond.selects RX7 yX7_isUsable yX7_isUsable, Cond.code yX7_isUsable cX7_isUsable 2 (some .boolean), Cond.methodLink RX7 42 yX7_of, Cond.instanceMethod yX7_of, Cond.selects RX7 yX7_of yX7_of]
def wsX7_fitsAsRow_r2 : List Cond := [Cond.code yX7_of cX7_of 3 (some .int), Cond.methodLink RX7 66 yX7_isHit, Cond.instanceMethod yX7_isHit, Cond.selects RX7 yX7_isHit yX7_isHit, Cond.code yX7_isHit cX7_isHit 11 (some .boolean), Cond.methodLink RX7 54 yX7_lower, Cond.instanceMethod yX7_lower, Cond.selects RX7 yX7_lower yX7_lower, Cond.code yX7_lower cX7_lower 10 (some .long), Cond.methodLink RX7 58 yX7_upper, Cond.instanceMethod yX7_upper, Cond.selects RX7 yX7_upper yX7_upper, Cond.code yX7_upper cX7_upper 14 (some .long), Cond.methodLink RX7 62 yX7_without, Cond.static yX7_without, Cond.code yX7_without cX7_without 2 (some .long), Cond.methodLink RX7 78 yX7_bits, Cond.static yX7_bits, Cond.code yX7_bits cX7_bits 3 (some .int)]
def wsX7_fitsAsRow : List Cond := .code yX7_fitsAsRow cX7_fitsAsRow 4 (some .boolean) :: ((wsX7_fitsAsRow_r1 ++ wsX7_fitsAsRow_r2) ++ wsX70)
def wsX7_findsTrack_r1 : List Cond := [Cond.fieldLink RX7 22 "DiscArcsModel" "rows" "[I", Cond.fieldLink RX7 96 "DiscArcsModel" "ordered" "I", Cond.fieldLink RX7 25 "DiscArcsModel" "longest" "[I", Cond.methodLink RX7 102 yX7_orders, Cond.instanceMethod yX7_orders, Cond.selects RX7 yX7_orders yX7_orders, Cond.initialized RX7, Cond.code yX7_orders cX7_orders 2 none, Cond.fieldLink RX7 7 "DiscArcsModel" "now" "[I", Cond.fieldLink RX7 28 "DiscArcsModel" "order" "[I", Cond.methodLink RX7 46 yX7_isUsable, Cond.instanceMethod yX7_isUsable, Cond.selects RX7 yX7_isUsable yX7_isUsable, Cond.code yX7_isUsable cX7_isUsable 2 (some .boolean), Cond.methodLink RX7 42 yX7_of, Cond.instanceMethod yX7_of, Cond.selects RX7 yX7_of yX7_of, Cond.code yX7_of cX7_of 3 (some .int), Cond.methodLink RX7 105 yX7_fitsAsRow, Cond.instanceMethod yX7_fitsAsRow, Cond.selects RX7 yX7_fitsAsRow yX7_fitsAsRow, Cond.code yX7_fitsAsRow cX7_fitsAsRow 4 (some .boolean), Cond.fieldLink RX7 82 "DiscArcsModel" "hit" "I", Cond.methodLink RX7 99 yX7_setOf]
def wsX7_findsTrack_r2 : List Cond := [Cond.instanceMethod yX7_setOf, Cond.selects RX7 yX7_setOf yX7_setOf, Cond.code yX7_setOf cX7_setOf 5 (some .int), Cond.methodLink RX7 89 yX7_finds, Cond.instanceMethod yX7_finds, Cond.selects RX7 yX7_finds yX7_finds, Cond.code yX7_finds cX7_finds 7 (some .boolean), Cond.fieldLink RX7 19 "DiscArcsModel" "arc" "[I", Cond.methodLink RX7 74 yX7_hitBy, Cond.instanceMethod yX7_hitBy, Cond.selects RX7 yX7_hitBy yX7_hitBy, Cond.code yX7_hitBy cX7_hitBy 6 (some .int), Cond.methodLink RX7 66 yX7_isHit, Cond.instanceMethod yX7_isHit, Cond.selects RX7 yX7_isHit yX7_isHit, Cond.code yX7_isHit cX7_isHit 11 (some .boolean), Cond.methodLink RX7 54 yX7_lower, Cond.instanceMethod yX7_lower, Cond.selects RX7 yX7_lower yX7_lower, Cond.code yX7_lower cX7_lower 10 (some .long), Cond.methodLink RX7 58 yX7_upper, Cond.instanceMethod yX7_upper, Cond.selects RX7 yX7_upper yX7_upper, Cond.code yX7_upper cX7_upper 14 (some .long)]
def wsX7_findsTrack_r3 : List Cond := [Cond.methodLink RX7 62 yX7_without, Cond.static yX7_without, Cond.code yX7_without cX7_without 2 (some .long), Cond.methodLink RX7 78 yX7_bits, Cond.static yX7_bits, Cond.code yX7_bits cX7_bits 3 (some .int)]
def wsX7_findsTrack : List Cond := .code yX7_findsTrack cX7_findsTrack 3 none :: ((wsX7_findsTrack_r1 ++ (wsX7_findsTrack_r2 ++ wsX7_findsTrack_r3)) ++ wsX70)
def wsX7_angle : List Cond := .code yX7_angle cX7_angle 4 (some .int) :: ([])
def wsX7_isFitted : List Cond := .code yX7_isFitted cX7_isFitted 5 (some .boolean) :: ([.methodLink RX7 42 yX7_of, .instanceMethod yX7_of, .selects RX7 yX7_of yX7_of, .initialized RX7, .code yX7_of cX7_of 3 (some .int), .fieldLink RX7 7 "DiscArcsModel" "now" "[I", .methodLink RX7 109 yX7_angle, .static yX7_angle, .code yX7_angle cX7_angle 4 (some .int)] ++ wsX70)
def wsX7_fitted : List Cond := .code yX7_fitted cX7_fitted 5 (some .int) :: ([.fieldLink RX7 7 "DiscArcsModel" "now" "[I", .methodLink RX7 112 yX7_hasAngle, .instanceMethod yX7_hasAngle, .selects RX7 yX7_hasAngle yX7_hasAngle, .initialized RX7, .code yX7_hasAngle cX7_hasAngle 2 (some .boolean), .methodLink RX7 46 yX7_isUsable, .instanceMethod yX7_isUsable, .selects RX7 yX7_isUsable yX7_isUsable, .code yX7_isUsable cX7_isUsable 2 (some .boolean), .methodLink RX7 42 yX7_of, .instanceMethod yX7_of, .selects RX7 yX7_of yX7_of, .code yX7_of cX7_of 3 (some .int), .methodLink RX7 115 yX7_isFitted, .instanceMethod yX7_isFitted, .selects RX7 yX7_isFitted yX7_isFitted, .code yX7_isFitted cX7_isFitted 5 (some .boolean), .methodLink RX7 109 yX7_angle, .static yX7_angle, .code yX7_angle cX7_angle 4 (some .int)] ++ wsX70)
def wsX7_findsSpin_r1 : List Cond := [Cond.fieldLink RX7 7 "DiscArcsModel" "now" "[I", Cond.fieldLink RX7 121 "DiscArcsModel" "bestSpin" "I", Cond.fieldLink RX7 124 "DiscArcsModel" "bestBeginning" "I", Cond.fieldLink RX7 127 "DiscArcsModel" "bestFitted" "I", Cond.methodLink RX7 112 yX7_hasAngle, Cond.instanceMethod yX7_hasAngle, Cond.selects RX7 yX7_hasAngle yX7_hasAngle, Cond.initialized RX7, Cond.code yX7_hasAngle cX7_hasAngle 2 (some .boolean), Cond.methodLink RX7 46 yX7_isUsable, Cond.instanceMethod yX7_isUsable, Cond.selects RX7 yX7_isUsable yX7_isUsable, Cond.code yX7_isUsable cX7_isUsable 2 (some .boolean), Cond.methodLink RX7 42 yX7_of, Cond.instanceMethod yX7_of, Cond.selects RX7 yX7_of yX7_of, Cond.code yX7_of cX7_of 3 (some .int), Cond.methodLink RX7 118 yX7_fitted, Cond.instanceMethod yX7_fitted, Cond.selects RX7 yX7_fitted yX7_fitted, Cond.code yX7_fitted cX7_fitted 5 (some .int), Cond.methodLink RX7 115 yX7_isFitted, Cond.instanceMethod yX7_isFitted, Cond.selects RX7 yX7_isFitted yX7_isFitted]
def wsX7_findsSpin_r2 : List Cond := [Cond.code yX7_isFitted cX7_isFitted 5 (some .boolean), Cond.methodLink RX7 109 yX7_angle, Cond.static yX7_angle, Cond.code yX7_angle cX7_angle 4 (some .int), Cond.methodLink RX7 78 yX7_bits, Cond.static yX7_bits, Cond.code yX7_bits cX7_bits 3 (some .int)]
def wsX7_findsSpin : List Cond := .code yX7_findsSpin cX7_findsSpin 7 (some .boolean) :: ((wsX7_findsSpin_r1 ++ wsX7_findsSpin_r2) ++ wsX70)
def wsX7_isPhoto : List Cond := .code yX7_isPhoto cX7_isPhoto 4 (some .boolean) :: ([.methodLink RX7 38 yX7_in, .static yX7_in, .initialized RX7, .code yX7_in cX7_in 3 (some .boolean)])
def wsX7_isThere : List Cond := .code yX7_isThere cX7_isThere 4 (some .boolean) :: ([.fieldLink RX7 7 "DiscArcsModel" "now" "[I", .methodLink RX7 42 yX7_of, .instanceMethod yX7_of, .selects RX7 yX7_of yX7_of, .initialized RX7, .code yX7_of cX7_of 3 (some .int)] ++ wsX70)
def wsX7_comes : List Cond := .code yX7_comes cX7_comes 9 (some .int) :: ([.fieldLink RX7 7 "DiscArcsModel" "now" "[I", .methodLink RX7 130 yX7_isThere, .instanceMethod yX7_isThere, .selects RX7 yX7_isThere yX7_isThere, .initialized RX7, .code yX7_isThere cX7_isThere 4 (some .boolean), .methodLink RX7 42 yX7_of, .instanceMethod yX7_of, .selects RX7 yX7_of yX7_of, .code yX7_of cX7_of 3 (some .int), .methodLink RX7 133 yX7_record, .instanceMethod yX7_record, .selects RX7 yX7_record yX7_record, .code yX7_record cX7_record 2 none, .fieldLink RX7 50 "DiscArcsModel" "kept" "I", .fieldLink RX7 13 "DiscArcsModel" "history" "[I"] ++ wsX70)
def wsX7_addPhoto_r1 : List Cond := [Cond.methodLink RX7 136 yX7_isPhoto, Cond.static yX7_isPhoto, Cond.initialized RX7, Cond.code yX7_isPhoto cX7_isPhoto 4 (some .boolean), Cond.methodLink RX7 38 yX7_in, Cond.static yX7_in, Cond.code yX7_in cX7_in 3 (some .boolean), Cond.methodLink RX7 139 yX7_comes, Cond.instanceMethod yX7_comes, Cond.selects RX7 yX7_comes yX7_comes, Cond.code yX7_comes cX7_comes 9 (some .int), Cond.fieldLink RX7 7 "DiscArcsModel" "now" "[I", Cond.methodLink RX7 130 yX7_isThere, Cond.instanceMethod yX7_isThere, Cond.selects RX7 yX7_isThere yX7_isThere, Cond.code yX7_isThere cX7_isThere 4 (some .boolean), Cond.methodLink RX7 42 yX7_of, Cond.instanceMethod yX7_of, Cond.selects RX7 yX7_of yX7_of, Cond.code yX7_of cX7_of 3 (some .int), Cond.methodLink RX7 133 yX7_record, Cond.instanceMethod yX7_record, Cond.selects RX7 yX7_record yX7_record, Cond.code yX7_record cX7_record 2 none]
def wsX7_addPhoto_r2 : List Cond := [Cond.fieldLink RX7 50 "DiscArcsModel" "kept" "I", Cond.fieldLink RX7 13 "DiscArcsModel" "history" "[I"]
def wsX7_addPhoto : List Cond := .code yX7_addPhoto cX7_addPhoto 5 (some .int) :: ((wsX7_addPhoto_r1 ++ wsX7_addPhoto_r2) ++ wsX70)
def wsX7_setAngle : List Cond := .code yX7_setAngle cX7_setAngle 5 (some .int) :: ([.fieldLink RX7 7 "DiscArcsModel" "now" "[I", .methodLink RX7 143 yX7_no, .instanceMethod yX7_no, .selects RX7 yX7_no yX7_no, .initialized RX7, .code yX7_no cX7_no 2 (some .boolean), .methodLink RX7 38 yX7_in, .static yX7_in, .code yX7_in cX7_in 3 (some .boolean), .methodLink RX7 42 yX7_of, .instanceMethod yX7_of, .selects RX7 yX7_of yX7_of, .code yX7_of cX7_of 3 (some .int), .methodLink RX7 133 yX7_record, .instanceMethod yX7_record, .selects RX7 yX7_record yX7_record, .code yX7_record cX7_record 2 none, .fieldLink RX7 50 "DiscArcsModel" "kept" "I", .fieldLink RX7 13 "DiscArcsModel" "history" "[I"] ++ wsX70)
def wsX7_move_r1 : List Cond := [Cond.fieldLink RX7 7 "DiscArcsModel" "now" "[I", Cond.methodLink RX7 143 yX7_no, Cond.instanceMethod yX7_no, Cond.selects RX7 yX7_no yX7_no, Cond.initialized RX7, Cond.code yX7_no cX7_no 2 (some .boolean), Cond.methodLink RX7 38 yX7_in, Cond.static yX7_in, Cond.code yX7_in cX7_in 3 (some .boolean), Cond.methodLink RX7 42 yX7_of, Cond.instanceMethod yX7_of, Cond.selects RX7 yX7_of yX7_of, Cond.code yX7_of cX7_of 3 (some .int), Cond.methodLink RX7 133 yX7_record, Cond.instanceMethod yX7_record, Cond.selects RX7 yX7_record yX7_record, Cond.code yX7_record cX7_record 2 none, Cond.fieldLink RX7 50 "DiscArcsModel" "kept" "I", Cond.fieldLink RX7 13 "DiscArcsModel" "history" "[I", Cond.methodLink RX7 146 yX7_missed, Cond.instanceMethod yX7_missed, Cond.selects RX7 yX7_missed yX7_missed, Cond.code yX7_missed cX7_missed 1 (some .int), Cond.fieldLink RX7 82 "DiscArcsModel" "hit" "I"]
def wsX7_move_r2 : List Cond := [Cond.methodLink RX7 92 yX7_hasBest, Cond.instanceMethod yX7_hasBest, Cond.selects RX7 yX7_hasBest yX7_hasBest, Cond.code yX7_hasBest cX7_hasBest 1 (some .boolean), Cond.methodLink RX7 85 yX7_usable, Cond.instanceMethod yX7_usable, Cond.selects RX7 yX7_usable yX7_usable, Cond.code yX7_usable cX7_usable 3 (some .int), Cond.methodLink RX7 46 yX7_isUsable, Cond.instanceMethod yX7_isUsable, Cond.selects RX7 yX7_isUsable yX7_isUsable, Cond.code yX7_isUsable cX7_isUsable 2 (some .boolean), Cond.methodLink RX7 89 yX7_finds, Cond.instanceMethod yX7_finds, Cond.selects RX7 yX7_finds yX7_finds, Cond.code yX7_finds cX7_finds 7 (some .boolean), Cond.fieldLink RX7 19 "DiscArcsModel" "arc" "[I", Cond.methodLink RX7 74 yX7_hitBy, Cond.instanceMethod yX7_hitBy, Cond.selects RX7 yX7_hitBy yX7_hitBy, Cond.code yX7_hitBy cX7_hitBy 6 (some .int), Cond.methodLink RX7 66 yX7_isHit, Cond.instanceMethod yX7_isHit, Cond.selects RX7 yX7_isHit yX7_isHit]
def wsX7_move_r3 : List Cond := [Cond.code yX7_isHit cX7_isHit 11 (some .boolean), Cond.methodLink RX7 54 yX7_lower, Cond.instanceMethod yX7_lower, Cond.selects RX7 yX7_lower yX7_lower, Cond.code yX7_lower cX7_lower 10 (some .long), Cond.methodLink RX7 58 yX7_upper, Cond.instanceMethod yX7_upper, Cond.selects RX7 yX7_upper yX7_upper, Cond.code yX7_upper cX7_upper 14 (some .long), Cond.methodLink RX7 62 yX7_without, Cond.static yX7_without, Cond.code yX7_without cX7_without 2 (some .long), Cond.methodLink RX7 78 yX7_bits, Cond.static yX7_bits, Cond.code yX7_bits cX7_bits 3 (some .int)]
def wsX7_move : List Cond := .code yX7_move cX7_move 4 (some .int) :: ((wsX7_move_r1 ++ (wsX7_move_r2 ++ wsX7_move_r3)) ++ wsX70)
def wsX7_setAside_r1 : List Cond := [Cond.fieldLink RX7 7 "DiscArcsModel" "now" "[I", Cond.methodLink RX7 143 yX7_no, Cond.instanceMethod yX7_no, Cond.selects RX7 yX7_no yX7_no, Cond.initialized RX7, Cond.code yX7_no cX7_no 2 (some .boolean), Cond.methodLink RX7 38 yX7_in, Cond.static yX7_in, Cond.code yX7_in cX7_in 3 (some .boolean), Cond.methodLink RX7 46 yX7_isUsable, Cond.instanceMethod yX7_isUsable, Cond.selects RX7 yX7_isUsable yX7_isUsable, Cond.code yX7_isUsable cX7_isUsable 2 (some .boolean), Cond.methodLink RX7 42 yX7_of, Cond.instanceMethod yX7_of, Cond.selects RX7 yX7_of yX7_of, Cond.code yX7_of cX7_of 3 (some .int), Cond.methodLink RX7 133 yX7_record, Cond.instanceMethod yX7_record, Cond.selects RX7 yX7_record yX7_record, Cond.code yX7_record cX7_record 2 none, Cond.fieldLink RX7 50 "DiscArcsModel" "kept" "I", Cond.fieldLink RX7 13 "DiscArcsModel" "history" "[I", Cond.methodLink RX7 85 yX7_usable]
def wsX7_setAside_r2 : List Cond := [Cond.instanceMethod yX7_usable, Cond.selects RX7 yX7_usable yX7_usable, Cond.code yX7_usable cX7_usable 3 (some .int), Cond.methodLink RX7 78 yX7_bits, Cond.static yX7_bits, Cond.code yX7_bits cX7_bits 3 (some .int)]
def wsX7_setAside : List Cond := .code yX7_setAside cX7_setAside 3 (some .int) :: ((wsX7_setAside_r1 ++ wsX7_setAside_r2) ++ wsX70)
def wsX7_dropMissed_r1 : List Cond := [Cond.fieldLink RX7 7 "DiscArcsModel" "now" "[I", Cond.methodLink RX7 92 yX7_hasBest, Cond.instanceMethod yX7_hasBest, Cond.selects RX7 yX7_hasBest yX7_hasBest, Cond.initialized RX7, Cond.code yX7_hasBest cX7_hasBest 1 (some .boolean), Cond.methodLink RX7 85 yX7_usable, Cond.instanceMethod yX7_usable, Cond.selects RX7 yX7_usable yX7_usable, Cond.code yX7_usable cX7_usable 3 (some .int), Cond.methodLink RX7 46 yX7_isUsable, Cond.instanceMethod yX7_isUsable, Cond.selects RX7 yX7_isUsable yX7_isUsable, Cond.code yX7_isUsable cX7_isUsable 2 (some .boolean), Cond.methodLink RX7 42 yX7_of, Cond.instanceMethod yX7_of, Cond.selects RX7 yX7_of yX7_of, Cond.code yX7_of cX7_of 3 (some .int), Cond.methodLink RX7 89 yX7_finds, Cond.instanceMethod yX7_finds, Cond.selects RX7 yX7_finds yX7_finds, Cond.code yX7_finds cX7_finds 7 (some .boolean), Cond.fieldLink RX7 19 "DiscArcsModel" "arc" "[I", Cond.fieldLink RX7 82 "DiscArcsModel" "hit" "I"]
def wsX7_dropMissed_r2 : List Cond := [Cond.methodLink RX7 74 yX7_hitBy, Cond.instanceMethod yX7_hitBy, Cond.selects RX7 yX7_hitBy yX7_hitBy, Cond.code yX7_hitBy cX7_hitBy 6 (some .int), Cond.methodLink RX7 66 yX7_isHit, Cond.instanceMethod yX7_isHit, Cond.selects RX7 yX7_isHit yX7_isHit, Cond.code yX7_isHit cX7_isHit 11 (some .boolean), Cond.methodLink RX7 54 yX7_lower, Cond.instanceMethod yX7_lower, Cond.selects RX7 yX7_lower yX7_lower, Cond.code yX7_lower cX7_lower 10 (some .long), Cond.methodLink RX7 58 yX7_upper, Cond.instanceMethod yX7_upper, Cond.selects RX7 yX7_upper yX7_upper, Cond.code yX7_upper cX7_upper 14 (some .long), Cond.methodLink RX7 62 yX7_without, Cond.static yX7_without, Cond.code yX7_without cX7_without 2 (some .long), Cond.methodLink RX7 78 yX7_bits, Cond.static yX7_bits, Cond.code yX7_bits cX7_bits 3 (some .int), Cond.methodLink RX7 146 yX7_missed, Cond.instanceMethod yX7_missed]
def wsX7_dropMissed_r3 : List Cond := [Cond.selects RX7 yX7_missed yX7_missed, Cond.code yX7_missed cX7_missed 1 (some .int), Cond.methodLink RX7 133 yX7_record, Cond.instanceMethod yX7_record, Cond.selects RX7 yX7_record yX7_record, Cond.code yX7_record cX7_record 2 none, Cond.fieldLink RX7 50 "DiscArcsModel" "kept" "I", Cond.fieldLink RX7 13 "DiscArcsModel" "history" "[I"]
def wsX7_dropMissed : List Cond := .code yX7_dropMissed cX7_dropMissed 3 (some .int) :: ((wsX7_dropMissed_r1 ++ (wsX7_dropMissed_r2 ++ wsX7_dropMissed_r3)) ++ wsX70)
def wsX7_remove : List Cond := .code yX7_remove cX7_remove 3 (some .int) :: ([.fieldLink RX7 7 "DiscArcsModel" "now" "[I", .methodLink RX7 143 yX7_no, .instanceMethod yX7_no, .selects RX7 yX7_no yX7_no, .initialized RX7, .code yX7_no cX7_no 2 (some .boolean), .methodLink RX7 38 yX7_in, .static yX7_in, .code yX7_in cX7_in 3 (some .boolean), .methodLink RX7 133 yX7_record, .instanceMethod yX7_record, .selects RX7 yX7_record yX7_record, .code yX7_record cX7_record 2 none, .fieldLink RX7 50 "DiscArcsModel" "kept" "I", .fieldLink RX7 13 "DiscArcsModel" "history" "[I"] ++ wsX70)
def wsX7_type : List Cond := .code yX7_type cX7_type 2 (some .int) :: ([.fieldLink RX7 149 "DiscArcsModel" "typed" "I", .fieldLink RX7 31 "DiscArcsModel" "text" "[C"] ++ wsX70)
def wsX7_clearText : List Cond := .code yX7_clearText cX7_clearText 2 (some .int) :: ([.fieldLink RX7 149 "DiscArcsModel" "typed" "I"] ++ wsX70)
def wsX7_isDigit : List Cond := .code yX7_isDigit cX7_isDigit 1 (some .boolean) :: ([.fieldLink RX7 152 "DiscArcsModel" "at" "I", .fieldLink RX7 149 "DiscArcsModel" "typed" "I", .fieldLink RX7 31 "DiscArcsModel" "text" "[C", .methodLink RX7 38 yX7_in, .static yX7_in, .initialized RX7, .code yX7_in cX7_in 3 (some .boolean)] ++ wsX70)
def wsX7_takes : List Cond := .code yX7_takes cX7_takes 3 (some .boolean) :: ([.fieldLink RX7 152 "DiscArcsModel" "at" "I", .fieldLink RX7 149 "DiscArcsModel" "typed" "I", .fieldLink RX7 31 "DiscArcsModel" "text" "[C"] ++ wsX70)
def wsX7_takesNumber : List Cond := .code yX7_takesNumber cX7_takesNumber 4 (some .boolean) :: ([.fieldLink RX7 31 "DiscArcsModel" "text" "[C", .fieldLink RX7 152 "DiscArcsModel" "at" "I", .fieldLink RX7 161 "DiscArcsModel" "number" "I", .methodLink RX7 155 yX7_takes, .instanceMethod yX7_takes, .selects RX7 yX7_takes yX7_takes, .initialized RX7, .code yX7_takes cX7_takes 3 (some .boolean), .fieldLink RX7 149 "DiscArcsModel" "typed" "I", .methodLink RX7 158 yX7_isDigit, .instanceMethod yX7_isDigit, .selects RX7 yX7_isDigit yX7_isDigit, .code yX7_isDigit cX7_isDigit 1 (some .boolean), .methodLink RX7 38 yX7_in, .static yX7_in, .code yX7_in cX7_in 3 (some .boolean)] ++ wsX70)
def wsX7_isRead : List Cond := .code yX7_isRead cX7_isRead 2 (some .boolean) :: ([.fieldLink RX7 152 "DiscArcsModel" "at" "I", .fieldLink RX7 35 "DiscArcsModel" "read" "[I", .fieldLink RX7 161 "DiscArcsModel" "number" "I", .fieldLink RX7 149 "DiscArcsModel" "typed" "I", .methodLink RX7 155 yX7_takes, .instanceMethod yX7_takes, .selects RX7 yX7_takes yX7_takes, .initialized RX7, .code yX7_takes cX7_takes 3 (some .boolean), .fieldLink RX7 31 "DiscArcsModel" "text" "[C", .methodLink RX7 164 yX7_takesNumber, .instanceMethod yX7_takesNumber, .selects RX7 yX7_takesNumber yX7_takesNumber, .code yX7_takesNumber cX7_takesNumber 4 (some .boolean), .methodLink RX7 158 yX7_isDigit, .instanceMethod yX7_isDigit, .selects RX7 yX7_isDigit yX7_isDigit, .code yX7_isDigit cX7_isDigit 1 (some .boolean), .methodLink RX7 38 yX7_in, .static yX7_in, .code yX7_in cX7_in 3 (some .boolean)] ++ wsX70)
def wsX7_isTold : List Cond := .code yX7_isTold cX7_isTold 3 (some .boolean) :: ([.fieldLink RX7 149 "DiscArcsModel" "typed" "I", .fieldLink RX7 31 "DiscArcsModel" "text" "[C"] ++ wsX70)
def wsX7_readPhoto_r1 : List Cond := [Cond.fieldLink RX7 152 "DiscArcsModel" "at" "I", Cond.fieldLink RX7 35 "DiscArcsModel" "read" "[I", Cond.methodLink RX7 168 yX7_isRead, Cond.instanceMethod yX7_isRead, Cond.selects RX7 yX7_isRead yX7_isRead, Cond.initialized RX7, Cond.code yX7_isRead cX7_isRead 2 (some .boolean), Cond.fieldLink RX7 161 "DiscArcsModel" "number" "I", Cond.fieldLink RX7 149 "DiscArcsModel" "typed" "I", Cond.methodLink RX7 155 yX7_takes, Cond.instanceMethod yX7_takes, Cond.selects RX7 yX7_takes yX7_takes, Cond.code yX7_takes cX7_takes 3 (some .boolean), Cond.fieldLink RX7 31 "DiscArcsModel" "text" "[C", Cond.methodLink RX7 164 yX7_takesNumber, Cond.instanceMethod yX7_takesNumber, Cond.selects RX7 yX7_takesNumber yX7_takesNumber, Cond.code yX7_takesNumber cX7_takesNumber 4 (some .boolean), Cond.methodLink RX7 158 yX7_isDigit, Cond.instanceMethod yX7_isDigit, Cond.selects RX7 yX7_isDigit yX7_isDigit, Cond.code yX7_isDigit cX7_isDigit 1 (some .boolean), Cond.methodLink RX7 38 yX7_in, Cond.static yX7_in]
def wsX7_readPhoto_r2 : List Cond := [Cond.code yX7_in cX7_in 3 (some .boolean), Cond.methodLink RX7 171 yX7_isTold, Cond.instanceMethod yX7_isTold, Cond.selects RX7 yX7_isTold yX7_isTold, Cond.code yX7_isTold cX7_isTold 3 (some .boolean), Cond.methodLink RX7 136 yX7_isPhoto, Cond.static yX7_isPhoto, Cond.code yX7_isPhoto cX7_isPhoto 4 (some .boolean), Cond.methodLink RX7 139 yX7_comes, Cond.instanceMethod yX7_comes, Cond.selects RX7 yX7_comes yX7_comes, Cond.code yX7_comes cX7_comes 9 (some .int), Cond.fieldLink RX7 7 "DiscArcsModel" "now" "[I", Cond.methodLink RX7 130 yX7_isThere, Cond.instanceMethod yX7_isThere, Cond.selects RX7 yX7_isThere yX7_isThere, Cond.code yX7_isThere cX7_isThere 4 (some .boolean), Cond.methodLink RX7 42 yX7_of, Cond.instanceMethod yX7_of, Cond.selects RX7 yX7_of yX7_of, Cond.code yX7_of cX7_of 3 (some .int), Cond.methodLink RX7 133 yX7_record, Cond.instanceMethod yX7_record, Cond.selects RX7 yX7_record yX7_record]
def wsX7_readPhoto_r3 : List Cond := [Cond.code yX7_record cX7_record 2 none, Cond.fieldLink RX7 50 "DiscArcsModel" "kept" "I", Cond.fieldLink RX7 13 "DiscArcsModel" "history" "[I"]
def wsX7_readPhoto : List Cond := .code yX7_readPhoto cX7_readPhoto 2 (some .int) :: ((wsX7_readPhoto_r1 ++ (wsX7_readPhoto_r2 ++ wsX7_readPhoto_r3)) ++ wsX70)
def wsX7_undo : List Cond := .code yX7_undo cX7_undo 2 (some .int) :: ([.fieldLink RX7 50 "DiscArcsModel" "kept" "I", .fieldLink RX7 7 "DiscArcsModel" "now" "[I", .fieldLink RX7 13 "DiscArcsModel" "history" "[I"] ++ wsX70)
def wsX7_keep : List Cond := .code yX7_keep cX7_keep 2 (some .int) :: ([.fieldLink RX7 16 "DiscArcsModel" "slot" "[I", .fieldLink RX7 7 "DiscArcsModel" "now" "[I", .fieldLink RX7 174 "DiscArcsModel" "isFilled" "Z"] ++ wsX70)
def wsX7_restore : List Cond := .code yX7_restore cX7_restore 2 (some .int) :: ([.fieldLink RX7 174 "DiscArcsModel" "isFilled" "Z", .fieldLink RX7 7 "DiscArcsModel" "now" "[I", .fieldLink RX7 16 "DiscArcsModel" "slot" "[I", .methodLink RX7 133 yX7_record, .instanceMethod yX7_record, .selects RX7 yX7_record yX7_record, .initialized RX7, .code yX7_record cX7_record 2 none, .fieldLink RX7 50 "DiscArcsModel" "kept" "I", .fieldLink RX7 13 "DiscArcsModel" "history" "[I"] ++ wsX70)
def wsX7_photo_r1 : List Cond := [Cond.fieldLink RX7 127 "DiscArcsModel" "bestFitted" "I", Cond.methodLink RX7 143 yX7_no, Cond.instanceMethod yX7_no, Cond.selects RX7 yX7_no yX7_no, Cond.initialized RX7, Cond.code yX7_no cX7_no 2 (some .boolean), Cond.fieldLink RX7 7 "DiscArcsModel" "now" "[I", Cond.methodLink RX7 38 yX7_in, Cond.static yX7_in, Cond.code yX7_in cX7_in 3 (some .boolean), Cond.methodLink RX7 42 yX7_of, Cond.instanceMethod yX7_of, Cond.selects RX7 yX7_of yX7_of, Cond.code yX7_of cX7_of 3 (some .int), Cond.methodLink RX7 112 yX7_hasAngle, Cond.instanceMethod yX7_hasAngle, Cond.selects RX7 yX7_hasAngle yX7_hasAngle, Cond.code yX7_hasAngle cX7_hasAngle 2 (some .boolean), Cond.methodLink RX7 46 yX7_isUsable, Cond.instanceMethod yX7_isUsable, Cond.selects RX7 yX7_isUsable yX7_isUsable, Cond.code yX7_isUsable cX7_isUsable 2 (some .boolean), Cond.methodLink RX7 178 yX7_findsSpin, Cond.instanceMethod yX7_findsSpin]
def wsX7_photo_r2 : List Cond := [Cond.selects RX7 yX7_findsSpin yX7_findsSpin, Cond.code yX7_findsSpin cX7_findsSpin 7 (some .boolean), Cond.fieldLink RX7 121 "DiscArcsModel" "bestSpin" "I", Cond.fieldLink RX7 124 "DiscArcsModel" "bestBeginning" "I", Cond.methodLink RX7 118 yX7_fitted, Cond.instanceMethod yX7_fitted, Cond.selects RX7 yX7_fitted yX7_fitted, Cond.code yX7_fitted cX7_fitted 5 (some .int), Cond.methodLink RX7 115 yX7_isFitted, Cond.instanceMethod yX7_isFitted, Cond.selects RX7 yX7_isFitted yX7_isFitted, Cond.code yX7_isFitted cX7_isFitted 5 (some .boolean), Cond.methodLink RX7 109 yX7_angle, Cond.static yX7_angle, Cond.code yX7_angle cX7_angle 4 (some .int), Cond.methodLink RX7 78 yX7_bits, Cond.static yX7_bits, Cond.code yX7_bits cX7_bits 3 (some .int)]
def wsX7_photo : List Cond := .code yX7_photo cX7_photo 4 (some .int) :: ((wsX7_photo_r1 ++ wsX7_photo_r2) ++ wsX70)
def wsX7_areThree : List Cond := .code yX7_areThree cX7_areThree 4 (some .boolean) :: ([])
def wsX7_areUsable : List Cond := .code yX7_areUsable cX7_areUsable 4 (some .boolean) :: ([.methodLink RX7 46 yX7_isUsable, .instanceMethod yX7_isUsable, .selects RX7 yX7_isUsable yX7_isUsable, .initialized RX7, .code yX7_isUsable cX7_isUsable 2 (some .boolean), .methodLink RX7 42 yX7_of, .instanceMethod yX7_of, .selects RX7 yX7_of yX7_of, .code yX7_of cX7_of 3 (some .int), .fieldLink RX7 7 "DiscArcsModel" "now" "[I"] ++ wsX70)
def wsX7_isAsked : List Cond := .code yX7_isAsked cX7_isAsked 3 (some .boolean) :: ([.methodLink RX7 38 yX7_in, .static yX7_in, .initialized RX7, .code yX7_in cX7_in 3 (some .boolean)])
def wsX7_arc_r1 : List Cond := [Cond.constantLong RX7 70 (-1), Cond.constantLong RX7 187 (-2), Cond.constantLong RX7 196 (-4), Cond.methodLink RX7 143 yX7_no, Cond.instanceMethod yX7_no, Cond.selects RX7 yX7_no yX7_no, Cond.initialized RX7, Cond.code yX7_no cX7_no 2 (some .boolean), Cond.fieldLink RX7 7 "DiscArcsModel" "now" "[I", Cond.methodLink RX7 38 yX7_in, Cond.static yX7_in, Cond.code yX7_in cX7_in 3 (some .boolean), Cond.methodLink RX7 181 yX7_isAsked, Cond.static yX7_isAsked, Cond.code yX7_isAsked cX7_isAsked 3 (some .boolean), Cond.methodLink RX7 184 yX7_areThree, Cond.instanceMethod yX7_areThree, Cond.selects RX7 yX7_areThree yX7_areThree, Cond.code yX7_areThree cX7_areThree 4 (some .boolean), Cond.methodLink RX7 189 yX7_areUsable, Cond.instanceMethod yX7_areUsable, Cond.selects RX7 yX7_areUsable yX7_areUsable, Cond.code yX7_areUsable cX7_areUsable 4 (some .boolean), Cond.methodLink RX7 46 yX7_isUsable]
def wsX7_arc_r2 : List Cond := [Cond.instanceMethod yX7_isUsable, Cond.selects RX7 yX7_isUsable yX7_isUsable, Cond.code yX7_isUsable cX7_isUsable 2 (some .boolean), Cond.methodLink RX7 42 yX7_of, Cond.instanceMethod yX7_of, Cond.selects RX7 yX7_of yX7_of, Cond.code yX7_of cX7_of 3 (some .int), Cond.methodLink RX7 58 yX7_upper, Cond.instanceMethod yX7_upper, Cond.selects RX7 yX7_upper yX7_upper, Cond.code yX7_upper cX7_upper 14 (some .long), Cond.methodLink RX7 54 yX7_lower, Cond.instanceMethod yX7_lower, Cond.selects RX7 yX7_lower yX7_lower, Cond.code yX7_lower cX7_lower 10 (some .long), Cond.methodLink RX7 192 yX7_part, Cond.static yX7_part, Cond.code yX7_part cX7_part 11 (some .long), Cond.constantLong RX7 72 (10000000000), Cond.methodLink RX7 62 yX7_without, Cond.static yX7_without, Cond.code yX7_without cX7_without 2 (some .long)]
def wsX7_arc : List Cond := .code yX7_arc cX7_arc 7 (some .long) :: ((wsX7_arc_r1 ++ wsX7_arc_r2) ++ wsX70)
def wsX7_hits_r1 : List Cond := [Cond.methodLink RX7 143 yX7_no, Cond.instanceMethod yX7_no, Cond.selects RX7 yX7_no yX7_no, Cond.initialized RX7, Cond.code yX7_no cX7_no 2 (some .boolean), Cond.fieldLink RX7 7 "DiscArcsModel" "now" "[I", Cond.methodLink RX7 38 yX7_in, Cond.static yX7_in, Cond.code yX7_in cX7_in 3 (some .boolean), Cond.methodLink RX7 184 yX7_areThree, Cond.instanceMethod yX7_areThree, Cond.selects RX7 yX7_areThree yX7_areThree, Cond.code yX7_areThree cX7_areThree 4 (some .boolean), Cond.methodLink RX7 189 yX7_areUsable, Cond.instanceMethod yX7_areUsable, Cond.selects RX7 yX7_areUsable yX7_areUsable, Cond.code yX7_areUsable cX7_areUsable 4 (some .boolean), Cond.methodLink RX7 46 yX7_isUsable, Cond.instanceMethod yX7_isUsable, Cond.selects RX7 yX7_isUsable yX7_isUsable, Cond.code yX7_isUsable cX7_isUsable 2 (some .boolean), Cond.methodLink RX7 42 yX7_of, Cond.instanceMethod yX7_of, Cond.selects RX7 yX7_of yX7_of]
def wsX7_hits_r2 : List Cond := [Cond.code yX7_of cX7_of 3 (some .int), Cond.methodLink RX7 74 yX7_hitBy, Cond.instanceMethod yX7_hitBy, Cond.selects RX7 yX7_hitBy yX7_hitBy, Cond.code yX7_hitBy cX7_hitBy 6 (some .int), Cond.methodLink RX7 66 yX7_isHit, Cond.instanceMethod yX7_isHit, Cond.selects RX7 yX7_isHit yX7_isHit, Cond.code yX7_isHit cX7_isHit 11 (some .boolean), Cond.methodLink RX7 54 yX7_lower, Cond.instanceMethod yX7_lower, Cond.selects RX7 yX7_lower yX7_lower, Cond.code yX7_lower cX7_lower 10 (some .long), Cond.methodLink RX7 58 yX7_upper, Cond.instanceMethod yX7_upper, Cond.selects RX7 yX7_upper yX7_upper, Cond.code yX7_upper cX7_upper 14 (some .long), Cond.methodLink RX7 62 yX7_without, Cond.static yX7_without, Cond.code yX7_without cX7_without 2 (some .long)]
def wsX7_hits : List Cond := .code yX7_hits cX7_hits 4 (some .int) :: ((wsX7_hits_r1 ++ wsX7_hits_r2) ++ wsX70)
def wsX7_best_r1 : List Cond := [Cond.fieldLink RX7 19 "DiscArcsModel" "arc" "[I", Cond.methodLink RX7 38 yX7_in, Cond.static yX7_in, Cond.initialized RX7, Cond.code yX7_in cX7_in 3 (some .boolean), Cond.methodLink RX7 92 yX7_hasBest, Cond.instanceMethod yX7_hasBest, Cond.selects RX7 yX7_hasBest yX7_hasBest, Cond.code yX7_hasBest cX7_hasBest 1 (some .boolean), Cond.methodLink RX7 85 yX7_usable, Cond.instanceMethod yX7_usable, Cond.selects RX7 yX7_usable yX7_usable, Cond.code yX7_usable cX7_usable 3 (some .int), Cond.fieldLink RX7 7 "DiscArcsModel" "now" "[I", Cond.methodLink RX7 46 yX7_isUsable, Cond.instanceMethod yX7_isUsable, Cond.selects RX7 yX7_isUsable yX7_isUsable, Cond.code yX7_isUsable cX7_isUsable 2 (some .boolean), Cond.methodLink RX7 42 yX7_of, Cond.instanceMethod yX7_of, Cond.selects RX7 yX7_of yX7_of, Cond.code yX7_of cX7_of 3 (some .int), Cond.methodLink RX7 89 yX7_finds, Cond.instanceMethod yX7_finds]
def wsX7_best_r2 : List Cond := [Cond.selects RX7 yX7_finds yX7_finds, Cond.code yX7_finds cX7_finds 7 (some .boolean), Cond.fieldLink RX7 82 "DiscArcsModel" "hit" "I", Cond.methodLink RX7 74 yX7_hitBy, Cond.instanceMethod yX7_hitBy, Cond.selects RX7 yX7_hitBy yX7_hitBy, Cond.code yX7_hitBy cX7_hitBy 6 (some .int), Cond.methodLink RX7 66 yX7_isHit, Cond.instanceMethod yX7_isHit, Cond.selects RX7 yX7_isHit yX7_isHit, Cond.code yX7_isHit cX7_isHit 11 (some .boolean), Cond.methodLink RX7 54 yX7_lower, Cond.instanceMethod yX7_lower, Cond.selects RX7 yX7_lower yX7_lower, Cond.code yX7_lower cX7_lower 10 (some .long), Cond.methodLink RX7 58 yX7_upper, Cond.instanceMethod yX7_upper, Cond.selects RX7 yX7_upper yX7_upper, Cond.code yX7_upper cX7_upper 14 (some .long), Cond.methodLink RX7 62 yX7_without, Cond.static yX7_without, Cond.code yX7_without cX7_without 2 (some .long), Cond.methodLink RX7 78 yX7_bits, Cond.static yX7_bits]
def wsX7_best_r3 : List Cond := [Cond.code yX7_bits cX7_bits 3 (some .int), Cond.methodLink RX7 146 yX7_missed, Cond.instanceMethod yX7_missed, Cond.selects RX7 yX7_missed yX7_missed, Cond.code yX7_missed cX7_missed 1 (some .int)]
def wsX7_best : List Cond := .code yX7_best cX7_best 2 (some .int) :: ((wsX7_best_r1 ++ (wsX7_best_r2 ++ wsX7_best_r3)) ++ wsX70)
def wsX7_bestAt_r1 : List Cond := [Cond.constantLong RX7 187 (-2), Cond.fieldLink RX7 19 "DiscArcsModel" "arc" "[I", Cond.constantLong RX7 196 (-4), Cond.methodLink RX7 181 yX7_isAsked, Cond.static yX7_isAsked, Cond.initialized RX7, Cond.code yX7_isAsked cX7_isAsked 3 (some .boolean), Cond.methodLink RX7 38 yX7_in, Cond.static yX7_in, Cond.code yX7_in cX7_in 3 (some .boolean), Cond.methodLink RX7 92 yX7_hasBest, Cond.instanceMethod yX7_hasBest, Cond.selects RX7 yX7_hasBest yX7_hasBest, Cond.code yX7_hasBest cX7_hasBest 1 (some .boolean), Cond.methodLink RX7 85 yX7_usable, Cond.instanceMethod yX7_usable, Cond.selects RX7 yX7_usable yX7_usable, Cond.code yX7_usable cX7_usable 3 (some .int), Cond.fieldLink RX7 7 "DiscArcsModel" "now" "[I", Cond.methodLink RX7 46 yX7_isUsable, Cond.instanceMethod yX7_isUsable, Cond.selects RX7 yX7_isUsable yX7_isUsable, Cond.code yX7_isUsable cX7_isUsable 2 (some .boolean), Cond.methodLink RX7 42 yX7_of]
def wsX7_bestAt_r2 : List Cond := [Cond.instanceMethod yX7_of, Cond.selects RX7 yX7_of yX7_of, Cond.code yX7_of cX7_of 3 (some .int), Cond.methodLink RX7 89 yX7_finds, Cond.instanceMethod yX7_finds, Cond.selects RX7 yX7_finds yX7_finds, Cond.code yX7_finds cX7_finds 7 (some .boolean), Cond.fieldLink RX7 82 "DiscArcsModel" "hit" "I", Cond.methodLink RX7 74 yX7_hitBy, Cond.instanceMethod yX7_hitBy, Cond.selects RX7 yX7_hitBy yX7_hitBy, Cond.code yX7_hitBy cX7_hitBy 6 (some .int), Cond.methodLink RX7 66 yX7_isHit, Cond.instanceMethod yX7_isHit, Cond.selects RX7 yX7_isHit yX7_isHit, Cond.code yX7_isHit cX7_isHit 11 (some .boolean), Cond.methodLink RX7 54 yX7_lower, Cond.instanceMethod yX7_lower, Cond.selects RX7 yX7_lower yX7_lower, Cond.code yX7_lower cX7_lower 10 (some .long), Cond.methodLink RX7 58 yX7_upper, Cond.instanceMethod yX7_upper, Cond.selects RX7 yX7_upper yX7_upper, Cond.code yX7_upper cX7_upper 14 (some .long)]
def wsX7_bestAt_r3 : List Cond := [Cond.methodLink RX7 62 yX7_without, Cond.static yX7_without, Cond.code yX7_without cX7_without 2 (some .long), Cond.methodLink RX7 78 yX7_bits, Cond.static yX7_bits, Cond.code yX7_bits cX7_bits 3 (some .int), Cond.methodLink RX7 192 yX7_part, Cond.static yX7_part, Cond.code yX7_part cX7_part 11 (some .long), Cond.constantLong RX7 70 (-1), Cond.constantLong RX7 72 (10000000000)]
def wsX7_bestAt : List Cond := .code yX7_bestAt cX7_bestAt 4 (some .long) :: ((wsX7_bestAt_r1 ++ (wsX7_bestAt_r2 ++ wsX7_bestAt_r3)) ++ wsX70)
def wsX7_lands_r1 : List Cond := [Cond.fieldLink RX7 19 "DiscArcsModel" "arc" "[I", Cond.methodLink RX7 92 yX7_hasBest, Cond.instanceMethod yX7_hasBest, Cond.selects RX7 yX7_hasBest yX7_hasBest, Cond.initialized RX7, Cond.code yX7_hasBest cX7_hasBest 1 (some .boolean), Cond.methodLink RX7 85 yX7_usable, Cond.instanceMethod yX7_usable, Cond.selects RX7 yX7_usable yX7_usable, Cond.code yX7_usable cX7_usable 3 (some .int), Cond.fieldLink RX7 7 "DiscArcsModel" "now" "[I", Cond.methodLink RX7 46 yX7_isUsable, Cond.instanceMethod yX7_isUsable, Cond.selects RX7 yX7_isUsable yX7_isUsable, Cond.code yX7_isUsable cX7_isUsable 2 (some .boolean), Cond.methodLink RX7 42 yX7_of, Cond.instanceMethod yX7_of, Cond.selects RX7 yX7_of yX7_of, Cond.code yX7_of cX7_of 3 (some .int), Cond.methodLink RX7 89 yX7_finds, Cond.instanceMethod yX7_finds, Cond.selects RX7 yX7_finds yX7_finds, Cond.code yX7_finds cX7_finds 7 (some .boolean), Cond.fieldLink RX7 82 "DiscArcsModel" "hit" "I"]
def wsX7_lands_r2 : List Cond := [Cond.methodLink RX7 74 yX7_hitBy, Cond.instanceMethod yX7_hitBy, Cond.selects RX7 yX7_hitBy yX7_hitBy, Cond.code yX7_hitBy cX7_hitBy 6 (some .int), Cond.methodLink RX7 66 yX7_isHit, Cond.instanceMethod yX7_isHit, Cond.selects RX7 yX7_isHit yX7_isHit, Cond.code yX7_isHit cX7_isHit 11 (some .boolean), Cond.methodLink RX7 54 yX7_lower, Cond.instanceMethod yX7_lower, Cond.selects RX7 yX7_lower yX7_lower, Cond.code yX7_lower cX7_lower 10 (some .long), Cond.methodLink RX7 58 yX7_upper, Cond.instanceMethod yX7_upper, Cond.selects RX7 yX7_upper yX7_upper, Cond.code yX7_upper cX7_upper 14 (some .long), Cond.methodLink RX7 62 yX7_without, Cond.static yX7_without, Cond.code yX7_without cX7_without 2 (some .long), Cond.methodLink RX7 78 yX7_bits, Cond.static yX7_bits, Cond.code yX7_bits cX7_bits 3 (some .int)]
def wsX7_lands : List Cond := .code yX7_lands cX7_lands 2 (some .int) :: ((wsX7_lands_r1 ++ wsX7_lands_r2) ++ wsX70)
def wsX7_track_r1 : List Cond := [Cond.fieldLink RX7 96 "DiscArcsModel" "ordered" "I", Cond.fieldLink RX7 25 "DiscArcsModel" "longest" "[I", Cond.fieldLink RX7 28 "DiscArcsModel" "order" "[I", Cond.fieldLink RX7 19 "DiscArcsModel" "arc" "[I", Cond.methodLink RX7 38 yX7_in, Cond.static yX7_in, Cond.initialized RX7, Cond.code yX7_in cX7_in 3 (some .boolean), Cond.methodLink RX7 198 yX7_findsTrack, Cond.instanceMethod yX7_findsTrack, Cond.selects RX7 yX7_findsTrack yX7_findsTrack, Cond.code yX7_findsTrack cX7_findsTrack 3 none, Cond.fieldLink RX7 22 "DiscArcsModel" "rows" "[I", Cond.methodLink RX7 102 yX7_orders, Cond.instanceMethod yX7_orders, Cond.selects RX7 yX7_orders yX7_orders, Cond.code yX7_orders cX7_orders 2 none, Cond.fieldLink RX7 7 "DiscArcsModel" "now" "[I", Cond.methodLink RX7 46 yX7_isUsable, Cond.instanceMethod yX7_isUsable, Cond.selects RX7 yX7_isUsable yX7_isUsable, Cond.code yX7_isUsable cX7_isUsable 2 (some .boolean), Cond.methodLink RX7 42 yX7_of, Cond.instanceMethod yX7_of]
def wsX7_track_r2 : List Cond := [Cond.selects RX7 yX7_of yX7_of, Cond.code yX7_of cX7_of 3 (some .int), Cond.methodLink RX7 105 yX7_fitsAsRow, Cond.instanceMethod yX7_fitsAsRow, Cond.selects RX7 yX7_fitsAsRow yX7_fitsAsRow, Cond.code yX7_fitsAsRow cX7_fitsAsRow 4 (some .boolean), Cond.fieldLink RX7 82 "DiscArcsModel" "hit" "I", Cond.methodLink RX7 99 yX7_setOf, Cond.instanceMethod yX7_setOf, Cond.selects RX7 yX7_setOf yX7_setOf, Cond.code yX7_setOf cX7_setOf 5 (some .int), Cond.methodLink RX7 89 yX7_finds, Cond.instanceMethod yX7_finds, Cond.selects RX7 yX7_finds yX7_finds, Cond.code yX7_finds cX7_finds 7 (some .boolean), Cond.methodLink RX7 74 yX7_hitBy, Cond.instanceMethod yX7_hitBy, Cond.selects RX7 yX7_hitBy yX7_hitBy, Cond.code yX7_hitBy cX7_hitBy 6 (some .int), Cond.methodLink RX7 66 yX7_isHit, Cond.instanceMethod yX7_isHit, Cond.selects RX7 yX7_isHit yX7_isHit, Cond.code yX7_isHit cX7_isHit 11 (some .boolean), Cond.methodLink RX7 54 yX7_lower]
def wsX7_track_r3 : List Cond := [Cond.instanceMethod yX7_lower, Cond.selects RX7 yX7_lower yX7_lower, Cond.code yX7_lower cX7_lower 10 (some .long), Cond.methodLink RX7 58 yX7_upper, Cond.instanceMethod yX7_upper, Cond.selects RX7 yX7_upper yX7_upper, Cond.code yX7_upper cX7_upper 14 (some .long), Cond.methodLink RX7 62 yX7_without, Cond.static yX7_without, Cond.code yX7_without cX7_without 2 (some .long), Cond.methodLink RX7 78 yX7_bits, Cond.static yX7_bits, Cond.code yX7_bits cX7_bits 3 (some .int)]
def wsX7_track : List Cond := .code yX7_track cX7_track 6 (some .int) :: ((wsX7_track_r1 ++ (wsX7_track_r2 ++ wsX7_track_r3)) ++ wsX70)
def wsX7_fitsFrom_r1 : List Cond := [Cond.fieldLink RX7 28 "DiscArcsModel" "order" "[I", Cond.fieldLink RX7 96 "DiscArcsModel" "ordered" "I", Cond.methodLink RX7 143 yX7_no, Cond.instanceMethod yX7_no, Cond.selects RX7 yX7_no yX7_no, Cond.initialized RX7, Cond.code yX7_no cX7_no 2 (some .boolean), Cond.fieldLink RX7 7 "DiscArcsModel" "now" "[I", Cond.methodLink RX7 38 yX7_in, Cond.static yX7_in, Cond.code yX7_in cX7_in 3 (some .boolean), Cond.methodLink RX7 46 yX7_isUsable, Cond.instanceMethod yX7_isUsable, Cond.selects RX7 yX7_isUsable yX7_isUsable, Cond.code yX7_isUsable cX7_isUsable 2 (some .boolean), Cond.methodLink RX7 42 yX7_of, Cond.instanceMethod yX7_of, Cond.selects RX7 yX7_of yX7_of, Cond.code yX7_of cX7_of 3 (some .int), Cond.methodLink RX7 102 yX7_orders, Cond.instanceMethod yX7_orders, Cond.selects RX7 yX7_orders yX7_orders, Cond.code yX7_orders cX7_orders 2 none, Cond.methodLink RX7 105 yX7_fitsAsRow]
def wsX7_fitsFrom_r2 : List Cond := [Cond.instanceMethod yX7_fitsAsRow, Cond.selects RX7 yX7_fitsAsRow yX7_fitsAsRow, Cond.code yX7_fitsAsRow cX7_fitsAsRow 4 (some .boolean), Cond.fieldLink RX7 82 "DiscArcsModel" "hit" "I", Cond.methodLink RX7 99 yX7_setOf, Cond.instanceMethod yX7_setOf, Cond.selects RX7 yX7_setOf yX7_setOf, Cond.code yX7_setOf cX7_setOf 5 (some .int), Cond.methodLink RX7 89 yX7_finds, Cond.instanceMethod yX7_finds, Cond.selects RX7 yX7_finds yX7_finds, Cond.code yX7_finds cX7_finds 7 (some .boolean), Cond.fieldLink RX7 19 "DiscArcsModel" "arc" "[I", Cond.methodLink RX7 74 yX7_hitBy, Cond.instanceMethod yX7_hitBy, Cond.selects RX7 yX7_hitBy yX7_hitBy, Cond.code yX7_hitBy cX7_hitBy 6 (some .int), Cond.methodLink RX7 66 yX7_isHit, Cond.instanceMethod yX7_isHit, Cond.selects RX7 yX7_isHit yX7_isHit, Cond.code yX7_isHit cX7_isHit 11 (some .boolean), Cond.methodLink RX7 54 yX7_lower, Cond.instanceMethod yX7_lower, Cond.selects RX7 yX7_lower yX7_lower]
def wsX7_fitsFrom_r3 : List Cond := [Cond.code yX7_lower cX7_lower 10 (some .long), Cond.methodLink RX7 58 yX7_upper, Cond.instanceMethod yX7_upper, Cond.selects RX7 yX7_upper yX7_upper, Cond.code yX7_upper cX7_upper 14 (some .long), Cond.methodLink RX7 62 yX7_without, Cond.static yX7_without, Cond.code yX7_without cX7_without 2 (some .long), Cond.methodLink RX7 78 yX7_bits, Cond.static yX7_bits, Cond.code yX7_bits cX7_bits 3 (some .int)]
def wsX7_fitsFrom : List Cond := .code yX7_fitsFrom cX7_fitsFrom 4 (some .int) :: ((wsX7_fitsFrom_r1 ++ (wsX7_fitsFrom_r2 ++ wsX7_fitsFrom_r3)) ++ wsX70)
def wsX7_spin_r1 : List Cond := [Cond.fieldLink RX7 121 "DiscArcsModel" "bestSpin" "I", Cond.fieldLink RX7 124 "DiscArcsModel" "bestBeginning" "I", Cond.fieldLink RX7 127 "DiscArcsModel" "bestFitted" "I", Cond.methodLink RX7 38 yX7_in, Cond.static yX7_in, Cond.initialized RX7, Cond.code yX7_in cX7_in 3 (some .boolean), Cond.methodLink RX7 178 yX7_findsSpin, Cond.instanceMethod yX7_findsSpin, Cond.selects RX7 yX7_findsSpin yX7_findsSpin, Cond.code yX7_findsSpin cX7_findsSpin 7 (some .boolean), Cond.fieldLink RX7 7 "DiscArcsModel" "now" "[I", Cond.methodLink RX7 112 yX7_hasAngle, Cond.instanceMethod yX7_hasAngle, Cond.selects RX7 yX7_hasAngle yX7_hasAngle, Cond.code yX7_hasAngle cX7_hasAngle 2 (some .boolean), Cond.methodLink RX7 46 yX7_isUsable, Cond.instanceMethod yX7_isUsable, Cond.selects RX7 yX7_isUsable yX7_isUsable, Cond.code yX7_isUsable cX7_isUsable 2 (some .boolean), Cond.methodLink RX7 42 yX7_of, Cond.instanceMethod yX7_of, Cond.selects RX7 yX7_of yX7_of, Cond.code yX7_of cX7_of 3 (some .int)]
def wsX7_spin_r2 : List Cond := [Cond.methodLink RX7 118 yX7_fitted, Cond.instanceMethod yX7_fitted, Cond.selects RX7 yX7_fitted yX7_fitted, Cond.code yX7_fitted cX7_fitted 5 (some .int), Cond.methodLink RX7 115 yX7_isFitted, Cond.instanceMethod yX7_isFitted, Cond.selects RX7 yX7_isFitted yX7_isFitted, Cond.code yX7_isFitted cX7_isFitted 5 (some .boolean), Cond.methodLink RX7 109 yX7_angle, Cond.static yX7_angle, Cond.code yX7_angle cX7_angle 4 (some .int), Cond.methodLink RX7 78 yX7_bits, Cond.static yX7_bits, Cond.code yX7_bits cX7_bits 3 (some .int)]
def wsX7_spin : List Cond := .code yX7_spin cX7_spin 2 (some .int) :: ((wsX7_spin_r1 ++ wsX7_spin_r2) ++ wsX70)
def wsX7_fits_r1 : List Cond := [Cond.methodLink RX7 38 yX7_in, Cond.static yX7_in, Cond.initialized RX7, Cond.code yX7_in cX7_in 3 (some .boolean), Cond.methodLink RX7 118 yX7_fitted, Cond.instanceMethod yX7_fitted, Cond.selects RX7 yX7_fitted yX7_fitted, Cond.code yX7_fitted cX7_fitted 5 (some .int), Cond.fieldLink RX7 7 "DiscArcsModel" "now" "[I", Cond.methodLink RX7 112 yX7_hasAngle, Cond.instanceMethod yX7_hasAngle, Cond.selects RX7 yX7_hasAngle yX7_hasAngle, Cond.code yX7_hasAngle cX7_hasAngle 2 (some .boolean), Cond.methodLink RX7 46 yX7_isUsable, Cond.instanceMethod yX7_isUsable, Cond.selects RX7 yX7_isUsable yX7_isUsable, Cond.code yX7_isUsable cX7_isUsable 2 (some .boolean), Cond.methodLink RX7 42 yX7_of, Cond.instanceMethod yX7_of, Cond.selects RX7 yX7_of yX7_of, Cond.code yX7_of cX7_of 3 (some .int), Cond.methodLink RX7 115 yX7_isFitted, Cond.instanceMethod yX7_isFitted, Cond.selects RX7 yX7_isFitted yX7_isFitted]
def wsX7_fits_r2 : List Cond := [Cond.code yX7_isFitted cX7_isFitted 5 (some .boolean), Cond.methodLink RX7 109 yX7_angle, Cond.static yX7_angle, Cond.code yX7_angle cX7_angle 4 (some .int), Cond.methodLink RX7 78 yX7_bits, Cond.static yX7_bits, Cond.code yX7_bits cX7_bits 3 (some .int)]
def wsX7_fits : List Cond := .code yX7_fits cX7_fits 3 (some .int) :: ((wsX7_fits_r1 ++ wsX7_fits_r2) ++ wsX70)
def wsX7_angleAt_r1 : List Cond := [Cond.fieldLink RX7 121 "DiscArcsModel" "bestSpin" "I", Cond.fieldLink RX7 124 "DiscArcsModel" "bestBeginning" "I", Cond.methodLink RX7 38 yX7_in, Cond.static yX7_in, Cond.initialized RX7, Cond.code yX7_in cX7_in 3 (some .boolean), Cond.methodLink RX7 178 yX7_findsSpin, Cond.instanceMethod yX7_findsSpin, Cond.selects RX7 yX7_findsSpin yX7_findsSpin, Cond.code yX7_findsSpin cX7_findsSpin 7 (some .boolean), Cond.fieldLink RX7 7 "DiscArcsModel" "now" "[I", Cond.fieldLink RX7 127 "DiscArcsModel" "bestFitted" "I", Cond.methodLink RX7 112 yX7_hasAngle, Cond.instanceMethod yX7_hasAngle, Cond.selects RX7 yX7_hasAngle yX7_hasAngle, Cond.code yX7_hasAngle cX7_hasAngle 2 (some .boolean), Cond.methodLink RX7 46 yX7_isUsable, Cond.instanceMethod yX7_isUsable, Cond.selects RX7 yX7_isUsable yX7_isUsable, Cond.code yX7_isUsable cX7_isUsable 2 (some .boolean), Cond.methodLink RX7 42 yX7_of, Cond.instanceMethod yX7_of, Cond.selects RX7 yX7_of yX7_of, Cond.code yX7_of cX7_of 3 (some .int)]
def wsX7_angleAt_r2 : List Cond := [Cond.methodLink RX7 118 yX7_fitted, Cond.instanceMethod yX7_fitted, Cond.selects RX7 yX7_fitted yX7_fitted, Cond.code yX7_fitted cX7_fitted 5 (some .int), Cond.methodLink RX7 115 yX7_isFitted, Cond.instanceMethod yX7_isFitted, Cond.selects RX7 yX7_isFitted yX7_isFitted, Cond.code yX7_isFitted cX7_isFitted 5 (some .boolean), Cond.methodLink RX7 109 yX7_angle, Cond.static yX7_angle, Cond.code yX7_angle cX7_angle 4 (some .int), Cond.methodLink RX7 78 yX7_bits, Cond.static yX7_bits, Cond.code yX7_bits cX7_bits 3 (some .int)]
def wsX7_angleAt : List Cond := .code yX7_angleAt cX7_angleAt 2 (some .int) :: ((wsX7_angleAt_r1 ++ wsX7_angleAt_r2) ++ wsX70)
def wsX7_withAngle : List Cond := .code yX7_withAngle cX7_withAngle 3 (some .int) :: ([.fieldLink RX7 7 "DiscArcsModel" "now" "[I", .methodLink RX7 112 yX7_hasAngle, .instanceMethod yX7_hasAngle, .selects RX7 yX7_hasAngle yX7_hasAngle, .initialized RX7, .code yX7_hasAngle cX7_hasAngle 2 (some .boolean), .methodLink RX7 46 yX7_isUsable, .instanceMethod yX7_isUsable, .selects RX7 yX7_isUsable yX7_isUsable, .code yX7_isUsable cX7_isUsable 2 (some .boolean), .methodLink RX7 42 yX7_of, .instanceMethod yX7_of, .selects RX7 yX7_of yX7_of, .code yX7_of cX7_of 3 (some .int)] ++ wsX70)
def wsX7_count_r1 : List Cond := [Cond.fieldLink RX7 7 "DiscArcsModel" "now" "[I", Cond.fieldLink RX7 22 "DiscArcsModel" "rows" "[I", Cond.fieldLink RX7 50 "DiscArcsModel" "kept" "I", Cond.fieldLink RX7 149 "DiscArcsModel" "typed" "I", Cond.methodLink RX7 85 yX7_usable, Cond.instanceMethod yX7_usable, Cond.selects RX7 yX7_usable yX7_usable, Cond.initialized RX7, Cond.code yX7_usable cX7_usable 3 (some .int), Cond.methodLink RX7 46 yX7_isUsable, Cond.instanceMethod yX7_isUsable, Cond.selects RX7 yX7_isUsable yX7_isUsable, Cond.code yX7_isUsable cX7_isUsable 2 (some .boolean), Cond.methodLink RX7 42 yX7_of, Cond.instanceMethod yX7_of, Cond.selects RX7 yX7_of yX7_of, Cond.code yX7_of cX7_of 3 (some .int), Cond.methodLink RX7 201 yX7_withAngle, Cond.instanceMethod yX7_withAngle, Cond.selects RX7 yX7_withAngle yX7_withAngle, Cond.code yX7_withAngle cX7_withAngle 3 (some .int), Cond.methodLink RX7 112 yX7_hasAngle, Cond.instanceMethod yX7_hasAngle, Cond.selects RX7 yX7_hasAngle yX7_hasAngle]
def wsX7_count_r2 : List Cond := [Cond.code yX7_hasAngle cX7_hasAngle 2 (some .boolean), Cond.methodLink RX7 198 yX7_findsTrack, Cond.instanceMethod yX7_findsTrack, Cond.selects RX7 yX7_findsTrack yX7_findsTrack, Cond.code yX7_findsTrack cX7_findsTrack 3 none, Cond.fieldLink RX7 96 "DiscArcsModel" "ordered" "I", Cond.fieldLink RX7 25 "DiscArcsModel" "longest" "[I", Cond.methodLink RX7 102 yX7_orders, Cond.instanceMethod yX7_orders, Cond.selects RX7 yX7_orders yX7_orders, Cond.code yX7_orders cX7_orders 2 none, Cond.fieldLink RX7 28 "DiscArcsModel" "order" "[I", Cond.methodLink RX7 105 yX7_fitsAsRow, Cond.instanceMethod yX7_fitsAsRow, Cond.selects RX7 yX7_fitsAsRow yX7_fitsAsRow, Cond.code yX7_fitsAsRow cX7_fitsAsRow 4 (some .boolean), Cond.fieldLink RX7 82 "DiscArcsModel" "hit" "I", Cond.methodLink RX7 99 yX7_setOf, Cond.instanceMethod yX7_setOf, Cond.selects RX7 yX7_setOf yX7_setOf, Cond.code yX7_setOf cX7_setOf 5 (some .int), Cond.methodLink RX7 89 yX7_finds, Cond.instanceMethod yX7_finds, Cond.selects RX7 yX7_finds yX7_finds]
def wsX7_count_r3 : List Cond := [Cond.code yX7_finds cX7_finds 7 (some .boolean), Cond.fieldLink RX7 19 "DiscArcsModel" "arc" "[I", Cond.methodLink RX7 74 yX7_hitBy, Cond.instanceMethod yX7_hitBy, Cond.selects RX7 yX7_hitBy yX7_hitBy, Cond.code yX7_hitBy cX7_hitBy 6 (some .int), Cond.methodLink RX7 66 yX7_isHit, Cond.instanceMethod yX7_isHit, Cond.selects RX7 yX7_isHit yX7_isHit, Cond.code yX7_isHit cX7_isHit 11 (some .boolean), Cond.methodLink RX7 54 yX7_lower, Cond.instanceMethod yX7_lower, Cond.selects RX7 yX7_lower yX7_lower, Cond.code yX7_lower cX7_lower 10 (some .long), Cond.methodLink RX7 58 yX7_upper, Cond.instanceMethod yX7_upper, Cond.selects RX7 yX7_upper yX7_upper, Cond.code yX7_upper cX7_upper 14 (some .long), Cond.methodLink RX7 62 yX7_without, Cond.static yX7_without, Cond.code yX7_without cX7_without 2 (some .long), Cond.methodLink RX7 78 yX7_bits, Cond.static yX7_bits, Cond.code yX7_bits cX7_bits 3 (some .int)]
def wsX7_count : List Cond := .code yX7_count cX7_count 2 (some .int) :: ((wsX7_count_r1 ++ (wsX7_count_r2 ++ wsX7_count_r3)) ++ wsX70)
def wsJ9_abs_0f7a4 : List Cond := .code yJ9_abs_0f7a4 cJ9_abs_0f7a4 1 (some .int) :: ([])
def wsJ9_abs_067f4 : List Cond := .code yJ9_abs_067f4 cJ9_abs_067f4 2 (some .long) :: ([])
def wsJ9_max_7cf53 : List Cond := .code yJ9_max_7cf53 cJ9_max_7cf53 2 (some .int) :: ([])
def wsJ9_max_f86c9 : List Cond := .code yJ9_max_f86c9 cJ9_max_f86c9 4 (some .long) :: ([])
def wsJ9_min_7cf53 : List Cond := .code yJ9_min_7cf53 cJ9_min_7cf53 2 (some .int) :: ([])
def wsL_law_r1 : List Cond := [Cond.classLink RL 7 RX6, Cond.instantiable RX6 9, Cond.initialized RX6, Cond.classLink RL 10 RX7, Cond.instantiable RX7 19, Cond.initialized RX7, Cond.methodLink RL 9 yX6_init, Cond.instanceMethod yX6_init, Cond.code yX6_init cX6_init 1 none, Cond.methodLink RX6 1 objectInit, Cond.instanceMethod objectInit, Cond.code objectInit ⟨#[0xb1]⟩ 1 none, Cond.classLink RX6 7 RX2, Cond.instantiable RX2 2, Cond.initialized RX2, Cond.fieldLink RX6 10 "DiscArcs" "photos" "LDiscArcs$Photos;", Cond.fieldLink RX6 16 "DiscArcs" "snapshot" "LDiscArcs$Photos;", Cond.classLink RX6 19 RX1, Cond.instantiable RX1 2, Cond.initialized RX1, Cond.fieldLink RX6 22 "DiscArcs" "history" "LDiscArcs$History;", Cond.classLink RX6 26 RX4, Cond.instantiable RX4 4, Cond.initialized RX4]
def wsL_law_r2 : List Cond := [Cond.fieldLink RX6 29 "DiscArcs" "text" "LDiscArcs$Text;", Cond.arrayClass .int, Cond.fieldLink RX6 33 "DiscArcs" "told" "[I", Cond.classLink RX6 37 RX0, Cond.instantiable RX0 4, Cond.initialized RX0, Cond.fieldLink RX6 42 "DiscArcs" "curve" "LDiscArcs$Arc;", Cond.classLink RX6 46 RX5, Cond.instantiable RX5 4, Cond.initialized RX5, Cond.fieldLink RX6 51 "DiscArcs" "parting" "LDiscArcs$Track;", Cond.classLink RX6 55 RX3, Cond.instantiable RX3 4, Cond.initialized RX3, Cond.fieldLink RX6 58 "DiscArcs" "turning" "LDiscArcs$Spin;", Cond.instanceMethod yX2_init, Cond.code yX2_init cX2_init 1 none, Cond.methodLink RX2 3 objectInit, Cond.classLink RX2 9 "[[I", Cond.fieldLink RX2 11 "DiscArcs$Photos" "rows" "[[I", Cond.methodLink RX6 21 yX1_init, Cond.instanceMethod yX1_init, Cond.code yX1_init cX1_init 2 none, Cond.methodLink RX1 3 objectInit]
def wsL_law_r3 : List Cond := [Cond.classLink RX1 9 RX2, Cond.fieldLink RX1 11 "DiscArcs$History" "states" "[LDiscArcs$Photos;", Cond.instanceMethod yX4_init, Cond.code yX4_init cX4_init 1 none, Cond.methodLink RX4 3 objectInit, Cond.arrayClass .char, Cond.fieldLink RX4 9 "DiscArcs$Text" "characters" "[C", Cond.methodLink RX6 39 yX0_init, Cond.instanceMethod yX0_init, Cond.code yX0_init cX0_init 2 none, Cond.methodLink RX0 3 objectInit, Cond.fieldLink RX0 9 "DiscArcs$Arc" "photos" "LDiscArcs$Photos;", Cond.methodLink RX6 48 yX5_init, Cond.instanceMethod yX5_init, Cond.code yX5_init cX5_init 3 none, Cond.methodLink RX5 3 objectInit, Cond.fieldLink RX5 9 "DiscArcs$Track" "rowsFrom" "[I", Cond.fieldLink RX5 15 "DiscArcs$Track" "endFrom" "[I", Cond.fieldLink RX5 18 "DiscArcs$Track" "photos" "LDiscArcs$Photos;", Cond.fieldLink RX5 22 "DiscArcs$Track" "curve" "LDiscArcs$Arc;", Cond.methodLink RX6 57 yX3_init, Cond.instanceMethod yX3_init, Cond.code yX3_init cX3_init 2 none, Cond.methodLink RX3 3 objectInit]
def wsL_law_r4 : List Cond := [Cond.fieldLink RX3 9 "DiscArcs$Spin" "photos" "LDiscArcs$Photos;", Cond.methodLink RL 12 yX7_init, Cond.instanceMethod yX7_init, Cond.code yX7_init cX7_init 1 none, Cond.methodLink RX7 1 objectInit, Cond.fieldLink RX7 7 "DiscArcsModel" "now" "[I", Cond.fieldLink RX7 13 "DiscArcsModel" "history" "[I", Cond.fieldLink RX7 16 "DiscArcsModel" "slot" "[I", Cond.fieldLink RX7 19 "DiscArcsModel" "arc" "[I", Cond.fieldLink RX7 22 "DiscArcsModel" "rows" "[I", Cond.fieldLink RX7 25 "DiscArcsModel" "longest" "[I", Cond.fieldLink RX7 28 "DiscArcsModel" "order" "[I", Cond.fieldLink RX7 31 "DiscArcsModel" "text" "[C", Cond.fieldLink RX7 35 "DiscArcsModel" "read" "[I", Cond.methodLink RL 13 yX6_addPhoto, Cond.instanceMethod yX6_addPhoto, Cond.selects RX6 yX6_addPhoto yX6_addPhoto, Cond.code yX6_addPhoto cX6_addPhoto 5 (some .int), Cond.methodLink RX6 62 yX6_toldIsInRange, Cond.instanceMethod yX6_toldIsInRange, Cond.selects RX6 yX6_toldIsInRange yX6_toldIsInRange, Cond.code yX6_toldIsInRange cX6_toldIsInRange 1 (some .boolean), Cond.methodLink RX6 86 yX6_isWithin, Cond.static yX6_isWithin]
def wsL_law_r5 : List Cond := [Cond.code yX6_isWithin cX6_isWithin 3 (some .boolean), Cond.methodLink RX6 66 yX6_addTold, Cond.instanceMethod yX6_addTold, Cond.selects RX6 yX6_addTold yX6_addTold, Cond.code yX6_addTold cX6_addTold 2 (some .int), Cond.fieldLink RX6 118 "DiscArcs$Photos" "size" "I", Cond.fieldLink RX6 90 "DiscArcs$Photos" "rows" "[[I", Cond.methodLink RX6 234 yX2_numberAt, Cond.instanceMethod yX2_numberAt, Cond.selects RX2 yX2_numberAt yX2_numberAt, Cond.code yX2_numberAt cX2_numberAt 3 (some .int), Cond.fieldLink RX2 22 "DiscArcs$Photos" "size" "I", Cond.methodLink RX6 94 yX1_record, Cond.instanceMethod yX1_record, Cond.selects RX1 yX1_record yX1_record, Cond.code yX1_record cX1_record 2 none, Cond.fieldLink RX1 18 "DiscArcs$History" "size" "I", Cond.methodLink RX1 22 yX1_dropOldest, Cond.instanceMethod yX1_dropOldest, Cond.selects RX1 yX1_dropOldest yX1_dropOldest, Cond.code yX1_dropOldest cX1_dropOldest 3 none, Cond.methodLink RX1 25 yX2_copyFrom, Cond.instanceMethod yX2_copyFrom, Cond.selects RX2 yX2_copyFrom yX2_copyFrom]
def wsL_law_r6 : List Cond := [Cond.code yX2_copyFrom cX2_copyFrom 3 none, Cond.methodLink RX2 16 arraycopyName, Cond.native arraycopyName, Cond.static arraycopyName, Cond.initialized "java/lang/System", Cond.methodLink RX6 237 yX2_insert, Cond.instanceMethod yX2_insert, Cond.selects RX2 yX2_insert yX2_insert, Cond.code yX2_insert cX2_insert 4 none, Cond.methodLink RL 17 yX7_addPhoto, Cond.instanceMethod yX7_addPhoto, Cond.selects RX7 yX7_addPhoto yX7_addPhoto, Cond.code yX7_addPhoto cX7_addPhoto 5 (some .int), Cond.methodLink RX7 136 yX7_isPhoto, Cond.static yX7_isPhoto, Cond.code yX7_isPhoto cX7_isPhoto 4 (some .boolean), Cond.methodLink RX7 38 yX7_in, Cond.static yX7_in, Cond.code yX7_in cX7_in 3 (some .boolean), Cond.methodLink RX7 139 yX7_comes, Cond.instanceMethod yX7_comes, Cond.selects RX7 yX7_comes yX7_comes, Cond.code yX7_comes cX7_comes 9 (some .int), Cond.methodLink RX7 130 yX7_isThere]
def wsL_law_r7 : List Cond := [Cond.instanceMethod yX7_isThere, Cond.selects RX7 yX7_isThere yX7_isThere, Cond.code yX7_isThere cX7_isThere 4 (some .boolean), Cond.methodLink RX7 42 yX7_of, Cond.instanceMethod yX7_of, Cond.selects RX7 yX7_of yX7_of, Cond.code yX7_of cX7_of 3 (some .int), Cond.methodLink RX7 133 yX7_record, Cond.instanceMethod yX7_record, Cond.selects RX7 yX7_record yX7_record, Cond.code yX7_record cX7_record 2 none, Cond.fieldLink RX7 50 "DiscArcsModel" "kept" "I", Cond.methodLink RL 18 yX6_readPhoto, Cond.instanceMethod yX6_readPhoto, Cond.selects RX6 yX6_readPhoto yX6_readPhoto, Cond.code yX6_readPhoto cX6_readPhoto 1 (some .int), Cond.fieldLink RX6 74 "DiscArcs$Text" "position" "I", Cond.fieldLink RX6 78 "DiscArcs$Text" "tellsAngle" "Z", Cond.methodLink RX6 70 yX4_readInto, Cond.instanceMethod yX4_readInto, Cond.selects RX4 yX4_readInto yX4_readInto, Cond.code yX4_readInto cX4_readInto 2 (some .boolean), Cond.fieldLink RX4 19 "DiscArcs$Text" "position" "I", Cond.fieldLink RX4 22 "DiscArcs$Text" "tellsAngle" "Z"]
def wsL_law_r8 : List Cond := [Cond.fieldLink RX4 15 "DiscArcs$Text" "length" "I", Cond.methodLink RX4 26 yX4_readPlace, Cond.instanceMethod yX4_readPlace, Cond.selects RX4 yX4_readPlace yX4_readPlace, Cond.code yX4_readPlace cX4_readPlace 2 (some .boolean), Cond.methodLink RX4 34 yX4_readNumber, Cond.instanceMethod yX4_readNumber, Cond.selects RX4 yX4_readNumber yX4_readNumber, Cond.code yX4_readNumber cX4_readNumber 7 (some .boolean), Cond.methodLink RX4 30 yX4_pass, Cond.instanceMethod yX4_pass, Cond.selects RX4 yX4_pass yX4_pass, Cond.code yX4_pass cX4_pass 2 (some .boolean), Cond.methodLink RX4 38 yX4_isDigit, Cond.instanceMethod yX4_isDigit, Cond.selects RX4 yX4_isDigit yX4_isDigit, Cond.code yX4_isDigit cX4_isDigit 1 (some .boolean), Cond.methodLink RX4 42 yX4_readDigit, Cond.instanceMethod yX4_readDigit, Cond.selects RX4 yX4_readDigit yX4_readDigit, Cond.code yX4_readDigit cX4_readDigit 2 (some .int), Cond.methodLink RL 22 yX7_readPhoto, Cond.instanceMethod yX7_readPhoto, Cond.selects RX7 yX7_readPhoto yX7_readPhoto]
def wsL_law_r9 : List Cond := [Cond.code yX7_readPhoto cX7_readPhoto 2 (some .int), Cond.fieldLink RX7 152 "DiscArcsModel" "at" "I", Cond.methodLink RX7 168 yX7_isRead, Cond.instanceMethod yX7_isRead, Cond.selects RX7 yX7_isRead yX7_isRead, Cond.code yX7_isRead cX7_isRead 2 (some .boolean), Cond.fieldLink RX7 161 "DiscArcsModel" "number" "I", Cond.fieldLink RX7 149 "DiscArcsModel" "typed" "I", Cond.methodLink RX7 155 yX7_takes, Cond.instanceMethod yX7_takes, Cond.selects RX7 yX7_takes yX7_takes, Cond.code yX7_takes cX7_takes 3 (some .boolean), Cond.methodLink RX7 164 yX7_takesNumber, Cond.instanceMethod yX7_takesNumber, Cond.selects RX7 yX7_takesNumber yX7_takesNumber, Cond.code yX7_takesNumber cX7_takesNumber 4 (some .boolean), Cond.methodLink RX7 158 yX7_isDigit, Cond.instanceMethod yX7_isDigit, Cond.selects RX7 yX7_isDigit yX7_isDigit, Cond.code yX7_isDigit cX7_isDigit 1 (some .boolean), Cond.methodLink RX7 171 yX7_isTold, Cond.instanceMethod yX7_isTold, Cond.selects RX7 yX7_isTold yX7_isTold, Cond.code yX7_isTold cX7_isTold 3 (some .boolean)]
def wsL_law_r10 : List Cond := [Cond.methodLink RL 23 yX6_setAngle, Cond.instanceMethod yX6_setAngle, Cond.selects RX6 yX6_setAngle yX6_setAngle, Cond.code yX6_setAngle cX6_setAngle 5 (some .int), Cond.methodLink RX6 82 yX2_holds, Cond.instanceMethod yX2_holds, Cond.selects RX2 yX2_holds yX2_holds, Cond.code yX2_holds cX2_holds 2 (some .boolean), Cond.methodLink RL 27 yX7_setAngle, Cond.instanceMethod yX7_setAngle, Cond.selects RX7 yX7_setAngle yX7_setAngle, Cond.code yX7_setAngle cX7_setAngle 5 (some .int), Cond.methodLink RX7 143 yX7_no, Cond.instanceMethod yX7_no, Cond.selects RX7 yX7_no yX7_no, Cond.code yX7_no cX7_no 2 (some .boolean), Cond.methodLink RL 28 yX6_move, Cond.instanceMethod yX6_move, Cond.selects RX6 yX6_move yX6_move, Cond.code yX6_move cX6_move 4 (some .int), Cond.methodLink RX6 97 yX6_missedByBest, Cond.instanceMethod yX6_missedByBest, Cond.selects RX6 yX6_missedByBest yX6_missedByBest, Cond.code yX6_missedByBest cX6_missedByBest 2 (some .int)]
def wsL_law_r11 : List Cond := [Cond.methodLink RX6 109 yX2_usable, Cond.instanceMethod yX2_usable, Cond.selects RX2 yX2_usable yX2_usable, Cond.code yX2_usable cX2_usable 3 (some .int), Cond.methodLink RX2 26 yX2_isUsable, Cond.instanceMethod yX2_isUsable, Cond.selects RX2 yX2_isUsable yX2_isUsable, Cond.code yX2_isUsable cX2_isUsable 2 (some .boolean), Cond.methodLink RX6 112 yX0_layBest, Cond.instanceMethod yX0_layBest, Cond.selects RX0 yX0_layBest yX0_layBest, Cond.code yX0_layBest cX0_layBest 9 (some .boolean), Cond.fieldLink RX0 25 "DiscArcs$Photos" "size" "I", Cond.methodLink RX0 30 yX0_lay, Cond.instanceMethod yX0_lay, Cond.selects RX0 yX0_lay yX0_lay, Cond.code yX0_lay cX0_lay 4 none, Cond.fieldLink RX0 15 "DiscArcs$Arc" "first" "I", Cond.fieldLink RX0 19 "DiscArcs$Arc" "second" "I", Cond.fieldLink RX0 22 "DiscArcs$Arc" "third" "I", Cond.methodLink RX0 34 yX0_missedOf, Cond.instanceMethod yX0_missedOf, Cond.selects RX0 yX0_missedOf yX0_missedOf, Cond.code yX0_missedOf cX0_missedOf 14 (some .int)]
def wsL_law_r12 : List Cond := [Cond.fieldLink RX0 47 "DiscArcs$Photos" "rows" "[[I", Cond.methodLink RX0 63 Lib.MathLoose.abs_long.x, Cond.static Lib.MathLoose.abs_long.x, Cond.initialized "java/lang/Math", Cond.code Lib.MathLoose.abs_long.x Lib.MathLoose.abs_long.code 2 (some .long), Cond.methodLink RX0 51 yX0_lower, Cond.instanceMethod yX0_lower, Cond.selects RX0 yX0_lower yX0_lower, Cond.code yX0_lower cX0_lower 7 (some .long), Cond.static yX6_isIn, Cond.code yX6_isIn cX6_isIn 2 (some .boolean), Cond.methodLink RX0 59 yX0_upper, Cond.instanceMethod yX0_upper, Cond.selects RX0 yX0_upper yX0_upper, Cond.code yX0_upper cX0_upper 11 (some .long), Cond.methodLink RX0 38 yJ6_bitCount_0f7a4, Cond.static yJ6_bitCount_0f7a4, Cond.initialized RJ6, Cond.code yJ6_bitCount_0f7a4 cJ6_bitCount_0f7a4 1 (some .int), Cond.constant RJ6 265 (1431655765), Cond.constant RJ6 266 (858993459), Cond.constant RJ6 267 (252645135), Cond.methodLink RX0 43 yX0_layThrough, Cond.instanceMethod yX0_layThrough]
def wsL_law_r13 : List Cond := [Cond.selects RX0 yX0_layThrough yX0_layThrough, Cond.code yX0_layThrough cX0_layThrough 4 none, Cond.methodLink RX6 115 yX0_missedOf, Cond.methodLink RX6 100 yJ6_bitCount_0f7a4, Cond.methodLink RL 31 yX7_move, Cond.instanceMethod yX7_move, Cond.selects RX7 yX7_move yX7_move, Cond.code yX7_move cX7_move 4 (some .int), Cond.methodLink RX7 146 yX7_missed, Cond.instanceMethod yX7_missed, Cond.selects RX7 yX7_missed yX7_missed, Cond.code yX7_missed cX7_missed 1 (some .int), Cond.fieldLink RX7 82 "DiscArcsModel" "hit" "I", Cond.methodLink RX7 92 yX7_hasBest, Cond.instanceMethod yX7_hasBest, Cond.selects RX7 yX7_hasBest yX7_hasBest, Cond.code yX7_hasBest cX7_hasBest 1 (some .boolean), Cond.methodLink RX7 85 yX7_usable, Cond.instanceMethod yX7_usable, Cond.selects RX7 yX7_usable yX7_usable, Cond.code yX7_usable cX7_usable 3 (some .int), Cond.methodLink RX7 46 yX7_isUsable, Cond.instanceMethod yX7_isUsable, Cond.selects RX7 yX7_isUsable yX7_isUsable]
def wsL_law_r14 : List Cond := [Cond.code yX7_isUsable cX7_isUsable 2 (some .boolean), Cond.methodLink RX7 89 yX7_finds, Cond.instanceMethod yX7_finds, Cond.selects RX7 yX7_finds yX7_finds, Cond.code yX7_finds cX7_finds 7 (some .boolean), Cond.methodLink RX7 74 yX7_hitBy, Cond.instanceMethod yX7_hitBy, Cond.selects RX7 yX7_hitBy yX7_hitBy, Cond.code yX7_hitBy cX7_hitBy 6 (some .int), Cond.methodLink RX7 66 yX7_isHit, Cond.instanceMethod yX7_isHit, Cond.selects RX7 yX7_isHit yX7_isHit, Cond.code yX7_isHit cX7_isHit 11 (some .boolean), Cond.methodLink RX7 54 yX7_lower, Cond.instanceMethod yX7_lower, Cond.selects RX7 yX7_lower yX7_lower, Cond.code yX7_lower cX7_lower 10 (some .long), Cond.methodLink RX7 58 yX7_upper, Cond.instanceMethod yX7_upper, Cond.selects RX7 yX7_upper yX7_upper, Cond.code yX7_upper cX7_upper 14 (some .long), Cond.methodLink RX7 62 yX7_without, Cond.static yX7_without, Cond.code yX7_without cX7_without 2 (some .long)]
def wsL_law_r15 : List Cond := [Cond.methodLink RX7 78 yX7_bits, Cond.static yX7_bits, Cond.code yX7_bits cX7_bits 3 (some .int), Cond.methodLink RL 32 yX6_setAside, Cond.instanceMethod yX6_setAside, Cond.selects RX6 yX6_setAside yX6_setAside, Cond.code yX6_setAside cX6_setAside 3 (some .int), Cond.methodLink RX6 106 yX2_isUsable, Cond.methodLink RL 36 yX7_setAside, Cond.instanceMethod yX7_setAside, Cond.selects RX7 yX7_setAside yX7_setAside, Cond.code yX7_setAside cX7_setAside 3 (some .int), Cond.methodLink RL 37 yX6_dropMissed, Cond.instanceMethod yX6_dropMissed, Cond.selects RX6 yX6_dropMissed yX6_dropMissed, Cond.code yX6_dropMissed cX6_dropMissed 4 (some .int), Cond.methodLink RX6 121 yX6_isIn, Cond.methodLink RL 40 yX7_dropMissed, Cond.instanceMethod yX7_dropMissed, Cond.selects RX7 yX7_dropMissed yX7_dropMissed, Cond.code yX7_dropMissed cX7_dropMissed 3 (some .int), Cond.methodLink RL 41 yX6_remove, Cond.instanceMethod yX6_remove, Cond.selects RX6 yX6_remove yX6_remove]
def wsL_law_r16 : List Cond := [Cond.code yX6_remove cX6_remove 2 (some .int), Cond.methodLink RX6 125 yX2_delete, Cond.instanceMethod yX2_delete, Cond.selects RX2 yX2_delete yX2_delete, Cond.code yX2_delete cX2_delete 3 none, Cond.methodLink RX2 36 yX2_holds, Cond.methodLink RL 45 yX7_remove, Cond.instanceMethod yX7_remove, Cond.selects RX7 yX7_remove yX7_remove, Cond.code yX7_remove cX7_remove 3 (some .int), Cond.methodLink RL 46 yX6_type, Cond.instanceMethod yX6_type, Cond.selects RX6 yX6_type yX6_type, Cond.code yX6_type cX6_type 2 (some .int), Cond.fieldLink RX6 133 "DiscArcs$Text" "length" "I", Cond.methodLink RX6 129 yX4_append, Cond.instanceMethod yX4_append, Cond.selects RX4 yX4_append yX4_append, Cond.code yX4_append cX4_append 2 (some .boolean), Cond.methodLink RL 50 yX7_type, Cond.instanceMethod yX7_type, Cond.selects RX7 yX7_type yX7_type, Cond.code yX7_type cX7_type 2 (some .int), Cond.methodLink RL 51 yX6_clearText]
def wsL_law_r17 : List Cond := [Cond.instanceMethod yX6_clearText, Cond.selects RX6 yX6_clearText yX6_clearText, Cond.code yX6_clearText cX6_clearText 2 (some .int), Cond.methodLink RL 54 yX7_clearText, Cond.instanceMethod yX7_clearText, Cond.selects RX7 yX7_clearText yX7_clearText, Cond.code yX7_clearText cX7_clearText 2 (some .int), Cond.methodLink RL 55 yX6_undo, Cond.instanceMethod yX6_undo, Cond.selects RX6 yX6_undo yX6_undo, Cond.code yX6_undo cX6_undo 1 (some .int), Cond.fieldLink RX6 140 "DiscArcs$History" "size" "I", Cond.methodLink RX6 136 yX1_takeBack, Cond.instanceMethod yX1_takeBack, Cond.selects RX1 yX1_takeBack yX1_takeBack, Cond.code yX1_takeBack cX1_takeBack 2 (some .boolean), Cond.methodLink RL 58 yX7_undo, Cond.instanceMethod yX7_undo, Cond.selects RX7 yX7_undo yX7_undo, Cond.code yX7_undo cX7_undo 2 (some .int), Cond.methodLink RL 59 yX6_keep, Cond.instanceMethod yX6_keep, Cond.selects RX6 yX6_keep yX6_keep, Cond.code yX6_keep cX6_keep 1 (some .int)]
def wsL_law_r18 : List Cond := [Cond.fieldLink RX6 144 "DiscArcs" "hasSnapshot" "Z", Cond.methodLink RX6 141 yX2_copyFrom, Cond.methodLink RL 62 yX7_keep, Cond.instanceMethod yX7_keep, Cond.selects RX7 yX7_keep yX7_keep, Cond.code yX7_keep cX7_keep 2 (some .int), Cond.fieldLink RX7 174 "DiscArcsModel" "isFilled" "Z", Cond.methodLink RL 63 yX6_restore, Cond.instanceMethod yX6_restore, Cond.selects RX6 yX6_restore yX6_restore, Cond.code yX6_restore cX6_restore 1 (some .int), Cond.methodLink RL 66 yX7_restore, Cond.instanceMethod yX7_restore, Cond.selects RX7 yX7_restore yX7_restore, Cond.code yX7_restore cX7_restore 2 (some .int), Cond.methodLink RL 67 yX6_photo, Cond.instanceMethod yX6_photo, Cond.selects RX6 yX6_photo yX6_photo, Cond.code yX6_photo cX6_photo 4 (some .int), Cond.methodLink RX6 147 yX6_whetherSpinFits, Cond.instanceMethod yX6_whetherSpinFits, Cond.selects RX6 yX6_whetherSpinFits yX6_whetherSpinFits, Cond.code yX6_whetherSpinFits cX6_whetherSpinFits 2 (some .int), Cond.fieldLink RX6 221 "DiscArcs$Spin" "fitted" "I"]
def wsL_law_r19 : List Cond := [Cond.methodLink RX6 241 yX2_isMarked, Cond.instanceMethod yX2_isMarked, Cond.selects RX2 yX2_isMarked yX2_isMarked, Cond.code yX2_isMarked cX2_isMarked 2 (some .boolean), Cond.methodLink RX2 30 yX2_hasAngle, Cond.instanceMethod yX2_hasAngle, Cond.selects RX2 yX2_hasAngle yX2_hasAngle, Cond.code yX2_hasAngle cX2_hasAngle 2 (some .boolean), Cond.methodLink RX6 212 yX3_search, Cond.instanceMethod yX3_search, Cond.selects RX3 yX3_search yX3_search, Cond.code yX3_search cX3_search 3 (some .boolean), Cond.fieldLink RX3 50 "DiscArcs$Spin" "turn" "I", Cond.fieldLink RX3 53 "DiscArcs$Spin" "beginning" "I", Cond.fieldLink RX3 56 "DiscArcs$Spin" "fitted" "I", Cond.methodLink RX3 59 yX2_marked, Cond.instanceMethod yX2_marked, Cond.selects RX2 yX2_marked yX2_marked, Cond.code yX2_marked cX2_marked 3 (some .int), Cond.methodLink RX2 33 yX2_isMarked, Cond.methodLink RX3 63 yX3_tryTurn, Cond.instanceMethod yX3_tryTurn, Cond.selects RX3 yX3_tryTurn yX3_tryTurn, Cond.code yX3_tryTurn cX3_tryTurn 5 none]
def wsL_law_r20 : List Cond := [Cond.fieldLink RX3 21 "DiscArcs$Photos" "size" "I", Cond.fieldLink RX3 35 "DiscArcs$Photos" "rows" "[[I", Cond.methodLink RX3 67 yX3_tryBeginning, Cond.instanceMethod yX3_tryBeginning, Cond.selects RX3 yX3_tryBeginning yX3_tryBeginning, Cond.code yX3_tryBeginning cX3_tryBeginning 6 none, Cond.methodLink RX3 71 yX3_fittedBy, Cond.instanceMethod yX3_fittedBy, Cond.selects RX3 yX3_fittedBy yX3_fittedBy, Cond.code yX3_fittedBy cX3_fittedBy 5 (some .int), Cond.methodLink RX3 27 yX2_isMarked, Cond.methodLink RX3 31 yX3_isNear, Cond.instanceMethod yX3_isNear, Cond.selects RX3 yX3_isNear yX3_isNear, Cond.code yX3_isNear cX3_isNear 6 (some .boolean), Cond.methodLink RX3 43 Lib.Math.abs.name, Cond.static Lib.Math.abs.name, Cond.code Lib.Math.abs.name Lib.Math.abs.code 1 (some .int), Cond.methodLink RX3 47 Lib.Math.min.name, Cond.static Lib.Math.min.name, Cond.code Lib.Math.min.name Lib.Math.min.code 2 (some .int), Cond.methodLink RX3 39 yX3_angleOf, Cond.static yX3_angleOf, Cond.code yX3_angleOf cX3_angleOf 3 (some .int)]
def wsL_law_r21 : List Cond := [Cond.methodLink RX3 15 yJ9_floorMod_7cf53, Cond.static yJ9_floorMod_7cf53, Cond.initialized RJ9, Cond.code yJ9_floorMod_7cf53 cJ9_floorMod_7cf53 3 (some .int), Cond.methodLink RX3 74 yJ6_bitCount_0f7a4, Cond.methodLink RX6 150 yX2_hasAngle, Cond.methodLink RL 71 yX7_photo, Cond.instanceMethod yX7_photo, Cond.selects RX7 yX7_photo yX7_photo, Cond.code yX7_photo cX7_photo 4 (some .int), Cond.fieldLink RX7 127 "DiscArcsModel" "bestFitted" "I", Cond.methodLink RX7 112 yX7_hasAngle, Cond.instanceMethod yX7_hasAngle, Cond.selects RX7 yX7_hasAngle yX7_hasAngle, Cond.code yX7_hasAngle cX7_hasAngle 2 (some .boolean), Cond.methodLink RX7 178 yX7_findsSpin, Cond.instanceMethod yX7_findsSpin, Cond.selects RX7 yX7_findsSpin yX7_findsSpin, Cond.code yX7_findsSpin cX7_findsSpin 7 (some .boolean), Cond.fieldLink RX7 121 "DiscArcsModel" "bestSpin" "I", Cond.fieldLink RX7 124 "DiscArcsModel" "bestBeginning" "I", Cond.methodLink RX7 118 yX7_fitted, Cond.instanceMethod yX7_fitted, Cond.selects RX7 yX7_fitted yX7_fitted]
def wsL_law_r22 : List Cond := [Cond.code yX7_fitted cX7_fitted 5 (some .int), Cond.methodLink RX7 115 yX7_isFitted, Cond.instanceMethod yX7_isFitted, Cond.selects RX7 yX7_isFitted yX7_isFitted, Cond.code yX7_isFitted cX7_isFitted 5 (some .boolean), Cond.methodLink RX7 109 yX7_angle, Cond.static yX7_angle, Cond.code yX7_angle cX7_angle 4 (some .int), Cond.methodLink RL 72 yX6_arc, Cond.instanceMethod yX6_arc, Cond.selects RX6 yX6_arc yX6_arc, Cond.code yX6_arc cX6_arc 7 (some .long), Cond.constantLong RX6 156 (-1), Cond.constantLong RX6 164 (-2), Cond.constantLong RX6 169 (-4), Cond.methodLink RX6 153 yX6_areHeld, Cond.instanceMethod yX6_areHeld, Cond.selects RX6 yX6_areHeld yX6_areHeld, Cond.code yX6_areHeld cX6_areHeld 4 (some .boolean), Cond.methodLink RX6 158 yX6_areAnySame, Cond.static yX6_areAnySame, Cond.code yX6_areAnySame cX6_areAnySame 3 (some .boolean), Cond.methodLink RX6 161 yX6_isAskForFraction, Cond.static yX6_isAskForFraction]
def wsL_law_r23 : List Cond := [Cond.code yX6_isAskForFraction cX6_isAskForFraction 3 (some .boolean), Cond.methodLink RX6 166 yX6_areUsable, Cond.instanceMethod yX6_areUsable, Cond.selects RX6 yX6_areUsable yX6_areUsable, Cond.code yX6_areUsable cX6_areUsable 4 (some .boolean), Cond.methodLink RX6 171 yX6_layInOrder, Cond.instanceMethod yX6_layInOrder, Cond.selects RX6 yX6_layInOrder yX6_layInOrder, Cond.code yX6_layInOrder cX6_layInOrder 6 none, Cond.methodLink RX6 244 Lib.Math.min.name, Cond.methodLink RX6 249 Lib.Math.max.name, Cond.static Lib.Math.max.name, Cond.code Lib.Math.max.name Lib.Math.max.code 2 (some .int), Cond.methodLink RX6 252 yX0_lay, Cond.methodLink RX6 175 yX0_upper, Cond.methodLink RX6 179 yX0_lower, Cond.methodLink RX6 183 yX6_partOf, Cond.static yX6_partOf, Cond.code yX6_partOf cX6_partOf 7 (some .long), Cond.methodLink RX6 255 Lib.MathLoose.abs_long.x, Cond.methodLink RX6 263 Lib.MathLoose.max_long.x, Cond.static Lib.MathLoose.max_long.x, Cond.code Lib.MathLoose.max_long.x Lib.MathLoose.max_long.code 4 (some .long), Cond.constantLong RX6 265 (10000000000)]
def wsL_law_r24 : List Cond := [Cond.methodLink RX6 259 yX6_commonDivisor, Cond.static yX6_commonDivisor, Cond.code yX6_commonDivisor cX6_commonDivisor 11 (some .long), Cond.methodLink RL 76 yX7_arc, Cond.instanceMethod yX7_arc, Cond.selects RX7 yX7_arc yX7_arc, Cond.code yX7_arc cX7_arc 7 (some .long), Cond.constantLong RX7 70 (-1), Cond.constantLong RX7 187 (-2), Cond.constantLong RX7 196 (-4), Cond.methodLink RX7 181 yX7_isAsked, Cond.static yX7_isAsked, Cond.code yX7_isAsked cX7_isAsked 3 (some .boolean), Cond.methodLink RX7 184 yX7_areThree, Cond.instanceMethod yX7_areThree, Cond.selects RX7 yX7_areThree yX7_areThree, Cond.code yX7_areThree cX7_areThree 4 (some .boolean), Cond.methodLink RX7 189 yX7_areUsable, Cond.instanceMethod yX7_areUsable, Cond.selects RX7 yX7_areUsable yX7_areUsable, Cond.code yX7_areUsable cX7_areUsable 4 (some .boolean), Cond.methodLink RX7 192 yX7_part, Cond.static yX7_part, Cond.code yX7_part cX7_part 11 (some .long)]
def wsL_law_r25 : List Cond := [Cond.constantLong RX7 72 (10000000000), Cond.methodLink RL 77 yX6_hits, Cond.instanceMethod yX6_hits, Cond.selects RX6 yX6_hits yX6_hits, Cond.code yX6_hits cX6_hits 5 (some .int), Cond.methodLink RL 80 yX7_hits, Cond.instanceMethod yX7_hits, Cond.selects RX7 yX7_hits yX7_hits, Cond.code yX7_hits cX7_hits 4 (some .int), Cond.methodLink RL 81 yX6_best, Cond.instanceMethod yX6_best, Cond.selects RX6 yX6_best yX6_best, Cond.code yX6_best cX6_best 3 (some .int), Cond.methodLink RX6 187 yX0_photoOf, Cond.instanceMethod yX0_photoOf, Cond.selects RX0 yX0_photoOf yX0_photoOf, Cond.code yX0_photoOf cX0_photoOf 2 (some .int), Cond.methodLink RL 84 yX7_best, Cond.instanceMethod yX7_best, Cond.selects RX7 yX7_best yX7_best, Cond.code yX7_best cX7_best 2 (some .int), Cond.methodLink RL 85 yX6_bestAt, Cond.instanceMethod yX6_bestAt, Cond.selects RX6 yX6_bestAt yX6_bestAt]
def wsL_law_r26 : List Cond := [Cond.code yX6_bestAt cX6_bestAt 4 (some .long), Cond.methodLink RL 89 yX7_bestAt, Cond.instanceMethod yX7_bestAt, Cond.selects RX7 yX7_bestAt yX7_bestAt, Cond.code yX7_bestAt cX7_bestAt 4 (some .long), Cond.methodLink RL 90 yX6_lands, Cond.instanceMethod yX6_lands, Cond.selects RX6 yX6_lands yX6_lands, Cond.code yX6_lands cX6_lands 2 (some .int), Cond.fieldLink RX6 190 "DiscArcs$Arc" "first" "I", Cond.methodLink RL 93 yX7_lands, Cond.instanceMethod yX7_lands, Cond.selects RX7 yX7_lands yX7_lands, Cond.code yX7_lands cX7_lands 2 (some .int), Cond.methodLink RL 94 yX6_track, Cond.instanceMethod yX6_track, Cond.selects RX6 yX6_track yX6_track, Cond.code yX6_track cX6_track 4 (some .int), Cond.methodLink RX6 193 yX5_plan, Cond.instanceMethod yX5_plan, Cond.selects RX5 yX5_plan yX5_plan, Cond.code yX5_plan cX5_plan 2 (some .int), Cond.fieldLink RX5 42 "DiscArcs$Photos" "size" "I", Cond.methodLink RX5 46 yX2_isUsable]
def wsL_law_r27 : List Cond := [Cond.methodLink RX5 49 yX5_planFrom, Cond.instanceMethod yX5_planFrom, Cond.selects RX5 yX5_planFrom yX5_planFrom, Cond.code yX5_planFrom cX5_planFrom 3 none, Cond.methodLink RX5 53 yX5_between, Cond.instanceMethod yX5_between, Cond.selects RX5 yX5_between yX5_between, Cond.code yX5_between cX5_between 3 (some .int), Cond.methodLink RX5 26 yX2_usable, Cond.methodLink RX5 57 yX5_isFitting, Cond.instanceMethod yX5_isFitting, Cond.selects RX5 yX5_isFitting yX5_isFitting, Cond.code yX5_isFitting cX5_isFitting 2 (some .boolean), Cond.methodLink RX5 32 yX0_layBest, Cond.methodLink RX5 38 yX0_missedOf, Cond.methodLink RX6 196 yX5_rowAt, Cond.instanceMethod yX5_rowAt, Cond.selects RX5 yX5_rowAt yX5_rowAt, Cond.code yX5_rowAt cX5_rowAt 4 (some .int), Cond.methodLink RX6 199 yJ6_numberOfTrailingZeros_0f7a4, Cond.static yJ6_numberOfTrailingZeros_0f7a4, Cond.code yJ6_numberOfTrailingZeros_0f7a4 cJ6_numberOfTrailingZeros_0f7a4 2 (some .int), Cond.constant RJ6 264 (65536), Cond.methodLink RX6 202 yJ6_numberOfLeadingZeros_0f7a4]
def wsL_law_r28 : List Cond := [Cond.static yJ6_numberOfLeadingZeros_0f7a4, Cond.code yJ6_numberOfLeadingZeros_0f7a4 cJ6_numberOfLeadingZeros_0f7a4 2 (some .int), Cond.methodLink RL 97 yX7_track, Cond.instanceMethod yX7_track, Cond.selects RX7 yX7_track yX7_track, Cond.code yX7_track cX7_track 6 (some .int), Cond.fieldLink RX7 96 "DiscArcsModel" "ordered" "I", Cond.methodLink RX7 198 yX7_findsTrack, Cond.instanceMethod yX7_findsTrack, Cond.selects RX7 yX7_findsTrack yX7_findsTrack, Cond.code yX7_findsTrack cX7_findsTrack 3 none, Cond.methodLink RX7 102 yX7_orders, Cond.instanceMethod yX7_orders, Cond.selects RX7 yX7_orders yX7_orders, Cond.code yX7_orders cX7_orders 2 none, Cond.methodLink RX7 105 yX7_fitsAsRow, Cond.instanceMethod yX7_fitsAsRow, Cond.selects RX7 yX7_fitsAsRow yX7_fitsAsRow, Cond.code yX7_fitsAsRow cX7_fitsAsRow 4 (some .boolean), Cond.methodLink RX7 99 yX7_setOf, Cond.instanceMethod yX7_setOf, Cond.selects RX7 yX7_setOf yX7_setOf, Cond.code yX7_setOf cX7_setOf 5 (some .int), Cond.methodLink RL 98 yX6_fitsFrom]
def wsL_law_r29 : List Cond := [Cond.instanceMethod yX6_fitsFrom, Cond.selects RX6 yX6_fitsFrom yX6_fitsFrom, Cond.code yX6_fitsFrom cX6_fitsFrom 4 (some .int), Cond.methodLink RX6 205 yX5_between, Cond.methodLink RX6 209 yX5_isFitting, Cond.methodLink RL 101 yX7_fitsFrom, Cond.instanceMethod yX7_fitsFrom, Cond.selects RX7 yX7_fitsFrom yX7_fitsFrom, Cond.code yX7_fitsFrom cX7_fitsFrom 4 (some .int), Cond.methodLink RL 102 yX6_spin, Cond.instanceMethod yX6_spin, Cond.selects RX6 yX6_spin yX6_spin, Cond.code yX6_spin cX6_spin 2 (some .int), Cond.fieldLink RX6 215 "DiscArcs$Spin" "turn" "I", Cond.fieldLink RX6 218 "DiscArcs$Spin" "beginning" "I", Cond.methodLink RL 105 yX7_spin, Cond.instanceMethod yX7_spin, Cond.selects RX7 yX7_spin yX7_spin, Cond.code yX7_spin cX7_spin 2 (some .int), Cond.methodLink RL 106 yX6_fits, Cond.instanceMethod yX6_fits, Cond.selects RX6 yX6_fits yX6_fits, Cond.code yX6_fits cX6_fits 3 (some .int), Cond.methodLink RX6 224 yX3_fittedBy]
def wsL_law_r30 : List Cond := [Cond.methodLink RL 109 yX7_fits, Cond.instanceMethod yX7_fits, Cond.selects RX7 yX7_fits yX7_fits, Cond.code yX7_fits cX7_fits 3 (some .int), Cond.methodLink RL 110 yX6_angleAt, Cond.instanceMethod yX6_angleAt, Cond.selects RX6 yX6_angleAt yX6_angleAt, Cond.code yX6_angleAt cX6_angleAt 2 (some .int), Cond.methodLink RX6 227 yX3_angleOf, Cond.methodLink RL 113 yX7_angleAt, Cond.instanceMethod yX7_angleAt, Cond.selects RX7 yX7_angleAt yX7_angleAt, Cond.code yX7_angleAt cX7_angleAt 2 (some .int), Cond.methodLink RL 114 yX6_count, Cond.instanceMethod yX6_count, Cond.selects RX6 yX6_count yX6_count, Cond.code yX6_count cX6_count 2 (some .int), Cond.methodLink RX6 231 yX2_marked, Cond.methodLink RL 117 yX7_count, Cond.instanceMethod yX7_count, Cond.selects RX7 yX7_count yX7_count, Cond.code yX7_count cX7_count 2 (some .int), Cond.methodLink RX7 201 yX7_withAngle, Cond.instanceMethod yX7_withAngle]
def wsL_law_r31 : List Cond := [Cond.selects RX7 yX7_withAngle yX7_withAngle, Cond.code yX7_withAngle cX7_withAngle 3 (some .int)]
def wsL_law : List Cond := (wsL_law_r1 ++ (wsL_law_r2 ++ (wsL_law_r3 ++ (wsL_law_r4 ++ (wsL_law_r5 ++ (wsL_law_r6 ++ (wsL_law_r7 ++ (wsL_law_r8 ++ (wsL_law_r9 ++ (wsL_law_r10 ++ (wsL_law_r11 ++ (wsL_law_r12 ++ (wsL_law_r13 ++ (wsL_law_r14 ++ (wsL_law_r15 ++ (wsL_law_r16 ++ (wsL_law_r17 ++ (wsL_law_r18 ++ (wsL_law_r19 ++ (wsL_law_r20 ++ (wsL_law_r21 ++ (wsL_law_r22 ++ (wsL_law_r23 ++ (wsL_law_r24 ++ (wsL_law_r25 ++ (wsL_law_r26 ++ (wsL_law_r27 ++ (wsL_law_r28 ++ (wsL_law_r29 ++ (wsL_law_r30 ++ wsL_law_r31)))))))))))))))))))))))))))))) ++ wsX60 ++ wsX70 ++ wsX20 ++ wsX10 ++ wsX40 ++ wsX00 ++ wsX50 ++ wsX30 ++ ([] : List Cond)
set_option maxRecDepth 20000 in
theorem wsL_law_g1 : GoodIn lw_tbl wsL_law_r1 := goodIn_p _ [64, 67] (by decide +kernel) (by decide +kernel)
set_option maxRecDepth 20000 in
theorem wsL_law_g2 : GoodIn lw_tbl wsL_law_r2 := goodIn_p _ [72, 95] (by decide +kernel) (by decide +kernel)
set_option maxRecDepth 20000 in
theorem wsL_law_g3 : GoodIn lw_tbl wsL_law_r3 := goodIn_p _ [112, 135, 155, 174] (by decide +kernel) (by decide +kernel)
set_option maxRecDepth 20000 in
theorem wsL_law_g4 : GoodIn lw_tbl wsL_law_r4 := goodIn_p _ [579, 223, 227] (by decide +kernel) (by decide +kernel)
set_option maxRecDepth 20000 in
theorem wsL_law_g5 : GoodIn lw_tbl wsL_law_r5 := goodIn_p _ [230, 234, 238, 242, 246] (by decide +kernel) (by decide +kernel)
set_option maxRecDepth 20000 in
theorem wsL_law_g6 : GoodIn lw_tbl wsL_law_r6 := goodIn_p _ [250, 257, 642, 645, 648, 652] (by decide +kernel) (by decide +kernel)
set_option maxRecDepth 20000 in
theorem wsL_law_g7 : GoodIn lw_tbl wsL_law_r7 := goodIn_p _ [656, 660, 664, 261, 265] (by decide +kernel) (by decide +kernel)
set_option maxRecDepth 20000 in
theorem wsL_law_g8 : GoodIn lw_tbl wsL_law_r8 := goodIn_p _ [269, 273, 277, 281, 285] (by decide +kernel) (by decide +kernel)
set_option maxRecDepth 20000 in
theorem wsL_law_g9 : GoodIn lw_tbl wsL_law_r9 := goodIn_p _ [742, 746, 750, 754, 758, 762] (by decide +kernel) (by decide +kernel)
set_option maxRecDepth 20000 in
theorem wsL_law_g10 : GoodIn lw_tbl wsL_law_r10 := goodIn_p _ [289, 293, 668, 672, 297, 301] (by decide +kernel) (by decide +kernel)
set_option maxRecDepth 20000 in
theorem wsL_law_g11 : GoodIn lw_tbl wsL_law_r11 := goodIn_p _ [305, 309, 313, 317, 321] (by decide +kernel) (by decide +kernel)
set_option maxRecDepth 20000 in
theorem wsL_law_g12 : GoodIn lw_tbl wsL_law_r12 := goodIn_p _ [335, 325, 328, 332, 338] (by decide +kernel) (by decide +kernel)
set_option maxRecDepth 20000 in
theorem wsL_law_g13 : GoodIn lw_tbl wsL_law_r13 := goodIn_p _ [345, 676, 680, 684, 688] (by decide +kernel) (by decide +kernel)
set_option maxRecDepth 20000 in
theorem wsL_law_g14 : GoodIn lw_tbl wsL_law_r14 := goodIn_p _ [692, 696, 700, 704, 708, 712, 715] (by decide +kernel) (by decide +kernel)
set_option maxRecDepth 20000 in
theorem wsL_law_g15 : GoodIn lw_tbl wsL_law_r15 := goodIn_p _ [718, 351, 722, 356, 726] (by decide +kernel) (by decide +kernel)
set_option maxRecDepth 20000 in
theorem wsL_law_g16 : GoodIn lw_tbl wsL_law_r16 := goodIn_p _ [361, 365, 730, 370, 374, 734] (by decide +kernel) (by decide +kernel)
set_option maxRecDepth 20000 in
theorem wsL_law_g17 : GoodIn lw_tbl wsL_law_r17 := goodIn_p _ [378, 738, 382, 386, 766, 390] (by decide +kernel) (by decide +kernel)
set_option maxRecDepth 20000 in
theorem wsL_law_g18 : GoodIn lw_tbl wsL_law_r18 := goodIn_p _ [770, 395, 774, 399, 403] (by decide +kernel) (by decide +kernel)
set_option maxRecDepth 20000 in
theorem wsL_law_g19 : GoodIn lw_tbl wsL_law_r19 := goodIn_p _ [407, 411, 415, 419, 424] (by decide +kernel) (by decide +kernel)
set_option maxRecDepth 20000 in
theorem wsL_law_g20 : GoodIn lw_tbl wsL_law_r20 := goodIn_p _ [428, 432, 437, 446, 449, 440] (by decide +kernel) (by decide +kernel)
set_option maxRecDepth 20000 in
theorem wsL_law_g21 : GoodIn lw_tbl wsL_law_r21 := goodIn_p _ [443, 778, 782, 786] (by decide +kernel) (by decide +kernel)
set_option maxRecDepth 20000 in
theorem wsL_law_g22 : GoodIn lw_tbl wsL_law_r22 := goodIn_p _ [790, 794, 797, 455, 459, 463] (by decide +kernel) (by decide +kernel)
set_option maxRecDepth 20000 in
theorem wsL_law_g23 : GoodIn lw_tbl wsL_law_r23 := goodIn_p _ [466, 471, 476, 480, 486, 493] (by decide +kernel) (by decide +kernel)
set_option maxRecDepth 20000 in
theorem wsL_law_g24 : GoodIn lw_tbl wsL_law_r24 := goodIn_p _ [490, 801, 805, 809, 814, 817] (by decide +kernel) (by decide +kernel)
set_option maxRecDepth 20000 in
theorem wsL_law_g25 : GoodIn lw_tbl wsL_law_r25 := goodIn_p _ [498, 823, 502, 506, 827] (by decide +kernel) (by decide +kernel)
set_option maxRecDepth 20000 in
theorem wsL_law_g26 : GoodIn lw_tbl wsL_law_r26 := goodIn_p _ [510, 831, 514, 835, 518, 522] (by decide +kernel) (by decide +kernel)
set_option maxRecDepth 20000 in
theorem wsL_law_g27 : GoodIn lw_tbl wsL_law_r27 := goodIn_p _ [527, 531, 536, 542, 545] (by decide +kernel) (by decide +kernel)
set_option maxRecDepth 20000 in
theorem wsL_law_g28 : GoodIn lw_tbl wsL_law_r28 := goodIn_p _ [549, 839, 843, 847, 851, 855] (by decide +kernel) (by decide +kernel)
set_option maxRecDepth 20000 in
theorem wsL_law_g29 : GoodIn lw_tbl wsL_law_r29 := goodIn_p _ [553, 859, 559, 863, 563] (by decide +kernel) (by decide +kernel)
set_option maxRecDepth 20000 in
theorem wsL_law_g30 : GoodIn lw_tbl wsL_law_r30 := goodIn_p _ [867, 568, 871, 573, 875] (by decide +kernel) (by decide +kernel)
set_option maxRecDepth 20000 in
theorem wsL_law_g31 : GoodIn lw_tbl wsL_law_r31 := goodIn_p _ [879] (by decide +kernel) (by decide +kernel)
set_option maxRecDepth 20000 in
theorem wsL_law_gX60 : GoodIn lw_tbl wsX60 := goodIn_p _ [] (by decide +kernel) (by decide +kernel)
set_option maxRecDepth 20000 in
theorem wsL_law_gX70 : GoodIn lw_tbl wsX70 := goodIn_p _ [] (by decide +kernel) (by decide +kernel)
set_option maxRecDepth 20000 in
theorem wsL_law_gX20 : GoodIn lw_tbl wsX20 := goodIn_p _ [] (by decide +kernel) (by decide +kernel)
set_option maxRecDepth 20000 in
theorem wsL_law_gX10 : GoodIn lw_tbl wsX10 := goodIn_p _ [] (by decide +kernel) (by decide +kernel)
set_option maxRecDepth 20000 in
theorem wsL_law_gX40 : GoodIn lw_tbl wsX40 := goodIn_p _ [] (by decide +kernel) (by decide +kernel)
set_option maxRecDepth 20000 in
theorem wsL_law_gX00 : GoodIn lw_tbl wsX00 := goodIn_p _ [] (by decide +kernel) (by decide +kernel)
set_option maxRecDepth 20000 in
theorem wsL_law_gX50 : GoodIn lw_tbl wsX50 := goodIn_p _ [] (by decide +kernel) (by decide +kernel)
set_option maxRecDepth 20000 in
theorem wsL_law_gX30 : GoodIn lw_tbl wsX30 := goodIn_p _ [] (by decide +kernel) (by decide +kernel)
theorem wsL_law_gg : GoodIn lw_tbl wsL_law := (goodIn_app (goodIn_app (goodIn_app (goodIn_app (goodIn_app (goodIn_app (goodIn_app (goodIn_app (goodIn_app (goodIn_app wsL_law_g1 (goodIn_app wsL_law_g2 (goodIn_app wsL_law_g3 (goodIn_app wsL_law_g4 (goodIn_app wsL_law_g5 (goodIn_app wsL_law_g6 (goodIn_app wsL_law_g7 (goodIn_app wsL_law_g8 (goodIn_app wsL_law_g9 (goodIn_app wsL_law_g10 (goodIn_app wsL_law_g11 (goodIn_app wsL_law_g12 (goodIn_app wsL_law_g13 (goodIn_app wsL_law_g14 (goodIn_app wsL_law_g15 (goodIn_app wsL_law_g16 (goodIn_app wsL_law_g17 (goodIn_app wsL_law_g18 (goodIn_app wsL_law_g19 (goodIn_app wsL_law_g20 (goodIn_app wsL_law_g21 (goodIn_app wsL_law_g22 (goodIn_app wsL_law_g23 (goodIn_app wsL_law_g24 (goodIn_app wsL_law_g25 (goodIn_app wsL_law_g26 (goodIn_app wsL_law_g27 (goodIn_app wsL_law_g28 (goodIn_app wsL_law_g29 (goodIn_app wsL_law_g30 wsL_law_g31)))))))))))))))))))))))))))))) wsL_law_gX60) wsL_law_gX70) wsL_law_gX20) wsL_law_gX10) wsL_law_gX40) wsL_law_gX00) wsL_law_gX50) wsL_law_gX30) (fun w h => absurd h List.not_mem_nil))
theorem wsL_law_in : ∀ w ∈ wsL_law, w ∈ lw_tbl := fun w h => (wsL_law_gg w h).1
theorem inlX0 : ∀ w ∈ wsX00, w ∈ wsL_law := fun _ h => List.mem_append_left _ (List.mem_append_left _ (List.mem_append_left _ (List.mem_append_right _ h)))
theorem inX0 : ∀ w ∈ wsX00, w ∈ lw_tbl := fun w h => wsL_law_in w (inlX0 w h)
theorem inlX1 : ∀ w ∈ wsX10, w ∈ wsL_law := fun _ h => List.mem_append_left _ (List.mem_append_left _ (List.mem_append_left _ (List.mem_append_left _ (List.mem_append_left _ (List.mem_append_right _ h)))))
theorem inX1 : ∀ w ∈ wsX10, w ∈ lw_tbl := fun w h => wsL_law_in w (inlX1 w h)
theorem inlX2 : ∀ w ∈ wsX20, w ∈ wsL_law := fun _ h => List.mem_append_left _ (List.mem_append_left _ (List.mem_append_left _ (List.mem_append_left _ (List.mem_append_left _ (List.mem_append_left _ (List.mem_append_right _ h))))))
theorem inX2 : ∀ w ∈ wsX20, w ∈ lw_tbl := fun w h => wsL_law_in w (inlX2 w h)
theorem inlX3 : ∀ w ∈ wsX30, w ∈ wsL_law := fun _ h => List.mem_append_left _ (List.mem_append_right _ h)
theorem inX3 : ∀ w ∈ wsX30, w ∈ lw_tbl := fun w h => wsL_law_in w (inlX3 w h)
theorem inlX4 : ∀ w ∈ wsX40, w ∈ wsL_law := fun _ h => List.mem_append_left _ (List.mem_append_left _ (List.mem_append_left _ (List.mem_append_left _ (List.mem_append_right _ h))))
theorem inX4 : ∀ w ∈ wsX40, w ∈ lw_tbl := fun w h => wsL_law_in w (inlX4 w h)
theorem inlX5 : ∀ w ∈ wsX50, w ∈ wsL_law := fun _ h => List.mem_append_left _ (List.mem_append_left _ (List.mem_append_right _ h))
theorem inX5 : ∀ w ∈ wsX50, w ∈ lw_tbl := fun w h => wsL_law_in w (inlX5 w h)
theorem inlX6 : ∀ w ∈ wsX60, w ∈ wsL_law := fun _ h => List.mem_append_left _ (List.mem_append_left _ (List.mem_append_left _ (List.mem_append_left _ (List.mem_append_left _ (List.mem_append_left _ (List.mem_append_left _ (List.mem_append_left _ (List.mem_append_right _ h))))))))
theorem inX6 : ∀ w ∈ wsX60, w ∈ lw_tbl := fun w h => wsL_law_in w (inlX6 w h)
theorem inlX7 : ∀ w ∈ wsX70, w ∈ wsL_law := fun _ h => List.mem_append_left _ (List.mem_append_left _ (List.mem_append_left _ (List.mem_append_left _ (List.mem_append_left _ (List.mem_append_left _ (List.mem_append_left _ (List.mem_append_right _ h)))))))
theorem inX7 : ∀ w ∈ wsX70, w ∈ lw_tbl := fun w h => wsL_law_in w (inlX7 w h)
theorem inJ6 : ∀ w ∈ wsJ60, w ∈ lw_tbl := by decide +kernel
theorem inJ9 : ∀ w ∈ wsJ90, w ∈ lw_tbl := by decide +kernel
abbrev vwCl : List vw_C := [(RX0, TX0, 4), (RX1, TX1, 2), (RX2, TX2, 2), (RX3, TX3, 4), (RX4, TX4, 4), (RX5, TX5, 4), (RX6, TX6, 9), (RX7, TX7, 19)]
end
section
/-! THE WORLD of the whole claim: 75 cells at the addresses ad 0 .. ad 74 (0 .. 64 the class's, in the order in which its constructor makes them; 65 .. 74 the reference's); E tells what each holds. A method's contract has the whole world; the frame is what E keeps. -/
def xW (ad : Nat → Nat) (E : Nat → va_E) : va_W := (List.range 75).map (fun k => (ad k, E k))
def xJ (ad : Nat → Nat) : Prop := ∀ i j, i < 75 → j < 75 → ad i = ad j → i = j
def xA (ad : Nat → Nat) : Nat → Prop := fun q => ∃ k, k < 75 ∧ q = ad k
abbrev xG : Type := va_G × ClassId × ClassId × ClassId × ClassId × (Nat → Nat)
def xD (g : xG) : va_G := g.1
def xI (g : xG) : ClassId := g.2.1
def xC (g : xG) : ClassId := g.2.2.1
def xQ (g : xG) : ClassId := g.2.2.2.1
def xR (g : xG) : ClassId := g.2.2.2.2.1
def xad (g : xG) : Nat → Nat := g.2.2.2.2.2
def xt (g : xG) : List (ClassId × FieldType) := [(xI g, .int), (xC g, .char), (xQ g, .object "DiscArcs$Photos"), (xR g, .array .int)]
def xK (g : xG) (U : State) : Prop := va_K (xD g) vwCl (xt g) U ∧ va_Nw (.methodLinkNest RX0 55 yX6_isIn RX6) U
def xP (g : xG) (E : Nat → va_E) (H : Heap) : Prop := va_P (xD g) vwCl (xW (xad g) E) H
def xPc (g : xG) (av : List Value) (E : Nat → va_E) : Array Value → State → Prop := va_Pc av (fun U => xP g E U.heap ∧ xK g U)
/-- E1 is E, but e at k -/
def xU (E : Nat → va_E) (k : Nat) (e : va_E) (E1 : Nat → va_E) : Prop := E1 k = e ∧ ∀ j, j ≠ k → E1 j = E j
theorem xW_at {ad : Nat → Nat} {E : Nat → va_E} {k : Nat} (hk : k < 75) : (xW ad E)[k]? = some (ad k, E k) := by
  unfold xW
  rw [List.getElem?_map, List.getElem?_range hk]
  rfl
theorem xW_len {ad : Nat → Nat} {E : Nat → va_E} : (xW ad E).length = 75 := by simp [xW]
theorem xW_lt {ad : Nat → Nat} {E : Nat → va_E} {k : Nat} {q : Nat × va_E} (h : (xW ad E)[k]? = some q) : k < 75 ∧ q = (ad k, E k) := by
  have h1 := (List.getElem?_eq_some_iff.mp h).1
  rw [xW_len] at h1
  rw [xW_at h1] at h
  exact ⟨h1, (Option.some.inj h).symm⟩
theorem xW_set {ad : Nat → Nat} {E : Nat → va_E} {k : Nat} {e : va_E} (hk : k < 75) : (xW ad E).set k (ad k, e) = xW ad (va_up E k e) := by
  apply List.ext_getElem?
  intro i
  by_cases hi : i < 75
  · rw [xW_at hi]
    by_cases h : i = k
    · subst h
      rw [List.getElem?_set_self (by rw [xW_len]; exact hi)]
      simp [va_up]
    · rw [List.getElem?_set_ne (Ne.symm h), xW_at hi]
      simp [va_up, h]
  · rw [List.getElem?_eq_none (by rw [List.length_set, xW_len]; omega), List.getElem?_eq_none (by rw [xW_len]; omega)]
theorem xW_D {ad : Nat → Nat} {E : Nat → va_E} {A : Nat → Prop} (hj : xJ ad) (hA : ∀ k, k < 75 → A (ad k)) : va_D A (xW ad E) := by
  refine ⟨fun i j p q hp hq h => ?_, fun k q hk => ?_⟩
  · obtain ⟨h1, rfl⟩ := xW_lt hp
    obtain ⟨h2, rfl⟩ := xW_lt hq
    exact hj i j h1 h2 h
  · obtain ⟨h1, rfl⟩ := xW_lt hk
    exact hA k h1
theorem xU_up (E : Nat → va_E) (k : Nat) (e : va_E) : xU E k e (va_up E k e) := ⟨by simp [va_up], fun j h => by simp [va_up, h]⟩
theorem xA_in {ad : Nat → Nat} : ∀ k, k < 75 → xA ad (ad k) := fun k h => ⟨k, h, rfl⟩
theorem xK.call {g : xG} {U : State} {f : JFrame} {mk : MethodId} {a : Array Value} (h : xK g U) : xK g (U.calling f mk a) := ⟨va_K.moved (u := U) (U := U.calling f mk a) (Vm.Alike.refl U.vm) h.1, va_Nw.same (u := U) rfl rfl h.2⟩
theorem xK.warm {g : xG} {s U : State} (hW : s.WarmedH U.vm) (h : xK g s) : xK g U := ⟨va_K.moved hW.alike h.1, va_Nw.warmM hW h.2⟩
theorem x_blind {g : xG} {av : List Value} {E : Nat → va_E} : FrameBlind (xPc g av E) := fun a U f mk q => ⟨q.1, q.2.1, q.2.2.call⟩
/-- a truth as an int -/
def xb (P : Prop) (r : Int32) : Prop := (r = 0 ∨ r = 1) ∧ (¬ r = 0 ↔ P)
theorem xb.t {P : Prop} {r : Int32} (h : xb P r) (c : ¬ r = 0) : P := h.2.mp c
theorem xb.f {P : Prop} {r : Int32} (h : xb P r) (c : r = 0) : ¬ P := fun q => h.2.mpr q c
theorem xb.one {P : Prop} (h : P) : xb P 1 := ⟨Or.inr rfl, fun _ => h, fun _ => by decide⟩
theorem xb.zero {P : Prop} (h : ¬ P) : xb P 0 := ⟨Or.inl rfl, fun q => absurd rfl q, fun q => absurd q h⟩
theorem xb.iff {P P' : Prop} {r : Int32} (h : xb P r) (e : P ↔ P') : xb P' r := ⟨h.1, h.2.trans e⟩
theorem xb.eq {P : Prop} {r r' : Int32} (h : xb P r) (h' : xb P r') : r = r' := by
  rcases h.1 with a | a <;> rcases h'.1 with b | b
  · rw [a, b]
  · exact absurd (h'.2.mp (by rw [b]; decide)) (h.f a)
  · exact absurd (h.2.mp (by rw [a]; decide)) (h'.f b)
  · rw [a, b]
theorem xb.nar {P : Prop} {r : Int32} (h : xb P r) : narrow .boolean (.int r) = .int r := by
  rcases h.1 with a | a <;> rw [a] <;> rfl
theorem xb.fit {P : Prop} {r : Int32} (h : xb P r) : fits .boolean (.int r) = true := by
  rcases h.1 with a | a <;> rw [a] <;> rfl
section XR
variable {p : Program} {l : Launch} {e : Env} {R : Room} {s : State} {m : MethodId} {args : Array Value} {below : List Frame} {meth : Method} {c : Code} {H : Heap} {locs : List Loc} {cells slots : Nat} {Q : State → Prop}
variable {cc : ByteArray} {pc nL index : Nat} {ls : Array Slot} {rest : List Value} {g : xG} {A : Nat → Prop} {H0 : Heap} {E : Nat → va_E} {Ts : List Cond} {own : String}
theorem x_get (S : CallFix p m c cc nL s args Ts own) (hK : xK g s) (hP : xP g E H) (hdg : decode cc pc = .ok (.getfield index, 3)) {k ci : Nat} {fs : List Value} (he : E k = .inr (ci, fs)) (hk : k < 75) (ro : vw_C) (hc : vwCl[ci]? = some ro) (hin : ∀ w ∈ u_ws ro.1 ro.2.1 ro.2.2, w ∈ Ts) (j : Nat) (hj : j < ro.2.2) (hl : Cond.fieldLink own index (ro.2.1 j).1 (ro.2.1 j).2.1 (ro.2.1 j).2.2.1 ∈ Ts) {v : Value} (hv : fs[j]? = some v)
    (kk : W p l e R s m args below meth c H locs cells slots Q (F0 m (pc + 3) ls (v :: rest))) : W p l e R s m args below meth c H locs cells slots Q (F0 m pc ls (.ref (xad g k) :: rest)) := by
  obtain ⟨C, T, N⟩ := ro
  exact va_get (C := C) (T := T) (N := N) S.1 S.2.1 S.2.2.2.2 hin S.2.2.2.1 hK.1 hP k (by rw [xW_at hk, he]) hc j hj (S.2.2.2.2 _ hl) (fun _ h => h) hv hdg kk
theorem x_put (S : CallFix p m c cc nL s args Ts own) (hK : xK g s) (hJ : xJ (xad g)) (hP : xP g E H) (hS : va_S (xA (xad g)) H0 H locs) (hdg : decode cc pc = .ok (.putfield index, 3)) {k ci : Nat} {fs : List Value} (he : E k = .inr (ci, fs)) (hk : k < 75) (ro : vw_C) (hc : vwCl[ci]? = some ro) (hin : ∀ w ∈ u_ws ro.1 ro.2.1 ro.2.2, w ∈ Ts) (ty : Nat → FieldType) (hty : ∀ k, k < ro.2.2 → parseFieldDescriptor (ro.2.1 k).2.2.1 = some (ty k)) (hnm : ∀ a, a < ro.2.2 → ∀ b, b < ro.2.2 → a ≠ b → (ro.2.1 a).2.1 ≠ (ro.2.1 b).2.1) (j : Nat) (hj : j < ro.2.2) (hl : Cond.fieldLink own index (ro.2.1 j).1 (ro.2.1 j).2.1 (ro.2.1 j).2.2.1 ∈ Ts) (hfin : (ro.2.1 j).2.2.2 = false) {v : Value} (hn : narrow (ty j) v = v) (hfit : fits (ty j) v = true) (hlen : j < fs.length)
    (kk : ∀ (H1 : Heap) (locs1 : List Loc) (E1 : Nat → va_E), xU E k (.inr (ci, fs.set j v)) E1 → xP g E1 H1 → va_S (xA (xad g)) H0 H1 locs1 → W p l e R s m args below meth c H1 locs1 cells slots Q (F0 m (pc + 3) ls rest)) : W p l e R s m args below meth c H locs cells slots Q (F0 m pc ls (v :: .ref (xad g k) :: rest)) := by
  obtain ⟨C, T, N⟩ := ro
  refine va_put (C := C) (T := T) (N := N) S.1 S.2.1 S.2.2.2.2 hin ty hty hnm S.2.2.2.1 hK.1 hP (xW_D hJ xA_in) hS k (by rw [xW_at hk, he]) hc j hj (S.2.2.2.2 _ hl) (fun _ h => h) hfin (hty j hj) hn hfit hlen hdg (fun H1 locs1 h1 _ h3 => ?_)
  rw [xW_set hk] at h1
  exact kk H1 locs1 _ (xU_up _ _ _) h1 h3
theorem x_iald (S : CallFix p m c cc nL s args Ts own) (hK : xK g s) (hP : xP g E H) (hdg : decode cc pc = .ok (.iaload, 1)) {k n : Nat} {f : Nat → Int32} (he : E k = .inl (xI g, n, .inl f)) (hk : k < 75) {i : Int32} {j : Nat} (hi : i = nI j) (hj : j < n) (hn : n < 2 ^ 31)
    (kk : W p l e R s m args below meth c H locs cells slots Q (F0 m (pc + 1) ls (.int (f j) :: rest))) : W p l e R s m args below meth c H locs cells slots Q (F0 m pc ls (.int i :: .ref (xad g k) :: rest)) := by
  subst hi
  refine va_iald S.1 S.2.1 hK.1 hP k 0 (by rw [xW_at hk, he]) rfl (vp_in_nI hj hn) hdg ?_
  rw [nI_clamp (by omega)]
  exact kk
theorem x_cald (S : CallFix p m c cc nL s args Ts own) (hK : xK g s) (hP : xP g E H) (hdg : decode cc pc = .ok (.caload, 1)) {k n : Nat} {f : Nat → Int32} (he : E k = .inl (xC g, n, .inl f)) (hk : k < 75) {i : Int32} {j : Nat} (hi : i = nI j) (hj : j < n) (hn : n < 2 ^ 31)
    (kk : W p l e R s m args below meth c H locs cells slots Q (F0 m (pc + 1) ls (.int (f j) :: rest))) : W p l e R s m args below meth c H locs cells slots Q (F0 m pc ls (.int i :: .ref (xad g k) :: rest)) := by
  subst hi
  refine va_cald S.1 S.2.1 hK.1 hP k 1 (by rw [xW_at hk, he]) rfl (vp_in_nI hj hn) hdg ?_
  rw [nI_clamp (by omega)]
  exact kk
theorem x_aldp (S : CallFix p m c cc nL s args Ts own) (hK : xK g s) (hP : xP g E H) (hdg : decode cc pc = .ok (.aaload, 1)) {k n : Nat} {f : Nat → Option Nat} (he : E k = .inl (xQ g, n, .inr (.inr (.inr (.inr f))))) (hk : k < 75) {i : Int32} {j q : Nat} (hi : i = nI j) (hj : j < n) (hn : n < 2 ^ 31) (hq : f j = some q)
    (kk : W p l e R s m args below meth c H locs cells slots Q (F0 m (pc + 1) ls (.ref q :: rest))) : W p l e R s m args below meth c H locs cells slots Q (F0 m pc ls (.int i :: .ref (xad g k) :: rest)) := by
  subst hi
  refine va_aldq S.1 S.2.1 hK.1 hP k 2 (by rw [xW_at hk, he]) rfl (vp_in_nI hj hn) hdg ?_
  rw [nI_clamp (by omega), hq]
  exact kk
theorem x_aldr (S : CallFix p m c cc nL s args Ts own) (hK : xK g s) (hP : xP g E H) (hdg : decode cc pc = .ok (.aaload, 1)) {k n : Nat} {f : Nat → Option Nat} (he : E k = .inl (xR g, n, .inr (.inr (.inr (.inr f))))) (hk : k < 75) {i : Int32} {j q : Nat} (hi : i = nI j) (hj : j < n) (hn : n < 2 ^ 31) (hq : f j = some q)
    (kk : W p l e R s m args below meth c H locs cells slots Q (F0 m (pc + 1) ls (.ref q :: rest))) : W p l e R s m args below meth c H locs cells slots Q (F0 m pc ls (.int i :: .ref (xad g k) :: rest)) := by
  subst hi
  have hcl : (nI j).toNatClampNeg = j := nI_clamp (by omega)
  have hcell : H[xad g k]? = some (vp_cell (xR g) (n, .inr (.inr (.inr (.inr f))))) := hP k (xad g k, .inl (xR g, n, .inr (.inr (.inr (.inr f))))) (by rw [xW_at hk, he])
  rw [vp_cell_q] at hcell
  refine W.aald (v := .ref q) (ty := .array .int) S.1 S.2.1 hcell ((hK.1.2 3 _ rfl).1 n (fun j => va_rf (f j))) rfl (fun q => by cases q) (by rw [arrV_size]; exact vp_in_nI hj hn) (by rw [hcl, arrV_read _ _ hj, hq]; rfl) rfl rfl hdg kk
theorem x_iast (S : CallFix p m c cc nL s args Ts own) (hK : xK g s) (hJ : xJ (xad g)) (hP : xP g E H) (hS : va_S (xA (xad g)) H0 H locs) (hdg : decode cc pc = .ok (.iastore, 1)) {k n : Nat} {f : Nat → Int32} (he : E k = .inl (xI g, n, .inl f)) (hk : k < 75) {i x : Int32} {j : Nat} (hi : i = nI j) (hj : j < n) (hn : n < 2 ^ 31)
    (kk : ∀ (H1 : Heap) (locs1 : List Loc) (E1 : Nat → va_E), xU E k (.inl (xI g, n, .inl (upd f j x))) E1 → xP g E1 H1 → va_S (xA (xad g)) H0 H1 locs1 → W p l e R s m args below meth c H1 locs1 cells slots Q (F0 m (pc + 1) ls rest)) : W p l e R s m args below meth c H locs cells slots Q (F0 m pc ls (.int x :: .int i :: .ref (xad g k) :: rest)) := by
  subst hi
  refine va_iast S.1 S.2.1 hK.1 hP (xW_D hJ xA_in) hS k 0 (by rw [xW_at hk, he]) rfl (vp_in_nI hj hn) hdg (fun H1 locs1 h1 _ h3 => ?_)
  rw [xW_set hk, nI_clamp (by omega)] at h1
  exact kk H1 locs1 _ (xU_up _ _ _) h1 h3
theorem x_cast (S : CallFix p m c cc nL s args Ts own) (hK : xK g s) (hJ : xJ (xad g)) (hP : xP g E H) (hS : va_S (xA (xad g)) H0 H locs) (hdg : decode cc pc = .ok (.castore, 1)) {k n : Nat} {f : Nat → Int32} (he : E k = .inl (xC g, n, .inl f)) (hk : k < 75) {i x : Int32} {j : Nat} (hi : i = nI j) (hj : j < n) (hn : n < 2 ^ 31)
    (kk : ∀ (H1 : Heap) (locs1 : List Loc) (E1 : Nat → va_E), xU E k (.inl (xC g, n, .inl (upd f j (vp_nar .char x)))) E1 → xP g E1 H1 → va_S (xA (xad g)) H0 H1 locs1 → W p l e R s m args below meth c H1 locs1 cells slots Q (F0 m (pc + 1) ls rest)) : W p l e R s m args below meth c H locs cells slots Q (F0 m pc ls (.int x :: .int i :: .ref (xad g k) :: rest)) := by
  subst hi
  refine va_cast S.1 S.2.1 hK.1 hP (xW_D hJ xA_in) hS k 1 (by rw [xW_at hk, he]) rfl (vp_in_nI hj hn) hdg (fun H1 locs1 h1 _ h3 => ?_)
  rw [xW_set hk, nI_clamp (by omega)] at h1
  exact kk H1 locs1 _ (xU_up _ _ _) h1 h3
theorem x_astp (S : CallFix p m c cc nL s args Ts own) (hK : xK g s) (hJ : xJ (xad g)) (hP : xP g E H) (hS : va_S (xA (xad g)) H0 H locs) (hdg : decode cc pc = .ok (.aastore, 1)) {k n : Nat} {f : Nat → Option Nat} (he : E k = .inl (xQ g, n, .inr (.inr (.inr (.inr f))))) (hk : k < 75) {i : Int32} {j b : Nat} {vs : List Value} (hi : i = nI j) (hj : j < n) (hn : n < 2 ^ 31) (hb : E b = .inr (2, vs)) (hb5 : b < 75)
    (kk : ∀ (H1 : Heap) (locs1 : List Loc) (E1 : Nat → va_E), xU E k (.inl (xQ g, n, .inr (.inr (.inr (.inr (va_up f j (some (xad g b)))))))) E1 → xP g E1 H1 → va_S (xA (xad g)) H0 H1 locs1 → W p l e R s m args below meth c H1 locs1 cells slots Q (F0 m (pc + 1) ls rest)) : W p l e R s m args below meth c H locs cells slots Q (F0 m pc ls (.ref (xad g b) :: .int i :: .ref (xad g k) :: rest)) := by
  subst hi
  refine va_astq (r := (RX2, TX2, 2)) S.1 S.2.1 hK.1 hP (xW_D hJ xA_in) hS k 2 b 2 (by rw [xW_at hk, he]) rfl (by rw [xW_at hb5, hb]) rfl (vp_in_nI hj hn) hdg (fun H1 locs1 h1 _ h3 => ?_)
  rw [xW_set hk, nI_clamp (by omega)] at h1
  exact kk H1 locs1 _ (xU_up _ _ _) h1 h3
/-- a call that writes nothing: its answer -/
theorem x_si {post : Int32 → Prop} {a : Array Value} {st0 : List Value} (hr : va_Run p l e R s m args below meth c H locs cells slots 0 0 (F0 m pc ls st0) rest (vp_Si post a) (fun _ => False))
    (kk : ∀ r : Int32, post r → W p l e R s m args below meth c H locs cells slots Q (F0 m (pc + 3) ls (.int r :: rest))) : W p l e R s m args below meth c H locs cells slots Q (F0 m pc ls st0) := by
  intro T hT X
  obtain ⟨v, st₀, t, T', L, h0, X', hL, e1, -, ⟨r, hv, hp, hh⟩, st⟩ := hr T hT X
  cases hv
  obtain ⟨t2, a1, b1⟩ := kk r hp T' (by rw [e1, hh, h0]) (Stand.forget X' (fun q h => (hL q h).elim))
  exact ⟨t2, st t2 a1, b1⟩
theorem x_sl {post : Int64 → Prop} {a : Array Value} {st0 : List Value} (hr : va_Run p l e R s m args below meth c H locs cells slots 0 0 (F0 m pc ls st0) rest (vp_Sl post a) (fun _ => False))
    (kk : ∀ r : Int64, post r → W p l e R s m args below meth c H locs cells slots Q (F0 m (pc + 3) ls (.long r :: rest))) : W p l e R s m args below meth c H locs cells slots Q (F0 m pc ls st0) := by
  intro T hT X
  obtain ⟨v, st₀, t, T', L, h0, X', hL, e1, -, ⟨r, hv, hp, hh⟩, st⟩ := hr T hT X
  cases hv
  obtain ⟨t2, a1, b1⟩ := kk r hp T' (by rw [e1, hh, h0]) (Stand.forget X' (fun q h => (hL q h).elim))
  exact ⟨t2, st t2 a1, b1⟩
/-- a call that changes the world -/
def xQi (g : xG) (post : Int32 → (Nat → va_E) → Prop) : Array Value → State → Outcome → State → Prop := va_Qi post (fun E' t => xP g E' t.heap) (xA (xad g))
def xQl (g : xG) (post : Int64 → (Nat → va_E) → Prop) : Array Value → State → Outcome → State → Prop := va_Ql post (fun E' t => xP g E' t.heap) (xA (xad g))
def xQv (g : xG) (post : (Nat → va_E) → Prop) : Array Value → State → Outcome → State → Prop := va_Qv post (fun E' t => xP g E' t.heap) (xA (xad g))
variable {st0 : List Value} {a : Array Value}
theorem x_qi {post : Int32 → (Nat → va_E) → Prop} (hr : va_Run p l e R s m args below meth c H locs cells slots 0 0 (F0 m pc ls st0) rest (xQi g post a) (xA (xad g))) (hS : va_S (xA (xad g)) H0 H locs)
    (kk : ∀ (r : Int32) (E1 : Nat → va_E) (H1 : Heap) (locs1 : List Loc), post r E1 → xP g E1 H1 → va_S (xA (xad g)) H0 H1 locs1 → W p l e R s m args below meth c H1 locs1 cells slots Q (F0 m (pc + 3) ls (.int r :: rest))) : W p l e R s m args below meth c H locs cells slots Q (F0 m pc ls st0) :=
  va_calli hr hS (fun _ _ h => h) (fun _ h => h) (fun r u t H1 locs1 h1 _ h3 h4 _ _ h7 => kk r u H1 locs1 h3 (by rw [← h1]; exact h4) h7)
theorem x_ql {post : Int64 → (Nat → va_E) → Prop} (hr : va_Run p l e R s m args below meth c H locs cells slots 0 0 (F0 m pc ls st0) rest (xQl g post a) (xA (xad g))) (hS : va_S (xA (xad g)) H0 H locs)
    (kk : ∀ (r : Int64) (E1 : Nat → va_E) (H1 : Heap) (locs1 : List Loc), post r E1 → xP g E1 H1 → va_S (xA (xad g)) H0 H1 locs1 → W p l e R s m args below meth c H1 locs1 cells slots Q (F0 m (pc + 3) ls (.long r :: rest))) : W p l e R s m args below meth c H locs cells slots Q (F0 m pc ls st0) :=
  va_calll hr hS (fun _ _ h => h) (fun _ h => h) (fun r u t H1 locs1 h1 _ h3 h4 _ _ h7 => kk r u H1 locs1 h3 (by rw [← h1]; exact h4) h7)
theorem x_qv {post : (Nat → va_E) → Prop} (hr : va_Run p l e R s m args below meth c H locs cells slots 0 0 (F0 m pc ls st0) rest (xQv g post a) (xA (xad g))) (hS : va_S (xA (xad g)) H0 H locs)
    (kk : ∀ (E1 : Nat → va_E) (H1 : Heap) (locs1 : List Loc), post E1 → xP g E1 H1 → va_S (xA (xad g)) H0 H1 locs1 → W p l e R s m args below meth c H1 locs1 cells slots Q (F0 m (pc + 3) ls rest)) : W p l e R s m args below meth c H locs cells slots Q (F0 m pc ls st0) :=
  va_callv hr hS (fun _ _ h => h) (fun _ h => h) (fun u t H1 locs1 h1 _ h3 h4 _ _ h7 => kk u H1 locs1 h3 (by rw [← h1]; exact h4) h7)
/-- what a call needs of the world -/
theorem x_preV (hK : xK g s) (hP : xP g E H) {k ci : Nat} {fs : List Value} {As : List Value} {ro : vw_C} (he : E k = .inr (ci, fs)) (hk : k < 75) (hc : vwCl[ci]? = some ro) : PreV s H ro.1 (xad g k) (xPc g (.ref (xad g k) :: As) E) As :=
  ⟨x_blind, va_recv hK.1 hP hc (q0 := k) (by rw [xW_at hk, he]), fun U hU hW => ⟨rfl, by rw [hU]; exact hP, hK.warm hW⟩⟩
theorem x_preS (hK : xK g s) (hP : xP g E H) {As : List Value} : PreS s H (xPc g As E) As := ⟨x_blind, fun U hU hW => ⟨rfl, by rw [hU]; exact hP, hK.warm hW⟩⟩
/-- the ends -/
theorem x_iretR {post : Int32 → Prop} {v : Int32} (S : CallFix p m c cc nL s args Ts own) (hr : meth.sig.returnType = some .int) (hlocks : meth.locks = false) (hdg : decode cc pc = .ok (.ireturn, 1)) (hpost : post v) : W p l e R s m args below meth c s.heap [] cells slots (MQ below (vp_Si post) args s cells slots (fun _ => False)) (F0 m pc ls [.int v]) :=
  W.iret S.1 S.2.1 hr (fun t ht _ => ⟨v, rfl, hpost, ht⟩) (fun q h => by cases h) hdg hlocks
theorem x_zretR {P : Prop} {v : Int32} (S : CallFix p m c cc nL s args Ts own) (hr : meth.sig.returnType = some .boolean) (hlocks : meth.locks = false) (hdg : decode cc pc = .ok (.ireturn, 1)) (hpost : xb P v) : W p l e R s m args below meth c s.heap [] cells slots (MQ below (vp_Si (xb P)) args s cells slots (fun _ => False)) (F0 m pc ls [.int v]) :=
  W.zret S.1 S.2.1 hr hpost.nar (fun t ht _ => ⟨v, rfl, hpost, ht⟩) (fun q h => by cases h) hdg hlocks
theorem x_lretR {post : Int64 → Prop} {v : Int64} (S : CallFix p m c cc nL s args Ts own) (hr : meth.sig.returnType = some .long) (hlocks : meth.locks = false) (hdg : decode cc pc = .ok (.lreturn, 1)) (hpost : post v) : W p l e R s m args below meth c s.heap [] cells slots (MQ below (vp_Sl post) args s cells slots (fun _ => False)) (F0 m pc ls [.long v]) :=
  W.lret S.1 S.2.1 hr (fun t ht _ => ⟨v, rfl, hpost, ht⟩) (fun q h => by cases h) hdg hlocks
theorem x_iret {post : Int32 → (Nat → va_E) → Prop} {v : Int32} (S : CallFix p m c cc nL s args Ts own) (hr : meth.sig.returnType = some .int) (hlocks : meth.locks = false) (hP : xP g E H) (hS : va_S (xA (xad g)) s.heap H locs) (hdg : decode cc pc = .ok (.ireturn, 1)) (hpost : post v E) : W p l e R s m args below meth c H locs cells slots (MQ below (xQi g post) args s cells slots (xA (xad g))) (F0 m pc ls [.int v]) :=
  W.iret S.1 S.2.1 hr (fun t ht _ => ⟨⟨v, E, rfl, hpost, show xP g E t.heap by rw [ht]; exact hP⟩, hS.F ht⟩) hS.2.2 hdg hlocks
theorem x_zret {post : Int32 → (Nat → va_E) → Prop} {v : Int32} (S : CallFix p m c cc nL s args Ts own) (hr : meth.sig.returnType = some .boolean) (hlocks : meth.locks = false) (hP : xP g E H) (hS : va_S (xA (xad g)) s.heap H locs) (hdg : decode cc pc = .ok (.ireturn, 1)) (hv : narrow .boolean (.int v) = .int v) (hpost : post v E) : W p l e R s m args below meth c H locs cells slots (MQ below (xQi g post) args s cells slots (xA (xad g))) (F0 m pc ls [.int v]) :=
  W.zret S.1 S.2.1 hr hv (fun t ht _ => ⟨⟨v, E, rfl, hpost, show xP g E t.heap by rw [ht]; exact hP⟩, hS.F ht⟩) hS.2.2 hdg hlocks
theorem x_lret {post : Int64 → (Nat → va_E) → Prop} {v : Int64} (S : CallFix p m c cc nL s args Ts own) (hr : meth.sig.returnType = some .long) (hlocks : meth.locks = false) (hP : xP g E H) (hS : va_S (xA (xad g)) s.heap H locs) (hdg : decode cc pc = .ok (.lreturn, 1)) (hpost : post v E) : W p l e R s m args below meth c H locs cells slots (MQ below (xQl g post) args s cells slots (xA (xad g))) (F0 m pc ls [.long v]) :=
  W.lret S.1 S.2.1 hr (fun t ht _ => ⟨⟨v, E, rfl, hpost, show xP g E t.heap by rw [ht]; exact hP⟩, hS.F ht⟩) hS.2.2 hdg hlocks
theorem x_vret {post : (Nat → va_E) → Prop} (S : CallFix p m c cc nL s args Ts own) (hr : meth.sig.returnType = none) (hlocks : meth.locks = false) (hP : xP g E H) (hS : va_S (xA (xad g)) s.heap H locs) (hdg : decode cc pc = .ok (.return_, 1)) (hpost : post E) : W p l e R s m args below meth c H locs cells slots (MQ below (xQv g post) args s cells slots (xA (xad g))) (F0 m pc ls []) :=
  W.vret S.1 S.2.1 hr (fun t ht _ => ⟨⟨E, rfl, hpost, show xP g E t.heap by rw [ht]; exact hP⟩, hS.F ht⟩) hS.2.2 hdg hlocks
/-- a Photos at the places b .. b+8: n photos, row w of them M w -/
def ePh (g : xG) (E : Nat → va_E) (b n : Nat) (M : Nat → Nat → Int32) : Prop := (b + 9 ≤ 75 ∧ n ≤ 10) ∧ E b = .inr (2, [.ref (xad g (b + 1)), .int (nI n)]) ∧ E (b + 1) = .inl (xR g, 7, .inr (.inr (.inr (.inr (fun w => if w < 7 then some (xad g (b + 2 + w)) else none))))) ∧ ∀ w, w < 7 → ∃ f : Nat → Int32, E (b + 2 + w) = .inl (xI g, 10, .inl f) ∧ ∀ k, k < n → f k = M w k
theorem ePh.keep {g : xG} {E E1 : Nat → va_E} {b n : Nat} {M : Nat → Nat → Int32} (h : ePh g E b n M) (hE : ∀ j, b ≤ j → j < b + 9 → E1 j = E j) : ePh g E1 b n M := by
  obtain ⟨h0, h1, h2, h3⟩ := h
  refine ⟨h0, by rw [hE b (by omega) (by omega)]; exact h1, by rw [hE (b + 1) (by omega) (by omega)]; exact h2, fun w hw => ?_⟩
  obtain ⟨f, hf, hk⟩ := h3 w hw
  exact ⟨f, by rw [hE (b + 2 + w) (by omega) (by omega)]; exact hf, hk⟩
theorem x_row {b n : Nat} {M : Nat → Nat → Int32} (S : CallFix p m c cc nL s args Ts own) (hK : xK g s) (hP : xP g E H) (hdg : decode cc pc = .ok (.aaload, 1)) (hp : ePh g E b n M) {i : Int32} (w : Nat) (hi : i = nI w) (hw : w < 7)
    (kk : W p l e R s m args below meth c H locs cells slots Q (F0 m (pc + 1) ls (.ref (xad g (b + 2 + w)) :: rest))) : W p l e R s m args below meth c H locs cells slots Q (F0 m pc ls (.int i :: .ref (xad g (b + 1)) :: rest)) :=
  x_aldr S hK hP hdg hp.2.2.1 (by have := hp.1; omega) hi hw (by decide) (if_pos hw) kk
theorem x_val {b n : Nat} {M : Nat → Nat → Int32} (S : CallFix p m c cc nL s args Ts own) (hK : xK g s) (hP : xP g E H) (hdg : decode cc pc = .ok (.iaload, 1)) (hp : ePh g E b n M) {i : Int32} {w : Nat} (k : Nat) (hi : i = nI k) (hw : w < 7) (hk : k < n)
    (kk : W p l e R s m args below meth c H locs cells slots Q (F0 m (pc + 1) ls (.int (M w k) :: rest))) : W p l e R s m args below meth c H locs cells slots Q (F0 m pc ls (.int i :: .ref (xad g (b + 2 + w)) :: rest)) := by
  obtain ⟨f, hf, hv⟩ := hp.2.2.2 w hw
  refine x_iald S hK hP hdg hf (by have := hp.1; omega) hi (by have := hp.1; omega) (by decide) ?_
  rw [hv k hk]
  exact kk
end XR
/-- a contract out of a walk -/
theorem x_met {l : Launch} {y : MethodName} {ws ws' : List Cond} {rm : Room} {cc : ByteArray} {nL : Nat} {ret : Option FieldType} {g : xG} {av : List Value} {E : Nat → va_E} {Qc : Array Value → State → Outcome → State → Prop} {free : Addr → Prop} (hy : plainName y.cls = true) (hw : ws = Cond.code y cc nL ret :: ws') (hn : (lg_sl av).length ≤ nL)
    (body : ∀ (p : Program) (e : Env) (s : State) (m : MethodId) (below : List Frame) (meth : Method) (c : Code) (ls : Array Slot), CallFix p m c cc nL s av.toArray ws y.cls → meth.sig.returnType = ret → meth.locks = false → xP g E s.heap → xK g s → lv_has ls nL (lv_args 0 av) →
      W p l e rm s m av.toArray below meth c s.heap [] 0 0 (MQ below Qc av.toArray s 0 0 free) (F0 m 0 ls [])) : Met l y ws rm (xPc g av E) Qc 0 0 free := by
  refine Met.ofW (cc := cc) (maxL := nL) (ret := ret) hy hw ?_
  intro p e s m args below meth c s₁ B hml hv
  obtain ⟨rfl, hP, hK⟩ := hv
  rw [lg_entry_eq]
  exact body p e s m below meth c _ ⟨B.exec, B.bytes, hml, findClass_of_methodNamed B.named, atoms_spec (ws := ws) B.pre⟩ B.returns B.notSynchronized hP hK (lv_entry av hn)
end
section
/-! PURE ROWS: sets of photos as masks; what the ints of both sides say of them -/
theorem nI_or (a b : Nat) : nI a ||| nI b = nI (a ||| b) := by
  apply Int32.toBitVec_inj.mp
  apply BitVec.eq_of_toNat_eq
  rw [Int32.toBitVec_or, BitVec.toNat_or]
  show (BitVec.ofNat 32 a).toNat ||| (BitVec.ofNat 32 b).toNat = (BitVec.ofNat 32 (a ||| b)).toNat
  rw [BitVec.toNat_ofNat, BitVec.toNat_ofNat, BitVec.toNat_ofNat, Nat.or_mod_two_pow]
theorem nI_and (a b : Nat) : nI a &&& nI b = nI (a &&& b) := by
  apply Int32.toBitVec_inj.mp
  apply BitVec.eq_of_toNat_eq
  rw [Int32.toBitVec_and, BitVec.toNat_and]
  show (BitVec.ofNat 32 a).toNat &&& (BitVec.ofNat 32 b).toNat = (BitVec.ofNat 32 (a &&& b)).toNat
  rw [BitVec.toNat_ofNat, BitVec.toNat_ofNat, BitVec.toNat_ofNat, Nat.and_mod_two_pow]
theorem nI_inj {a b : Nat} (ha : a < 2 ^ 31) (hb : b < 2 ^ 31) (h : nI a = nI b) : a = b := (nI_eq ha hb).mp h
theorem bit_shl : ∀ k, k < 10 → (1 : Int32) <<< (nI k &&& 31) = nI (2 ^ k) := by decide +kernel
/-- the numbers under n for which P holds, as a mask -/
def mk (P : Nat → Bool) : Nat → Nat
  | 0 => 0
  | k + 1 => if P k then mk P k ||| 2 ^ k else mk P k
theorem mk_tb (P : Nat → Bool) (n i : Nat) : (mk P n).testBit i = (decide (i < n) && P i) := by
  induction n with
  | zero => simp [mk]
  | succ n ih =>
    unfold mk
    split
    · rename_i h
      rw [Nat.testBit_or, ih, Nat.testBit_two_pow]
      by_cases e : n = i
      · subst e
        simp [h]
      · by_cases h1 : i < n
        · simp [h1, e, Nat.lt_succ_of_lt h1]
        · simp [h1, e, show ¬ i < n + 1 by omega]
    · rename_i h
      rw [ih]
      by_cases e : i = n
      · subst e
        simp [h]
      · by_cases h1 : i < n
        · simp [h1, Nat.lt_succ_of_lt h1]
        · simp [h1, show ¬ i < n + 1 by omega]
theorem mk_lt (P : Nat → Bool) (n : Nat) : mk P n < 2 ^ n := by
  apply Nat.lt_pow_two_of_testBit
  intro i hi
  rw [mk_tb]
  simp [show ¬ i < n by omega]
theorem mk_lt10 (P : Nat → Bool) {n : Nat} (h : n ≤ 10) : mk P n < 1024 := Nat.lt_of_lt_of_le (mk_lt P n) (Nat.pow_le_pow_right (by decide) h)
theorem mk_ext {P Q : Nat → Bool} {n m : Nat} (h : ∀ i, (decide (i < n) && P i) = (decide (i < m) && Q i)) : mk P n = mk Q m := by
  apply Nat.eq_of_testBit_eq
  intro i
  rw [mk_tb, mk_tb]
  exact h i
theorem mk_congr {P Q : Nat → Bool} {n : Nat} (h : ∀ i, i < n → P i = Q i) : mk P n = mk Q n := mk_ext fun i => by
  by_cases hi : i < n
  · rw [h i hi]
  · simp [hi]
theorem mk_iff {P Q : Nat → Bool} {n : Nat} : mk P n = mk Q n ↔ ∀ i, i < n → P i = Q i := by
  refine ⟨fun h i hi => ?_, mk_congr⟩
  have := mk_tb P n i
  rw [h, mk_tb] at this
  simpa [hi] using this.symm
theorem mk_step {P : Nat → Bool} {k : Nat} (hk : k < 10) (h : P k = true) : nI (mk P k) ||| ((1 : Int32) <<< (nI k &&& 31)) = nI (mk P (k + 1)) := by
  rw [bit_shl k hk, nI_or]
  show _ = nI (if P k then mk P k ||| 2 ^ k else mk P k)
  rw [if_pos h]
theorem mk_skip {P : Nat → Bool} {k : Nat} (h : ¬ P k = true) : nI (mk P k) = nI (mk P (k + 1)) := by
  show _ = nI (if P k then mk P k ||| 2 ^ k else mk P k)
  rw [if_neg h]
/-- any mask is one of ten digits -/
theorem mk_10 {P : Nat → Bool} {n : Nat} (h : n ≤ 10) : mk P n = mk (fun i => decide (i < n) && P i) 10 := mk_ext fun i => by
  by_cases h1 : i < n
  · simp [h1, show i < 10 by omega]
  · simp [h1]
theorem mk_of {a : Nat} (h : a < 1024) : mk (fun i => a.testBit i) 10 = a := by
  apply Nat.eq_of_testBit_eq
  intro i
  rw [mk_tb]
  by_cases hi : i < 10
  · simp [hi]
  · have : a.testBit i = false := Nat.testBit_lt_two_pow (Nat.lt_of_lt_of_le h (Nat.pow_le_pow_right (n := 2) (i := 10) (by decide) (by omega)))
    simp [hi, this]
/-- how many numbers under n P holds for -/
def cnt (P : Nat → Bool) : Nat → Nat
  | 0 => 0
  | k + 1 => cnt P k + (if P k then 1 else 0)
theorem cnt_le (P : Nat → Bool) (n : Nat) : cnt P n ≤ n := by
  induction n with
  | zero => exact Nat.le_refl _
  | succ n ih => unfold cnt; split <;> omega
theorem cnt_congr {P Q : Nat → Bool} {n : Nat} (h : ∀ i, i < n → P i = Q i) : cnt P n = cnt Q n := by
  induction n with
  | zero => rfl
  | succ n ih =>
    unfold cnt
    rw [ih fun i hi => h i (by omega), h n (by omega)]
/-- a count of the digits of a number -/
def pop (a : Nat) : Nat := cnt (fun i => a.testBit i) 10
theorem pop_mk {P : Nat → Bool} {n : Nat} (h : n ≤ 10) : pop (mk P n) = cnt P n := by
  have key : ∀ d, n + d = 10 → cnt (fun i => (mk P n).testBit i) (n + d) = cnt P n := by
    intro d hd
    clear hd
    induction d with
    | zero =>
      refine cnt_congr (n := n) fun i hi => ?_
      rw [mk_tb]
      simp [hi]
    | succ d ih =>
      show cnt (fun i => (mk P n).testBit i) (n + d) + (if (mk P n).testBit (n + d) = true then 1 else 0) = _
      rw [ih, mk_tb]
      simp [show ¬ n + d < n by omega]
  have := key (10 - n) (by omega)
  rw [show n + (10 - n) = 10 by omega] at this
  exact this
/-- Integer.bitCount of the JDK, as its code counts -/
def bcI (x : Int32) : Int32 :=
  let a := x - ((x.toUInt32 >>> ((1 : Int32).toUInt32 &&& Int32.toUInt32 31)).toInt32 &&& 1431655765)
  let b := (a &&& 858993459) + ((a.toUInt32 >>> ((2 : Int32).toUInt32 &&& Int32.toUInt32 31)).toInt32 &&& 858993459)
  let c := (b + (b.toUInt32 >>> ((4 : Int32).toUInt32 &&& Int32.toUInt32 31)).toInt32) &&& 252645135
  let d := c + (c.toUInt32 >>> ((8 : Int32).toUInt32 &&& Int32.toUInt32 31)).toInt32
  let f := d + (d.toUInt32 >>> ((16 : Int32).toUInt32 &&& Int32.toUInt32 31)).toInt32
  f &&& 63
theorem bc_all : ∀ a, a < 1024 → bcI (nI a) = nI (pop a) := by decide +kernel
theorem bc_mk {P : Nat → Bool} {n : Nat} (h : n ≤ 10) : bcI (nI (mk P n)) = nI (cnt P n) := by
  rw [bc_all _ (mk_lt10 P h), pop_mk h]
/-- a photo's number among n -/
theorem hold_t {x : Int32} {n : Nat} (hn : n ≤ 10) (h0 : ¬ x < 0) (h1 : ¬ nI n ≤ x) : ∃ k : Nat, k < n ∧ x = nI k := by
  obtain ⟨j, hj, rfl⟩ := nI_of h0
  exact ⟨j, Nat.not_le.mp fun h => h1 ((nI_leI (by omega) hj).mpr h), rfl⟩
theorem hold_n {x : Int32} {n : Nat} (hn : n ≤ 10) (h0 : x < 0) : ¬ ∃ k : Nat, k < n ∧ x = nI k := by
  rintro ⟨k, hk, rfl⟩
  exact nI_pos (by omega) h0
theorem hold_f {x : Int32} {n : Nat} (hn : n ≤ 10) (h0 : nI n ≤ x) : ¬ ∃ k : Nat, k < n ∧ x = nI k := by
  rintro ⟨k, hk, rfl⟩
  have := (nI_leI (a := n) (b := k) (by omega) (by omega)).mp h0
  omega
/-- usable photos; those with an angle -/
def pU (M : Nat → Nat → Int32) (k : Nat) : Bool := decide (M 6 k = 0)
def pK (M : Nat → Nat → Int32) (k : Nat) : Bool := decide (M 6 k = 0 ∧ ¬ M 4 k = 360)
end
section
theorem dJ6_numberOfLeadingZeros_0f7a4_0 : decode cJ6_numberOfLeadingZeros_0f7a4 0 = .ok (.iload_n 0, 1) := by decide +kernel
theorem dJ6_numberOfLeadingZeros_0f7a4_1 : decode cJ6_numberOfLeadingZeros_0f7a4 1 = .ok (.ifCond .gt 14, 3) := by decide +kernel
theorem dJ6_numberOfLeadingZeros_0f7a4_4 : decode cJ6_numberOfLeadingZeros_0f7a4 4 = .ok (.iload_n 0, 1) := by decide +kernel
theorem dJ6_numberOfLeadingZeros_0f7a4_5 : decode cJ6_numberOfLeadingZeros_0f7a4 5 = .ok (.ifCond .ne 8, 3) := by decide +kernel
theorem dJ6_numberOfLeadingZeros_0f7a4_8 : decode cJ6_numberOfLeadingZeros_0f7a4 8 = .ok (.bipush 32, 2) := by decide +kernel
theorem dJ6_numberOfLeadingZeros_0f7a4_10 : decode cJ6_numberOfLeadingZeros_0f7a4 10 = .ok (.goto 4, 3) := by decide +kernel
theorem dJ6_numberOfLeadingZeros_0f7a4_13 : decode cJ6_numberOfLeadingZeros_0f7a4 13 = .ok (.iconst 0, 1) := by decide +kernel
theorem dJ6_numberOfLeadingZeros_0f7a4_14 : decode cJ6_numberOfLeadingZeros_0f7a4 14 = .ok (.ireturn, 1) := by decide +kernel
theorem dJ6_numberOfLeadingZeros_0f7a4_15 : decode cJ6_numberOfLeadingZeros_0f7a4 15 = .ok (.bipush 31, 2) := by decide +kernel
theorem dJ6_numberOfLeadingZeros_0f7a4_17 : decode cJ6_numberOfLeadingZeros_0f7a4 17 = .ok (.istore_n 1, 1) := by decide +kernel
theorem dJ6_numberOfLeadingZeros_0f7a4_18 : decode cJ6_numberOfLeadingZeros_0f7a4 18 = .ok (.iload_n 0, 1) := by decide +kernel
theorem dJ6_numberOfLeadingZeros_0f7a4_19 : decode cJ6_numberOfLeadingZeros_0f7a4 19 = .ok (.ldc_w 264, 3) := by decide +kernel
theorem dJ6_numberOfLeadingZeros_0f7a4_22 : decode cJ6_numberOfLeadingZeros_0f7a4 22 = .ok (.if_icmp .lt 11, 3) := by decide +kernel
theorem dJ6_numberOfLeadingZeros_0f7a4_25 : decode cJ6_numberOfLeadingZeros_0f7a4 25 = .ok (.iinc 1 (-16), 3) := by decide +kernel
theorem dJ6_numberOfLeadingZeros_0f7a4_28 : decode cJ6_numberOfLeadingZeros_0f7a4 28 = .ok (.iload_n 0, 1) := by decide +kernel
theorem dJ6_numberOfLeadingZeros_0f7a4_29 : decode cJ6_numberOfLeadingZeros_0f7a4 29 = .ok (.bipush 16, 2) := by decide +kernel
theorem dJ6_numberOfLeadingZeros_0f7a4_31 : decode cJ6_numberOfLeadingZeros_0f7a4 31 = .ok (.iushr, 1) := by decide +kernel
theorem dJ6_numberOfLeadingZeros_0f7a4_32 : decode cJ6_numberOfLeadingZeros_0f7a4 32 = .ok (.istore_n 0, 1) := by decide +kernel
theorem dJ6_numberOfLeadingZeros_0f7a4_33 : decode cJ6_numberOfLeadingZeros_0f7a4 33 = .ok (.iload_n 0, 1) := by decide +kernel
theorem dJ6_numberOfLeadingZeros_0f7a4_34 : decode cJ6_numberOfLeadingZeros_0f7a4 34 = .ok (.sipush 256, 3) := by decide +kernel
theorem dJ6_numberOfLeadingZeros_0f7a4_37 : decode cJ6_numberOfLeadingZeros_0f7a4 37 = .ok (.if_icmp .lt 11, 3) := by decide +kernel
theorem dJ6_numberOfLeadingZeros_0f7a4_40 : decode cJ6_numberOfLeadingZeros_0f7a4 40 = .ok (.iinc 1 (-8), 3) := by decide +kernel
theorem dJ6_numberOfLeadingZeros_0f7a4_43 : decode cJ6_numberOfLeadingZeros_0f7a4 43 = .ok (.iload_n 0, 1) := by decide +kernel
theorem dJ6_numberOfLeadingZeros_0f7a4_44 : decode cJ6_numberOfLeadingZeros_0f7a4 44 = .ok (.bipush 8, 2) := by decide +kernel
theorem dJ6_numberOfLeadingZeros_0f7a4_46 : decode cJ6_numberOfLeadingZeros_0f7a4 46 = .ok (.iushr, 1) := by decide +kernel
theorem dJ6_numberOfLeadingZeros_0f7a4_47 : decode cJ6_numberOfLeadingZeros_0f7a4 47 = .ok (.istore_n 0, 1) := by decide +kernel
theorem dJ6_numberOfLeadingZeros_0f7a4_48 : decode cJ6_numberOfLeadingZeros_0f7a4 48 = .ok (.iload_n 0, 1) := by decide +kernel
theorem dJ6_numberOfLeadingZeros_0f7a4_49 : decode cJ6_numberOfLeadingZeros_0f7a4 49 = .ok (.bipush 16, 2) := by decide +kernel
theorem dJ6_numberOfLeadingZeros_0f7a4_51 : decode cJ6_numberOfLeadingZeros_0f7a4 51 = .ok (.if_icmp .lt 10, 3) := by decide +kernel
theorem dJ6_numberOfLeadingZeros_0f7a4_54 : decode cJ6_numberOfLeadingZeros_0f7a4 54 = .ok (.iinc 1 (-4), 3) := by decide +kernel
theorem dJ6_numberOfLeadingZeros_0f7a4_57 : decode cJ6_numberOfLeadingZeros_0f7a4 57 = .ok (.iload_n 0, 1) := by decide +kernel
theorem dJ6_numberOfLeadingZeros_0f7a4_58 : decode cJ6_numberOfLeadingZeros_0f7a4 58 = .ok (.iconst 4, 1) := by decide +kernel
theorem dJ6_numberOfLeadingZeros_0f7a4_59 : decode cJ6_numberOfLeadingZeros_0f7a4 59 = .ok (.iushr, 1) := by decide +kernel
theorem dJ6_numberOfLeadingZeros_0f7a4_60 : decode cJ6_numberOfLeadingZeros_0f7a4 60 = .ok (.istore_n 0, 1) := by decide +kernel
theorem dJ6_numberOfLeadingZeros_0f7a4_61 : decode cJ6_numberOfLeadingZeros_0f7a4 61 = .ok (.iload_n 0, 1) := by decide +kernel
theorem dJ6_numberOfLeadingZeros_0f7a4_62 : decode cJ6_numberOfLeadingZeros_0f7a4 62 = .ok (.iconst 4, 1) := by decide +kernel
theorem dJ6_numberOfLeadingZeros_0f7a4_63 : decode cJ6_numberOfLeadingZeros_0f7a4 63 = .ok (.if_icmp .lt 10, 3) := by decide +kernel
theorem dJ6_numberOfLeadingZeros_0f7a4_66 : decode cJ6_numberOfLeadingZeros_0f7a4 66 = .ok (.iinc 1 (-2), 3) := by decide +kernel
theorem dJ6_numberOfLeadingZeros_0f7a4_69 : decode cJ6_numberOfLeadingZeros_0f7a4 69 = .ok (.iload_n 0, 1) := by decide +kernel
theorem dJ6_numberOfLeadingZeros_0f7a4_70 : decode cJ6_numberOfLeadingZeros_0f7a4 70 = .ok (.iconst 2, 1) := by decide +kernel
theorem dJ6_numberOfLeadingZeros_0f7a4_71 : decode cJ6_numberOfLeadingZeros_0f7a4 71 = .ok (.iushr, 1) := by decide +kernel
theorem dJ6_numberOfLeadingZeros_0f7a4_72 : decode cJ6_numberOfLeadingZeros_0f7a4 72 = .ok (.istore_n 0, 1) := by decide +kernel
theorem dJ6_numberOfLeadingZeros_0f7a4_73 : decode cJ6_numberOfLeadingZeros_0f7a4 73 = .ok (.iload_n 1, 1) := by decide +kernel
theorem dJ6_numberOfLeadingZeros_0f7a4_74 : decode cJ6_numberOfLeadingZeros_0f7a4 74 = .ok (.iload_n 0, 1) := by decide +kernel
theorem dJ6_numberOfLeadingZeros_0f7a4_75 : decode cJ6_numberOfLeadingZeros_0f7a4 75 = .ok (.iconst 1, 1) := by decide +kernel
theorem dJ6_numberOfLeadingZeros_0f7a4_76 : decode cJ6_numberOfLeadingZeros_0f7a4 76 = .ok (.iushr, 1) := by decide +kernel
theorem dJ6_numberOfLeadingZeros_0f7a4_77 : decode cJ6_numberOfLeadingZeros_0f7a4 77 = .ok (.isub, 1) := by decide +kernel
theorem dJ6_numberOfLeadingZeros_0f7a4_78 : decode cJ6_numberOfLeadingZeros_0f7a4 78 = .ok (.ireturn, 1) := by decide +kernel
theorem dJ6_numberOfTrailingZeros_0f7a4_0 : decode cJ6_numberOfTrailingZeros_0f7a4 0 = .ok (.iload_n 0, 1) := by decide +kernel
theorem dJ6_numberOfTrailingZeros_0f7a4_1 : decode cJ6_numberOfTrailingZeros_0f7a4 1 = .ok (.iconst (-1), 1) := by decide +kernel
theorem dJ6_numberOfTrailingZeros_0f7a4_2 : decode cJ6_numberOfTrailingZeros_0f7a4 2 = .ok (.ixor, 1) := by decide +kernel
theorem dJ6_numberOfTrailingZeros_0f7a4_3 : decode cJ6_numberOfTrailingZeros_0f7a4 3 = .ok (.iload_n 0, 1) := by decide +kernel
theorem dJ6_numberOfTrailingZeros_0f7a4_4 : decode cJ6_numberOfTrailingZeros_0f7a4 4 = .ok (.iconst 1, 1) := by decide +kernel
theorem dJ6_numberOfTrailingZeros_0f7a4_5 : decode cJ6_numberOfTrailingZeros_0f7a4 5 = .ok (.isub, 1) := by decide +kernel
theorem dJ6_numberOfTrailingZeros_0f7a4_6 : decode cJ6_numberOfTrailingZeros_0f7a4 6 = .ok (.iand, 1) := by decide +kernel
theorem dJ6_numberOfTrailingZeros_0f7a4_7 : decode cJ6_numberOfTrailingZeros_0f7a4 7 = .ok (.istore_n 0, 1) := by decide +kernel
theorem dJ6_numberOfTrailingZeros_0f7a4_8 : decode cJ6_numberOfTrailingZeros_0f7a4 8 = .ok (.iload_n 0, 1) := by decide +kernel
theorem dJ6_numberOfTrailingZeros_0f7a4_9 : decode cJ6_numberOfTrailingZeros_0f7a4 9 = .ok (.ifCond .gt 8, 3) := by decide +kernel
theorem dJ6_numberOfTrailingZeros_0f7a4_12 : decode cJ6_numberOfTrailingZeros_0f7a4 12 = .ok (.iload_n 0, 1) := by decide +kernel
theorem dJ6_numberOfTrailingZeros_0f7a4_13 : decode cJ6_numberOfTrailingZeros_0f7a4 13 = .ok (.bipush 32, 2) := by decide +kernel
theorem dJ6_numberOfTrailingZeros_0f7a4_15 : decode cJ6_numberOfTrailingZeros_0f7a4 15 = .ok (.iand, 1) := by decide +kernel
theorem dJ6_numberOfTrailingZeros_0f7a4_16 : decode cJ6_numberOfTrailingZeros_0f7a4 16 = .ok (.ireturn, 1) := by decide +kernel
theorem dJ6_numberOfTrailingZeros_0f7a4_17 : decode cJ6_numberOfTrailingZeros_0f7a4 17 = .ok (.iconst 1, 1) := by decide +kernel
theorem dJ6_numberOfTrailingZeros_0f7a4_18 : decode cJ6_numberOfTrailingZeros_0f7a4 18 = .ok (.istore_n 1, 1) := by decide +kernel
theorem dJ6_numberOfTrailingZeros_0f7a4_19 : decode cJ6_numberOfTrailingZeros_0f7a4 19 = .ok (.iload_n 0, 1) := by decide +kernel
theorem dJ6_numberOfTrailingZeros_0f7a4_20 : decode cJ6_numberOfTrailingZeros_0f7a4 20 = .ok (.ldc_w 264, 3) := by decide +kernel
theorem dJ6_numberOfTrailingZeros_0f7a4_23 : decode cJ6_numberOfTrailingZeros_0f7a4 23 = .ok (.if_icmp .le 11, 3) := by decide +kernel
theorem dJ6_numberOfTrailingZeros_0f7a4_26 : decode cJ6_numberOfTrailingZeros_0f7a4 26 = .ok (.iinc 1 16, 3) := by decide +kernel
theorem dJ6_numberOfTrailingZeros_0f7a4_29 : decode cJ6_numberOfTrailingZeros_0f7a4 29 = .ok (.iload_n 0, 1) := by decide +kernel
theorem dJ6_numberOfTrailingZeros_0f7a4_30 : decode cJ6_numberOfTrailingZeros_0f7a4 30 = .ok (.bipush 16, 2) := by decide +kernel
theorem dJ6_numberOfTrailingZeros_0f7a4_32 : decode cJ6_numberOfTrailingZeros_0f7a4 32 = .ok (.iushr, 1) := by decide +kernel
theorem dJ6_numberOfTrailingZeros_0f7a4_33 : decode cJ6_numberOfTrailingZeros_0f7a4 33 = .ok (.istore_n 0, 1) := by decide +kernel
theorem dJ6_numberOfTrailingZeros_0f7a4_34 : decode cJ6_numberOfTrailingZeros_0f7a4 34 = .ok (.iload_n 0, 1) := by decide +kernel
theorem dJ6_numberOfTrailingZeros_0f7a4_35 : decode cJ6_numberOfTrailingZeros_0f7a4 35 = .ok (.sipush 256, 3) := by decide +kernel
theorem dJ6_numberOfTrailingZeros_0f7a4_38 : decode cJ6_numberOfTrailingZeros_0f7a4 38 = .ok (.if_icmp .le 11, 3) := by decide +kernel
theorem dJ6_numberOfTrailingZeros_0f7a4_41 : decode cJ6_numberOfTrailingZeros_0f7a4 41 = .ok (.iinc 1 8, 3) := by decide +kernel
theorem dJ6_numberOfTrailingZeros_0f7a4_44 : decode cJ6_numberOfTrailingZeros_0f7a4 44 = .ok (.iload_n 0, 1) := by decide +kernel
theorem dJ6_numberOfTrailingZeros_0f7a4_45 : decode cJ6_numberOfTrailingZeros_0f7a4 45 = .ok (.bipush 8, 2) := by decide +kernel
theorem dJ6_numberOfTrailingZeros_0f7a4_47 : decode cJ6_numberOfTrailingZeros_0f7a4 47 = .ok (.iushr, 1) := by decide +kernel
theorem dJ6_numberOfTrailingZeros_0f7a4_48 : decode cJ6_numberOfTrailingZeros_0f7a4 48 = .ok (.istore_n 0, 1) := by decide +kernel
theorem dJ6_numberOfTrailingZeros_0f7a4_49 : decode cJ6_numberOfTrailingZeros_0f7a4 49 = .ok (.iload_n 0, 1) := by decide +kernel
theorem dJ6_numberOfTrailingZeros_0f7a4_50 : decode cJ6_numberOfTrailingZeros_0f7a4 50 = .ok (.bipush 16, 2) := by decide +kernel
theorem dJ6_numberOfTrailingZeros_0f7a4_52 : decode cJ6_numberOfTrailingZeros_0f7a4 52 = .ok (.if_icmp .le 10, 3) := by decide +kernel
theorem dJ6_numberOfTrailingZeros_0f7a4_55 : decode cJ6_numberOfTrailingZeros_0f7a4 55 = .ok (.iinc 1 4, 3) := by decide +kernel
theorem dJ6_numberOfTrailingZeros_0f7a4_58 : decode cJ6_numberOfTrailingZeros_0f7a4 58 = .ok (.iload_n 0, 1) := by decide +kernel
theorem dJ6_numberOfTrailingZeros_0f7a4_59 : decode cJ6_numberOfTrailingZeros_0f7a4 59 = .ok (.iconst 4, 1) := by decide +kernel
theorem dJ6_numberOfTrailingZeros_0f7a4_60 : decode cJ6_numberOfTrailingZeros_0f7a4 60 = .ok (.iushr, 1) := by decide +kernel
theorem dJ6_numberOfTrailingZeros_0f7a4_61 : decode cJ6_numberOfTrailingZeros_0f7a4 61 = .ok (.istore_n 0, 1) := by decide +kernel
theorem dJ6_numberOfTrailingZeros_0f7a4_62 : decode cJ6_numberOfTrailingZeros_0f7a4 62 = .ok (.iload_n 0, 1) := by decide +kernel
theorem dJ6_numberOfTrailingZeros_0f7a4_63 : decode cJ6_numberOfTrailingZeros_0f7a4 63 = .ok (.iconst 4, 1) := by decide +kernel
theorem dJ6_numberOfTrailingZeros_0f7a4_64 : decode cJ6_numberOfTrailingZeros_0f7a4 64 = .ok (.if_icmp .le 10, 3) := by decide +kernel
theorem dJ6_numberOfTrailingZeros_0f7a4_67 : decode cJ6_numberOfTrailingZeros_0f7a4 67 = .ok (.iinc 1 2, 3) := by decide +kernel
theorem dJ6_numberOfTrailingZeros_0f7a4_70 : decode cJ6_numberOfTrailingZeros_0f7a4 70 = .ok (.iload_n 0, 1) := by decide +kernel
theorem dJ6_numberOfTrailingZeros_0f7a4_71 : decode cJ6_numberOfTrailingZeros_0f7a4 71 = .ok (.iconst 2, 1) := by decide +kernel
theorem dJ6_numberOfTrailingZeros_0f7a4_72 : decode cJ6_numberOfTrailingZeros_0f7a4 72 = .ok (.iushr, 1) := by decide +kernel
theorem dJ6_numberOfTrailingZeros_0f7a4_73 : decode cJ6_numberOfTrailingZeros_0f7a4 73 = .ok (.istore_n 0, 1) := by decide +kernel
theorem dJ6_numberOfTrailingZeros_0f7a4_74 : decode cJ6_numberOfTrailingZeros_0f7a4 74 = .ok (.iload_n 1, 1) := by decide +kernel
theorem dJ6_numberOfTrailingZeros_0f7a4_75 : decode cJ6_numberOfTrailingZeros_0f7a4 75 = .ok (.iload_n 0, 1) := by decide +kernel
theorem dJ6_numberOfTrailingZeros_0f7a4_76 : decode cJ6_numberOfTrailingZeros_0f7a4 76 = .ok (.iconst 1, 1) := by decide +kernel
theorem dJ6_numberOfTrailingZeros_0f7a4_77 : decode cJ6_numberOfTrailingZeros_0f7a4 77 = .ok (.iushr, 1) := by decide +kernel
theorem dJ6_numberOfTrailingZeros_0f7a4_78 : decode cJ6_numberOfTrailingZeros_0f7a4 78 = .ok (.iadd, 1) := by decide +kernel
theorem dJ6_numberOfTrailingZeros_0f7a4_79 : decode cJ6_numberOfTrailingZeros_0f7a4 79 = .ok (.ireturn, 1) := by decide +kernel
theorem dJ6_bitCount_0f7a4_0 : decode cJ6_bitCount_0f7a4 0 = .ok (.iload_n 0, 1) := by decide +kernel
theorem dJ6_bitCount_0f7a4_1 : decode cJ6_bitCount_0f7a4 1 = .ok (.iload_n 0, 1) := by decide +kernel
theorem dJ6_bitCount_0f7a4_2 : decode cJ6_bitCount_0f7a4 2 = .ok (.iconst 1, 1) := by decide +kernel
theorem dJ6_bitCount_0f7a4_3 : decode cJ6_bitCount_0f7a4 3 = .ok (.iushr, 1) := by decide +kernel
theorem dJ6_bitCount_0f7a4_4 : decode cJ6_bitCount_0f7a4 4 = .ok (.ldc_w 265, 3) := by decide +kernel
theorem dJ6_bitCount_0f7a4_7 : decode cJ6_bitCount_0f7a4 7 = .ok (.iand, 1) := by decide +kernel
theorem dJ6_bitCount_0f7a4_8 : decode cJ6_bitCount_0f7a4 8 = .ok (.isub, 1) := by decide +kernel
theorem dJ6_bitCount_0f7a4_9 : decode cJ6_bitCount_0f7a4 9 = .ok (.istore_n 0, 1) := by decide +kernel
theorem dJ6_bitCount_0f7a4_10 : decode cJ6_bitCount_0f7a4 10 = .ok (.iload_n 0, 1) := by decide +kernel
theorem dJ6_bitCount_0f7a4_11 : decode cJ6_bitCount_0f7a4 11 = .ok (.ldc_w 266, 3) := by decide +kernel
theorem dJ6_bitCount_0f7a4_14 : decode cJ6_bitCount_0f7a4 14 = .ok (.iand, 1) := by decide +kernel
theorem dJ6_bitCount_0f7a4_15 : decode cJ6_bitCount_0f7a4 15 = .ok (.iload_n 0, 1) := by decide +kernel
theorem dJ6_bitCount_0f7a4_16 : decode cJ6_bitCount_0f7a4 16 = .ok (.iconst 2, 1) := by decide +kernel
theorem dJ6_bitCount_0f7a4_17 : decode cJ6_bitCount_0f7a4 17 = .ok (.iushr, 1) := by decide +kernel
theorem dJ6_bitCount_0f7a4_18 : decode cJ6_bitCount_0f7a4 18 = .ok (.ldc_w 266, 3) := by decide +kernel
theorem dJ6_bitCount_0f7a4_21 : decode cJ6_bitCount_0f7a4 21 = .ok (.iand, 1) := by decide +kernel
theorem dJ6_bitCount_0f7a4_22 : decode cJ6_bitCount_0f7a4 22 = .ok (.iadd, 1) := by decide +kernel
theorem dJ6_bitCount_0f7a4_23 : decode cJ6_bitCount_0f7a4 23 = .ok (.istore_n 0, 1) := by decide +kernel
theorem dJ6_bitCount_0f7a4_24 : decode cJ6_bitCount_0f7a4 24 = .ok (.iload_n 0, 1) := by decide +kernel
theorem dJ6_bitCount_0f7a4_25 : decode cJ6_bitCount_0f7a4 25 = .ok (.iload_n 0, 1) := by decide +kernel
theorem dJ6_bitCount_0f7a4_26 : decode cJ6_bitCount_0f7a4 26 = .ok (.iconst 4, 1) := by decide +kernel
theorem dJ6_bitCount_0f7a4_27 : decode cJ6_bitCount_0f7a4 27 = .ok (.iushr, 1) := by decide +kernel
theorem dJ6_bitCount_0f7a4_28 : decode cJ6_bitCount_0f7a4 28 = .ok (.iadd, 1) := by decide +kernel
theorem dJ6_bitCount_0f7a4_29 : decode cJ6_bitCount_0f7a4 29 = .ok (.ldc_w 267, 3) := by decide +kernel
theorem dJ6_bitCount_0f7a4_32 : decode cJ6_bitCount_0f7a4 32 = .ok (.iand, 1) := by decide +kernel
theorem dJ6_bitCount_0f7a4_33 : decode cJ6_bitCount_0f7a4 33 = .ok (.istore_n 0, 1) := by decide +kernel
theorem dJ6_bitCount_0f7a4_34 : decode cJ6_bitCount_0f7a4 34 = .ok (.iload_n 0, 1) := by decide +kernel
theorem dJ6_bitCount_0f7a4_35 : decode cJ6_bitCount_0f7a4 35 = .ok (.iload_n 0, 1) := by decide +kernel
theorem dJ6_bitCount_0f7a4_36 : decode cJ6_bitCount_0f7a4 36 = .ok (.bipush 8, 2) := by decide +kernel
theorem dJ6_bitCount_0f7a4_38 : decode cJ6_bitCount_0f7a4 38 = .ok (.iushr, 1) := by decide +kernel
theorem dJ6_bitCount_0f7a4_39 : decode cJ6_bitCount_0f7a4 39 = .ok (.iadd, 1) := by decide +kernel
theorem dJ6_bitCount_0f7a4_40 : decode cJ6_bitCount_0f7a4 40 = .ok (.istore_n 0, 1) := by decide +kernel
theorem dJ6_bitCount_0f7a4_41 : decode cJ6_bitCount_0f7a4 41 = .ok (.iload_n 0, 1) := by decide +kernel
theorem dJ6_bitCount_0f7a4_42 : decode cJ6_bitCount_0f7a4 42 = .ok (.iload_n 0, 1) := by decide +kernel
theorem dJ6_bitCount_0f7a4_43 : decode cJ6_bitCount_0f7a4 43 = .ok (.bipush 16, 2) := by decide +kernel
theorem dJ6_bitCount_0f7a4_45 : decode cJ6_bitCount_0f7a4 45 = .ok (.iushr, 1) := by decide +kernel
theorem dJ6_bitCount_0f7a4_46 : decode cJ6_bitCount_0f7a4 46 = .ok (.iadd, 1) := by decide +kernel
theorem dJ6_bitCount_0f7a4_47 : decode cJ6_bitCount_0f7a4 47 = .ok (.istore_n 0, 1) := by decide +kernel
theorem dJ6_bitCount_0f7a4_48 : decode cJ6_bitCount_0f7a4 48 = .ok (.iload_n 0, 1) := by decide +kernel
theorem dJ6_bitCount_0f7a4_49 : decode cJ6_bitCount_0f7a4 49 = .ok (.bipush 63, 2) := by decide +kernel
theorem dJ6_bitCount_0f7a4_51 : decode cJ6_bitCount_0f7a4 51 = .ok (.iand, 1) := by decide +kernel
theorem dJ6_bitCount_0f7a4_52 : decode cJ6_bitCount_0f7a4 52 = .ok (.ireturn, 1) := by decide +kernel
theorem dJ9_floorMod_7cf53_0 : decode cJ9_floorMod_7cf53 0 = .ok (.iload_n 0, 1) := by decide +kernel
theorem dJ9_floorMod_7cf53_1 : decode cJ9_floorMod_7cf53 1 = .ok (.iload_n 1, 1) := by decide +kernel
theorem dJ9_floorMod_7cf53_2 : decode cJ9_floorMod_7cf53 2 = .ok (.irem, 1) := by decide +kernel
theorem dJ9_floorMod_7cf53_3 : decode cJ9_floorMod_7cf53 3 = .ok (.istore_n 2, 1) := by decide +kernel
theorem dJ9_floorMod_7cf53_4 : decode cJ9_floorMod_7cf53 4 = .ok (.iload_n 0, 1) := by decide +kernel
theorem dJ9_floorMod_7cf53_5 : decode cJ9_floorMod_7cf53 5 = .ok (.iload_n 1, 1) := by decide +kernel
theorem dJ9_floorMod_7cf53_6 : decode cJ9_floorMod_7cf53 6 = .ok (.ixor, 1) := by decide +kernel
theorem dJ9_floorMod_7cf53_7 : decode cJ9_floorMod_7cf53 7 = .ok (.ifCond .ge 11, 3) := by decide +kernel
theorem dJ9_floorMod_7cf53_10 : decode cJ9_floorMod_7cf53 10 = .ok (.iload_n 2, 1) := by decide +kernel
theorem dJ9_floorMod_7cf53_11 : decode cJ9_floorMod_7cf53 11 = .ok (.ifCond .eq 7, 3) := by decide +kernel
theorem dJ9_floorMod_7cf53_14 : decode cJ9_floorMod_7cf53 14 = .ok (.iload_n 2, 1) := by decide +kernel
theorem dJ9_floorMod_7cf53_15 : decode cJ9_floorMod_7cf53 15 = .ok (.iload_n 1, 1) := by decide +kernel
theorem dJ9_floorMod_7cf53_16 : decode cJ9_floorMod_7cf53 16 = .ok (.iadd, 1) := by decide +kernel
theorem dJ9_floorMod_7cf53_17 : decode cJ9_floorMod_7cf53 17 = .ok (.ireturn, 1) := by decide +kernel
theorem dJ9_floorMod_7cf53_18 : decode cJ9_floorMod_7cf53 18 = .ok (.iload_n 2, 1) := by decide +kernel
theorem dJ9_floorMod_7cf53_19 : decode cJ9_floorMod_7cf53 19 = .ok (.ireturn, 1) := by decide +kernel
theorem dJ9_abs_0f7a4_0 : decode cJ9_abs_0f7a4 0 = .ok (.iload_n 0, 1) := by decide +kernel
theorem dJ9_abs_0f7a4_1 : decode cJ9_abs_0f7a4 1 = .ok (.ifCond .ge 8, 3) := by decide +kernel
theorem dJ9_abs_0f7a4_4 : decode cJ9_abs_0f7a4 4 = .ok (.iload_n 0, 1) := by decide +kernel
theorem dJ9_abs_0f7a4_5 : decode cJ9_abs_0f7a4 5 = .ok (.ineg, 1) := by decide +kernel
theorem dJ9_abs_0f7a4_6 : decode cJ9_abs_0f7a4 6 = .ok (.goto 4, 3) := by decide +kernel
theorem dJ9_abs_0f7a4_9 : decode cJ9_abs_0f7a4 9 = .ok (.iload_n 0, 1) := by decide +kernel
theorem dJ9_abs_0f7a4_10 : decode cJ9_abs_0f7a4 10 = .ok (.ireturn, 1) := by decide +kernel
theorem dJ9_abs_067f4_0 : decode cJ9_abs_067f4 0 = .ok (.lload_n 0, 1) := by decide +kernel
theorem dJ9_abs_067f4_1 : decode cJ9_abs_067f4 1 = .ok (.lconst 0, 1) := by decide +kernel
theorem dJ9_abs_067f4_2 : decode cJ9_abs_067f4 2 = .ok (.lcmp, 1) := by decide +kernel
theorem dJ9_abs_067f4_3 : decode cJ9_abs_067f4 3 = .ok (.ifCond .ge 8, 3) := by decide +kernel
theorem dJ9_abs_067f4_6 : decode cJ9_abs_067f4 6 = .ok (.lload_n 0, 1) := by decide +kernel
theorem dJ9_abs_067f4_7 : decode cJ9_abs_067f4 7 = .ok (.lneg, 1) := by decide +kernel
theorem dJ9_abs_067f4_8 : decode cJ9_abs_067f4 8 = .ok (.goto 4, 3) := by decide +kernel
theorem dJ9_abs_067f4_11 : decode cJ9_abs_067f4 11 = .ok (.lload_n 0, 1) := by decide +kernel
theorem dJ9_abs_067f4_12 : decode cJ9_abs_067f4 12 = .ok (.lreturn, 1) := by decide +kernel
theorem dJ9_max_7cf53_0 : decode cJ9_max_7cf53 0 = .ok (.iload_n 0, 1) := by decide +kernel
theorem dJ9_max_7cf53_1 : decode cJ9_max_7cf53 1 = .ok (.iload_n 1, 1) := by decide +kernel
theorem dJ9_max_7cf53_2 : decode cJ9_max_7cf53 2 = .ok (.if_icmp .lt 7, 3) := by decide +kernel
theorem dJ9_max_7cf53_5 : decode cJ9_max_7cf53 5 = .ok (.iload_n 0, 1) := by decide +kernel
theorem dJ9_max_7cf53_6 : decode cJ9_max_7cf53 6 = .ok (.goto 4, 3) := by decide +kernel
theorem dJ9_max_7cf53_9 : decode cJ9_max_7cf53 9 = .ok (.iload_n 1, 1) := by decide +kernel
theorem dJ9_max_7cf53_10 : decode cJ9_max_7cf53 10 = .ok (.ireturn, 1) := by decide +kernel
theorem dJ9_max_f86c9_0 : decode cJ9_max_f86c9 0 = .ok (.lload_n 0, 1) := by decide +kernel
theorem dJ9_max_f86c9_1 : decode cJ9_max_f86c9 1 = .ok (.lload_n 2, 1) := by decide +kernel
theorem dJ9_max_f86c9_2 : decode cJ9_max_f86c9 2 = .ok (.lcmp, 1) := by decide +kernel
theorem dJ9_max_f86c9_3 : decode cJ9_max_f86c9 3 = .ok (.ifCond .lt 7, 3) := by decide +kernel
theorem dJ9_max_f86c9_6 : decode cJ9_max_f86c9 6 = .ok (.lload_n 0, 1) := by decide +kernel
theorem dJ9_max_f86c9_7 : decode cJ9_max_f86c9 7 = .ok (.goto 4, 3) := by decide +kernel
theorem dJ9_max_f86c9_10 : decode cJ9_max_f86c9 10 = .ok (.lload_n 2, 1) := by decide +kernel
theorem dJ9_max_f86c9_11 : decode cJ9_max_f86c9 11 = .ok (.lreturn, 1) := by decide +kernel
theorem dJ9_min_7cf53_0 : decode cJ9_min_7cf53 0 = .ok (.iload_n 0, 1) := by decide +kernel
theorem dJ9_min_7cf53_1 : decode cJ9_min_7cf53 1 = .ok (.iload_n 1, 1) := by decide +kernel
theorem dJ9_min_7cf53_2 : decode cJ9_min_7cf53 2 = .ok (.if_icmp .gt 7, 3) := by decide +kernel
theorem dJ9_min_7cf53_5 : decode cJ9_min_7cf53 5 = .ok (.iload_n 0, 1) := by decide +kernel
theorem dJ9_min_7cf53_6 : decode cJ9_min_7cf53 6 = .ok (.goto 4, 3) := by decide +kernel
theorem dJ9_min_7cf53_9 : decode cJ9_min_7cf53 9 = .ok (.iload_n 1, 1) := by decide +kernel
theorem dJ9_min_7cf53_10 : decode cJ9_min_7cf53 10 = .ok (.ireturn, 1) := by decide +kernel
end
section
theorem inJ10 : ∀ w ∈ wsJ100, w ∈ lw_tbl := by decide +kernel
theorem dX0_init_0 : decode cX0_init 0 = .ok (.aload_n 0, 1) := by decide +kernel
theorem dX0_init_1 : decode cX0_init 1 = .ok (.invokespecial 3, 3) := by decide +kernel
theorem dX0_init_4 : decode cX0_init 4 = .ok (.aload_n 0, 1) := by decide +kernel
theorem dX0_init_5 : decode cX0_init 5 = .ok (.aload_n 1, 1) := by decide +kernel
theorem dX0_init_6 : decode cX0_init 6 = .ok (.putfield 9, 3) := by decide +kernel
theorem dX0_init_9 : decode cX0_init 9 = .ok (.return_, 1) := by decide +kernel
theorem dX0_lay_0 : decode cX0_lay 0 = .ok (.aload_n 0, 1) := by decide +kernel
theorem dX0_lay_1 : decode cX0_lay 1 = .ok (.iload_n 1, 1) := by decide +kernel
theorem dX0_lay_2 : decode cX0_lay 2 = .ok (.putfield 15, 3) := by decide +kernel
theorem dX0_lay_5 : decode cX0_lay 5 = .ok (.aload_n 0, 1) := by decide +kernel
theorem dX0_lay_6 : decode cX0_lay 6 = .ok (.iload_n 2, 1) := by decide +kernel
theorem dX0_lay_7 : decode cX0_lay 7 = .ok (.putfield 19, 3) := by decide +kernel
theorem dX0_lay_10 : decode cX0_lay 10 = .ok (.aload_n 0, 1) := by decide +kernel
theorem dX0_lay_11 : decode cX0_lay 11 = .ok (.iload_n 3, 1) := by decide +kernel
theorem dX0_lay_12 : decode cX0_lay 12 = .ok (.putfield 22, 3) := by decide +kernel
theorem dX0_lay_15 : decode cX0_lay 15 = .ok (.return_, 1) := by decide +kernel
set_option maxRecDepth 20000 in
theorem ggX0_layBest_X0_lay : GoodIn wsX0_layBest wsX0_lay := goodIn_r _ [7, 8, 9, 10, 42, 43, 44, 45] (by decide +kernel) (by decide +kernel)
set_option maxRecDepth 20000 in
theorem gX0_layBest_X0_lay : GoodIn wsX0_layBest (wsV RX0 30 RX0 yX0_lay wsX0_lay) := goodIn_app (goodIn_of _ (by decide +kernel)) ggX0_layBest_X0_lay
set_option maxRecDepth 20000 in
theorem ggX0_layBest_X0_missedOf : GoodIn wsX0_layBest wsX0_missedOf := goodIn_r _ [14, 1, 2, 15, 16, 17, 18, 19, 20, 21, 22, 6, 23, 8, 9, 10, 24, 25, 26, 27, 28, 29, 30, 42, 43, 44, 45, 46, 47] (by decide +kernel) (by decide +kernel)
set_option maxRecDepth 20000 in
theorem gX0_layBest_X0_missedOf : GoodIn wsX0_layBest (wsV RX0 34 RX0 yX0_missedOf wsX0_missedOf) := goodIn_app (goodIn_of _ (by decide +kernel)) ggX0_layBest_X0_missedOf
set_option maxRecDepth 20000 in
theorem ggX0_layBest_J6_bitCount_0f7a4 : GoodIn wsX0_layBest wsJ6_bitCount_0f7a4 := goodIn_r _ [34, 35, 36, 37] (by decide +kernel) (by decide +kernel)
set_option maxRecDepth 20000 in
theorem gX0_layBest_J6_bitCount_0f7a4 : GoodIn wsX0_layBest (va_wsS RX0 38 yJ6_bitCount_0f7a4 wsJ6_bitCount_0f7a4) := goodIn_app (goodIn_of _ (by decide +kernel)) ggX0_layBest_J6_bitCount_0f7a4
set_option maxRecDepth 20000 in
theorem ggX0_layBest_X0_layThrough : GoodIn wsX0_layBest wsX0_layThrough := goodIn_r _ [41, 1, 2, 8, 9, 10, 24, 25, 26, 42, 43, 44, 45, 46, 47] (by decide +kernel) (by decide +kernel)
set_option maxRecDepth 20000 in
theorem gX0_layBest_X0_layThrough : GoodIn wsX0_layBest (wsV RX0 43 RX0 yX0_layThrough wsX0_layThrough) := goodIn_app (goodIn_of _ (by decide +kernel)) ggX0_layBest_X0_layThrough
theorem dX0_layBest_0 : decode cX0_layBest 0 = .ok (.bipush 10, 2) := by decide +kernel
theorem dX0_layBest_2 : decode cX0_layBest 2 = .ok (.istore_n 2, 1) := by decide +kernel
theorem dX0_layBest_3 : decode cX0_layBest 3 = .ok (.iconst 0, 1) := by decide +kernel
theorem dX0_layBest_4 : decode cX0_layBest 4 = .ok (.istore_n 3, 1) := by decide +kernel
theorem dX0_layBest_5 : decode cX0_layBest 5 = .ok (.iconst 0, 1) := by decide +kernel
theorem dX0_layBest_6 : decode cX0_layBest 6 = .ok (.istore 4, 2) := by decide +kernel
theorem dX0_layBest_8 : decode cX0_layBest 8 = .ok (.iload 4, 2) := by decide +kernel
theorem dX0_layBest_10 : decode cX0_layBest 10 = .ok (.aload_n 0, 1) := by decide +kernel
theorem dX0_layBest_11 : decode cX0_layBest 11 = .ok (.getfield 9, 3) := by decide +kernel
theorem dX0_layBest_14 : decode cX0_layBest 14 = .ok (.getfield 25, 3) := by decide +kernel
theorem dX0_layBest_17 : decode cX0_layBest 17 = .ok (.if_icmp .ge 114, 3) := by decide +kernel
theorem dX0_layBest_20 : decode cX0_layBest 20 = .ok (.iload 4, 2) := by decide +kernel
theorem dX0_layBest_22 : decode cX0_layBest 22 = .ok (.iconst 1, 1) := by decide +kernel
theorem dX0_layBest_23 : decode cX0_layBest 23 = .ok (.iadd, 1) := by decide +kernel
theorem dX0_layBest_24 : decode cX0_layBest 24 = .ok (.istore 5, 2) := by decide +kernel
theorem dX0_layBest_26 : decode cX0_layBest 26 = .ok (.iload 5, 2) := by decide +kernel
theorem dX0_layBest_28 : decode cX0_layBest 28 = .ok (.aload_n 0, 1) := by decide +kernel
theorem dX0_layBest_29 : decode cX0_layBest 29 = .ok (.getfield 9, 3) := by decide +kernel
theorem dX0_layBest_32 : decode cX0_layBest 32 = .ok (.getfield 25, 3) := by decide +kernel
theorem dX0_layBest_35 : decode cX0_layBest 35 = .ok (.if_icmp .ge 90, 3) := by decide +kernel
theorem dX0_layBest_38 : decode cX0_layBest 38 = .ok (.iload 5, 2) := by decide +kernel
theorem dX0_layBest_40 : decode cX0_layBest 40 = .ok (.iconst 1, 1) := by decide +kernel
theorem dX0_layBest_41 : decode cX0_layBest 41 = .ok (.iadd, 1) := by decide +kernel
theorem dX0_layBest_42 : decode cX0_layBest 42 = .ok (.istore 6, 2) := by decide +kernel
theorem dX0_layBest_44 : decode cX0_layBest 44 = .ok (.iload 6, 2) := by decide +kernel
theorem dX0_layBest_46 : decode cX0_layBest 46 = .ok (.aload_n 0, 1) := by decide +kernel
theorem dX0_layBest_47 : decode cX0_layBest 47 = .ok (.getfield 9, 3) := by decide +kernel
theorem dX0_layBest_50 : decode cX0_layBest 50 = .ok (.getfield 25, 3) := by decide +kernel
theorem dX0_layBest_53 : decode cX0_layBest 53 = .ok (.if_icmp .ge 66, 3) := by decide +kernel
theorem dX0_layBest_56 : decode cX0_layBest 56 = .ok (.iconst 1, 1) := by decide +kernel
theorem dX0_layBest_57 : decode cX0_layBest 57 = .ok (.iload 4, 2) := by decide +kernel
theorem dX0_layBest_59 : decode cX0_layBest 59 = .ok (.ishl, 1) := by decide +kernel
theorem dX0_layBest_60 : decode cX0_layBest 60 = .ok (.iconst 1, 1) := by decide +kernel
theorem dX0_layBest_61 : decode cX0_layBest 61 = .ok (.iload 5, 2) := by decide +kernel
theorem dX0_layBest_63 : decode cX0_layBest 63 = .ok (.ishl, 1) := by decide +kernel
theorem dX0_layBest_64 : decode cX0_layBest 64 = .ok (.ior, 1) := by decide +kernel
theorem dX0_layBest_65 : decode cX0_layBest 65 = .ok (.iconst 1, 1) := by decide +kernel
theorem dX0_layBest_66 : decode cX0_layBest 66 = .ok (.iload 6, 2) := by decide +kernel
theorem dX0_layBest_68 : decode cX0_layBest 68 = .ok (.ishl, 1) := by decide +kernel
theorem dX0_layBest_69 : decode cX0_layBest 69 = .ok (.ior, 1) := by decide +kernel
theorem dX0_layBest_70 : decode cX0_layBest 70 = .ok (.istore 7, 2) := by decide +kernel
theorem dX0_layBest_72 : decode cX0_layBest 72 = .ok (.iload_n 1, 1) := by decide +kernel
theorem dX0_layBest_73 : decode cX0_layBest 73 = .ok (.iload 7, 2) := by decide +kernel
theorem dX0_layBest_75 : decode cX0_layBest 75 = .ok (.iand, 1) := by decide +kernel
theorem dX0_layBest_76 : decode cX0_layBest 76 = .ok (.iload 7, 2) := by decide +kernel
theorem dX0_layBest_78 : decode cX0_layBest 78 = .ok (.if_icmp .ne 35, 3) := by decide +kernel
theorem dX0_layBest_81 : decode cX0_layBest 81 = .ok (.aload_n 0, 1) := by decide +kernel
theorem dX0_layBest_82 : decode cX0_layBest 82 = .ok (.iload 4, 2) := by decide +kernel
theorem dX0_layBest_84 : decode cX0_layBest 84 = .ok (.iload 5, 2) := by decide +kernel
theorem dX0_layBest_86 : decode cX0_layBest 86 = .ok (.iload 6, 2) := by decide +kernel
theorem dX0_layBest_88 : decode cX0_layBest 88 = .ok (.invokevirtual 30, 3) := by decide +kernel
theorem dX0_layBest_91 : decode cX0_layBest 91 = .ok (.aload_n 0, 1) := by decide +kernel
theorem dX0_layBest_92 : decode cX0_layBest 92 = .ok (.iload_n 1, 1) := by decide +kernel
theorem dX0_layBest_93 : decode cX0_layBest 93 = .ok (.invokevirtual 34, 3) := by decide +kernel
theorem dX0_layBest_96 : decode cX0_layBest 96 = .ok (.invokestatic 38, 3) := by decide +kernel
theorem dX0_layBest_99 : decode cX0_layBest 99 = .ok (.istore 8, 2) := by decide +kernel
theorem dX0_layBest_101 : decode cX0_layBest 101 = .ok (.iload 8, 2) := by decide +kernel
theorem dX0_layBest_103 : decode cX0_layBest 103 = .ok (.iload_n 2, 1) := by decide +kernel
theorem dX0_layBest_104 : decode cX0_layBest 104 = .ok (.if_icmp .ge 9, 3) := by decide +kernel
theorem dX0_layBest_107 : decode cX0_layBest 107 = .ok (.iload 8, 2) := by decide +kernel
theorem dX0_layBest_109 : decode cX0_layBest 109 = .ok (.istore_n 2, 1) := by decide +kernel
theorem dX0_layBest_110 : decode cX0_layBest 110 = .ok (.iload 7, 2) := by decide +kernel
theorem dX0_layBest_112 : decode cX0_layBest 112 = .ok (.istore_n 3, 1) := by decide +kernel
theorem dX0_layBest_113 : decode cX0_layBest 113 = .ok (.iinc 6 1, 3) := by decide +kernel
theorem dX0_layBest_116 : decode cX0_layBest 116 = .ok (.goto (-72), 3) := by decide +kernel
theorem dX0_layBest_119 : decode cX0_layBest 119 = .ok (.iinc 5 1, 3) := by decide +kernel
theorem dX0_layBest_122 : decode cX0_layBest 122 = .ok (.goto (-96), 3) := by decide +kernel
theorem dX0_layBest_125 : decode cX0_layBest 125 = .ok (.iinc 4 1, 3) := by decide +kernel
theorem dX0_layBest_128 : decode cX0_layBest 128 = .ok (.goto (-120), 3) := by decide +kernel
theorem dX0_layBest_131 : decode cX0_layBest 131 = .ok (.aload_n 0, 1) := by decide +kernel
theorem dX0_layBest_132 : decode cX0_layBest 132 = .ok (.iload_n 3, 1) := by decide +kernel
theorem dX0_layBest_133 : decode cX0_layBest 133 = .ok (.invokevirtual 43, 3) := by decide +kernel
theorem dX0_layBest_136 : decode cX0_layBest 136 = .ok (.iload_n 3, 1) := by decide +kernel
theorem dX0_layBest_137 : decode cX0_layBest 137 = .ok (.ifCond .eq 7, 3) := by decide +kernel
theorem dX0_layBest_140 : decode cX0_layBest 140 = .ok (.iconst 1, 1) := by decide +kernel
theorem dX0_layBest_141 : decode cX0_layBest 141 = .ok (.goto 4, 3) := by decide +kernel
theorem dX0_layBest_144 : decode cX0_layBest 144 = .ok (.iconst 0, 1) := by decide +kernel
theorem dX0_layBest_145 : decode cX0_layBest 145 = .ok (.ireturn, 1) := by decide +kernel
theorem dX0_photoOf_0 : decode cX0_photoOf 0 = .ok (.iload_n 1, 1) := by decide +kernel
theorem dX0_photoOf_1 : decode cX0_photoOf 1 = .ok (.ifCond .ne 8, 3) := by decide +kernel
theorem dX0_photoOf_4 : decode cX0_photoOf 4 = .ok (.aload_n 0, 1) := by decide +kernel
theorem dX0_photoOf_5 : decode cX0_photoOf 5 = .ok (.getfield 15, 3) := by decide +kernel
theorem dX0_photoOf_8 : decode cX0_photoOf 8 = .ok (.ireturn, 1) := by decide +kernel
theorem dX0_photoOf_9 : decode cX0_photoOf 9 = .ok (.iload_n 1, 1) := by decide +kernel
theorem dX0_photoOf_10 : decode cX0_photoOf 10 = .ok (.iconst 1, 1) := by decide +kernel
theorem dX0_photoOf_11 : decode cX0_photoOf 11 = .ok (.if_icmp .ne 10, 3) := by decide +kernel
theorem dX0_photoOf_14 : decode cX0_photoOf 14 = .ok (.aload_n 0, 1) := by decide +kernel
theorem dX0_photoOf_15 : decode cX0_photoOf 15 = .ok (.getfield 19, 3) := by decide +kernel
theorem dX0_photoOf_18 : decode cX0_photoOf 18 = .ok (.goto 7, 3) := by decide +kernel
theorem dX0_photoOf_21 : decode cX0_photoOf 21 = .ok (.aload_n 0, 1) := by decide +kernel
theorem dX0_photoOf_22 : decode cX0_photoOf 22 = .ok (.getfield 22, 3) := by decide +kernel
theorem dX0_photoOf_25 : decode cX0_photoOf 25 = .ok (.ireturn, 1) := by decide +kernel
theorem dX0_upper_0 : decode cX0_upper 0 = .ok (.aload_n 0, 1) := by decide +kernel
theorem dX0_upper_1 : decode cX0_upper 1 = .ok (.getfield 9, 3) := by decide +kernel
theorem dX0_upper_4 : decode cX0_upper 4 = .ok (.getfield 47, 3) := by decide +kernel
theorem dX0_upper_7 : decode cX0_upper 7 = .ok (.iconst 1, 1) := by decide +kernel
theorem dX0_upper_8 : decode cX0_upper 8 = .ok (.iload_n 1, 1) := by decide +kernel
theorem dX0_upper_9 : decode cX0_upper 9 = .ok (.iadd, 1) := by decide +kernel
theorem dX0_upper_10 : decode cX0_upper 10 = .ok (.aaload, 1) := by decide +kernel
theorem dX0_upper_11 : decode cX0_upper 11 = .ok (.astore 4, 2) := by decide +kernel
theorem dX0_upper_13 : decode cX0_upper 13 = .ok (.aload_n 0, 1) := by decide +kernel
theorem dX0_upper_14 : decode cX0_upper 14 = .ok (.getfield 9, 3) := by decide +kernel
theorem dX0_upper_17 : decode cX0_upper 17 = .ok (.getfield 47, 3) := by decide +kernel
theorem dX0_upper_20 : decode cX0_upper 20 = .ok (.iconst 0, 1) := by decide +kernel
theorem dX0_upper_21 : decode cX0_upper 21 = .ok (.aaload, 1) := by decide +kernel
theorem dX0_upper_22 : decode cX0_upper 22 = .ok (.aload_n 0, 1) := by decide +kernel
theorem dX0_upper_23 : decode cX0_upper 23 = .ok (.getfield 15, 3) := by decide +kernel
theorem dX0_upper_26 : decode cX0_upper 26 = .ok (.iaload, 1) := by decide +kernel
theorem dX0_upper_27 : decode cX0_upper 27 = .ok (.i2l, 1) := by decide +kernel
theorem dX0_upper_28 : decode cX0_upper 28 = .ok (.lstore 5, 2) := by decide +kernel
theorem dX0_upper_30 : decode cX0_upper 30 = .ok (.aload_n 0, 1) := by decide +kernel
theorem dX0_upper_31 : decode cX0_upper 31 = .ok (.getfield 9, 3) := by decide +kernel
theorem dX0_upper_34 : decode cX0_upper 34 = .ok (.getfield 47, 3) := by decide +kernel
theorem dX0_upper_37 : decode cX0_upper 37 = .ok (.iconst 0, 1) := by decide +kernel
theorem dX0_upper_38 : decode cX0_upper 38 = .ok (.aaload, 1) := by decide +kernel
theorem dX0_upper_39 : decode cX0_upper 39 = .ok (.aload_n 0, 1) := by decide +kernel
theorem dX0_upper_40 : decode cX0_upper 40 = .ok (.getfield 19, 3) := by decide +kernel
theorem dX0_upper_43 : decode cX0_upper 43 = .ok (.iaload, 1) := by decide +kernel
theorem dX0_upper_44 : decode cX0_upper 44 = .ok (.i2l, 1) := by decide +kernel
theorem dX0_upper_45 : decode cX0_upper 45 = .ok (.lstore 7, 2) := by decide +kernel
theorem dX0_upper_47 : decode cX0_upper 47 = .ok (.aload_n 0, 1) := by decide +kernel
theorem dX0_upper_48 : decode cX0_upper 48 = .ok (.getfield 9, 3) := by decide +kernel
theorem dX0_upper_51 : decode cX0_upper 51 = .ok (.getfield 47, 3) := by decide +kernel
theorem dX0_upper_54 : decode cX0_upper 54 = .ok (.iconst 0, 1) := by decide +kernel
theorem dX0_upper_55 : decode cX0_upper 55 = .ok (.aaload, 1) := by decide +kernel
theorem dX0_upper_56 : decode cX0_upper 56 = .ok (.aload_n 0, 1) := by decide +kernel
theorem dX0_upper_57 : decode cX0_upper 57 = .ok (.getfield 22, 3) := by decide +kernel
theorem dX0_upper_60 : decode cX0_upper 60 = .ok (.iaload, 1) := by decide +kernel
theorem dX0_upper_61 : decode cX0_upper 61 = .ok (.i2l, 1) := by decide +kernel
theorem dX0_upper_62 : decode cX0_upper 62 = .ok (.lstore 9, 2) := by decide +kernel
theorem dX0_upper_64 : decode cX0_upper 64 = .ok (.aload 4, 2) := by decide +kernel
theorem dX0_upper_66 : decode cX0_upper 66 = .ok (.aload_n 0, 1) := by decide +kernel
theorem dX0_upper_67 : decode cX0_upper 67 = .ok (.getfield 15, 3) := by decide +kernel
theorem dX0_upper_70 : decode cX0_upper 70 = .ok (.iaload, 1) := by decide +kernel
theorem dX0_upper_71 : decode cX0_upper 71 = .ok (.i2l, 1) := by decide +kernel
theorem dX0_upper_72 : decode cX0_upper 72 = .ok (.lload_n 2, 1) := by decide +kernel
theorem dX0_upper_73 : decode cX0_upper 73 = .ok (.lload 7, 2) := by decide +kernel
theorem dX0_upper_75 : decode cX0_upper 75 = .ok (.lsub, 1) := by decide +kernel
theorem dX0_upper_76 : decode cX0_upper 76 = .ok (.lmul, 1) := by decide +kernel
theorem dX0_upper_77 : decode cX0_upper 77 = .ok (.lload_n 2, 1) := by decide +kernel
theorem dX0_upper_78 : decode cX0_upper 78 = .ok (.lload 9, 2) := by decide +kernel
theorem dX0_upper_80 : decode cX0_upper 80 = .ok (.lsub, 1) := by decide +kernel
theorem dX0_upper_81 : decode cX0_upper 81 = .ok (.lmul, 1) := by decide +kernel
theorem dX0_upper_82 : decode cX0_upper 82 = .ok (.lload 9, 2) := by decide +kernel
theorem dX0_upper_84 : decode cX0_upper 84 = .ok (.lload 7, 2) := by decide +kernel
theorem dX0_upper_86 : decode cX0_upper 86 = .ok (.lsub, 1) := by decide +kernel
theorem dX0_upper_87 : decode cX0_upper 87 = .ok (.lmul, 1) := by decide +kernel
theorem dX0_upper_88 : decode cX0_upper 88 = .ok (.aload 4, 2) := by decide +kernel
theorem dX0_upper_90 : decode cX0_upper 90 = .ok (.aload_n 0, 1) := by decide +kernel
theorem dX0_upper_91 : decode cX0_upper 91 = .ok (.getfield 19, 3) := by decide +kernel
theorem dX0_upper_94 : decode cX0_upper 94 = .ok (.iaload, 1) := by decide +kernel
theorem dX0_upper_95 : decode cX0_upper 95 = .ok (.i2l, 1) := by decide +kernel
theorem dX0_upper_96 : decode cX0_upper 96 = .ok (.lload_n 2, 1) := by decide +kernel
theorem dX0_upper_97 : decode cX0_upper 97 = .ok (.lload 5, 2) := by decide +kernel
theorem dX0_upper_99 : decode cX0_upper 99 = .ok (.lsub, 1) := by decide +kernel
theorem dX0_upper_100 : decode cX0_upper 100 = .ok (.lmul, 1) := by decide +kernel
theorem dX0_upper_101 : decode cX0_upper 101 = .ok (.lload_n 2, 1) := by decide +kernel
theorem dX0_upper_102 : decode cX0_upper 102 = .ok (.lload 9, 2) := by decide +kernel
theorem dX0_upper_104 : decode cX0_upper 104 = .ok (.lsub, 1) := by decide +kernel
theorem dX0_upper_105 : decode cX0_upper 105 = .ok (.lmul, 1) := by decide +kernel
theorem dX0_upper_106 : decode cX0_upper 106 = .ok (.lload 5, 2) := by decide +kernel
theorem dX0_upper_108 : decode cX0_upper 108 = .ok (.lload 9, 2) := by decide +kernel
theorem dX0_upper_110 : decode cX0_upper 110 = .ok (.lsub, 1) := by decide +kernel
theorem dX0_upper_111 : decode cX0_upper 111 = .ok (.lmul, 1) := by decide +kernel
theorem dX0_upper_112 : decode cX0_upper 112 = .ok (.ladd, 1) := by decide +kernel
theorem dX0_upper_113 : decode cX0_upper 113 = .ok (.aload 4, 2) := by decide +kernel
theorem dX0_upper_115 : decode cX0_upper 115 = .ok (.aload_n 0, 1) := by decide +kernel
theorem dX0_upper_116 : decode cX0_upper 116 = .ok (.getfield 22, 3) := by decide +kernel
theorem dX0_upper_119 : decode cX0_upper 119 = .ok (.iaload, 1) := by decide +kernel
theorem dX0_upper_120 : decode cX0_upper 120 = .ok (.i2l, 1) := by decide +kernel
theorem dX0_upper_121 : decode cX0_upper 121 = .ok (.lload_n 2, 1) := by decide +kernel
theorem dX0_upper_122 : decode cX0_upper 122 = .ok (.lload 5, 2) := by decide +kernel
theorem dX0_upper_124 : decode cX0_upper 124 = .ok (.lsub, 1) := by decide +kernel
theorem dX0_upper_125 : decode cX0_upper 125 = .ok (.lmul, 1) := by decide +kernel
theorem dX0_upper_126 : decode cX0_upper 126 = .ok (.lload_n 2, 1) := by decide +kernel
theorem dX0_upper_127 : decode cX0_upper 127 = .ok (.lload 7, 2) := by decide +kernel
theorem dX0_upper_129 : decode cX0_upper 129 = .ok (.lsub, 1) := by decide +kernel
theorem dX0_upper_130 : decode cX0_upper 130 = .ok (.lmul, 1) := by decide +kernel
theorem dX0_upper_131 : decode cX0_upper 131 = .ok (.lload 7, 2) := by decide +kernel
theorem dX0_upper_133 : decode cX0_upper 133 = .ok (.lload 5, 2) := by decide +kernel
theorem dX0_upper_135 : decode cX0_upper 135 = .ok (.lsub, 1) := by decide +kernel
theorem dX0_upper_136 : decode cX0_upper 136 = .ok (.lmul, 1) := by decide +kernel
theorem dX0_upper_137 : decode cX0_upper 137 = .ok (.ladd, 1) := by decide +kernel
theorem dX0_upper_138 : decode cX0_upper 138 = .ok (.lreturn, 1) := by decide +kernel
theorem dX0_lower_0 : decode cX0_lower 0 = .ok (.aload_n 0, 1) := by decide +kernel
theorem dX0_lower_1 : decode cX0_lower 1 = .ok (.getfield 9, 3) := by decide +kernel
theorem dX0_lower_4 : decode cX0_lower 4 = .ok (.getfield 47, 3) := by decide +kernel
theorem dX0_lower_7 : decode cX0_lower 7 = .ok (.iconst 0, 1) := by decide +kernel
theorem dX0_lower_8 : decode cX0_lower 8 = .ok (.aaload, 1) := by decide +kernel
theorem dX0_lower_9 : decode cX0_lower 9 = .ok (.aload_n 0, 1) := by decide +kernel
theorem dX0_lower_10 : decode cX0_lower 10 = .ok (.getfield 15, 3) := by decide +kernel
theorem dX0_lower_13 : decode cX0_lower 13 = .ok (.iaload, 1) := by decide +kernel
theorem dX0_lower_14 : decode cX0_lower 14 = .ok (.i2l, 1) := by decide +kernel
theorem dX0_lower_15 : decode cX0_lower 15 = .ok (.lstore_n 1, 1) := by decide +kernel
theorem dX0_lower_16 : decode cX0_lower 16 = .ok (.aload_n 0, 1) := by decide +kernel
theorem dX0_lower_17 : decode cX0_lower 17 = .ok (.getfield 9, 3) := by decide +kernel
theorem dX0_lower_20 : decode cX0_lower 20 = .ok (.getfield 47, 3) := by decide +kernel
theorem dX0_lower_23 : decode cX0_lower 23 = .ok (.iconst 0, 1) := by decide +kernel
theorem dX0_lower_24 : decode cX0_lower 24 = .ok (.aaload, 1) := by decide +kernel
theorem dX0_lower_25 : decode cX0_lower 25 = .ok (.aload_n 0, 1) := by decide +kernel
theorem dX0_lower_26 : decode cX0_lower 26 = .ok (.getfield 19, 3) := by decide +kernel
theorem dX0_lower_29 : decode cX0_lower 29 = .ok (.iaload, 1) := by decide +kernel
theorem dX0_lower_30 : decode cX0_lower 30 = .ok (.i2l, 1) := by decide +kernel
theorem dX0_lower_31 : decode cX0_lower 31 = .ok (.lstore_n 3, 1) := by decide +kernel
theorem dX0_lower_32 : decode cX0_lower 32 = .ok (.aload_n 0, 1) := by decide +kernel
theorem dX0_lower_33 : decode cX0_lower 33 = .ok (.getfield 9, 3) := by decide +kernel
theorem dX0_lower_36 : decode cX0_lower 36 = .ok (.getfield 47, 3) := by decide +kernel
theorem dX0_lower_39 : decode cX0_lower 39 = .ok (.iconst 0, 1) := by decide +kernel
theorem dX0_lower_40 : decode cX0_lower 40 = .ok (.aaload, 1) := by decide +kernel
theorem dX0_lower_41 : decode cX0_lower 41 = .ok (.aload_n 0, 1) := by decide +kernel
theorem dX0_lower_42 : decode cX0_lower 42 = .ok (.getfield 22, 3) := by decide +kernel
theorem dX0_lower_45 : decode cX0_lower 45 = .ok (.iaload, 1) := by decide +kernel
theorem dX0_lower_46 : decode cX0_lower 46 = .ok (.i2l, 1) := by decide +kernel
theorem dX0_lower_47 : decode cX0_lower 47 = .ok (.lstore 5, 2) := by decide +kernel
theorem dX0_lower_49 : decode cX0_lower 49 = .ok (.lload_n 3, 1) := by decide +kernel
theorem dX0_lower_50 : decode cX0_lower 50 = .ok (.lload_n 1, 1) := by decide +kernel
theorem dX0_lower_51 : decode cX0_lower 51 = .ok (.lsub, 1) := by decide +kernel
theorem dX0_lower_52 : decode cX0_lower 52 = .ok (.lload 5, 2) := by decide +kernel
theorem dX0_lower_54 : decode cX0_lower 54 = .ok (.lload_n 1, 1) := by decide +kernel
theorem dX0_lower_55 : decode cX0_lower 55 = .ok (.lsub, 1) := by decide +kernel
theorem dX0_lower_56 : decode cX0_lower 56 = .ok (.lmul, 1) := by decide +kernel
theorem dX0_lower_57 : decode cX0_lower 57 = .ok (.lload 5, 2) := by decide +kernel
theorem dX0_lower_59 : decode cX0_lower 59 = .ok (.lload_n 3, 1) := by decide +kernel
theorem dX0_lower_60 : decode cX0_lower 60 = .ok (.lsub, 1) := by decide +kernel
theorem dX0_lower_61 : decode cX0_lower 61 = .ok (.lmul, 1) := by decide +kernel
theorem dX0_lower_62 : decode cX0_lower 62 = .ok (.lreturn, 1) := by decide +kernel
set_option maxRecDepth 20000 in
theorem ggX0_missedOf_X0_lower : GoodIn wsX0_missedOf wsX0_lower := goodIn_r _ [12, 1, 3, 13, 14, 15, 23, 24, 25, 26, 27, 28] (by decide +kernel) (by decide +kernel)
set_option maxRecDepth 20000 in
theorem gX0_missedOf_X0_lower : GoodIn wsX0_missedOf (wsV RX0 51 RX0 yX0_lower wsX0_lower) := goodIn_app (goodIn_of _ (by decide +kernel)) ggX0_missedOf_X0_lower
set_option maxRecDepth 20000 in
theorem ggX0_missedOf_X6_isIn : GoodIn wsX0_missedOf wsX6_isIn := goodIn_r _ [18] (by decide +kernel) (by decide +kernel)
set_option maxRecDepth 20000 in
theorem gX0_missedOf_X6_isIn_n55 : GoodIn wsX0_missedOf (wsX6_isIn) := ggX0_missedOf_X6_isIn
set_option maxRecDepth 20000 in
theorem ggX0_missedOf_X0_upper : GoodIn wsX0_missedOf wsX0_upper := goodIn_r _ [22, 1, 3, 13, 14, 15, 23, 24, 25, 26, 27, 28] (by decide +kernel) (by decide +kernel)
set_option maxRecDepth 20000 in
theorem gX0_missedOf_X0_upper : GoodIn wsX0_missedOf (wsV RX0 59 RX0 yX0_upper wsX0_upper) := goodIn_app (goodIn_of _ (by decide +kernel)) ggX0_missedOf_X0_upper
theorem dX0_missedOf_0 : decode cX0_missedOf 0 = .ok (.aload_n 0, 1) := by decide +kernel
theorem dX0_missedOf_1 : decode cX0_missedOf 1 = .ok (.invokevirtual 51, 3) := by decide +kernel
theorem dX0_missedOf_4 : decode cX0_missedOf 4 = .ok (.lstore_n 2, 1) := by decide +kernel
theorem dX0_missedOf_5 : decode cX0_missedOf 5 = .ok (.iconst 0, 1) := by decide +kernel
theorem dX0_missedOf_6 : decode cX0_missedOf 6 = .ok (.istore 4, 2) := by decide +kernel
theorem dX0_missedOf_8 : decode cX0_missedOf 8 = .ok (.iconst 0, 1) := by decide +kernel
theorem dX0_missedOf_9 : decode cX0_missedOf 9 = .ok (.istore 5, 2) := by decide +kernel
theorem dX0_missedOf_11 : decode cX0_missedOf 11 = .ok (.iload 5, 2) := by decide +kernel
theorem dX0_missedOf_13 : decode cX0_missedOf 13 = .ok (.aload_n 0, 1) := by decide +kernel
theorem dX0_missedOf_14 : decode cX0_missedOf 14 = .ok (.getfield 9, 3) := by decide +kernel
theorem dX0_missedOf_17 : decode cX0_missedOf 17 = .ok (.getfield 25, 3) := by decide +kernel
theorem dX0_missedOf_20 : decode cX0_missedOf 20 = .ok (.if_icmp .ge 131, 3) := by decide +kernel
theorem dX0_missedOf_23 : decode cX0_missedOf 23 = .ok (.iload_n 1, 1) := by decide +kernel
theorem dX0_missedOf_24 : decode cX0_missedOf 24 = .ok (.iload 5, 2) := by decide +kernel
theorem dX0_missedOf_26 : decode cX0_missedOf 26 = .ok (.invokestatic 55, 3) := by decide +kernel
theorem dX0_missedOf_29 : decode cX0_missedOf 29 = .ok (.ifCond .eq 116, 3) := by decide +kernel
theorem dX0_missedOf_32 : decode cX0_missedOf 32 = .ok (.aload_n 0, 1) := by decide +kernel
theorem dX0_missedOf_33 : decode cX0_missedOf 33 = .ok (.getfield 9, 3) := by decide +kernel
theorem dX0_missedOf_36 : decode cX0_missedOf 36 = .ok (.getfield 47, 3) := by decide +kernel
theorem dX0_missedOf_39 : decode cX0_missedOf 39 = .ok (.iconst 0, 1) := by decide +kernel
theorem dX0_missedOf_40 : decode cX0_missedOf 40 = .ok (.aaload, 1) := by decide +kernel
theorem dX0_missedOf_41 : decode cX0_missedOf 41 = .ok (.iload 5, 2) := by decide +kernel
theorem dX0_missedOf_43 : decode cX0_missedOf 43 = .ok (.iaload, 1) := by decide +kernel
theorem dX0_missedOf_44 : decode cX0_missedOf 44 = .ok (.i2l, 1) := by decide +kernel
theorem dX0_missedOf_45 : decode cX0_missedOf 45 = .ok (.lstore 6, 2) := by decide +kernel
theorem dX0_missedOf_47 : decode cX0_missedOf 47 = .ok (.aload_n 0, 1) := by decide +kernel
theorem dX0_missedOf_48 : decode cX0_missedOf 48 = .ok (.getfield 9, 3) := by decide +kernel
theorem dX0_missedOf_51 : decode cX0_missedOf 51 = .ok (.getfield 47, 3) := by decide +kernel
theorem dX0_missedOf_54 : decode cX0_missedOf 54 = .ok (.iconst 3, 1) := by decide +kernel
theorem dX0_missedOf_55 : decode cX0_missedOf 55 = .ok (.aaload, 1) := by decide +kernel
theorem dX0_missedOf_56 : decode cX0_missedOf 56 = .ok (.iload 5, 2) := by decide +kernel
theorem dX0_missedOf_58 : decode cX0_missedOf 58 = .ok (.iaload, 1) := by decide +kernel
theorem dX0_missedOf_59 : decode cX0_missedOf 59 = .ok (.i2l, 1) := by decide +kernel
theorem dX0_missedOf_60 : decode cX0_missedOf 60 = .ok (.lload_n 2, 1) := by decide +kernel
theorem dX0_missedOf_61 : decode cX0_missedOf 61 = .ok (.lmul, 1) := by decide +kernel
theorem dX0_missedOf_62 : decode cX0_missedOf 62 = .ok (.lstore 8, 2) := by decide +kernel
theorem dX0_missedOf_64 : decode cX0_missedOf 64 = .ok (.aload_n 0, 1) := by decide +kernel
theorem dX0_missedOf_65 : decode cX0_missedOf 65 = .ok (.iconst 0, 1) := by decide +kernel
theorem dX0_missedOf_66 : decode cX0_missedOf 66 = .ok (.lload 6, 2) := by decide +kernel
theorem dX0_missedOf_68 : decode cX0_missedOf 68 = .ok (.invokevirtual 59, 3) := by decide +kernel
theorem dX0_missedOf_71 : decode cX0_missedOf 71 = .ok (.aload_n 0, 1) := by decide +kernel
theorem dX0_missedOf_72 : decode cX0_missedOf 72 = .ok (.getfield 9, 3) := by decide +kernel
theorem dX0_missedOf_75 : decode cX0_missedOf 75 = .ok (.getfield 47, 3) := by decide +kernel
theorem dX0_missedOf_78 : decode cX0_missedOf 78 = .ok (.iconst 1, 1) := by decide +kernel
theorem dX0_missedOf_79 : decode cX0_missedOf 79 = .ok (.aaload, 1) := by decide +kernel
theorem dX0_missedOf_80 : decode cX0_missedOf 80 = .ok (.iload 5, 2) := by decide +kernel
theorem dX0_missedOf_82 : decode cX0_missedOf 82 = .ok (.iaload, 1) := by decide +kernel
theorem dX0_missedOf_83 : decode cX0_missedOf 83 = .ok (.i2l, 1) := by decide +kernel
theorem dX0_missedOf_84 : decode cX0_missedOf 84 = .ok (.lload_n 2, 1) := by decide +kernel
theorem dX0_missedOf_85 : decode cX0_missedOf 85 = .ok (.lmul, 1) := by decide +kernel
theorem dX0_missedOf_86 : decode cX0_missedOf 86 = .ok (.lsub, 1) := by decide +kernel
theorem dX0_missedOf_87 : decode cX0_missedOf 87 = .ok (.lstore 10, 2) := by decide +kernel
theorem dX0_missedOf_89 : decode cX0_missedOf 89 = .ok (.aload_n 0, 1) := by decide +kernel
theorem dX0_missedOf_90 : decode cX0_missedOf 90 = .ok (.iconst 1, 1) := by decide +kernel
theorem dX0_missedOf_91 : decode cX0_missedOf 91 = .ok (.lload 6, 2) := by decide +kernel
theorem dX0_missedOf_93 : decode cX0_missedOf 93 = .ok (.invokevirtual 59, 3) := by decide +kernel
theorem dX0_missedOf_96 : decode cX0_missedOf 96 = .ok (.aload_n 0, 1) := by decide +kernel
theorem dX0_missedOf_97 : decode cX0_missedOf 97 = .ok (.getfield 9, 3) := by decide +kernel
theorem dX0_missedOf_100 : decode cX0_missedOf 100 = .ok (.getfield 47, 3) := by decide +kernel
theorem dX0_missedOf_103 : decode cX0_missedOf 103 = .ok (.iconst 2, 1) := by decide +kernel
theorem dX0_missedOf_104 : decode cX0_missedOf 104 = .ok (.aaload, 1) := by decide +kernel
theorem dX0_missedOf_105 : decode cX0_missedOf 105 = .ok (.iload 5, 2) := by decide +kernel
theorem dX0_missedOf_107 : decode cX0_missedOf 107 = .ok (.iaload, 1) := by decide +kernel
theorem dX0_missedOf_108 : decode cX0_missedOf 108 = .ok (.i2l, 1) := by decide +kernel
theorem dX0_missedOf_109 : decode cX0_missedOf 109 = .ok (.lload_n 2, 1) := by decide +kernel
theorem dX0_missedOf_110 : decode cX0_missedOf 110 = .ok (.lmul, 1) := by decide +kernel
theorem dX0_missedOf_111 : decode cX0_missedOf 111 = .ok (.lsub, 1) := by decide +kernel
theorem dX0_missedOf_112 : decode cX0_missedOf 112 = .ok (.lstore 12, 2) := by decide +kernel
theorem dX0_missedOf_114 : decode cX0_missedOf 114 = .ok (.lload 10, 2) := by decide +kernel
theorem dX0_missedOf_116 : decode cX0_missedOf 116 = .ok (.invokestatic 63, 3) := by decide +kernel
theorem dX0_missedOf_119 : decode cX0_missedOf 119 = .ok (.lload 8, 2) := by decide +kernel
theorem dX0_missedOf_121 : decode cX0_missedOf 121 = .ok (.lcmp, 1) := by decide +kernel
theorem dX0_missedOf_122 : decode cX0_missedOf 122 = .ok (.ifCond .gt 14, 3) := by decide +kernel
theorem dX0_missedOf_125 : decode cX0_missedOf 125 = .ok (.lload 12, 2) := by decide +kernel
theorem dX0_missedOf_127 : decode cX0_missedOf 127 = .ok (.invokestatic 63, 3) := by decide +kernel
theorem dX0_missedOf_130 : decode cX0_missedOf 130 = .ok (.lload 8, 2) := by decide +kernel
theorem dX0_missedOf_132 : decode cX0_missedOf 132 = .ok (.lcmp, 1) := by decide +kernel
theorem dX0_missedOf_133 : decode cX0_missedOf 133 = .ok (.ifCond .le 12, 3) := by decide +kernel
theorem dX0_missedOf_136 : decode cX0_missedOf 136 = .ok (.iload 4, 2) := by decide +kernel
theorem dX0_missedOf_138 : decode cX0_missedOf 138 = .ok (.iconst 1, 1) := by decide +kernel
theorem dX0_missedOf_139 : decode cX0_missedOf 139 = .ok (.iload 5, 2) := by decide +kernel
theorem dX0_missedOf_141 : decode cX0_missedOf 141 = .ok (.ishl, 1) := by decide +kernel
theorem dX0_missedOf_142 : decode cX0_missedOf 142 = .ok (.ior, 1) := by decide +kernel
theorem dX0_missedOf_143 : decode cX0_missedOf 143 = .ok (.istore 4, 2) := by decide +kernel
theorem dX0_missedOf_145 : decode cX0_missedOf 145 = .ok (.iinc 5 1, 3) := by decide +kernel
theorem dX0_missedOf_148 : decode cX0_missedOf 148 = .ok (.goto (-137), 3) := by decide +kernel
theorem dX0_missedOf_151 : decode cX0_missedOf 151 = .ok (.iload 4, 2) := by decide +kernel
theorem dX0_missedOf_153 : decode cX0_missedOf 153 = .ok (.ireturn, 1) := by decide +kernel
set_option maxRecDepth 20000 in
theorem ggX0_layThrough_X6_isIn : GoodIn wsX0_layThrough wsX6_isIn := goodIn_r _ [8] (by decide +kernel) (by decide +kernel)
set_option maxRecDepth 20000 in
theorem gX0_layThrough_X6_isIn_n55 : GoodIn wsX0_layThrough (wsX6_isIn) := ggX0_layThrough_X6_isIn
theorem dX0_layThrough_0 : decode cX0_layThrough 0 = .ok (.iconst 0, 1) := by decide +kernel
theorem dX0_layThrough_1 : decode cX0_layThrough 1 = .ok (.istore_n 2, 1) := by decide +kernel
theorem dX0_layThrough_2 : decode cX0_layThrough 2 = .ok (.iconst 0, 1) := by decide +kernel
theorem dX0_layThrough_3 : decode cX0_layThrough 3 = .ok (.istore_n 3, 1) := by decide +kernel
theorem dX0_layThrough_4 : decode cX0_layThrough 4 = .ok (.iload_n 3, 1) := by decide +kernel
theorem dX0_layThrough_5 : decode cX0_layThrough 5 = .ok (.aload_n 0, 1) := by decide +kernel
theorem dX0_layThrough_6 : decode cX0_layThrough 6 = .ok (.getfield 9, 3) := by decide +kernel
theorem dX0_layThrough_9 : decode cX0_layThrough 9 = .ok (.getfield 25, 3) := by decide +kernel
theorem dX0_layThrough_12 : decode cX0_layThrough 12 = .ok (.if_icmp .ge 70, 3) := by decide +kernel
theorem dX0_layThrough_15 : decode cX0_layThrough 15 = .ok (.iload_n 1, 1) := by decide +kernel
theorem dX0_layThrough_16 : decode cX0_layThrough 16 = .ok (.iload_n 3, 1) := by decide +kernel
theorem dX0_layThrough_17 : decode cX0_layThrough 17 = .ok (.invokestatic 55, 3) := by decide +kernel
theorem dX0_layThrough_20 : decode cX0_layThrough 20 = .ok (.ifCond .eq 56, 3) := by decide +kernel
theorem dX0_layThrough_23 : decode cX0_layThrough 23 = .ok (.aload_n 0, 1) := by decide +kernel
theorem dX0_layThrough_24 : decode cX0_layThrough 24 = .ok (.iload_n 2, 1) := by decide +kernel
theorem dX0_layThrough_25 : decode cX0_layThrough 25 = .ok (.ifCond .ne 7, 3) := by decide +kernel
theorem dX0_layThrough_28 : decode cX0_layThrough 28 = .ok (.iload_n 3, 1) := by decide +kernel
theorem dX0_layThrough_29 : decode cX0_layThrough 29 = .ok (.goto 7, 3) := by decide +kernel
theorem dX0_layThrough_32 : decode cX0_layThrough 32 = .ok (.aload_n 0, 1) := by decide +kernel
theorem dX0_layThrough_33 : decode cX0_layThrough 33 = .ok (.getfield 15, 3) := by decide +kernel
theorem dX0_layThrough_36 : decode cX0_layThrough 36 = .ok (.putfield 15, 3) := by decide +kernel
theorem dX0_layThrough_39 : decode cX0_layThrough 39 = .ok (.aload_n 0, 1) := by decide +kernel
theorem dX0_layThrough_40 : decode cX0_layThrough 40 = .ok (.iload_n 2, 1) := by decide +kernel
theorem dX0_layThrough_41 : decode cX0_layThrough 41 = .ok (.iconst 1, 1) := by decide +kernel
theorem dX0_layThrough_42 : decode cX0_layThrough 42 = .ok (.if_icmp .ne 7, 3) := by decide +kernel
theorem dX0_layThrough_45 : decode cX0_layThrough 45 = .ok (.iload_n 3, 1) := by decide +kernel
theorem dX0_layThrough_46 : decode cX0_layThrough 46 = .ok (.goto 7, 3) := by decide +kernel
theorem dX0_layThrough_49 : decode cX0_layThrough 49 = .ok (.aload_n 0, 1) := by decide +kernel
theorem dX0_layThrough_50 : decode cX0_layThrough 50 = .ok (.getfield 19, 3) := by decide +kernel
theorem dX0_layThrough_53 : decode cX0_layThrough 53 = .ok (.putfield 19, 3) := by decide +kernel
theorem dX0_layThrough_56 : decode cX0_layThrough 56 = .ok (.aload_n 0, 1) := by decide +kernel
theorem dX0_layThrough_57 : decode cX0_layThrough 57 = .ok (.iload_n 2, 1) := by decide +kernel
theorem dX0_layThrough_58 : decode cX0_layThrough 58 = .ok (.iconst 2, 1) := by decide +kernel
theorem dX0_layThrough_59 : decode cX0_layThrough 59 = .ok (.if_icmp .ne 7, 3) := by decide +kernel
theorem dX0_layThrough_62 : decode cX0_layThrough 62 = .ok (.iload_n 3, 1) := by decide +kernel
theorem dX0_layThrough_63 : decode cX0_layThrough 63 = .ok (.goto 7, 3) := by decide +kernel
theorem dX0_layThrough_66 : decode cX0_layThrough 66 = .ok (.aload_n 0, 1) := by decide +kernel
theorem dX0_layThrough_67 : decode cX0_layThrough 67 = .ok (.getfield 22, 3) := by decide +kernel
theorem dX0_layThrough_70 : decode cX0_layThrough 70 = .ok (.putfield 22, 3) := by decide +kernel
theorem dX0_layThrough_73 : decode cX0_layThrough 73 = .ok (.iinc 2 1, 3) := by decide +kernel
theorem dX0_layThrough_76 : decode cX0_layThrough 76 = .ok (.iinc 3 1, 3) := by decide +kernel
theorem dX0_layThrough_79 : decode cX0_layThrough 79 = .ok (.goto (-75), 3) := by decide +kernel
theorem dX0_layThrough_82 : decode cX0_layThrough 82 = .ok (.return_, 1) := by decide +kernel
set_option maxRecDepth 20000 in
theorem ggX1_init_X2_init : GoodIn wsX1_init wsX2_init := goodIn_r _ [9, 10, 2, 3, 11, 12, 13, 16, 17] (by decide +kernel) (by decide +kernel)
set_option maxRecDepth 20000 in
theorem gX1_init_X2_init_n17 : GoodIn wsX1_init (wsX2_init) := ggX1_init_X2_init
theorem dX1_init_0 : decode cX1_init 0 = .ok (.aload_n 0, 1) := by decide +kernel
theorem dX1_init_1 : decode cX1_init 1 = .ok (.invokespecial 3, 3) := by decide +kernel
theorem dX1_init_4 : decode cX1_init 4 = .ok (.aload_n 0, 1) := by decide +kernel
theorem dX1_init_5 : decode cX1_init 5 = .ok (.iconst 4, 1) := by decide +kernel
theorem dX1_init_6 : decode cX1_init 6 = .ok (.anewarray 9, 3) := by decide +kernel
theorem dX1_init_9 : decode cX1_init 9 = .ok (.putfield 11, 3) := by decide +kernel
theorem dX1_init_12 : decode cX1_init 12 = .ok (.iconst 0, 1) := by decide +kernel
theorem dX1_init_13 : decode cX1_init 13 = .ok (.istore_n 1, 1) := by decide +kernel
theorem dX1_init_14 : decode cX1_init 14 = .ok (.iload_n 1, 1) := by decide +kernel
theorem dX1_init_15 : decode cX1_init 15 = .ok (.iconst 4, 1) := by decide +kernel
theorem dX1_init_16 : decode cX1_init 16 = .ok (.if_icmp .ge 22, 3) := by decide +kernel
theorem dX1_init_19 : decode cX1_init 19 = .ok (.aload_n 0, 1) := by decide +kernel
theorem dX1_init_20 : decode cX1_init 20 = .ok (.getfield 11, 3) := by decide +kernel
theorem dX1_init_23 : decode cX1_init 23 = .ok (.iload_n 1, 1) := by decide +kernel
theorem dX1_init_24 : decode cX1_init 24 = .ok (.new 9, 3) := by decide +kernel
theorem dX1_init_27 : decode cX1_init 27 = .ok (.dup, 1) := by decide +kernel
theorem dX1_init_28 : decode cX1_init 28 = .ok (.invokespecial 17, 3) := by decide +kernel
theorem dX1_init_31 : decode cX1_init 31 = .ok (.aastore, 1) := by decide +kernel
theorem dX1_init_32 : decode cX1_init 32 = .ok (.iinc 1 1, 3) := by decide +kernel
theorem dX1_init_35 : decode cX1_init 35 = .ok (.goto (-21), 3) := by decide +kernel
theorem dX1_init_38 : decode cX1_init 38 = .ok (.return_, 1) := by decide +kernel
set_option maxRecDepth 20000 in
theorem ggX1_record_X1_dropOldest : GoodIn wsX1_record wsX1_dropOldest := goodIn_r _ [7, 2, 1, 19, 20] (by decide +kernel) (by decide +kernel)
set_option maxRecDepth 20000 in
theorem gX1_record_X1_dropOldest : GoodIn wsX1_record (wsV RX1 22 RX1 yX1_dropOldest wsX1_dropOldest) := goodIn_app (goodIn_of _ (by decide +kernel)) ggX1_record_X1_dropOldest
set_option maxRecDepth 20000 in
theorem ggX1_record_X2_copyFrom : GoodIn wsX1_record wsX2_copyFrom := goodIn_r _ [12, 13, 14, 15, 16, 17, 18, 21, 22] (by decide +kernel) (by decide +kernel)
set_option maxRecDepth 20000 in
theorem gX1_record_X2_copyFrom : GoodIn wsX1_record (wsV RX1 25 RX2 yX2_copyFrom wsX2_copyFrom) := goodIn_app (goodIn_of _ (by decide +kernel)) ggX1_record_X2_copyFrom
theorem dX1_record_0 : decode cX1_record 0 = .ok (.aload_n 0, 1) := by decide +kernel
theorem dX1_record_1 : decode cX1_record 1 = .ok (.getfield 18, 3) := by decide +kernel
theorem dX1_record_4 : decode cX1_record 4 = .ok (.iconst 4, 1) := by decide +kernel
theorem dX1_record_5 : decode cX1_record 5 = .ok (.if_icmp .lt 7, 3) := by decide +kernel
theorem dX1_record_8 : decode cX1_record 8 = .ok (.aload_n 0, 1) := by decide +kernel
theorem dX1_record_9 : decode cX1_record 9 = .ok (.invokevirtual 22, 3) := by decide +kernel
theorem dX1_record_12 : decode cX1_record 12 = .ok (.aload_n 0, 1) := by decide +kernel
theorem dX1_record_13 : decode cX1_record 13 = .ok (.getfield 11, 3) := by decide +kernel
theorem dX1_record_16 : decode cX1_record 16 = .ok (.aload_n 0, 1) := by decide +kernel
theorem dX1_record_17 : decode cX1_record 17 = .ok (.getfield 18, 3) := by decide +kernel
theorem dX1_record_20 : decode cX1_record 20 = .ok (.aaload, 1) := by decide +kernel
theorem dX1_record_21 : decode cX1_record 21 = .ok (.aload_n 1, 1) := by decide +kernel
theorem dX1_record_22 : decode cX1_record 22 = .ok (.invokevirtual 25, 3) := by decide +kernel
theorem dX1_record_25 : decode cX1_record 25 = .ok (.aload_n 0, 1) := by decide +kernel
theorem dX1_record_26 : decode cX1_record 26 = .ok (.dup, 1) := by decide +kernel
theorem dX1_record_27 : decode cX1_record 27 = .ok (.getfield 18, 3) := by decide +kernel
theorem dX1_record_30 : decode cX1_record 30 = .ok (.iconst 1, 1) := by decide +kernel
theorem dX1_record_31 : decode cX1_record 31 = .ok (.iadd, 1) := by decide +kernel
theorem dX1_record_32 : decode cX1_record 32 = .ok (.putfield 18, 3) := by decide +kernel
theorem dX1_record_35 : decode cX1_record 35 = .ok (.return_, 1) := by decide +kernel
set_option maxRecDepth 20000 in
theorem ggX1_takeBack_X2_copyFrom : GoodIn wsX1_takeBack wsX2_copyFrom := goodIn_r _ [7, 8, 9, 10, 11, 12, 13, 16, 17] (by decide +kernel) (by decide +kernel)
set_option maxRecDepth 20000 in
theorem gX1_takeBack_X2_copyFrom : GoodIn wsX1_takeBack (wsV RX1 25 RX2 yX2_copyFrom wsX2_copyFrom) := goodIn_app (goodIn_of _ (by decide +kernel)) ggX1_takeBack_X2_copyFrom
theorem dX1_takeBack_0 : decode cX1_takeBack 0 = .ok (.aload_n 0, 1) := by decide +kernel
theorem dX1_takeBack_1 : decode cX1_takeBack 1 = .ok (.getfield 18, 3) := by decide +kernel
theorem dX1_takeBack_4 : decode cX1_takeBack 4 = .ok (.ifCond .gt 5, 3) := by decide +kernel
theorem dX1_takeBack_7 : decode cX1_takeBack 7 = .ok (.iconst 0, 1) := by decide +kernel
theorem dX1_takeBack_8 : decode cX1_takeBack 8 = .ok (.ireturn, 1) := by decide +kernel
theorem dX1_takeBack_9 : decode cX1_takeBack 9 = .ok (.aload_n 0, 1) := by decide +kernel
theorem dX1_takeBack_10 : decode cX1_takeBack 10 = .ok (.dup, 1) := by decide +kernel
theorem dX1_takeBack_11 : decode cX1_takeBack 11 = .ok (.getfield 18, 3) := by decide +kernel
theorem dX1_takeBack_14 : decode cX1_takeBack 14 = .ok (.iconst 1, 1) := by decide +kernel
theorem dX1_takeBack_15 : decode cX1_takeBack 15 = .ok (.isub, 1) := by decide +kernel
theorem dX1_takeBack_16 : decode cX1_takeBack 16 = .ok (.putfield 18, 3) := by decide +kernel
theorem dX1_takeBack_19 : decode cX1_takeBack 19 = .ok (.aload_n 1, 1) := by decide +kernel
theorem dX1_takeBack_20 : decode cX1_takeBack 20 = .ok (.aload_n 0, 1) := by decide +kernel
theorem dX1_takeBack_21 : decode cX1_takeBack 21 = .ok (.getfield 11, 3) := by decide +kernel
theorem dX1_takeBack_24 : decode cX1_takeBack 24 = .ok (.aload_n 0, 1) := by decide +kernel
theorem dX1_takeBack_25 : decode cX1_takeBack 25 = .ok (.getfield 18, 3) := by decide +kernel
theorem dX1_takeBack_28 : decode cX1_takeBack 28 = .ok (.aaload, 1) := by decide +kernel
theorem dX1_takeBack_29 : decode cX1_takeBack 29 = .ok (.invokevirtual 25, 3) := by decide +kernel
theorem dX1_takeBack_32 : decode cX1_takeBack 32 = .ok (.iconst 1, 1) := by decide +kernel
theorem dX1_takeBack_33 : decode cX1_takeBack 33 = .ok (.ireturn, 1) := by decide +kernel
theorem dX1_dropOldest_0 : decode cX1_dropOldest 0 = .ok (.aload_n 0, 1) := by decide +kernel
theorem dX1_dropOldest_1 : decode cX1_dropOldest 1 = .ok (.getfield 11, 3) := by decide +kernel
theorem dX1_dropOldest_4 : decode cX1_dropOldest 4 = .ok (.iconst 0, 1) := by decide +kernel
theorem dX1_dropOldest_5 : decode cX1_dropOldest 5 = .ok (.aaload, 1) := by decide +kernel
theorem dX1_dropOldest_6 : decode cX1_dropOldest 6 = .ok (.astore_n 1, 1) := by decide +kernel
theorem dX1_dropOldest_7 : decode cX1_dropOldest 7 = .ok (.iconst 1, 1) := by decide +kernel
theorem dX1_dropOldest_8 : decode cX1_dropOldest 8 = .ok (.istore_n 2, 1) := by decide +kernel
theorem dX1_dropOldest_9 : decode cX1_dropOldest 9 = .ok (.iload_n 2, 1) := by decide +kernel
theorem dX1_dropOldest_10 : decode cX1_dropOldest 10 = .ok (.iconst 4, 1) := by decide +kernel
theorem dX1_dropOldest_11 : decode cX1_dropOldest 11 = .ok (.if_icmp .ge 23, 3) := by decide +kernel
theorem dX1_dropOldest_14 : decode cX1_dropOldest 14 = .ok (.aload_n 0, 1) := by decide +kernel
theorem dX1_dropOldest_15 : decode cX1_dropOldest 15 = .ok (.getfield 11, 3) := by decide +kernel
theorem dX1_dropOldest_18 : decode cX1_dropOldest 18 = .ok (.iload_n 2, 1) := by decide +kernel
theorem dX1_dropOldest_19 : decode cX1_dropOldest 19 = .ok (.iconst 1, 1) := by decide +kernel
theorem dX1_dropOldest_20 : decode cX1_dropOldest 20 = .ok (.isub, 1) := by decide +kernel
theorem dX1_dropOldest_21 : decode cX1_dropOldest 21 = .ok (.aload_n 0, 1) := by decide +kernel
theorem dX1_dropOldest_22 : decode cX1_dropOldest 22 = .ok (.getfield 11, 3) := by decide +kernel
theorem dX1_dropOldest_25 : decode cX1_dropOldest 25 = .ok (.iload_n 2, 1) := by decide +kernel
theorem dX1_dropOldest_26 : decode cX1_dropOldest 26 = .ok (.aaload, 1) := by decide +kernel
theorem dX1_dropOldest_27 : decode cX1_dropOldest 27 = .ok (.aastore, 1) := by decide +kernel
theorem dX1_dropOldest_28 : decode cX1_dropOldest 28 = .ok (.iinc 2 1, 3) := by decide +kernel
theorem dX1_dropOldest_31 : decode cX1_dropOldest 31 = .ok (.goto (-22), 3) := by decide +kernel
theorem dX1_dropOldest_34 : decode cX1_dropOldest 34 = .ok (.aload_n 0, 1) := by decide +kernel
theorem dX1_dropOldest_35 : decode cX1_dropOldest 35 = .ok (.getfield 11, 3) := by decide +kernel
theorem dX1_dropOldest_38 : decode cX1_dropOldest 38 = .ok (.iconst 3, 1) := by decide +kernel
theorem dX1_dropOldest_39 : decode cX1_dropOldest 39 = .ok (.aload_n 1, 1) := by decide +kernel
theorem dX1_dropOldest_40 : decode cX1_dropOldest 40 = .ok (.aastore, 1) := by decide +kernel
theorem dX1_dropOldest_41 : decode cX1_dropOldest 41 = .ok (.aload_n 0, 1) := by decide +kernel
theorem dX1_dropOldest_42 : decode cX1_dropOldest 42 = .ok (.iconst 3, 1) := by decide +kernel
theorem dX1_dropOldest_43 : decode cX1_dropOldest 43 = .ok (.putfield 18, 3) := by decide +kernel
theorem dX1_dropOldest_46 : decode cX1_dropOldest 46 = .ok (.return_, 1) := by decide +kernel
theorem dX2_init_0 : decode cX2_init 0 = .ok (.aload_n 0, 1) := by decide +kernel
theorem dX2_init_1 : decode cX2_init 1 = .ok (.invokespecial 3, 3) := by decide +kernel
theorem dX2_init_4 : decode cX2_init 4 = .ok (.aload_n 0, 1) := by decide +kernel
theorem dX2_init_5 : decode cX2_init 5 = .ok (.bipush 7, 2) := by decide +kernel
theorem dX2_init_7 : decode cX2_init 7 = .ok (.bipush 10, 2) := by decide +kernel
theorem dX2_init_9 : decode cX2_init 9 = .ok (.multianewarray 9 2, 4) := by decide +kernel
theorem dX2_init_13 : decode cX2_init 13 = .ok (.putfield 11, 3) := by decide +kernel
theorem dX2_init_16 : decode cX2_init 16 = .ok (.return_, 1) := by decide +kernel
theorem dX2_copyFrom_0 : decode cX2_copyFrom 0 = .ok (.iconst 0, 1) := by decide +kernel
theorem dX2_copyFrom_1 : decode cX2_copyFrom 1 = .ok (.istore_n 2, 1) := by decide +kernel
theorem dX2_copyFrom_2 : decode cX2_copyFrom 2 = .ok (.iload_n 2, 1) := by decide +kernel
theorem dX2_copyFrom_3 : decode cX2_copyFrom 3 = .ok (.bipush 7, 2) := by decide +kernel
theorem dX2_copyFrom_5 : decode cX2_copyFrom 5 = .ok (.if_icmp .ge 28, 3) := by decide +kernel
theorem dX2_copyFrom_8 : decode cX2_copyFrom 8 = .ok (.aload_n 1, 1) := by decide +kernel
theorem dX2_copyFrom_9 : decode cX2_copyFrom 9 = .ok (.getfield 11, 3) := by decide +kernel
theorem dX2_copyFrom_12 : decode cX2_copyFrom 12 = .ok (.iload_n 2, 1) := by decide +kernel
theorem dX2_copyFrom_13 : decode cX2_copyFrom 13 = .ok (.aaload, 1) := by decide +kernel
theorem dX2_copyFrom_14 : decode cX2_copyFrom 14 = .ok (.iconst 0, 1) := by decide +kernel
theorem dX2_copyFrom_15 : decode cX2_copyFrom 15 = .ok (.aload_n 0, 1) := by decide +kernel
theorem dX2_copyFrom_16 : decode cX2_copyFrom 16 = .ok (.getfield 11, 3) := by decide +kernel
theorem dX2_copyFrom_19 : decode cX2_copyFrom 19 = .ok (.iload_n 2, 1) := by decide +kernel
theorem dX2_copyFrom_20 : decode cX2_copyFrom 20 = .ok (.aaload, 1) := by decide +kernel
theorem dX2_copyFrom_21 : decode cX2_copyFrom 21 = .ok (.iconst 0, 1) := by decide +kernel
theorem dX2_copyFrom_22 : decode cX2_copyFrom 22 = .ok (.bipush 10, 2) := by decide +kernel
theorem dX2_copyFrom_24 : decode cX2_copyFrom 24 = .ok (.invokestatic 16, 3) := by decide +kernel
theorem dX2_copyFrom_27 : decode cX2_copyFrom 27 = .ok (.iinc 2 1, 3) := by decide +kernel
theorem dX2_copyFrom_30 : decode cX2_copyFrom 30 = .ok (.goto (-28), 3) := by decide +kernel
theorem dX2_copyFrom_33 : decode cX2_copyFrom 33 = .ok (.aload_n 0, 1) := by decide +kernel
theorem dX2_copyFrom_34 : decode cX2_copyFrom 34 = .ok (.aload_n 1, 1) := by decide +kernel
theorem dX2_copyFrom_35 : decode cX2_copyFrom 35 = .ok (.getfield 22, 3) := by decide +kernel
theorem dX2_copyFrom_38 : decode cX2_copyFrom 38 = .ok (.putfield 22, 3) := by decide +kernel
theorem dX2_copyFrom_41 : decode cX2_copyFrom 41 = .ok (.return_, 1) := by decide +kernel
theorem dX2_holds_0 : decode cX2_holds 0 = .ok (.iload_n 1, 1) := by decide +kernel
theorem dX2_holds_1 : decode cX2_holds 1 = .ok (.ifCond .lt 15, 3) := by decide +kernel
theorem dX2_holds_4 : decode cX2_holds 4 = .ok (.iload_n 1, 1) := by decide +kernel
theorem dX2_holds_5 : decode cX2_holds 5 = .ok (.aload_n 0, 1) := by decide +kernel
theorem dX2_holds_6 : decode cX2_holds 6 = .ok (.getfield 22, 3) := by decide +kernel
theorem dX2_holds_9 : decode cX2_holds 9 = .ok (.if_icmp .ge 7, 3) := by decide +kernel
theorem dX2_holds_12 : decode cX2_holds 12 = .ok (.iconst 1, 1) := by decide +kernel
theorem dX2_holds_13 : decode cX2_holds 13 = .ok (.goto 4, 3) := by decide +kernel
theorem dX2_holds_16 : decode cX2_holds 16 = .ok (.iconst 0, 1) := by decide +kernel
theorem dX2_holds_17 : decode cX2_holds 17 = .ok (.ireturn, 1) := by decide +kernel
theorem dX2_isUsable_0 : decode cX2_isUsable 0 = .ok (.aload_n 0, 1) := by decide +kernel
theorem dX2_isUsable_1 : decode cX2_isUsable 1 = .ok (.getfield 11, 3) := by decide +kernel
theorem dX2_isUsable_4 : decode cX2_isUsable 4 = .ok (.bipush 6, 2) := by decide +kernel
theorem dX2_isUsable_6 : decode cX2_isUsable 6 = .ok (.aaload, 1) := by decide +kernel
theorem dX2_isUsable_7 : decode cX2_isUsable 7 = .ok (.iload_n 1, 1) := by decide +kernel
theorem dX2_isUsable_8 : decode cX2_isUsable 8 = .ok (.iaload, 1) := by decide +kernel
theorem dX2_isUsable_9 : decode cX2_isUsable 9 = .ok (.ifCond .ne 7, 3) := by decide +kernel
theorem dX2_isUsable_12 : decode cX2_isUsable 12 = .ok (.iconst 1, 1) := by decide +kernel
theorem dX2_isUsable_13 : decode cX2_isUsable 13 = .ok (.goto 4, 3) := by decide +kernel
theorem dX2_isUsable_16 : decode cX2_isUsable 16 = .ok (.iconst 0, 1) := by decide +kernel
theorem dX2_isUsable_17 : decode cX2_isUsable 17 = .ok (.ireturn, 1) := by decide +kernel
theorem dX2_hasAngle_0 : decode cX2_hasAngle 0 = .ok (.aload_n 0, 1) := by decide +kernel
theorem dX2_hasAngle_1 : decode cX2_hasAngle 1 = .ok (.getfield 11, 3) := by decide +kernel
theorem dX2_hasAngle_4 : decode cX2_hasAngle 4 = .ok (.iconst 4, 1) := by decide +kernel
theorem dX2_hasAngle_5 : decode cX2_hasAngle 5 = .ok (.aaload, 1) := by decide +kernel
theorem dX2_hasAngle_6 : decode cX2_hasAngle 6 = .ok (.iload_n 1, 1) := by decide +kernel
theorem dX2_hasAngle_7 : decode cX2_hasAngle 7 = .ok (.iaload, 1) := by decide +kernel
theorem dX2_hasAngle_8 : decode cX2_hasAngle 8 = .ok (.sipush 360, 3) := by decide +kernel
theorem dX2_hasAngle_11 : decode cX2_hasAngle 11 = .ok (.if_icmp .eq 7, 3) := by decide +kernel
theorem dX2_hasAngle_14 : decode cX2_hasAngle 14 = .ok (.iconst 1, 1) := by decide +kernel
theorem dX2_hasAngle_15 : decode cX2_hasAngle 15 = .ok (.goto 4, 3) := by decide +kernel
theorem dX2_hasAngle_18 : decode cX2_hasAngle 18 = .ok (.iconst 0, 1) := by decide +kernel
theorem dX2_hasAngle_19 : decode cX2_hasAngle 19 = .ok (.ireturn, 1) := by decide +kernel
set_option maxRecDepth 20000 in
theorem ggX2_isMarked_X2_isUsable : GoodIn wsX2_isMarked wsX2_isUsable := goodIn_r _ [5, 6, 11, 12] (by decide +kernel) (by decide +kernel)
set_option maxRecDepth 20000 in
theorem gX2_isMarked_X2_isUsable : GoodIn wsX2_isMarked (wsV RX2 26 RX2 yX2_isUsable wsX2_isUsable) := goodIn_app (goodIn_of _ (by decide +kernel)) ggX2_isMarked_X2_isUsable
set_option maxRecDepth 20000 in
theorem ggX2_isMarked_X2_hasAngle : GoodIn wsX2_isMarked wsX2_hasAngle := goodIn_r _ [10, 6, 11, 12] (by decide +kernel) (by decide +kernel)
set_option maxRecDepth 20000 in
theorem gX2_isMarked_X2_hasAngle : GoodIn wsX2_isMarked (wsV RX2 30 RX2 yX2_hasAngle wsX2_hasAngle) := goodIn_app (goodIn_of _ (by decide +kernel)) ggX2_isMarked_X2_hasAngle
theorem dX2_isMarked_0 : decode cX2_isMarked 0 = .ok (.aload_n 0, 1) := by decide +kernel
theorem dX2_isMarked_1 : decode cX2_isMarked 1 = .ok (.iload_n 1, 1) := by decide +kernel
theorem dX2_isMarked_2 : decode cX2_isMarked 2 = .ok (.invokevirtual 26, 3) := by decide +kernel
theorem dX2_isMarked_5 : decode cX2_isMarked 5 = .ok (.ifCond .eq 15, 3) := by decide +kernel
theorem dX2_isMarked_8 : decode cX2_isMarked 8 = .ok (.aload_n 0, 1) := by decide +kernel
theorem dX2_isMarked_9 : decode cX2_isMarked 9 = .ok (.iload_n 1, 1) := by decide +kernel
theorem dX2_isMarked_10 : decode cX2_isMarked 10 = .ok (.invokevirtual 30, 3) := by decide +kernel
theorem dX2_isMarked_13 : decode cX2_isMarked 13 = .ok (.ifCond .eq 7, 3) := by decide +kernel
theorem dX2_isMarked_16 : decode cX2_isMarked 16 = .ok (.iconst 1, 1) := by decide +kernel
theorem dX2_isMarked_17 : decode cX2_isMarked 17 = .ok (.goto 4, 3) := by decide +kernel
theorem dX2_isMarked_20 : decode cX2_isMarked 20 = .ok (.iconst 0, 1) := by decide +kernel
theorem dX2_isMarked_21 : decode cX2_isMarked 21 = .ok (.ireturn, 1) := by decide +kernel
set_option maxRecDepth 20000 in
theorem ggX2_usable_X2_isUsable : GoodIn wsX2_usable wsX2_isUsable := goodIn_r _ [6, 7, 8, 9] (by decide +kernel) (by decide +kernel)
set_option maxRecDepth 20000 in
theorem gX2_usable_X2_isUsable : GoodIn wsX2_usable (wsV RX2 26 RX2 yX2_isUsable wsX2_isUsable) := goodIn_app (goodIn_of _ (by decide +kernel)) ggX2_usable_X2_isUsable
theorem dX2_usable_0 : decode cX2_usable 0 = .ok (.iconst 0, 1) := by decide +kernel
theorem dX2_usable_1 : decode cX2_usable 1 = .ok (.istore_n 1, 1) := by decide +kernel
theorem dX2_usable_2 : decode cX2_usable 2 = .ok (.iconst 0, 1) := by decide +kernel
theorem dX2_usable_3 : decode cX2_usable 3 = .ok (.istore_n 2, 1) := by decide +kernel
theorem dX2_usable_4 : decode cX2_usable 4 = .ok (.iload_n 2, 1) := by decide +kernel
theorem dX2_usable_5 : decode cX2_usable 5 = .ok (.aload_n 0, 1) := by decide +kernel
theorem dX2_usable_6 : decode cX2_usable 6 = .ok (.getfield 22, 3) := by decide +kernel
theorem dX2_usable_9 : decode cX2_usable 9 = .ok (.if_icmp .ge 23, 3) := by decide +kernel
theorem dX2_usable_12 : decode cX2_usable 12 = .ok (.aload_n 0, 1) := by decide +kernel
theorem dX2_usable_13 : decode cX2_usable 13 = .ok (.iload_n 2, 1) := by decide +kernel
theorem dX2_usable_14 : decode cX2_usable 14 = .ok (.invokevirtual 26, 3) := by decide +kernel
theorem dX2_usable_17 : decode cX2_usable 17 = .ok (.ifCond .eq 9, 3) := by decide +kernel
theorem dX2_usable_20 : decode cX2_usable 20 = .ok (.iload_n 1, 1) := by decide +kernel
theorem dX2_usable_21 : decode cX2_usable 21 = .ok (.iconst 1, 1) := by decide +kernel
theorem dX2_usable_22 : decode cX2_usable 22 = .ok (.iload_n 2, 1) := by decide +kernel
theorem dX2_usable_23 : decode cX2_usable 23 = .ok (.ishl, 1) := by decide +kernel
theorem dX2_usable_24 : decode cX2_usable 24 = .ok (.ior, 1) := by decide +kernel
theorem dX2_usable_25 : decode cX2_usable 25 = .ok (.istore_n 1, 1) := by decide +kernel
theorem dX2_usable_26 : decode cX2_usable 26 = .ok (.iinc 2 1, 3) := by decide +kernel
theorem dX2_usable_29 : decode cX2_usable 29 = .ok (.goto (-25), 3) := by decide +kernel
theorem dX2_usable_32 : decode cX2_usable 32 = .ok (.iload_n 1, 1) := by decide +kernel
theorem dX2_usable_33 : decode cX2_usable 33 = .ok (.ireturn, 1) := by decide +kernel
set_option maxRecDepth 20000 in
theorem ggX2_marked_X2_isMarked : GoodIn wsX2_marked wsX2_isMarked := goodIn_r _ [6, 7, 8, 9, 5, 10, 11, 12, 13, 14, 15, 16, 17] (by decide +kernel) (by decide +kernel)
set_option maxRecDepth 20000 in
theorem gX2_marked_X2_isMarked : GoodIn wsX2_marked (wsV RX2 33 RX2 yX2_isMarked wsX2_isMarked) := goodIn_app (goodIn_of _ (by decide +kernel)) ggX2_marked_X2_isMarked
theorem dX2_marked_0 : decode cX2_marked 0 = .ok (.iconst 0, 1) := by decide +kernel
theorem dX2_marked_1 : decode cX2_marked 1 = .ok (.istore_n 1, 1) := by decide +kernel
theorem dX2_marked_2 : decode cX2_marked 2 = .ok (.iconst 0, 1) := by decide +kernel
theorem dX2_marked_3 : decode cX2_marked 3 = .ok (.istore_n 2, 1) := by decide +kernel
theorem dX2_marked_4 : decode cX2_marked 4 = .ok (.iload_n 2, 1) := by decide +kernel
theorem dX2_marked_5 : decode cX2_marked 5 = .ok (.aload_n 0, 1) := by decide +kernel
theorem dX2_marked_6 : decode cX2_marked 6 = .ok (.getfield 22, 3) := by decide +kernel
theorem dX2_marked_9 : decode cX2_marked 9 = .ok (.if_icmp .ge 23, 3) := by decide +kernel
theorem dX2_marked_12 : decode cX2_marked 12 = .ok (.aload_n 0, 1) := by decide +kernel
theorem dX2_marked_13 : decode cX2_marked 13 = .ok (.iload_n 2, 1) := by decide +kernel
theorem dX2_marked_14 : decode cX2_marked 14 = .ok (.invokevirtual 33, 3) := by decide +kernel
theorem dX2_marked_17 : decode cX2_marked 17 = .ok (.ifCond .eq 9, 3) := by decide +kernel
theorem dX2_marked_20 : decode cX2_marked 20 = .ok (.iload_n 1, 1) := by decide +kernel
theorem dX2_marked_21 : decode cX2_marked 21 = .ok (.iconst 1, 1) := by decide +kernel
theorem dX2_marked_22 : decode cX2_marked 22 = .ok (.iload_n 2, 1) := by decide +kernel
theorem dX2_marked_23 : decode cX2_marked 23 = .ok (.ishl, 1) := by decide +kernel
theorem dX2_marked_24 : decode cX2_marked 24 = .ok (.ior, 1) := by decide +kernel
theorem dX2_marked_25 : decode cX2_marked 25 = .ok (.istore_n 1, 1) := by decide +kernel
theorem dX2_marked_26 : decode cX2_marked 26 = .ok (.iinc 2 1, 3) := by decide +kernel
theorem dX2_marked_29 : decode cX2_marked 29 = .ok (.goto (-25), 3) := by decide +kernel
theorem dX2_marked_32 : decode cX2_marked 32 = .ok (.iload_n 1, 1) := by decide +kernel
theorem dX2_marked_33 : decode cX2_marked 33 = .ok (.ireturn, 1) := by decide +kernel
theorem dX2_numberAt_0 : decode cX2_numberAt 0 = .ok (.iconst 0, 1) := by decide +kernel
theorem dX2_numberAt_1 : decode cX2_numberAt 1 = .ok (.istore_n 2, 1) := by decide +kernel
theorem dX2_numberAt_2 : decode cX2_numberAt 2 = .ok (.iload_n 2, 1) := by decide +kernel
theorem dX2_numberAt_3 : decode cX2_numberAt 3 = .ok (.aload_n 0, 1) := by decide +kernel
theorem dX2_numberAt_4 : decode cX2_numberAt 4 = .ok (.getfield 22, 3) := by decide +kernel
theorem dX2_numberAt_7 : decode cX2_numberAt 7 = .ok (.if_icmp .ge 21, 3) := by decide +kernel
theorem dX2_numberAt_10 : decode cX2_numberAt 10 = .ok (.aload_n 0, 1) := by decide +kernel
theorem dX2_numberAt_11 : decode cX2_numberAt 11 = .ok (.getfield 11, 3) := by decide +kernel
theorem dX2_numberAt_14 : decode cX2_numberAt 14 = .ok (.iconst 0, 1) := by decide +kernel
theorem dX2_numberAt_15 : decode cX2_numberAt 15 = .ok (.aaload, 1) := by decide +kernel
theorem dX2_numberAt_16 : decode cX2_numberAt 16 = .ok (.iload_n 2, 1) := by decide +kernel
theorem dX2_numberAt_17 : decode cX2_numberAt 17 = .ok (.iaload, 1) := by decide +kernel
theorem dX2_numberAt_18 : decode cX2_numberAt 18 = .ok (.iload_n 1, 1) := by decide +kernel
theorem dX2_numberAt_19 : decode cX2_numberAt 19 = .ok (.if_icmp .ge 9, 3) := by decide +kernel
theorem dX2_numberAt_22 : decode cX2_numberAt 22 = .ok (.iinc 2 1, 3) := by decide +kernel
theorem dX2_numberAt_25 : decode cX2_numberAt 25 = .ok (.goto (-23), 3) := by decide +kernel
theorem dX2_numberAt_28 : decode cX2_numberAt 28 = .ok (.iload_n 2, 1) := by decide +kernel
theorem dX2_numberAt_29 : decode cX2_numberAt 29 = .ok (.ireturn, 1) := by decide +kernel
theorem dX2_insert_0 : decode cX2_insert 0 = .ok (.iload_n 1, 1) := by decide +kernel
theorem dX2_insert_1 : decode cX2_insert 1 = .ok (.ifCond .lt 20, 3) := by decide +kernel
theorem dX2_insert_4 : decode cX2_insert 4 = .ok (.iload_n 1, 1) := by decide +kernel
theorem dX2_insert_5 : decode cX2_insert 5 = .ok (.aload_n 0, 1) := by decide +kernel
theorem dX2_insert_6 : decode cX2_insert 6 = .ok (.getfield 22, 3) := by decide +kernel
theorem dX2_insert_9 : decode cX2_insert 9 = .ok (.if_icmp .gt 12, 3) := by decide +kernel
theorem dX2_insert_12 : decode cX2_insert 12 = .ok (.aload_n 0, 1) := by decide +kernel
theorem dX2_insert_13 : decode cX2_insert 13 = .ok (.getfield 22, 3) := by decide +kernel
theorem dX2_insert_16 : decode cX2_insert 16 = .ok (.bipush 10, 2) := by decide +kernel
theorem dX2_insert_18 : decode cX2_insert 18 = .ok (.if_icmp .lt 4, 3) := by decide +kernel
theorem dX2_insert_21 : decode cX2_insert 21 = .ok (.return_, 1) := by decide +kernel
theorem dX2_insert_22 : decode cX2_insert 22 = .ok (.iconst 0, 1) := by decide +kernel
theorem dX2_insert_23 : decode cX2_insert 23 = .ok (.istore_n 3, 1) := by decide +kernel
theorem dX2_insert_24 : decode cX2_insert 24 = .ok (.iload_n 3, 1) := by decide +kernel
theorem dX2_insert_25 : decode cX2_insert 25 = .ok (.bipush 7, 2) := by decide +kernel
theorem dX2_insert_27 : decode cX2_insert 27 = .ok (.if_icmp .ge 55, 3) := by decide +kernel
theorem dX2_insert_30 : decode cX2_insert 30 = .ok (.aload_n 0, 1) := by decide +kernel
theorem dX2_insert_31 : decode cX2_insert 31 = .ok (.getfield 11, 3) := by decide +kernel
theorem dX2_insert_34 : decode cX2_insert 34 = .ok (.iload_n 3, 1) := by decide +kernel
theorem dX2_insert_35 : decode cX2_insert 35 = .ok (.aaload, 1) := by decide +kernel
theorem dX2_insert_36 : decode cX2_insert 36 = .ok (.iload_n 1, 1) := by decide +kernel
theorem dX2_insert_37 : decode cX2_insert 37 = .ok (.aload_n 0, 1) := by decide +kernel
theorem dX2_insert_38 : decode cX2_insert 38 = .ok (.getfield 11, 3) := by decide +kernel
theorem dX2_insert_41 : decode cX2_insert 41 = .ok (.iload_n 3, 1) := by decide +kernel
theorem dX2_insert_42 : decode cX2_insert 42 = .ok (.aaload, 1) := by decide +kernel
theorem dX2_insert_43 : decode cX2_insert 43 = .ok (.iload_n 1, 1) := by decide +kernel
theorem dX2_insert_44 : decode cX2_insert 44 = .ok (.iconst 1, 1) := by decide +kernel
theorem dX2_insert_45 : decode cX2_insert 45 = .ok (.iadd, 1) := by decide +kernel
theorem dX2_insert_46 : decode cX2_insert 46 = .ok (.aload_n 0, 1) := by decide +kernel
theorem dX2_insert_47 : decode cX2_insert 47 = .ok (.getfield 22, 3) := by decide +kernel
theorem dX2_insert_50 : decode cX2_insert 50 = .ok (.iload_n 1, 1) := by decide +kernel
theorem dX2_insert_51 : decode cX2_insert 51 = .ok (.isub, 1) := by decide +kernel
theorem dX2_insert_52 : decode cX2_insert 52 = .ok (.invokestatic 16, 3) := by decide +kernel
theorem dX2_insert_55 : decode cX2_insert 55 = .ok (.aload_n 0, 1) := by decide +kernel
theorem dX2_insert_56 : decode cX2_insert 56 = .ok (.getfield 11, 3) := by decide +kernel
theorem dX2_insert_59 : decode cX2_insert 59 = .ok (.iload_n 3, 1) := by decide +kernel
theorem dX2_insert_60 : decode cX2_insert 60 = .ok (.aaload, 1) := by decide +kernel
theorem dX2_insert_61 : decode cX2_insert 61 = .ok (.iload_n 1, 1) := by decide +kernel
theorem dX2_insert_62 : decode cX2_insert 62 = .ok (.iload_n 3, 1) := by decide +kernel
theorem dX2_insert_63 : decode cX2_insert 63 = .ok (.aload_n 2, 1) := by decide +kernel
theorem dX2_insert_64 : decode cX2_insert 64 = .ok (.arraylength, 1) := by decide +kernel
theorem dX2_insert_65 : decode cX2_insert 65 = .ok (.if_icmp .ge 9, 3) := by decide +kernel
theorem dX2_insert_68 : decode cX2_insert 68 = .ok (.aload_n 2, 1) := by decide +kernel
theorem dX2_insert_69 : decode cX2_insert 69 = .ok (.iload_n 3, 1) := by decide +kernel
theorem dX2_insert_70 : decode cX2_insert 70 = .ok (.iaload, 1) := by decide +kernel
theorem dX2_insert_71 : decode cX2_insert 71 = .ok (.goto 4, 3) := by decide +kernel
theorem dX2_insert_74 : decode cX2_insert 74 = .ok (.iconst 0, 1) := by decide +kernel
theorem dX2_insert_75 : decode cX2_insert 75 = .ok (.iastore, 1) := by decide +kernel
theorem dX2_insert_76 : decode cX2_insert 76 = .ok (.iinc 3 1, 3) := by decide +kernel
theorem dX2_insert_79 : decode cX2_insert 79 = .ok (.goto (-55), 3) := by decide +kernel
theorem dX2_insert_82 : decode cX2_insert 82 = .ok (.aload_n 0, 1) := by decide +kernel
theorem dX2_insert_83 : decode cX2_insert 83 = .ok (.dup, 1) := by decide +kernel
theorem dX2_insert_84 : decode cX2_insert 84 = .ok (.getfield 22, 3) := by decide +kernel
theorem dX2_insert_87 : decode cX2_insert 87 = .ok (.iconst 1, 1) := by decide +kernel
theorem dX2_insert_88 : decode cX2_insert 88 = .ok (.iadd, 1) := by decide +kernel
theorem dX2_insert_89 : decode cX2_insert 89 = .ok (.putfield 22, 3) := by decide +kernel
theorem dX2_insert_92 : decode cX2_insert 92 = .ok (.return_, 1) := by decide +kernel
set_option maxRecDepth 20000 in
theorem ggX2_delete_X2_holds : GoodIn wsX2_delete wsX2_holds := goodIn_r _ [11, 2, 12, 13] (by decide +kernel) (by decide +kernel)
set_option maxRecDepth 20000 in
theorem gX2_delete_X2_holds : GoodIn wsX2_delete (wsV RX2 36 RX2 yX2_holds wsX2_holds) := goodIn_app (goodIn_of _ (by decide +kernel)) ggX2_delete_X2_holds
theorem dX2_delete_0 : decode cX2_delete 0 = .ok (.aload_n 0, 1) := by decide +kernel
theorem dX2_delete_1 : decode cX2_delete 1 = .ok (.iload_n 1, 1) := by decide +kernel
theorem dX2_delete_2 : decode cX2_delete 2 = .ok (.invokevirtual 36, 3) := by decide +kernel
theorem dX2_delete_5 : decode cX2_delete 5 = .ok (.ifCond .ne 4, 3) := by decide +kernel
theorem dX2_delete_8 : decode cX2_delete 8 = .ok (.return_, 1) := by decide +kernel
theorem dX2_delete_9 : decode cX2_delete 9 = .ok (.iconst 0, 1) := by decide +kernel
theorem dX2_delete_10 : decode cX2_delete 10 = .ok (.istore_n 2, 1) := by decide +kernel
theorem dX2_delete_11 : decode cX2_delete 11 = .ok (.iload_n 2, 1) := by decide +kernel
theorem dX2_delete_12 : decode cX2_delete 12 = .ok (.bipush 7, 2) := by decide +kernel
theorem dX2_delete_14 : decode cX2_delete 14 = .ok (.if_icmp .ge 36, 3) := by decide +kernel
theorem dX2_delete_17 : decode cX2_delete 17 = .ok (.aload_n 0, 1) := by decide +kernel
theorem dX2_delete_18 : decode cX2_delete 18 = .ok (.getfield 11, 3) := by decide +kernel
theorem dX2_delete_21 : decode cX2_delete 21 = .ok (.iload_n 2, 1) := by decide +kernel
theorem dX2_delete_22 : decode cX2_delete 22 = .ok (.aaload, 1) := by decide +kernel
theorem dX2_delete_23 : decode cX2_delete 23 = .ok (.iload_n 1, 1) := by decide +kernel
theorem dX2_delete_24 : decode cX2_delete 24 = .ok (.iconst 1, 1) := by decide +kernel
theorem dX2_delete_25 : decode cX2_delete 25 = .ok (.iadd, 1) := by decide +kernel
theorem dX2_delete_26 : decode cX2_delete 26 = .ok (.aload_n 0, 1) := by decide +kernel
theorem dX2_delete_27 : decode cX2_delete 27 = .ok (.getfield 11, 3) := by decide +kernel
theorem dX2_delete_30 : decode cX2_delete 30 = .ok (.iload_n 2, 1) := by decide +kernel
theorem dX2_delete_31 : decode cX2_delete 31 = .ok (.aaload, 1) := by decide +kernel
theorem dX2_delete_32 : decode cX2_delete 32 = .ok (.iload_n 1, 1) := by decide +kernel
theorem dX2_delete_33 : decode cX2_delete 33 = .ok (.aload_n 0, 1) := by decide +kernel
theorem dX2_delete_34 : decode cX2_delete 34 = .ok (.getfield 22, 3) := by decide +kernel
theorem dX2_delete_37 : decode cX2_delete 37 = .ok (.iconst 1, 1) := by decide +kernel
theorem dX2_delete_38 : decode cX2_delete 38 = .ok (.isub, 1) := by decide +kernel
theorem dX2_delete_39 : decode cX2_delete 39 = .ok (.iload_n 1, 1) := by decide +kernel
theorem dX2_delete_40 : decode cX2_delete 40 = .ok (.isub, 1) := by decide +kernel
theorem dX2_delete_41 : decode cX2_delete 41 = .ok (.invokestatic 16, 3) := by decide +kernel
theorem dX2_delete_44 : decode cX2_delete 44 = .ok (.iinc 2 1, 3) := by decide +kernel
theorem dX2_delete_47 : decode cX2_delete 47 = .ok (.goto (-36), 3) := by decide +kernel
theorem dX2_delete_50 : decode cX2_delete 50 = .ok (.aload_n 0, 1) := by decide +kernel
theorem dX2_delete_51 : decode cX2_delete 51 = .ok (.dup, 1) := by decide +kernel
theorem dX2_delete_52 : decode cX2_delete 52 = .ok (.getfield 22, 3) := by decide +kernel
theorem dX2_delete_55 : decode cX2_delete 55 = .ok (.iconst 1, 1) := by decide +kernel
theorem dX2_delete_56 : decode cX2_delete 56 = .ok (.isub, 1) := by decide +kernel
theorem dX2_delete_57 : decode cX2_delete 57 = .ok (.putfield 22, 3) := by decide +kernel
theorem dX2_delete_60 : decode cX2_delete 60 = .ok (.return_, 1) := by decide +kernel
theorem dX3_init_0 : decode cX3_init 0 = .ok (.aload_n 0, 1) := by decide +kernel
theorem dX3_init_1 : decode cX3_init 1 = .ok (.invokespecial 3, 3) := by decide +kernel
theorem dX3_init_4 : decode cX3_init 4 = .ok (.aload_n 0, 1) := by decide +kernel
theorem dX3_init_5 : decode cX3_init 5 = .ok (.aload_n 1, 1) := by decide +kernel
theorem dX3_init_6 : decode cX3_init 6 = .ok (.putfield 9, 3) := by decide +kernel
theorem dX3_init_9 : decode cX3_init 9 = .ok (.return_, 1) := by decide +kernel
set_option maxRecDepth 20000 in
theorem ggX3_angleOf_J9_floorMod_7cf53 : GoodIn wsX3_angleOf wsJ9_floorMod_7cf53 := goodIn_r _ [4] (by decide +kernel) (by decide +kernel)
set_option maxRecDepth 20000 in
theorem gX3_angleOf_J9_floorMod_7cf53 : GoodIn wsX3_angleOf (va_wsS RX3 15 yJ9_floorMod_7cf53 wsJ9_floorMod_7cf53) := goodIn_app (goodIn_of _ (by decide +kernel)) ggX3_angleOf_J9_floorMod_7cf53
theorem dX3_angleOf_0 : decode cX3_angleOf 0 = .ok (.iload_n 1, 1) := by decide +kernel
theorem dX3_angleOf_1 : decode cX3_angleOf 1 = .ok (.iload_n 0, 1) := by decide +kernel
theorem dX3_angleOf_2 : decode cX3_angleOf 2 = .ok (.iload_n 2, 1) := by decide +kernel
theorem dX3_angleOf_3 : decode cX3_angleOf 3 = .ok (.imul, 1) := by decide +kernel
theorem dX3_angleOf_4 : decode cX3_angleOf 4 = .ok (.iadd, 1) := by decide +kernel
theorem dX3_angleOf_5 : decode cX3_angleOf 5 = .ok (.sipush 360, 3) := by decide +kernel
theorem dX3_angleOf_8 : decode cX3_angleOf 8 = .ok (.invokestatic 15, 3) := by decide +kernel
theorem dX3_angleOf_11 : decode cX3_angleOf 11 = .ok (.ireturn, 1) := by decide +kernel
set_option maxRecDepth 20000 in
theorem ggX3_fittedBy_X2_isMarked : GoodIn wsX3_fittedBy wsX2_isMarked := goodIn_r _ [7, 8, 9, 10, 6, 11, 12, 13, 14, 15, 16, 41, 42] (by decide +kernel) (by decide +kernel)
set_option maxRecDepth 20000 in
theorem gX3_fittedBy_X2_isMarked : GoodIn wsX3_fittedBy (wsV RX3 27 RX2 yX2_isMarked wsX2_isMarked) := goodIn_app (goodIn_of _ (by decide +kernel)) ggX3_fittedBy_X2_isMarked
set_option maxRecDepth 20000 in
theorem ggX3_fittedBy_X3_isNear : GoodIn wsX3_fittedBy wsX3_isNear := goodIn_r _ [21, 1, 22, 23, 24, 25, 26, 27, 28, 29, 30, 31, 20, 32, 33, 34, 35, 36, 37, 38, 39, 40, 41, 42] (by decide +kernel) (by decide +kernel)
set_option maxRecDepth 20000 in
theorem gX3_fittedBy_X3_isNear : GoodIn wsX3_fittedBy (wsV RX3 31 RX3 yX3_isNear wsX3_isNear) := goodIn_app (goodIn_of _ (by decide +kernel)) ggX3_fittedBy_X3_isNear
theorem dX3_fittedBy_0 : decode cX3_fittedBy 0 = .ok (.iconst 0, 1) := by decide +kernel
theorem dX3_fittedBy_1 : decode cX3_fittedBy 1 = .ok (.istore_n 3, 1) := by decide +kernel
theorem dX3_fittedBy_2 : decode cX3_fittedBy 2 = .ok (.iconst 0, 1) := by decide +kernel
theorem dX3_fittedBy_3 : decode cX3_fittedBy 3 = .ok (.istore 4, 2) := by decide +kernel
theorem dX3_fittedBy_5 : decode cX3_fittedBy 5 = .ok (.iload 4, 2) := by decide +kernel
theorem dX3_fittedBy_7 : decode cX3_fittedBy 7 = .ok (.aload_n 0, 1) := by decide +kernel
theorem dX3_fittedBy_8 : decode cX3_fittedBy 8 = .ok (.getfield 9, 3) := by decide +kernel
theorem dX3_fittedBy_11 : decode cX3_fittedBy 11 = .ok (.getfield 21, 3) := by decide +kernel
theorem dX3_fittedBy_14 : decode cX3_fittedBy 14 = .ok (.if_icmp .ge 39, 3) := by decide +kernel
theorem dX3_fittedBy_17 : decode cX3_fittedBy 17 = .ok (.aload_n 0, 1) := by decide +kernel
theorem dX3_fittedBy_18 : decode cX3_fittedBy 18 = .ok (.getfield 9, 3) := by decide +kernel
theorem dX3_fittedBy_21 : decode cX3_fittedBy 21 = .ok (.iload 4, 2) := by decide +kernel
theorem dX3_fittedBy_23 : decode cX3_fittedBy 23 = .ok (.invokevirtual 27, 3) := by decide +kernel
theorem dX3_fittedBy_26 : decode cX3_fittedBy 26 = .ok (.ifCond .eq 21, 3) := by decide +kernel
theorem dX3_fittedBy_29 : decode cX3_fittedBy 29 = .ok (.aload_n 0, 1) := by decide +kernel
theorem dX3_fittedBy_30 : decode cX3_fittedBy 30 = .ok (.iload 4, 2) := by decide +kernel
theorem dX3_fittedBy_32 : decode cX3_fittedBy 32 = .ok (.iload_n 1, 1) := by decide +kernel
theorem dX3_fittedBy_33 : decode cX3_fittedBy 33 = .ok (.iload_n 2, 1) := by decide +kernel
theorem dX3_fittedBy_34 : decode cX3_fittedBy 34 = .ok (.invokevirtual 31, 3) := by decide +kernel
theorem dX3_fittedBy_37 : decode cX3_fittedBy 37 = .ok (.ifCond .eq 10, 3) := by decide +kernel
theorem dX3_fittedBy_40 : decode cX3_fittedBy 40 = .ok (.iload_n 3, 1) := by decide +kernel
theorem dX3_fittedBy_41 : decode cX3_fittedBy 41 = .ok (.iconst 1, 1) := by decide +kernel
theorem dX3_fittedBy_42 : decode cX3_fittedBy 42 = .ok (.iload 4, 2) := by decide +kernel
theorem dX3_fittedBy_44 : decode cX3_fittedBy 44 = .ok (.ishl, 1) := by decide +kernel
theorem dX3_fittedBy_45 : decode cX3_fittedBy 45 = .ok (.ior, 1) := by decide +kernel
theorem dX3_fittedBy_46 : decode cX3_fittedBy 46 = .ok (.istore_n 3, 1) := by decide +kernel
theorem dX3_fittedBy_47 : decode cX3_fittedBy 47 = .ok (.iinc 4 1, 3) := by decide +kernel
theorem dX3_fittedBy_50 : decode cX3_fittedBy 50 = .ok (.goto (-45), 3) := by decide +kernel
theorem dX3_fittedBy_53 : decode cX3_fittedBy 53 = .ok (.iload_n 3, 1) := by decide +kernel
theorem dX3_fittedBy_54 : decode cX3_fittedBy 54 = .ok (.ireturn, 1) := by decide +kernel
set_option maxRecDepth 20000 in
theorem ggX3_isNear_X3_angleOf : GoodIn wsX3_isNear wsX3_angleOf := goodIn_r _ [13, 14, 15, 16, 17] (by decide +kernel) (by decide +kernel)
set_option maxRecDepth 20000 in
theorem gX3_isNear_X3_angleOf : GoodIn wsX3_isNear (va_wsS RX3 39 yX3_angleOf wsX3_angleOf) := goodIn_app (goodIn_of _ (by decide +kernel)) ggX3_isNear_X3_angleOf
theorem dX3_isNear_0 : decode cX3_isNear 0 = .ok (.iload_n 2, 1) := by decide +kernel
theorem dX3_isNear_1 : decode cX3_isNear 1 = .ok (.iload_n 3, 1) := by decide +kernel
theorem dX3_isNear_2 : decode cX3_isNear 2 = .ok (.aload_n 0, 1) := by decide +kernel
theorem dX3_isNear_3 : decode cX3_isNear 3 = .ok (.getfield 9, 3) := by decide +kernel
theorem dX3_isNear_6 : decode cX3_isNear 6 = .ok (.getfield 35, 3) := by decide +kernel
theorem dX3_isNear_9 : decode cX3_isNear 9 = .ok (.iconst 0, 1) := by decide +kernel
theorem dX3_isNear_10 : decode cX3_isNear 10 = .ok (.aaload, 1) := by decide +kernel
theorem dX3_isNear_11 : decode cX3_isNear 11 = .ok (.iload_n 1, 1) := by decide +kernel
theorem dX3_isNear_12 : decode cX3_isNear 12 = .ok (.iaload, 1) := by decide +kernel
theorem dX3_isNear_13 : decode cX3_isNear 13 = .ok (.invokestatic 39, 3) := by decide +kernel
theorem dX3_isNear_16 : decode cX3_isNear 16 = .ok (.istore 4, 2) := by decide +kernel
theorem dX3_isNear_18 : decode cX3_isNear 18 = .ok (.iload 4, 2) := by decide +kernel
theorem dX3_isNear_20 : decode cX3_isNear 20 = .ok (.aload_n 0, 1) := by decide +kernel
theorem dX3_isNear_21 : decode cX3_isNear 21 = .ok (.getfield 9, 3) := by decide +kernel
theorem dX3_isNear_24 : decode cX3_isNear 24 = .ok (.getfield 35, 3) := by decide +kernel
theorem dX3_isNear_27 : decode cX3_isNear 27 = .ok (.iconst 4, 1) := by decide +kernel
theorem dX3_isNear_28 : decode cX3_isNear 28 = .ok (.aaload, 1) := by decide +kernel
theorem dX3_isNear_29 : decode cX3_isNear 29 = .ok (.iload_n 1, 1) := by decide +kernel
theorem dX3_isNear_30 : decode cX3_isNear 30 = .ok (.iaload, 1) := by decide +kernel
theorem dX3_isNear_31 : decode cX3_isNear 31 = .ok (.isub, 1) := by decide +kernel
theorem dX3_isNear_32 : decode cX3_isNear 32 = .ok (.invokestatic 43, 3) := by decide +kernel
theorem dX3_isNear_35 : decode cX3_isNear 35 = .ok (.istore 5, 2) := by decide +kernel
theorem dX3_isNear_37 : decode cX3_isNear 37 = .ok (.iload 5, 2) := by decide +kernel
theorem dX3_isNear_39 : decode cX3_isNear 39 = .ok (.sipush 360, 3) := by decide +kernel
theorem dX3_isNear_42 : decode cX3_isNear 42 = .ok (.iload 5, 2) := by decide +kernel
theorem dX3_isNear_44 : decode cX3_isNear 44 = .ok (.isub, 1) := by decide +kernel
theorem dX3_isNear_45 : decode cX3_isNear 45 = .ok (.invokestatic 47, 3) := by decide +kernel
theorem dX3_isNear_48 : decode cX3_isNear 48 = .ok (.aload_n 0, 1) := by decide +kernel
theorem dX3_isNear_49 : decode cX3_isNear 49 = .ok (.getfield 9, 3) := by decide +kernel
theorem dX3_isNear_52 : decode cX3_isNear 52 = .ok (.getfield 35, 3) := by decide +kernel
theorem dX3_isNear_55 : decode cX3_isNear 55 = .ok (.iconst 5, 1) := by decide +kernel
theorem dX3_isNear_56 : decode cX3_isNear 56 = .ok (.aaload, 1) := by decide +kernel
theorem dX3_isNear_57 : decode cX3_isNear 57 = .ok (.iload_n 1, 1) := by decide +kernel
theorem dX3_isNear_58 : decode cX3_isNear 58 = .ok (.iaload, 1) := by decide +kernel
theorem dX3_isNear_59 : decode cX3_isNear 59 = .ok (.if_icmp .gt 7, 3) := by decide +kernel
theorem dX3_isNear_62 : decode cX3_isNear 62 = .ok (.iconst 1, 1) := by decide +kernel
theorem dX3_isNear_63 : decode cX3_isNear 63 = .ok (.goto 4, 3) := by decide +kernel
theorem dX3_isNear_66 : decode cX3_isNear 66 = .ok (.iconst 0, 1) := by decide +kernel
theorem dX3_isNear_67 : decode cX3_isNear 67 = .ok (.ireturn, 1) := by decide +kernel
set_option maxRecDepth 20000 in
theorem ggX3_search_X2_marked : GoodIn wsX3_search wsX2_marked := goodIn_r _ [9, 10, 11, 12, 13, 8, 14, 15, 16, 17, 18, 19, 20, 21, 22, 23, 69, 70] (by decide +kernel) (by decide +kernel)
set_option maxRecDepth 20000 in
theorem gX3_search_X2_marked : GoodIn wsX3_search (wsV RX3 59 RX2 yX2_marked wsX2_marked) := goodIn_app (goodIn_of _ (by decide +kernel)) ggX3_search_X2_marked
set_option maxRecDepth 20000 in
theorem ggX3_search_X3_tryTurn : GoodIn wsX3_search wsX3_tryTurn := goodIn_r _ [28, 4, 29, 30, 1, 2, 31, 32, 33, 27, 34, 3, 35, 36, 37, 38, 39, 12, 13, 8, 14, 15, 16, 17, 18, 19, 20, 21, 22, 23, 40, 41, 42, 43, 44, 45, 46, 47, 48, 49, 50, 51, 52, 53, 54, 55, 56, 57, 58, 59, 60, 61, 62, 63, 64, 65, 66, 67, 68, 69, 70] (by decide +kernel) (by decide +kernel)
set_option maxRecDepth 20000 in
theorem gX3_search_X3_tryTurn : GoodIn wsX3_search (wsV RX3 63 RX3 yX3_tryTurn wsX3_tryTurn) := goodIn_app (goodIn_of _ (by decide +kernel)) ggX3_search_X3_tryTurn
theorem dX3_search_0 : decode cX3_search 0 = .ok (.aload_n 0, 1) := by decide +kernel
theorem dX3_search_1 : decode cX3_search 1 = .ok (.iconst 0, 1) := by decide +kernel
theorem dX3_search_2 : decode cX3_search 2 = .ok (.putfield 50, 3) := by decide +kernel
theorem dX3_search_5 : decode cX3_search 5 = .ok (.aload_n 0, 1) := by decide +kernel
theorem dX3_search_6 : decode cX3_search 6 = .ok (.iconst 0, 1) := by decide +kernel
theorem dX3_search_7 : decode cX3_search 7 = .ok (.putfield 53, 3) := by decide +kernel
theorem dX3_search_10 : decode cX3_search 10 = .ok (.aload_n 0, 1) := by decide +kernel
theorem dX3_search_11 : decode cX3_search 11 = .ok (.iconst 0, 1) := by decide +kernel
theorem dX3_search_12 : decode cX3_search 12 = .ok (.putfield 56, 3) := by decide +kernel
theorem dX3_search_15 : decode cX3_search 15 = .ok (.aload_n 0, 1) := by decide +kernel
theorem dX3_search_16 : decode cX3_search 16 = .ok (.getfield 9, 3) := by decide +kernel
theorem dX3_search_19 : decode cX3_search 19 = .ok (.invokevirtual 59, 3) := by decide +kernel
theorem dX3_search_22 : decode cX3_search 22 = .ok (.istore_n 1, 1) := by decide +kernel
theorem dX3_search_23 : decode cX3_search 23 = .ok (.iload_n 1, 1) := by decide +kernel
theorem dX3_search_24 : decode cX3_search 24 = .ok (.ifCond .ne 5, 3) := by decide +kernel
theorem dX3_search_27 : decode cX3_search 27 = .ok (.iconst 0, 1) := by decide +kernel
theorem dX3_search_28 : decode cX3_search 28 = .ok (.ireturn, 1) := by decide +kernel
theorem dX3_search_29 : decode cX3_search 29 = .ok (.aload_n 0, 1) := by decide +kernel
theorem dX3_search_30 : decode cX3_search 30 = .ok (.iconst 0, 1) := by decide +kernel
theorem dX3_search_31 : decode cX3_search 31 = .ok (.invokevirtual 63, 3) := by decide +kernel
theorem dX3_search_34 : decode cX3_search 34 = .ok (.iconst 1, 1) := by decide +kernel
theorem dX3_search_35 : decode cX3_search 35 = .ok (.istore_n 2, 1) := by decide +kernel
theorem dX3_search_36 : decode cX3_search 36 = .ok (.iload_n 2, 1) := by decide +kernel
theorem dX3_search_37 : decode cX3_search 37 = .ok (.sipush 180, 3) := by decide +kernel
theorem dX3_search_40 : decode cX3_search 40 = .ok (.if_icmp .gt 35, 3) := by decide +kernel
theorem dX3_search_43 : decode cX3_search 43 = .ok (.aload_n 0, 1) := by decide +kernel
theorem dX3_search_44 : decode cX3_search 44 = .ok (.getfield 56, 3) := by decide +kernel
theorem dX3_search_47 : decode cX3_search 47 = .ok (.iload_n 1, 1) := by decide +kernel
theorem dX3_search_48 : decode cX3_search 48 = .ok (.if_icmp .eq 27, 3) := by decide +kernel
theorem dX3_search_51 : decode cX3_search 51 = .ok (.aload_n 0, 1) := by decide +kernel
theorem dX3_search_52 : decode cX3_search 52 = .ok (.iload_n 2, 1) := by decide +kernel
theorem dX3_search_53 : decode cX3_search 53 = .ok (.invokevirtual 63, 3) := by decide +kernel
theorem dX3_search_56 : decode cX3_search 56 = .ok (.iload_n 2, 1) := by decide +kernel
theorem dX3_search_57 : decode cX3_search 57 = .ok (.sipush 180, 3) := by decide +kernel
theorem dX3_search_60 : decode cX3_search 60 = .ok (.if_icmp .ge 9, 3) := by decide +kernel
theorem dX3_search_63 : decode cX3_search 63 = .ok (.aload_n 0, 1) := by decide +kernel
theorem dX3_search_64 : decode cX3_search 64 = .ok (.iload_n 2, 1) := by decide +kernel
theorem dX3_search_65 : decode cX3_search 65 = .ok (.ineg, 1) := by decide +kernel
theorem dX3_search_66 : decode cX3_search 66 = .ok (.invokevirtual 63, 3) := by decide +kernel
theorem dX3_search_69 : decode cX3_search 69 = .ok (.iinc 2 1, 3) := by decide +kernel
theorem dX3_search_72 : decode cX3_search 72 = .ok (.goto (-36), 3) := by decide +kernel
theorem dX3_search_75 : decode cX3_search 75 = .ok (.iconst 1, 1) := by decide +kernel
theorem dX3_search_76 : decode cX3_search 76 = .ok (.ireturn, 1) := by decide +kernel
set_option maxRecDepth 20000 in
theorem ggX3_tryTurn_X3_tryBeginning : GoodIn wsX3_tryTurn wsX3_tryBeginning := goodIn_r _ [10, 11, 4, 5, 12, 13, 14, 9, 15, 1, 2, 16, 17, 18, 19, 20, 21, 22, 23, 24, 25, 26, 27, 28, 29, 30, 31, 32, 33, 3, 34, 35, 36, 37, 38, 39, 40, 41, 42, 43, 44, 45, 46, 47, 48, 49, 50, 51, 52, 53, 54, 55, 56, 57, 58, 59, 60] (by decide +kernel) (by decide +kernel)
set_option maxRecDepth 20000 in
theorem gX3_tryTurn_X3_tryBeginning : GoodIn wsX3_tryTurn (wsV RX3 67 RX3 yX3_tryBeginning wsX3_tryBeginning) := goodIn_app (goodIn_of _ (by decide +kernel)) ggX3_tryTurn_X3_tryBeginning
set_option maxRecDepth 20000 in
theorem ggX3_tryTurn_X2_isMarked : GoodIn wsX3_tryTurn wsX2_isMarked := goodIn_r _ [20, 21, 22, 23, 19, 24, 25, 26, 27, 28, 29, 59, 60] (by decide +kernel) (by decide +kernel)
set_option maxRecDepth 20000 in
theorem gX3_tryTurn_X2_isMarked : GoodIn wsX3_tryTurn (wsV RX3 27 RX2 yX2_isMarked wsX2_isMarked) := goodIn_app (goodIn_of _ (by decide +kernel)) ggX3_tryTurn_X2_isMarked
set_option maxRecDepth 20000 in
theorem ggX3_tryTurn_X3_angleOf : GoodIn wsX3_tryTurn wsX3_angleOf := goodIn_r _ [43, 44, 45, 46, 47] (by decide +kernel) (by decide +kernel)
set_option maxRecDepth 20000 in
theorem gX3_tryTurn_X3_angleOf : GoodIn wsX3_tryTurn (va_wsS RX3 39 yX3_angleOf wsX3_angleOf) := goodIn_app (goodIn_of _ (by decide +kernel)) ggX3_tryTurn_X3_angleOf
theorem dX3_tryTurn_0 : decode cX3_tryTurn 0 = .ok (.aload_n 0, 1) := by decide +kernel
theorem dX3_tryTurn_1 : decode cX3_tryTurn 1 = .ok (.iload_n 1, 1) := by decide +kernel
theorem dX3_tryTurn_2 : decode cX3_tryTurn 2 = .ok (.iconst 0, 1) := by decide +kernel
theorem dX3_tryTurn_3 : decode cX3_tryTurn 3 = .ok (.iconst 0, 1) := by decide +kernel
theorem dX3_tryTurn_4 : decode cX3_tryTurn 4 = .ok (.invokevirtual 67, 3) := by decide +kernel
theorem dX3_tryTurn_7 : decode cX3_tryTurn 7 = .ok (.iconst 0, 1) := by decide +kernel
theorem dX3_tryTurn_8 : decode cX3_tryTurn 8 = .ok (.istore_n 2, 1) := by decide +kernel
theorem dX3_tryTurn_9 : decode cX3_tryTurn 9 = .ok (.iload_n 2, 1) := by decide +kernel
theorem dX3_tryTurn_10 : decode cX3_tryTurn 10 = .ok (.aload_n 0, 1) := by decide +kernel
theorem dX3_tryTurn_11 : decode cX3_tryTurn 11 = .ok (.getfield 9, 3) := by decide +kernel
theorem dX3_tryTurn_14 : decode cX3_tryTurn 14 = .ok (.getfield 21, 3) := by decide +kernel
theorem dX3_tryTurn_17 : decode cX3_tryTurn 17 = .ok (.if_icmp .ge 92, 3) := by decide +kernel
theorem dX3_tryTurn_20 : decode cX3_tryTurn 20 = .ok (.aload_n 0, 1) := by decide +kernel
theorem dX3_tryTurn_21 : decode cX3_tryTurn 21 = .ok (.getfield 9, 3) := by decide +kernel
theorem dX3_tryTurn_24 : decode cX3_tryTurn 24 = .ok (.iload_n 2, 1) := by decide +kernel
theorem dX3_tryTurn_25 : decode cX3_tryTurn 25 = .ok (.invokevirtual 27, 3) := by decide +kernel
theorem dX3_tryTurn_28 : decode cX3_tryTurn 28 = .ok (.ifCond .eq 75, 3) := by decide +kernel
theorem dX3_tryTurn_31 : decode cX3_tryTurn 31 = .ok (.aload_n 0, 1) := by decide +kernel
theorem dX3_tryTurn_32 : decode cX3_tryTurn 32 = .ok (.getfield 9, 3) := by decide +kernel
theorem dX3_tryTurn_35 : decode cX3_tryTurn 35 = .ok (.getfield 35, 3) := by decide +kernel
theorem dX3_tryTurn_38 : decode cX3_tryTurn 38 = .ok (.iconst 4, 1) := by decide +kernel
theorem dX3_tryTurn_39 : decode cX3_tryTurn 39 = .ok (.aaload, 1) := by decide +kernel
theorem dX3_tryTurn_40 : decode cX3_tryTurn 40 = .ok (.iload_n 2, 1) := by decide +kernel
theorem dX3_tryTurn_41 : decode cX3_tryTurn 41 = .ok (.iaload, 1) := by decide +kernel
theorem dX3_tryTurn_42 : decode cX3_tryTurn 42 = .ok (.aload_n 0, 1) := by decide +kernel
theorem dX3_tryTurn_43 : decode cX3_tryTurn 43 = .ok (.getfield 9, 3) := by decide +kernel
theorem dX3_tryTurn_46 : decode cX3_tryTurn 46 = .ok (.getfield 35, 3) := by decide +kernel
theorem dX3_tryTurn_49 : decode cX3_tryTurn 49 = .ok (.iconst 5, 1) := by decide +kernel
theorem dX3_tryTurn_50 : decode cX3_tryTurn 50 = .ok (.aaload, 1) := by decide +kernel
theorem dX3_tryTurn_51 : decode cX3_tryTurn 51 = .ok (.iload_n 2, 1) := by decide +kernel
theorem dX3_tryTurn_52 : decode cX3_tryTurn 52 = .ok (.iaload, 1) := by decide +kernel
theorem dX3_tryTurn_53 : decode cX3_tryTurn 53 = .ok (.isub, 1) := by decide +kernel
theorem dX3_tryTurn_54 : decode cX3_tryTurn 54 = .ok (.istore_n 3, 1) := by decide +kernel
theorem dX3_tryTurn_55 : decode cX3_tryTurn 55 = .ok (.iload_n 1, 1) := by decide +kernel
theorem dX3_tryTurn_56 : decode cX3_tryTurn 56 = .ok (.ineg, 1) := by decide +kernel
theorem dX3_tryTurn_57 : decode cX3_tryTurn 57 = .ok (.iload_n 3, 1) := by decide +kernel
theorem dX3_tryTurn_58 : decode cX3_tryTurn 58 = .ok (.aload_n 0, 1) := by decide +kernel
theorem dX3_tryTurn_59 : decode cX3_tryTurn 59 = .ok (.getfield 9, 3) := by decide +kernel
theorem dX3_tryTurn_62 : decode cX3_tryTurn 62 = .ok (.getfield 35, 3) := by decide +kernel
theorem dX3_tryTurn_65 : decode cX3_tryTurn 65 = .ok (.iconst 0, 1) := by decide +kernel
theorem dX3_tryTurn_66 : decode cX3_tryTurn 66 = .ok (.aaload, 1) := by decide +kernel
theorem dX3_tryTurn_67 : decode cX3_tryTurn 67 = .ok (.iload_n 2, 1) := by decide +kernel
theorem dX3_tryTurn_68 : decode cX3_tryTurn 68 = .ok (.iaload, 1) := by decide +kernel
theorem dX3_tryTurn_69 : decode cX3_tryTurn 69 = .ok (.invokestatic 39, 3) := by decide +kernel
theorem dX3_tryTurn_72 : decode cX3_tryTurn 72 = .ok (.istore 4, 2) := by decide +kernel
theorem dX3_tryTurn_74 : decode cX3_tryTurn 74 = .ok (.aload_n 0, 1) := by decide +kernel
theorem dX3_tryTurn_75 : decode cX3_tryTurn 75 = .ok (.iload_n 1, 1) := by decide +kernel
theorem dX3_tryTurn_76 : decode cX3_tryTurn 76 = .ok (.iload 4, 2) := by decide +kernel
theorem dX3_tryTurn_78 : decode cX3_tryTurn 78 = .ok (.iload_n 1, 1) := by decide +kernel
theorem dX3_tryTurn_79 : decode cX3_tryTurn 79 = .ok (.aload_n 0, 1) := by decide +kernel
theorem dX3_tryTurn_80 : decode cX3_tryTurn 80 = .ok (.getfield 50, 3) := by decide +kernel
theorem dX3_tryTurn_83 : decode cX3_tryTurn 83 = .ok (.if_icmp .ne 16, 3) := by decide +kernel
theorem dX3_tryTurn_86 : decode cX3_tryTurn 86 = .ok (.iload 4, 2) := by decide +kernel
theorem dX3_tryTurn_88 : decode cX3_tryTurn 88 = .ok (.aload_n 0, 1) := by decide +kernel
theorem dX3_tryTurn_89 : decode cX3_tryTurn 89 = .ok (.getfield 53, 3) := by decide +kernel
theorem dX3_tryTurn_92 : decode cX3_tryTurn 92 = .ok (.if_icmp .ge 7, 3) := by decide +kernel
theorem dX3_tryTurn_95 : decode cX3_tryTurn 95 = .ok (.iconst 1, 1) := by decide +kernel
theorem dX3_tryTurn_96 : decode cX3_tryTurn 96 = .ok (.goto 4, 3) := by decide +kernel
theorem dX3_tryTurn_99 : decode cX3_tryTurn 99 = .ok (.iconst 0, 1) := by decide +kernel
theorem dX3_tryTurn_100 : decode cX3_tryTurn 100 = .ok (.invokevirtual 67, 3) := by decide +kernel
theorem dX3_tryTurn_103 : decode cX3_tryTurn 103 = .ok (.iinc 2 1, 3) := by decide +kernel
theorem dX3_tryTurn_106 : decode cX3_tryTurn 106 = .ok (.goto (-97), 3) := by decide +kernel
theorem dX3_tryTurn_109 : decode cX3_tryTurn 109 = .ok (.return_, 1) := by decide +kernel
set_option maxRecDepth 20000 in
theorem ggX3_tryBeginning_X3_fittedBy : GoodIn wsX3_tryBeginning wsX3_fittedBy := goodIn_r _ [8, 9, 10, 11, 12, 13, 14, 15, 16, 17, 18, 19, 20, 21, 22, 23, 24, 25, 26, 27, 7, 28, 29, 30, 31, 32, 33, 34, 35, 36, 37, 38, 39, 40, 41, 42, 43, 51, 52, 53, 54, 55, 56] (by decide +kernel) (by decide +kernel)
set_option maxRecDepth 20000 in
theorem gX3_tryBeginning_X3_fittedBy : GoodIn wsX3_tryBeginning (wsV RX3 71 RX3 yX3_fittedBy wsX3_fittedBy) := goodIn_app (goodIn_of _ (by decide +kernel)) ggX3_tryBeginning_X3_fittedBy
set_option maxRecDepth 20000 in
theorem ggX3_tryBeginning_J6_bitCount_0f7a4 : GoodIn wsX3_tryBeginning wsJ6_bitCount_0f7a4 := goodIn_r _ [47, 48, 49, 50] (by decide +kernel) (by decide +kernel)
set_option maxRecDepth 20000 in
theorem gX3_tryBeginning_J6_bitCount_0f7a4 : GoodIn wsX3_tryBeginning (va_wsS RX3 74 yJ6_bitCount_0f7a4 wsJ6_bitCount_0f7a4) := goodIn_app (goodIn_of _ (by decide +kernel)) ggX3_tryBeginning_J6_bitCount_0f7a4
end
section
/-! ARCS: the numbers of an arc, what it hits, the best one -/
theorem bit_in {a k : Nat} (ha : a < 1024) (hk : k < 10) : nI a &&& ((1 : Int32) <<< (nI k &&& 31)) = 0 ↔ ¬ a.testBit k = true := by
  rw [bit_shl k hk, nI_and, ← nI_0]
  have h1 : a &&& 2 ^ k < 2 ^ 31 := Nat.lt_of_le_of_lt Nat.and_le_left (by omega)
  rw [nI_eq h1 (by decide)]
  constructor
  · intro h t
    have : (a &&& 2 ^ k).testBit k = true := by rw [Nat.testBit_and, t, Nat.testBit_two_pow]; simp
    rw [h] at this
    simp at this
  · intro t
    apply Nat.eq_of_testBit_eq
    intro i
    rw [Nat.testBit_and, Nat.testBit_two_pow]
    by_cases e : k = i
    · subst e
      simp [t]
    · simp [e]
theorem bit_inF {a k : Nat} (ha : a < 1024) (hk : k < 10) (h : nI a &&& ((1 : Int32) <<< (nI k &&& 31)) = 0) : ¬ a.testBit k = true := (bit_in ha hk).mp h
theorem bit_inT {a k : Nat} (ha : a < 1024) (hk : k < 10) (h : ¬ nI a &&& ((1 : Int32) <<< (nI k &&& 31)) = 0) : a.testBit k = true := by
  by_cases t : a.testBit k = true
  · exact t
  · exact absurd ((bit_in ha hk).mpr t) h
theorem mk_in {P : Nat → Bool} {n k : Nat} (hk : k < n) : (mk P n).testBit k = P k := by rw [mk_tb]; simp [hk]
def tmL (M : Nat → Nat → Int32) (k : Nat) : Int64 := (M 0 k).toInt64
def upN (M : Nat → Nat → Int32) (w r s t : Nat) (u : Int64) : Int64 := (M (1 + w) r).toInt64 * (u - tmL M s) * (u - tmL M t) * (tmL M t - tmL M s) + (M (1 + w) s).toInt64 * (u - tmL M r) * (u - tmL M t) * (tmL M r - tmL M t) + (M (1 + w) t).toInt64 * (u - tmL M r) * (u - tmL M s) * (tmL M s - tmL M r)
def loN (M : Nat → Nat → Int32) (r s t : Nat) : Int64 := (tmL M s - tmL M r) * (tmL M t - tmL M r) * (tmL M t - tmL M s)
def abL (x : Int64) : Int64 := if 0 ≤ x then x else 0 - x
/-- how far an arc is from a photo, times its lower number -/
def awN (M : Nat → Nat → Int32) (w r s t q : Nat) : Int64 := upN M w r s t (tmL M q) - (M (1 + w) q).toInt64 * loN M r s t
def hitB (M : Nat → Nat → Int32) (r s t q : Nat) : Bool := decide (abL (awN M 0 r s t q) ≤ (M 3 q).toInt64 * abL (loN M r s t) ∧ abL (awN M 1 r s t q) ≤ (M 3 q).toInt64 * abL (loN M r s t))
theorem abL_pos {x : Int64} (h : 0 < x) : abL x = x := if_pos (Int64.le_of_lt h)
/-- how many of a set an arc hits -/
def sco (M : Nat → Nat → Int32) (P : Nat → Bool) (n r s t : Nat) : Nat := cnt (fun q => P q && hitB M r s t q) n
/-- three of a set, in order -/
def trio (P : Nat → Bool) (n r s t : Nat) : Prop := r < s ∧ s < t ∧ t < n ∧ P r = true ∧ P s = true ∧ P t = true
def cod (r s t : Nat) : Nat := 100 * r + 10 * s + t
/-- the best arc of those ahead of a place: it hits the most; of several the first -/
def bestTo (M : Nat → Nat → Int32) (P : Nat → Bool) (n c r s t : Nat) : Prop := trio P n r s t ∧ cod r s t < c ∧ (∀ r' s' t', trio P n r' s' t' → cod r' s' t' < c → sco M P n r' s' t' ≤ sco M P n r s t) ∧ ∀ r' s' t', trio P n r' s' t' → cod r' s' t' < cod r s t → sco M P n r' s' t' < sco M P n r s t
def isBest (M : Nat → Nat → Int32) (P : Nat → Bool) (n r s t : Nat) : Prop := bestTo M P n 1000 r s t
theorem cod_lt {P : Nat → Bool} {n r s t : Nat} (hn : n ≤ 10) (h : trio P n r s t) : cod r s t < 1000 := by
  obtain ⟨h1, h2, h3, -⟩ := h
  unfold cod
  omega
theorem cod_inj {P : Nat → Bool} {n r s t r' s' t' : Nat} (hn : n ≤ 10) (h : trio P n r s t) (h' : trio P n r' s' t') (e : cod r s t = cod r' s' t') : r = r' ∧ s = s' ∧ t = t' := by
  obtain ⟨h1, h2, h3, -⟩ := h
  obtain ⟨h4, h5, h6, -⟩ := h'
  unfold cod at e
  omega
theorem isBest.uniq {M : Nat → Nat → Int32} {P : Nat → Bool} {n r s t r' s' t' : Nat} (hn : n ≤ 10) (h : isBest M P n r s t) (h' : isBest M P n r' s' t') : r = r' ∧ s = s' ∧ t = t' := by
  obtain ⟨a1, a2, a3, a4⟩ := h
  obtain ⟨b1, b2, b3, b4⟩ := h'
  rcases Nat.lt_trichotomy (cod r s t) (cod r' s' t') with c | c | c
  · have := b4 r s t a1 c
    have := a3 r' s' t' b1 b2
    omega
  · exact cod_inj hn a1 b1 c
  · have := a4 r' s' t' b1 c
    have := b3 r s t a1 a2
    omega
theorem cnt_split (P Q : Nat → Bool) (n : Nat) : cnt (fun q => P q && Q q) n + cnt (fun q => P q && !Q q) n = cnt P n := by
  induction n with
  | zero => rfl
  | succ n ih =>
    show cnt _ n + (if (P n && Q n) = true then 1 else 0) + (cnt _ n + (if (P n && !Q n) = true then 1 else 0)) = cnt P n + (if P n = true then 1 else 0)
    rw [← ih]
    cases P n <;> cases Q n <;> simp <;> omega
end
section
/-! what holds of every state's photos; an arc's lower number is above 0, and it hits its own photos -/
def vld (n : Nat) (M : Nat → Nat → Int32) : Prop := (∀ k, k < n → (0 ≤ (M 0 k).toInt ∧ (M 0 k).toInt ≤ 99) ∧ (-400 ≤ (M 1 k).toInt ∧ (M 1 k).toInt ≤ 400) ∧ (-400 ≤ (M 2 k).toInt ∧ (M 2 k).toInt ≤ 400) ∧ (0 ≤ (M 3 k).toInt ∧ (M 3 k).toInt ≤ 40) ∧ (0 ≤ (M 4 k).toInt ∧ (M 4 k).toInt ≤ 360) ∧ (0 ≤ (M 5 k).toInt ∧ (M 5 k).toInt ≤ 60) ∧ (M 6 k = 0 ∨ M 6 k = 1)) ∧ ∀ i j, i < j → j < n → (M 0 i).toInt < (M 0 j).toInt
theorem L_mul {a b : Int64} (h1 : -9223372036854775808 ≤ a.toInt * b.toInt) (h2 : a.toInt * b.toInt < 9223372036854775808) : (a * b).toInt = a.toInt * b.toInt := by
  rw [Int64.toInt_mul]
  exact Int.bmod_eq_of_le (by omega) (by omega)
theorem L_sub {a b : Int64} (h1 : -9223372036854775808 ≤ a.toInt - b.toInt) (h2 : a.toInt - b.toInt < 9223372036854775808) : (a - b).toInt = a.toInt - b.toInt := by
  rw [Int64.toInt_sub]
  exact Int.bmod_eq_of_le (by omega) (by omega)
theorem L_pos {x : Int64} : 0 < x ↔ 0 < x.toInt := by
  rw [Int64.lt_iff_toInt_lt]
  rfl
theorem tm_toInt (M : Nat → Nat → Int32) (k : Nat) : (tmL M k).toInt = (M 0 k).toInt := Int32.toInt_toInt64 _
theorem prod_bound {a b B C : Int} (h1 : -B ≤ a) (h2 : a ≤ B) (h3 : -C ≤ b) (h4 : b ≤ C) : -(B * C) ≤ a * b ∧ a * b ≤ B * C := by
  have hB : 0 ≤ B := by omega
  have hC : 0 ≤ C := by omega
  have k1 : (a.natAbs : Int) ≤ B := by omega
  have k2 : (b.natAbs : Int) ≤ C := by omega
  have k3 : ((a * b).natAbs : Int) ≤ B * C := by
    rw [Int.natAbs_mul, Int.natCast_mul]
    exact Int.mul_le_mul k1 k2 (by omega) hB
  omega
theorem lo_toInt {n : Nat} {M : Nat → Nat → Int32} (hv : vld n M) {r s t : Nat} (hr : r < n) (hs : s < n) (ht : t < n) : (loN M r s t).toInt = ((M 0 s).toInt - (M 0 r).toInt) * ((M 0 t).toInt - (M 0 r).toInt) * ((M 0 t).toInt - (M 0 s).toInt) := by
  obtain ⟨a1, a2⟩ := (hv.1 r hr).1
  obtain ⟨b1, b2⟩ := (hv.1 s hs).1
  obtain ⟨c1, c2⟩ := (hv.1 t ht).1
  have e1 : (tmL M s - tmL M r).toInt = (M 0 s).toInt - (M 0 r).toInt := by rw [L_sub (by rw [tm_toInt, tm_toInt]; omega) (by rw [tm_toInt, tm_toInt]; omega), tm_toInt, tm_toInt]
  have e2 : (tmL M t - tmL M r).toInt = (M 0 t).toInt - (M 0 r).toInt := by rw [L_sub (by rw [tm_toInt, tm_toInt]; omega) (by rw [tm_toInt, tm_toInt]; omega), tm_toInt, tm_toInt]
  have e3 : (tmL M t - tmL M s).toInt = (M 0 t).toInt - (M 0 s).toInt := by rw [L_sub (by rw [tm_toInt, tm_toInt]; omega) (by rw [tm_toInt, tm_toInt]; omega), tm_toInt, tm_toInt]
  unfold loN
  generalize (M 0 r).toInt = x at *
  generalize (M 0 s).toInt = y at *
  generalize (M 0 t).toInt = z at *
  have g1 : -9801 ≤ (y - x) * (z - x) ∧ (y - x) * (z - x) ≤ 9801 := prod_bound (B := 99) (C := 99) (by omega) (by omega) (by omega) (by omega)
  have e4 : ((tmL M s - tmL M r) * (tmL M t - tmL M r)).toInt = (y - x) * (z - x) := by rw [L_mul (by rw [e1, e2]; omega) (by rw [e1, e2]; omega), e1, e2]
  have g2 : -970299 ≤ (y - x) * (z - x) * (z - y) ∧ (y - x) * (z - x) * (z - y) ≤ 970299 := prod_bound (B := 9801) (C := 99) (by omega) (by omega) (by omega) (by omega)
  rw [L_mul (by rw [e4, e3]; omega) (by rw [e4, e3]; omega), e4, e3]
theorem lo_pos {n : Nat} {M : Nat → Nat → Int32} (hv : vld n M) {r s t : Nat} (h1 : r < s) (h2 : s < t) (ht : t < n) : 0 < loN M r s t := by
  have a := hv.2 r s h1 (by omega)
  have b := hv.2 r t (by omega) ht
  have c := hv.2 s t h2 ht
  rw [L_pos, lo_toInt hv (by omega) (by omega) ht]
  exact Int.mul_pos (Int.mul_pos (by omega) (by omega)) (by omega)
theorem aw_own {M : Nat → Nat → Int32} {w r s t q : Nat} (h : q = r ∨ q = s ∨ q = t) : awN M w r s t q = 0 := by
  unfold awN upN loN
  rcases h with rfl | rfl | rfl
  · generalize (M (1 + w) q).toInt64 = a
    generalize (M (1 + w) s).toInt64 = b
    generalize (M (1 + w) t).toInt64 = c
    generalize tmL M q = x
    generalize tmL M s = y
    generalize tmL M t = z
    grind
  · generalize (M (1 + w) q).toInt64 = a
    generalize (M (1 + w) r).toInt64 = b
    generalize (M (1 + w) t).toInt64 = c
    generalize tmL M q = x
    generalize tmL M r = y
    generalize tmL M t = z
    grind
  · generalize (M (1 + w) q).toInt64 = a
    generalize (M (1 + w) r).toInt64 = b
    generalize (M (1 + w) s).toInt64 = c
    generalize tmL M q = x
    generalize tmL M r = y
    generalize tmL M s = z
    grind
theorem err_nn {n : Nat} {M : Nat → Nat → Int32} (hv : vld n M) {r s t q : Nat} (h1 : r < s) (h2 : s < t) (ht : t < n) (hq : q < n) : 0 ≤ (M 3 q).toInt64 * abL (loN M r s t) := by
  have hp := lo_pos hv h1 h2 ht
  obtain ⟨a1, a2⟩ := (hv.1 r (by omega)).1
  obtain ⟨b1, b2⟩ := (hv.1 s (by omega)).1
  obtain ⟨c1, c2⟩ := (hv.1 t ht).1
  obtain ⟨-, -, -, ⟨d1, d2⟩, -⟩ := hv.1 q hq
  have e0 := lo_toInt hv (show r < n by omega) (show s < n by omega) ht
  rw [abL_pos hp, Int64.le_iff_toInt_le]
  have hl := L_pos.mp hp
  have g1 := prod_bound (a := (M 0 s).toInt - (M 0 r).toInt) (b := (M 0 t).toInt - (M 0 r).toInt) (B := 99) (C := 99) (by omega) (by omega) (by omega) (by omega)
  have g2 := prod_bound (a := ((M 0 s).toInt - (M 0 r).toInt) * ((M 0 t).toInt - (M 0 r).toInt)) (b := (M 0 t).toInt - (M 0 s).toInt) (B := 9801) (C := 99) (by omega) (by omega) (by omega) (by omega)
  rw [← e0] at g2
  have e3 : (M 3 q).toInt64.toInt = (M 3 q).toInt := Int32.toInt_toInt64 _
  have g3 := prod_bound (a := (M 3 q).toInt) (b := (loN M r s t).toInt) (B := 40) (C := 970299) (by omega) (by omega) (by omega) (by omega)
  rw [L_mul (by rw [e3]; omega) (by rw [e3]; omega), e3]
  exact Int.mul_nonneg d1 (by omega)
theorem hit_own {n : Nat} {M : Nat → Nat → Int32} (hv : vld n M) {r s t q : Nat} (h1 : r < s) (h2 : s < t) (ht : t < n) (h : q = r ∨ q = s ∨ q = t) : hitB M r s t q = true := by
  have h9 := err_nn hv h1 h2 ht (q := q) (by omega)
  refine decide_eq_true ?_
  rw [aw_own h, aw_own h]
  exact ⟨h9, h9⟩
theorem cnt_pos {P : Nat → Bool} {n k : Nat} (hk : k < n) (h : P k = true) : 0 < cnt P n := by
  induction n with
  | zero => omega
  | succ n ih =>
    unfold cnt
    by_cases e : k = n
    · subst e
      rw [if_pos h]
      omega
    · have := ih (by omega)
      omega
theorem sco_pos {n : Nat} {M : Nat → Nat → Int32} (hv : vld n M) {P : Nat → Bool} {r s t : Nat} (h : trio P n r s t) : 0 < sco M P n r s t := by
  obtain ⟨h1, h2, h3, h4, -, -⟩ := h
  refine cnt_pos (k := r) (by omega) ?_
  rw [h4, hit_own hv h1 h2 h3 (Or.inl rfl)]
  rfl
/-- the mask of three -/
def m3 (r s t : Nat) : Nat := 2 ^ r ||| 2 ^ s ||| 2 ^ t
theorem m3_tb (r s t q : Nat) : (m3 r s t).testBit q = true ↔ q = r ∨ q = s ∨ q = t := by
  unfold m3
  rw [Nat.testBit_or, Nat.testBit_or, Nat.testBit_two_pow, Nat.testBit_two_pow, Nat.testBit_two_pow]
  simp only [Bool.or_eq_true, decide_eq_true_eq]
  omega
theorem m3_lt {r s t : Nat} (hr : r < 10) (hs : s < 10) (ht : t < 10) : m3 r s t < 1024 := by
  have h : ∀ k, k < 10 → 2 ^ k < 2 ^ 10 := fun k hk => Nat.pow_lt_pow_right (by decide) hk
  exact Nat.or_lt_two_pow (n := 10) (Nat.or_lt_two_pow (h r hr) (h s hs)) (h t ht)
theorem m3_ne {r s t : Nat} : ¬ m3 r s t = 0 := by
  intro h
  have := (m3_tb r s t r).mpr (Or.inl rfl)
  rw [h] at this
  simp at this
theorem m3_nI {r s t : Nat} (hr : r < 10) (hs : s < 10) (ht : t < 10) : ((1 : Int32) <<< (nI r &&& 31) ||| (1 : Int32) <<< (nI s &&& 31)) ||| (1 : Int32) <<< (nI t &&& 31) = nI (m3 r s t) := by
  rw [bit_shl r hr, bit_shl s hs, bit_shl t ht, nI_or, nI_or]
  rfl
theorem m3_sub {P : Nat → Bool} {n r s t : Nat} (hn : n ≤ 10) (hr : r < n) (hs : s < n) (ht : t < n) : nI (mk P n) &&& nI (m3 r s t) = nI (m3 r s t) ↔ P r = true ∧ P s = true ∧ P t = true := by
  have hm := m3_lt (r := r) (s := s) (t := t) (by omega) (by omega) (by omega)
  rw [nI_and, nI_eq (Nat.lt_of_le_of_lt Nat.and_le_right (by omega)) (by omega)]
  constructor
  · intro h
    have key : ∀ q, q < n → (q = r ∨ q = s ∨ q = t) → P q = true := by
      intro q hq h2
      have h3 := (m3_tb r s t q).mpr h2
      rw [← h, Nat.testBit_and, mk_in hq, Bool.and_eq_true] at h3
      exact h3.1
    exact ⟨key r hr (Or.inl rfl), key s hs (Or.inr (Or.inl rfl)), key t ht (Or.inr (Or.inr rfl))⟩
  · rintro ⟨h1, h2, h3⟩
    apply Nat.eq_of_testBit_eq
    intro q
    rw [Nat.testBit_and]
    by_cases h : (m3 r s t).testBit q = true
    · have hq := (m3_tb r s t q).mp h
      have : (mk P n).testBit q = true := by
        rcases hq with rfl | rfl | rfl
        · rw [mk_in hr, h1]
        · rw [mk_in hs, h2]
        · rw [mk_in ht, h3]
      rw [this, h]
      rfl
    · simp [h]
/-- the search for the best arc, as far as a place: f is the fewest missed, b the mask of the three -/
def bsf (M : Nat → Nat → Int32) (P : Nat → Bool) (n c : Nat) (f b : Int32) : Prop := (f = 10 ∧ b = 0 ∧ ∀ r s t, trio P n r s t → c ≤ cod r s t) ∨ ∃ r s t, bestTo M P n c r s t ∧ b = nI (m3 r s t) ∧ f = nI (cnt P n - sco M P n r s t)
theorem bestTo.mono {M : Nat → Nat → Int32} {P : Nat → Bool} {n c c' r s t : Nat} (h : bestTo M P n c r s t) (hc : c ≤ c') (hno : ∀ r s t, trio P n r s t → c ≤ cod r s t → c' ≤ cod r s t) : bestTo M P n c' r s t := by
  obtain ⟨h1, h2, h3, h4⟩ := h
  refine ⟨h1, by omega, fun r' s' t' ht hl => h3 r' s' t' ht ?_, h4⟩
  exact Nat.not_le.mp fun h => by have := hno r' s' t' ht h; omega
theorem bsf.mono {M : Nat → Nat → Int32} {P : Nat → Bool} {n c c' : Nat} {f b : Int32} (h : bsf M P n c f b) (hc : c ≤ c') (hno : ∀ r s t, trio P n r s t → c ≤ cod r s t → c' ≤ cod r s t) : bsf M P n c' f b := by
  rcases h with ⟨h1, h2, h3⟩ | ⟨r, s, t, h1, h2, h3⟩
  · exact Or.inl ⟨h1, h2, fun r s t ht => hno r s t ht (h3 r s t ht)⟩
  · exact Or.inr ⟨r, s, t, h1.mono hc hno, h2, h3⟩
theorem sco_le (M : Nat → Nat → Int32) (P : Nat → Bool) (n r s t : Nat) : sco M P n r s t ≤ cnt P n := by
  have := cnt_split P (hitB M r s t) n
  unfold sco
  omega
theorem mis_eq (M : Nat → Nat → Int32) (P : Nat → Bool) (n r s t : Nat) : cnt (pM M P r s t) n = cnt P n - sco M P n r s t := by
  have := cnt_split P (hitB M r s t) n
  unfold sco
  show cnt (fun q => P q && !hitB M r s t q) n = _
  omega
theorem bsf.take {M : Nat → Nat → Int32} {P : Nat → Bool} {n i j k : Nat} {f b x : Int32} (hn : n ≤ 10) (hv : vld n M) (h : bsf M P n (cod i j k) f b) (ht : trio P n i j k) (hx : x = nI (cnt (pM M P i j k) n)) (hlt : ¬ f ≤ x) : bsf M P n (cod i j (k + 1)) x (nI (m3 i j k)) := by
  have hc : cod i j (k + 1) = cod i j k + 1 := rfl
  rw [hc]
  refine Or.inr ⟨i, j, k, ?_, rfl, by rw [hx, mis_eq]⟩
  have h8 := cnt_le P n
  rw [hx, mis_eq] at hlt
  rcases h with ⟨h1, h2, h3⟩ | ⟨r, s, t, h1, h2, h3⟩
  · refine ⟨ht, Nat.lt_succ_self _, fun r' s' t' ht' hl => ?_, fun r' s' t' ht' hl => ?_⟩
    · have := h3 r' s' t' ht'
      obtain ⟨rfl, rfl, rfl⟩ := cod_inj hn ht' ht (by omega)
      exact Nat.le_refl _
    · have := h3 r' s' t' ht'
      omega
  · rw [h3, nI_leI (by omega) (by omega)] at hlt
    have h5 := sco_le M P n i j k
    have h6 := sco_le M P n r s t
    refine ⟨ht, Nat.lt_succ_self _, fun r' s' t' ht' hl => ?_, fun r' s' t' ht' hl => ?_⟩
    · by_cases e : cod r' s' t' = cod i j k
      · obtain ⟨rfl, rfl, rfl⟩ := cod_inj hn ht' ht e
        exact Nat.le_refl _
      · have := h1.2.2.1 r' s' t' ht' (by omega)
        omega
    · have := h1.2.2.1 r' s' t' ht' hl
      omega
theorem bsf.keep {M : Nat → Nat → Int32} {P : Nat → Bool} {n i j k : Nat} {f b x : Int32} (hn : n ≤ 10) (hv : vld n M) (h : bsf M P n (cod i j k) f b) (ht : trio P n i j k) (hx : x = nI (cnt (pM M P i j k) n)) (hle : f ≤ x) : bsf M P n (cod i j (k + 1)) f b := by
  have hc : cod i j (k + 1) = cod i j k + 1 := rfl
  rw [hc]
  have h8 := cnt_le P n
  rw [hx, mis_eq] at hle
  have h9 := sco_pos hv ht
  have h5 := sco_le M P n i j k
  rcases h with ⟨h1, h2, h3⟩ | ⟨r, s, t, h1, h2, h3⟩
  · exfalso
    rw [h1, show (10 : Int32) = nI 10 from rfl, nI_leI (by omega) (by omega)] at hle
    omega
  · rw [h3, nI_leI (by omega) (by omega)] at hle
    have h6 := sco_le M P n r s t
    refine Or.inr ⟨r, s, t, ⟨h1.1, by have := h1.2.1; omega, fun r' s' t' ht' hl => ?_, h1.2.2.2⟩, h2, h3⟩
    by_cases e : cod r' s' t' = cod i j k
    · obtain ⟨rfl, rfl, rfl⟩ := cod_inj hn ht' ht e
      omega
    · exact h1.2.2.1 r' s' t' ht' (by omega)
theorem bsf.skip {M : Nat → Nat → Int32} {P : Nat → Bool} {n i j k : Nat} {f b : Int32} (hn : n ≤ 10) (hij : i < j) (hjk : j < k) (hk : k < n) (h : bsf M P n (cod i j k) f b) (ht : ¬ trio P n i j k) : bsf M P n (cod i j (k + 1)) f b := by
  refine h.mono (by unfold cod; omega) (fun r s t h1 h2 => ?_)
  by_cases e : cod r s t = cod i j k
  · exfalso
    obtain ⟨a1, a2, a3, -⟩ := id h1
    have : r = i ∧ s = j ∧ t = k := by unfold cod at e; omega
    obtain ⟨rfl, rfl, rfl⟩ := this
    exact ht h1
  · unfold cod at *
    omega
end
section
set_option maxHeartbeats 4000000 in
set_option maxRecDepth 100000 in
/-- Integer.bitCount -/
theorem c_J6_bitCount_0f7a4 (l : Launch) (g : xG) (E : Nat → va_E) (x : Int32) : Met l yJ6_bitCount_0f7a4 wsJ6_bitCount_0f7a4 ({ frames := 0, cells := 0, slots := 0, locals := 0 }) (xPc g [.int x] E) (vp_Si (fun r => r = bcI x)) 0 0 (fun _ => False) := by
  refine x_met (ws' := _) (by decide) rfl (Nat.le_of_ble_eq_true rfl) ?_
  intro p e s m below meth c ls S hr hlocks hP hK hl
  have hl : lv_has ls 1 [(0, .int x)] := hl
  refine lv_iload_n S.1 S.2.1 dJ6_bitCount_0f7a4_0 rfl (lv_at hl 0 rfl) ?_
  refine lv_iload_n S.1 S.2.1 dJ6_bitCount_0f7a4_1 rfl (lv_at hl 0 rfl) ?_
  refine lv_iconst (v := 1) S.1 S.2.1 dJ6_bitCount_0f7a4_2 (by decide) ?_
  refine lv_iushr (v := ((x).toUInt32 >>> ((1 : Int32).toUInt32 &&& Int32.toUInt32 31)).toInt32) S.1 S.2.1 dJ6_bitCount_0f7a4_3 rfl ?_
  refine lv_ldcw S.1 S.2.1 S.2.2.2.1 (S.2.2.2.2 (.constant RJ6 265 1431655765) (by decide +kernel)) dJ6_bitCount_0f7a4_4 ?_
  refine lv_iand S.1 S.2.1 dJ6_bitCount_0f7a4_7 ?_
  refine lv_isub S.1 S.2.1 dJ6_bitCount_0f7a4_8 ?_
  refine lv_topi (fun x9 ex9 => ?_)
  refine lv_istore_n (lv' := [(0, .int x9)]) S.1 S.2.1 dJ6_bitCount_0f7a4_9 rfl hl (by decide) rfl (fun ls hl => ?_)
  refine lv_iload_n S.1 S.2.1 dJ6_bitCount_0f7a4_10 rfl (lv_at hl 0 rfl) ?_
  refine lv_ldcw S.1 S.2.1 S.2.2.2.1 (S.2.2.2.2 (.constant RJ6 266 858993459) (by decide +kernel)) dJ6_bitCount_0f7a4_11 ?_
  refine lv_iand S.1 S.2.1 dJ6_bitCount_0f7a4_14 ?_
  refine lv_iload_n S.1 S.2.1 dJ6_bitCount_0f7a4_15 rfl (lv_at hl 0 rfl) ?_
  refine lv_iconst (v := 2) S.1 S.2.1 dJ6_bitCount_0f7a4_16 (by decide) ?_
  refine lv_iushr (v := ((x9).toUInt32 >>> ((2 : Int32).toUInt32 &&& Int32.toUInt32 31)).toInt32) S.1 S.2.1 dJ6_bitCount_0f7a4_17 rfl ?_
  refine lv_ldcw S.1 S.2.1 S.2.2.2.1 (S.2.2.2.2 (.constant RJ6 266 858993459) (by decide +kernel)) dJ6_bitCount_0f7a4_18 ?_
  refine lv_iand S.1 S.2.1 dJ6_bitCount_0f7a4_21 ?_
  refine lv_iadd S.1 S.2.1 dJ6_bitCount_0f7a4_22 ?_
  refine lv_topi (fun x23 ex23 => ?_)
  refine lv_istore_n (lv' := [(0, .int x23)]) S.1 S.2.1 dJ6_bitCount_0f7a4_23 rfl hl (by decide) rfl (fun ls hl => ?_)
  refine lv_iload_n S.1 S.2.1 dJ6_bitCount_0f7a4_24 rfl (lv_at hl 0 rfl) ?_
  refine lv_iload_n S.1 S.2.1 dJ6_bitCount_0f7a4_25 rfl (lv_at hl 0 rfl) ?_
  refine lv_iconst (v := 4) S.1 S.2.1 dJ6_bitCount_0f7a4_26 (by decide) ?_
  refine lv_iushr (v := ((x23).toUInt32 >>> ((4 : Int32).toUInt32 &&& Int32.toUInt32 31)).toInt32) S.1 S.2.1 dJ6_bitCount_0f7a4_27 rfl ?_
  refine lv_iadd S.1 S.2.1 dJ6_bitCount_0f7a4_28 ?_
  refine lv_ldcw S.1 S.2.1 S.2.2.2.1 (S.2.2.2.2 (.constant RJ6 267 252645135) (by decide +kernel)) dJ6_bitCount_0f7a4_29 ?_
  refine lv_iand S.1 S.2.1 dJ6_bitCount_0f7a4_32 ?_
  refine lv_topi (fun x33 ex33 => ?_)
  refine lv_istore_n (lv' := [(0, .int x33)]) S.1 S.2.1 dJ6_bitCount_0f7a4_33 rfl hl (by decide) rfl (fun ls hl => ?_)
  refine lv_iload_n S.1 S.2.1 dJ6_bitCount_0f7a4_34 rfl (lv_at hl 0 rfl) ?_
  refine lv_iload_n S.1 S.2.1 dJ6_bitCount_0f7a4_35 rfl (lv_at hl 0 rfl) ?_
  refine lv_bipush (v := 8) S.1 S.2.1 dJ6_bitCount_0f7a4_36 (by decide) ?_
  refine lv_iushr (v := ((x33).toUInt32 >>> ((8 : Int32).toUInt32 &&& Int32.toUInt32 31)).toInt32) S.1 S.2.1 dJ6_bitCount_0f7a4_38 rfl ?_
  refine lv_iadd S.1 S.2.1 dJ6_bitCount_0f7a4_39 ?_
  refine lv_topi (fun x40 ex40 => ?_)
  refine lv_istore_n (lv' := [(0, .int x40)]) S.1 S.2.1 dJ6_bitCount_0f7a4_40 rfl hl (by decide) rfl (fun ls hl => ?_)
  refine lv_iload_n S.1 S.2.1 dJ6_bitCount_0f7a4_41 rfl (lv_at hl 0 rfl) ?_
  refine lv_iload_n S.1 S.2.1 dJ6_bitCount_0f7a4_42 rfl (lv_at hl 0 rfl) ?_
  refine lv_bipush (v := 16) S.1 S.2.1 dJ6_bitCount_0f7a4_43 (by decide) ?_
  refine lv_iushr (v := ((x40).toUInt32 >>> ((16 : Int32).toUInt32 &&& Int32.toUInt32 31)).toInt32) S.1 S.2.1 dJ6_bitCount_0f7a4_45 rfl ?_
  refine lv_iadd S.1 S.2.1 dJ6_bitCount_0f7a4_46 ?_
  refine lv_topi (fun x47 ex47 => ?_)
  refine lv_istore_n (lv' := [(0, .int x47)]) S.1 S.2.1 dJ6_bitCount_0f7a4_47 rfl hl (by decide) rfl (fun ls hl => ?_)
  refine lv_iload_n S.1 S.2.1 dJ6_bitCount_0f7a4_48 rfl (lv_at hl 0 rfl) ?_
  refine lv_bipush (v := 63) S.1 S.2.1 dJ6_bitCount_0f7a4_49 (by decide) ?_
  refine lv_iand S.1 S.2.1 dJ6_bitCount_0f7a4_51 ?_
  exact x_iretR S hr hlocks dJ6_bitCount_0f7a4_52 ((by subst ex47 ex40 ex33 ex23 ex9; rfl))
set_option maxHeartbeats 4000000 in
set_option maxRecDepth 100000 in
/-- Photos.holds -/
theorem c_X2_holds (l : Launch) (g : xG) (E : Nat → va_E) {b n : Nat} {M : Nat → Nat → Int32} (hp : ePh g E b n M) (x : Int32) : Met l yX2_holds wsX2_holds ({ frames := 0, cells := 0, slots := 0, locals := 0 }) (xPc g [.ref (xad g b), .int x] E) (vp_Si (xb (∃ k : Nat, k < n ∧ x = nI k))) 0 0 (fun _ => False) := by
  refine x_met (ws' := _) (by decide) rfl (Nat.le_of_ble_eq_true rfl) ?_
  intro p e s m below meth c ls S hr hlocks hP hK hl
  have hl : lv_has ls 2 [(0, .ref (xad g b)), (1, .int x)] := hl
  have hin2 : ∀ w ∈ u_ws RX2 TX2 2, w ∈ wsX2_holds := by decide +kernel
  have fl22 : Cond.fieldLink RX2 22 "DiscArcs$Photos" "size" "I" ∈ wsX2_holds := by decide +kernel
  refine lv_iload_n S.1 S.2.1 dX2_holds_0 rfl (lv_at hl 1 rfl) ?_
  refine lv_if_lt (tgt := 16) S.1 S.2.1 dX2_holds_1 (by decide) (fun c1 => ?_) (fun c1 => ?_)
  · skip
    refine lv_iconst (v := 0) S.1 S.2.1 dX2_holds_16 (by decide) ?_
    exact x_zretR S hr hlocks dX2_holds_17 (xb.zero (by first | exact hold_f hp.1.2 c9 | exact hold_n hp.1.2 c1))
  · skip
    refine lv_iload_n S.1 S.2.1 dX2_holds_4 rfl (lv_at hl 1 rfl) ?_
    refine lv_aload_n S.1 S.2.1 dX2_holds_5 rfl (lv_at hl 0 rfl) ?_
    refine x_get S hK hP dX2_holds_6 hp.2.1 (by have := hp.1; omega) (RX2, TX2, 2) rfl hin2 1 (by decide) fl22 rfl ?_
    refine lv_icmp_ge (tgt := 16) S.1 S.2.1 dX2_holds_9 (by decide) (fun c9 => ?_) (fun c9 => ?_)
    · skip
      refine lv_iconst (v := 0) S.1 S.2.1 dX2_holds_16 (by decide) ?_
      exact x_zretR S hr hlocks dX2_holds_17 (xb.zero (by first | exact hold_f hp.1.2 c9 | exact hold_n hp.1.2 c1))
    · skip
      refine lv_iconst (v := 1) S.1 S.2.1 dX2_holds_12 (by decide) ?_
      refine lv_goto (tgt := 17) S.1 S.2.1 dX2_holds_13 (by decide) ?_
      exact x_zretR S hr hlocks dX2_holds_17 (xb.one (hold_t hp.1.2 c1 c9))
set_option maxHeartbeats 4000000 in
set_option maxRecDepth 100000 in
/-- Photos.isUsable -/
theorem c_X2_isUsable (l : Launch) (g : xG) (E : Nat → va_E) {b n : Nat} {M : Nat → Nat → Int32} (hp : ePh g E b n M) {k : Nat} (hk : k < n) : Met l yX2_isUsable wsX2_isUsable ({ frames := 0, cells := 0, slots := 0, locals := 0 }) (xPc g [.ref (xad g b), .int (nI k)] E) (vp_Si (xb (pU M k = true))) 0 0 (fun _ => False) := by
  refine x_met (ws' := _) (by decide) rfl (Nat.le_of_ble_eq_true rfl) ?_
  intro p e s m below meth c ls S hr hlocks hP hK hl
  have hl : lv_has ls 2 [(0, .ref (xad g b)), (1, .int (nI k))] := hl
  have hin2 : ∀ w ∈ u_ws RX2 TX2 2, w ∈ wsX2_isUsable := by decide +kernel
  have fl11 : Cond.fieldLink RX2 11 "DiscArcs$Photos" "rows" "[[I" ∈ wsX2_isUsable := by decide +kernel
  have h0 := hp.1
  refine lv_aload_n S.1 S.2.1 dX2_isUsable_0 rfl (lv_at hl 0 rfl) ?_
  refine x_get S hK hP dX2_isUsable_1 hp.2.1 (by have := hp.1; omega) (RX2, TX2, 2) rfl hin2 0 (by decide) fl11 rfl ?_
  refine lv_bipush (v := 6) S.1 S.2.1 dX2_isUsable_4 (by decide) ?_
  refine x_row S hK hP dX2_isUsable_6 hp 6 rfl (by omega) ?_
  refine lv_iload_n S.1 S.2.1 dX2_isUsable_7 rfl (lv_at hl 1 rfl) ?_
  refine x_val S hK hP dX2_isUsable_8 hp (w := 6) k rfl (by omega) (by omega) ?_
  refine lv_if_ne (tgt := 16) S.1 S.2.1 dX2_isUsable_9 (by decide) (fun c9 => ?_) (fun c9 => ?_)
  · skip
    refine lv_iconst (v := 0) S.1 S.2.1 dX2_isUsable_16 (by decide) ?_
    exact x_zretR S hr hlocks dX2_isUsable_17 (xb.zero (fun h => c9 (of_decide_eq_true h)))
  · skip
    refine lv_iconst (v := 1) S.1 S.2.1 dX2_isUsable_12 (by decide) ?_
    refine lv_goto (tgt := 17) S.1 S.2.1 dX2_isUsable_13 (by decide) ?_
    exact x_zretR S hr hlocks dX2_isUsable_17 (xb.one (decide_eq_true c9))
set_option maxHeartbeats 4000000 in
set_option maxRecDepth 100000 in
/-- Photos.hasAngle -/
theorem c_X2_hasAngle (l : Launch) (g : xG) (E : Nat → va_E) {b n : Nat} {M : Nat → Nat → Int32} (hp : ePh g E b n M) {k : Nat} (hk : k < n) : Met l yX2_hasAngle wsX2_hasAngle ({ frames := 0, cells := 0, slots := 0, locals := 0 }) (xPc g [.ref (xad g b), .int (nI k)] E) (vp_Si (xb (¬ M 4 k = 360))) 0 0 (fun _ => False) := by
  refine x_met (ws' := _) (by decide) rfl (Nat.le_of_ble_eq_true rfl) ?_
  intro p e s m below meth c ls S hr hlocks hP hK hl
  have hl : lv_has ls 2 [(0, .ref (xad g b)), (1, .int (nI k))] := hl
  have hin2 : ∀ w ∈ u_ws RX2 TX2 2, w ∈ wsX2_hasAngle := by decide +kernel
  have fl11 : Cond.fieldLink RX2 11 "DiscArcs$Photos" "rows" "[[I" ∈ wsX2_hasAngle := by decide +kernel
  have h0 := hp.1
  refine lv_aload_n S.1 S.2.1 dX2_hasAngle_0 rfl (lv_at hl 0 rfl) ?_
  refine x_get S hK hP dX2_hasAngle_1 hp.2.1 (by have := hp.1; omega) (RX2, TX2, 2) rfl hin2 0 (by decide) fl11 rfl ?_
  refine lv_iconst (v := 4) S.1 S.2.1 dX2_hasAngle_4 (by decide) ?_
  refine x_row S hK hP dX2_hasAngle_5 hp 4 rfl (by omega) ?_
  refine lv_iload_n S.1 S.2.1 dX2_hasAngle_6 rfl (lv_at hl 1 rfl) ?_
  refine x_val S hK hP dX2_hasAngle_7 hp (w := 4) k rfl (by omega) (by omega) ?_
  refine lv_sipush (v := 360) S.1 S.2.1 dX2_hasAngle_8 (by decide) ?_
  refine lv_icmp_eq (tgt := 18) S.1 S.2.1 dX2_hasAngle_11 (by decide) (fun c11 => ?_) (fun c11 => ?_)
  · skip
    refine lv_iconst (v := 0) S.1 S.2.1 dX2_hasAngle_18 (by decide) ?_
    exact x_zretR S hr hlocks dX2_hasAngle_19 (xb.zero (fun h => h c11))
  · skip
    refine lv_iconst (v := 1) S.1 S.2.1 dX2_hasAngle_14 (by decide) ?_
    refine lv_goto (tgt := 19) S.1 S.2.1 dX2_hasAngle_15 (by decide) ?_
    exact x_zretR S hr hlocks dX2_hasAngle_19 (xb.one c11)
set_option maxHeartbeats 4000000 in
set_option maxRecDepth 100000 in
/-- Photos.isMarked -/
theorem c_X2_isMarked (l : Launch) (g : xG) (E : Nat → va_E) {b n : Nat} {M : Nat → Nat → Int32} (hp : ePh g E b n M) {k : Nat} (hk : k < n) : Met l yX2_isMarked wsX2_isMarked ({ frames := 1, cells := 0, slots := 0, locals := 21 }) (xPc g [.ref (xad g b), .int (nI k)] E) (vp_Si (xb (pK M k = true))) 0 0 (fun _ => False) := by
  refine x_met (ws' := _) (by decide) rfl (Nat.le_of_ble_eq_true rfl) ?_
  intro p e s m below meth c ls S hr hlocks hP hK hl
  have hl : lv_has ls 2 [(0, .ref (xad g b)), (1, .int (nI k))] := hl
  have h0 := hp.1
  refine lv_aload_n S.1 S.2.1 dX2_isMarked_0 rfl (lv_at hl 0 rfl) ?_
  refine lv_iload_n S.1 S.2.1 dX2_isMarked_1 rfl (lv_at hl 1 rfl) ?_
  refine x_si (va_runV (As := [.int (nI k)]) (rest := []) S (c_X2_isUsable l g E hp hk) (cwV 1 S.2.2.2.2 gX2_isMarked_X2_isUsable rfl rfl rfl (by decide +kernel) ⟨Nat.le_of_ble_eq_true rfl, Nat.le_of_ble_eq_true rfl⟩) (x_preV hK hP hp.2.1 (by have := hp.1; omega) rfl) rfl rfl hl.1 rfl (lv_room (Nat.le_of_ble_eq_true rfl)) dX2_isMarked_2 ⟨Nat.le_of_ble_eq_true rfl, Nat.le_of_ble_eq_true rfl⟩) (fun r2 hr2 => ?_)
  refine lv_if_eq (tgt := 20) S.1 S.2.1 dX2_isMarked_5 (by decide) (fun c5 => ?_) (fun c5 => ?_)
  · skip
    refine lv_iconst (v := 0) S.1 S.2.1 dX2_isMarked_20 (by decide) ?_
    exact x_zretR S hr hlocks dX2_isMarked_21 (xb.zero (fun h => by first | exact hr10.f c13 (of_decide_eq_true h).2 | exact hr2.f c5 (decide_eq_true (of_decide_eq_true h).1)))
  · skip
    refine lv_aload_n S.1 S.2.1 dX2_isMarked_8 rfl (lv_at hl 0 rfl) ?_
    refine lv_iload_n S.1 S.2.1 dX2_isMarked_9 rfl (lv_at hl 1 rfl) ?_
    refine x_si (va_runV (As := [.int (nI k)]) (rest := []) S (c_X2_hasAngle l g E hp hk) (cwV 1 S.2.2.2.2 gX2_isMarked_X2_hasAngle rfl rfl rfl (by decide +kernel) ⟨Nat.le_of_ble_eq_true rfl, Nat.le_of_ble_eq_true rfl⟩) (x_preV hK hP hp.2.1 (by have := hp.1; omega) rfl) rfl rfl hl.1 rfl (lv_room (Nat.le_of_ble_eq_true rfl)) dX2_isMarked_10 ⟨Nat.le_of_ble_eq_true rfl, Nat.le_of_ble_eq_true rfl⟩) (fun r10 hr10 => ?_)
    refine lv_if_eq (tgt := 20) S.1 S.2.1 dX2_isMarked_13 (by decide) (fun c13 => ?_) (fun c13 => ?_)
    · skip
      refine lv_iconst (v := 0) S.1 S.2.1 dX2_isMarked_20 (by decide) ?_
      exact x_zretR S hr hlocks dX2_isMarked_21 (xb.zero (fun h => by first | exact hr10.f c13 (of_decide_eq_true h).2 | exact hr2.f c5 (decide_eq_true (of_decide_eq_true h).1)))
    · skip
      refine lv_iconst (v := 1) S.1 S.2.1 dX2_isMarked_16 (by decide) ?_
      refine lv_goto (tgt := 21) S.1 S.2.1 dX2_isMarked_17 (by decide) ?_
      exact x_zretR S hr hlocks dX2_isMarked_21 (xb.one (decide_eq_true ⟨of_decide_eq_true (hr2.t c5), hr10.t c13⟩))
set_option maxHeartbeats 4000000 in
set_option maxRecDepth 100000 in
/-- Photos.usable -/
theorem c_X2_usable (l : Launch) (g : xG) (E : Nat → va_E) {b n : Nat} {M : Nat → Nat → Int32} (hp : ePh g E b n M)  : Met l yX2_usable wsX2_usable ({ frames := 1, cells := 0, slots := 0, locals := 21 }) (xPc g [.ref (xad g b)] E) (vp_Si (fun r => r = nI (mk (pU M) n))) 0 0 (fun _ => False) := by
  refine x_met (ws' := _) (by decide) rfl (Nat.le_of_ble_eq_true rfl) ?_
  intro p e s m below meth c ls S hr hlocks hP hK hl
  have hl : lv_has ls 3 [(0, .ref (xad g b))] := hl
  have hin2 : ∀ w ∈ u_ws RX2 TX2 2, w ∈ wsX2_usable := by decide +kernel
  have fl22 : Cond.fieldLink RX2 22 "DiscArcs$Photos" "size" "I" ∈ wsX2_usable := by decide +kernel
  have h0 := hp.1
  refine lv_iconst (v := 0) S.1 S.2.1 dX2_usable_0 (by decide) ?_
  refine lv_istore_n (lv' := [(1, .int 0), (0, .ref (xad g b))]) S.1 S.2.1 dX2_usable_1 rfl hl (by decide) rfl (fun ls hl => ?_)
  refine lv_iconst (v := 0) S.1 S.2.1 dX2_usable_2 (by decide) ?_
  refine lv_istore_n (lv' := [(2, .int 0), (1, .int 0), (0, .ref (xad g b))]) S.1 S.2.1 dX2_usable_3 rfl hl (by decide) rfl (fun ls hl => ?_)
  have loop4 : ∀ (d : Nat) (i : Nat), (hi : i ≤ n) → (n - i) < d → ∀ ls : Array Slot, lv_has ls 3 [(2, .int (nI i)), (1, .int (nI (mk (pU M) i))), (0, .ref (xad g b))] → W p l e ({ frames := 1, cells := 0, slots := 0, locals := 21 }) s m ([.ref (xad g b)] : List Value).toArray below meth c s.heap [] 0 0 (MQ below (vp_Si (fun r => r = nI (mk (pU M) n))) ([.ref (xad g b)] : List Value).toArray s 0 0 (fun _ => False)) (F0 m 4 ls []) := by
    intro d
    induction d with
    | zero => intro i hi hd; exact absurd hd (Nat.not_lt_zero _)
    | succ d ih4 =>
      intro i hi hd ls hl
      refine lv_iload_n S.1 S.2.1 dX2_usable_4 rfl (lv_at hl 0 rfl) ?_
      refine lv_aload_n S.1 S.2.1 dX2_usable_5 rfl (lv_at hl 2 rfl) ?_
      refine x_get S hK hP dX2_usable_6 hp.2.1 (by have := hp.1; omega) (RX2, TX2, 2) rfl hin2 1 (by decide) fl22 rfl ?_
      refine lv_icmp_ge (tgt := 32) S.1 S.2.1 dX2_usable_9 (by decide) (fun c9 => ?_) (fun c9 => ?_)
      · skip
        refine lv_iload_n S.1 S.2.1 dX2_usable_32 rfl (lv_at hl 1 rfl) ?_
        exact x_iretR S hr hlocks dX2_usable_33 ((by rw [show i = n from Nat.le_antisymm hi ((nI_leI (by omega) (by omega)).mp c9)]))
      · skip
        have hin : i < n := Nat.not_le.mp (fun h => c9 ((nI_leI (by omega) (by omega)).mpr h))
        refine lv_aload_n S.1 S.2.1 dX2_usable_12 rfl (lv_at hl 2 rfl) ?_
        refine lv_iload_n S.1 S.2.1 dX2_usable_13 rfl (lv_at hl 0 rfl) ?_
        refine x_si (va_runV (As := [.int (nI i)]) (rest := []) S (c_X2_isUsable l g E hp hin) (cwV 1 S.2.2.2.2 gX2_usable_X2_isUsable rfl rfl rfl (by decide +kernel) ⟨Nat.le_of_ble_eq_true rfl, Nat.le_of_ble_eq_true rfl⟩) (x_preV hK hP hp.2.1 (by have := hp.1; omega) rfl) rfl rfl hl.1 rfl (lv_room (Nat.le_of_ble_eq_true rfl)) dX2_usable_14 ⟨Nat.le_of_ble_eq_true rfl, Nat.le_of_ble_eq_true rfl⟩) (fun r14 hr14 => ?_)
        refine lv_if_eq (tgt := 26) S.1 S.2.1 dX2_usable_17 (by decide) (fun c17 => ?_) (fun c17 => ?_)
        · skip
          have e26 : nI (mk (pU M) i) = nI (mk (pU M) (i + 1)) := mk_skip (fun h => hr14.f c17 h)
          rw [e26] at hl
          refine lv_iinc (v := nI (i + 1)) (lv' := [(2, .int (nI (i + 1))), (1, .int (nI (mk (pU M) (i + 1)))), (0, .ref (xad g b))]) S.1 S.2.1 dX2_usable_26 hl (k := 0) rfl (show nI i + Int32.ofInt 1 = _ from nI_1 _) (by decide) rfl (fun ls hl => ?_)
          refine lv_goto (tgt := 4) S.1 S.2.1 dX2_usable_29 (by decide) ?_
          exact ih4 (i + 1) (by omega) (by omega) ls (lv_sub hl [0, 1, 2] rfl)
        · skip
          refine lv_iload_n S.1 S.2.1 dX2_usable_20 rfl (lv_at hl 1 rfl) ?_
          refine lv_iconst (v := 1) S.1 S.2.1 dX2_usable_21 (by decide) ?_
          refine lv_iload_n S.1 S.2.1 dX2_usable_22 rfl (lv_at hl 0 rfl) ?_
          refine lv_ishl S.1 S.2.1 dX2_usable_23 ?_
          refine lv_ior S.1 S.2.1 dX2_usable_24 ?_
          refine W.eq (g2 := F0 m 25 ls [.int (nI (mk (pU M) (i + 1)))]) (by rw [mk_step (by omega) (hr14.t c17)]) ?_
          refine lv_istore_n (lv' := [(1, .int (nI (mk (pU M) (i + 1)))), (2, .int (nI i)), (0, .ref (xad g b))]) S.1 S.2.1 dX2_usable_25 rfl hl (by decide) rfl (fun ls hl => ?_)
          refine lv_iinc (v := nI (i + 1)) (lv' := [(2, .int (nI (i + 1))), (1, .int (nI (mk (pU M) (i + 1)))), (0, .ref (xad g b))]) S.1 S.2.1 dX2_usable_26 hl (k := 1) rfl (show nI i + Int32.ofInt 1 = _ from nI_1 _) (by decide) rfl (fun ls hl => ?_)
          refine lv_goto (tgt := 4) S.1 S.2.1 dX2_usable_29 (by decide) ?_
          exact ih4 (i + 1) (by omega) (by omega) ls (lv_sub hl [0, 1, 2] rfl)
  exact loop4 _ 0 (Nat.zero_le _) (Nat.lt_succ_self _) ls (lv_sub hl [0, 1, 2] rfl)
set_option maxHeartbeats 4000000 in
set_option maxRecDepth 100000 in
/-- Photos.marked -/
theorem c_X2_marked (l : Launch) (g : xG) (E : Nat → va_E) {b n : Nat} {M : Nat → Nat → Int32} (hp : ePh g E b n M)  : Met l yX2_marked wsX2_marked ({ frames := 2, cells := 0, slots := 0, locals := 42 }) (xPc g [.ref (xad g b)] E) (vp_Si (fun r => r = nI (mk (pK M) n))) 0 0 (fun _ => False) := by
  refine x_met (ws' := _) (by decide) rfl (Nat.le_of_ble_eq_true rfl) ?_
  intro p e s m below meth c ls S hr hlocks hP hK hl
  have hl : lv_has ls 3 [(0, .ref (xad g b))] := hl
  have hin2 : ∀ w ∈ u_ws RX2 TX2 2, w ∈ wsX2_marked := by decide +kernel
  have fl22 : Cond.fieldLink RX2 22 "DiscArcs$Photos" "size" "I" ∈ wsX2_marked := by decide +kernel
  have h0 := hp.1
  refine lv_iconst (v := 0) S.1 S.2.1 dX2_marked_0 (by decide) ?_
  refine lv_istore_n (lv' := [(1, .int 0), (0, .ref (xad g b))]) S.1 S.2.1 dX2_marked_1 rfl hl (by decide) rfl (fun ls hl => ?_)
  refine lv_iconst (v := 0) S.1 S.2.1 dX2_marked_2 (by decide) ?_
  refine lv_istore_n (lv' := [(2, .int 0), (1, .int 0), (0, .ref (xad g b))]) S.1 S.2.1 dX2_marked_3 rfl hl (by decide) rfl (fun ls hl => ?_)
  have loop4 : ∀ (d : Nat) (i : Nat), (hi : i ≤ n) → (n - i) < d → ∀ ls : Array Slot, lv_has ls 3 [(2, .int (nI i)), (1, .int (nI (mk (pK M) i))), (0, .ref (xad g b))] → W p l e ({ frames := 2, cells := 0, slots := 0, locals := 42 }) s m ([.ref (xad g b)] : List Value).toArray below meth c s.heap [] 0 0 (MQ below (vp_Si (fun r => r = nI (mk (pK M) n))) ([.ref (xad g b)] : List Value).toArray s 0 0 (fun _ => False)) (F0 m 4 ls []) := by
    intro d
    induction d with
    | zero => intro i hi hd; exact absurd hd (Nat.not_lt_zero _)
    | succ d ih4 =>
      intro i hi hd ls hl
      refine lv_iload_n S.1 S.2.1 dX2_marked_4 rfl (lv_at hl 0 rfl) ?_
      refine lv_aload_n S.1 S.2.1 dX2_marked_5 rfl (lv_at hl 2 rfl) ?_
      refine x_get S hK hP dX2_marked_6 hp.2.1 (by have := hp.1; omega) (RX2, TX2, 2) rfl hin2 1 (by decide) fl22 rfl ?_
      refine lv_icmp_ge (tgt := 32) S.1 S.2.1 dX2_marked_9 (by decide) (fun c9 => ?_) (fun c9 => ?_)
      · skip
        refine lv_iload_n S.1 S.2.1 dX2_marked_32 rfl (lv_at hl 1 rfl) ?_
        exact x_iretR S hr hlocks dX2_marked_33 ((by rw [show i = n from Nat.le_antisymm hi ((nI_leI (by omega) (by omega)).mp c9)]))
      · skip
        have hin : i < n := Nat.not_le.mp (fun h => c9 ((nI_leI (by omega) (by omega)).mpr h))
        refine lv_aload_n S.1 S.2.1 dX2_marked_12 rfl (lv_at hl 2 rfl) ?_
        refine lv_iload_n S.1 S.2.1 dX2_marked_13 rfl (lv_at hl 0 rfl) ?_
        refine x_si (va_runV (As := [.int (nI i)]) (rest := []) S (c_X2_isMarked l g E hp hin) (cwV 1 S.2.2.2.2 gX2_marked_X2_isMarked rfl rfl rfl (by decide +kernel) ⟨Nat.le_of_ble_eq_true rfl, Nat.le_of_ble_eq_true rfl⟩) (x_preV hK hP hp.2.1 (by have := hp.1; omega) rfl) rfl rfl hl.1 rfl (lv_room (Nat.le_of_ble_eq_true rfl)) dX2_marked_14 ⟨Nat.le_of_ble_eq_true rfl, Nat.le_of_ble_eq_true rfl⟩) (fun r14 hr14 => ?_)
        refine lv_if_eq (tgt := 26) S.1 S.2.1 dX2_marked_17 (by decide) (fun c17 => ?_) (fun c17 => ?_)
        · skip
          have e26 : nI (mk (pK M) i) = nI (mk (pK M) (i + 1)) := mk_skip (fun h => hr14.f c17 h)
          rw [e26] at hl
          refine lv_iinc (v := nI (i + 1)) (lv' := [(2, .int (nI (i + 1))), (1, .int (nI (mk (pK M) (i + 1)))), (0, .ref (xad g b))]) S.1 S.2.1 dX2_marked_26 hl (k := 0) rfl (show nI i + Int32.ofInt 1 = _ from nI_1 _) (by decide) rfl (fun ls hl => ?_)
          refine lv_goto (tgt := 4) S.1 S.2.1 dX2_marked_29 (by decide) ?_
          exact ih4 (i + 1) (by omega) (by omega) ls (lv_sub hl [0, 1, 2] rfl)
        · skip
          refine lv_iload_n S.1 S.2.1 dX2_marked_20 rfl (lv_at hl 1 rfl) ?_
          refine lv_iconst (v := 1) S.1 S.2.1 dX2_marked_21 (by decide) ?_
          refine lv_iload_n S.1 S.2.1 dX2_marked_22 rfl (lv_at hl 0 rfl) ?_
          refine lv_ishl S.1 S.2.1 dX2_marked_23 ?_
          refine lv_ior S.1 S.2.1 dX2_marked_24 ?_
          refine W.eq (g2 := F0 m 25 ls [.int (nI (mk (pK M) (i + 1)))]) (by rw [mk_step (by omega) (hr14.t c17)]) ?_
          refine lv_istore_n (lv' := [(1, .int (nI (mk (pK M) (i + 1)))), (2, .int (nI i)), (0, .ref (xad g b))]) S.1 S.2.1 dX2_marked_25 rfl hl (by decide) rfl (fun ls hl => ?_)
          refine lv_iinc (v := nI (i + 1)) (lv' := [(2, .int (nI (i + 1))), (1, .int (nI (mk (pK M) (i + 1)))), (0, .ref (xad g b))]) S.1 S.2.1 dX2_marked_26 hl (k := 1) rfl (show nI i + Int32.ofInt 1 = _ from nI_1 _) (by decide) rfl (fun ls hl => ?_)
          refine lv_goto (tgt := 4) S.1 S.2.1 dX2_marked_29 (by decide) ?_
          exact ih4 (i + 1) (by omega) (by omega) ls (lv_sub hl [0, 1, 2] rfl)
  exact loop4 _ 0 (Nat.zero_le _) (Nat.lt_succ_self _) ls (lv_sub hl [0, 1, 2] rfl)
end
