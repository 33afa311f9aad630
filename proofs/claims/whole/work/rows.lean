section
-- PART A of kit/laws/SKELETON.whole.lean.txt, then names as claim/NAMES.whole.lean.txt prints them
-- ===== PART A: goes FIRST, ahead of the names: the tables' words, and 'selects' of the private methods out of them =====
/-- a private method of a class that the tables say can be made, by its rows of tables_1 -/
def lw_okq (q : MethodName × Nat) : Prop := (q.1.cls ≠ "java/lang/invoke/MethodHandle" ∧ q.1.cls ≠ "java/lang/invoke/VarHandle") ∧ Cond.instantiable q.1.cls q.2 ∈ tables_1 ∧ Cond.privateMethod q.1 ∈ tables_1 ∧ Cond.instanceMethod q.1 ∈ tables_1
theorem lw_p0 : lw_okq (⟨"ShapeMinima", "refuse", "(I)I"⟩, 8) := ⟨⟨by decide +kernel, by decide +kernel⟩, List.mem_of_getElem? (i := 14) (by decide +kernel), List.mem_of_getElem? (i := 198) (by decide +kernel), List.mem_of_getElem? (i := 199) (by decide +kernel)⟩
theorem lw_p1 : lw_okq (⟨"ShapeMinima", "refusalOfPlace", "(II)I"⟩, 8) := ⟨⟨by decide +kernel, by decide +kernel⟩, List.mem_of_getElem? (i := 14) (by decide +kernel), List.mem_of_getElem? (i := 213) (by decide +kernel), List.mem_of_getElem? (i := 214) (by decide +kernel)⟩
theorem lw_p2 : lw_okq (⟨"ShapeMinima$Index", "shapeNow", "(I)I"⟩, 6) := ⟨⟨by decide +kernel, by decide +kernel⟩, List.mem_of_getElem? (i := 61) (by decide +kernel), List.mem_of_getElem? (i := 264) (by decide +kernel), List.mem_of_getElem? (i := 265) (by decide +kernel)⟩
theorem lw_p3 : lw_okq (⟨"ShapeMinima", "refusalOfItem", "(I)I"⟩, 8) := ⟨⟨by decide +kernel, by decide +kernel⟩, List.mem_of_getElem? (i := 14) (by decide +kernel), List.mem_of_getElem? (i := 287) (by decide +kernel), List.mem_of_getElem? (i := 288) (by decide +kernel)⟩
theorem lw_p4 : lw_okq (⟨"ShapeMinima", "refusalOfRun", "(II)I"⟩, 8) := ⟨⟨by decide +kernel, by decide +kernel⟩, List.mem_of_getElem? (i := 14) (by decide +kernel), List.mem_of_getElem? (i := 291) (by decide +kernel), List.mem_of_getElem? (i := 292) (by decide +kernel)⟩
theorem lw_p5 : lw_okq (⟨"ShapeMinima$History", "loseOldest", "()V"⟩, 3) := ⟨⟨by decide +kernel, by decide +kernel⟩, List.mem_of_getElem? (i := 108) (by decide +kernel), List.mem_of_getElem? (i := 304) (by decide +kernel), List.mem_of_getElem? (i := 305) (by decide +kernel)⟩
theorem lw_p6 : lw_okq (⟨"ShapeMinima$Index", "rank", "(III)I"⟩, 6) := ⟨⟨by decide +kernel, by decide +kernel⟩, List.mem_of_getElem? (i := 61) (by decide +kernel), List.mem_of_getElem? (i := 374) (by decide +kernel), List.mem_of_getElem? (i := 375) (by decide +kernel)⟩
theorem lw_p7 : lw_okq (⟨"ShapeMinima$Index", "stepsToLeftWithin", "(II)I"⟩, 6) := ⟨⟨by decide +kernel, by decide +kernel⟩, List.mem_of_getElem? (i := 61) (by decide +kernel), List.mem_of_getElem? (i := 445) (by decide +kernel), List.mem_of_getElem? (i := 446) (by decide +kernel)⟩
theorem lw_p8 : lw_okq (⟨"ShapeMinima$Family", "countSizes", "()V"⟩, 8) := ⟨⟨by decide +kernel, by decide +kernel⟩, List.mem_of_getElem? (i := 127) (by decide +kernel), List.mem_of_getElem? (i := 468) (by decide +kernel), List.mem_of_getElem? (i := 469) (by decide +kernel)⟩
theorem lw_p9 : lw_okq (⟨"ShapeMinima$Family", "goTour", "()V"⟩, 8) := ⟨⟨by decide +kernel, by decide +kernel⟩, List.mem_of_getElem? (i := 127) (by decide +kernel), List.mem_of_getElem? (i := 473) (by decide +kernel), List.mem_of_getElem? (i := 474) (by decide +kernel)⟩
theorem lw_p10 : lw_okq (⟨"ShapeMinima$Family", "root", "()I"⟩, 8) := ⟨⟨by decide +kernel, by decide +kernel⟩, List.mem_of_getElem? (i := 127) (by decide +kernel), List.mem_of_getElem? (i := 477) (by decide +kernel), List.mem_of_getElem? (i := 478) (by decide +kernel)⟩
theorem lw_p11 : lw_okq (⟨"ShapeMinima$Family", "sonBehind", "(II)I"⟩, 8) := ⟨⟨by decide +kernel, by decide +kernel⟩, List.mem_of_getElem? (i := 127) (by decide +kernel), List.mem_of_getElem? (i := 482) (by decide +kernel), List.mem_of_getElem? (i := 483) (by decide +kernel)⟩
theorem lw_p12 : lw_okq (⟨"ShapeMinima", "refusalOfNodes", "(II)I"⟩, 8) := ⟨⟨by decide +kernel, by decide +kernel⟩, List.mem_of_getElem? (i := 14) (by decide +kernel), List.mem_of_getElem? (i := 491) (by decide +kernel), List.mem_of_getElem? (i := 492) (by decide +kernel)⟩
theorem lw_p13 : lw_okq (⟨"ShapeMinima$Index", "entries", "()I"⟩, 6) := ⟨⟨by decide +kernel, by decide +kernel⟩, List.mem_of_getElem? (i := 61) (by decide +kernel), List.mem_of_getElem? (i := 543) (by decide +kernel), List.mem_of_getElem? (i := 544) (by decide +kernel)⟩
theorem lw_p14 : lw_okq (⟨"ShapeMinima", "rowsThere", "()I"⟩, 8) := ⟨⟨by decide +kernel, by decide +kernel⟩, List.mem_of_getElem? (i := 14) (by decide +kernel), List.mem_of_getElem? (i := 547) (by decide +kernel), List.mem_of_getElem? (i := 548) (by decide +kernel)⟩
theorem lw_p15 : lw_okq (⟨"ShapeMinimaModel", "found", "(I)I"⟩, 22) := ⟨⟨by decide +kernel, by decide +kernel⟩, List.mem_of_getElem? (i := 571) (by decide +kernel), List.mem_of_getElem? (i := 654) (by decide +kernel), List.mem_of_getElem? (i := 655) (by decide +kernel)⟩
def lw_privs_1 : List (MethodName × Nat) := [(⟨"ShapeMinima", "refuse", "(I)I"⟩, 8), (⟨"ShapeMinima", "refusalOfPlace", "(II)I"⟩, 8), (⟨"ShapeMinima$Index", "shapeNow", "(I)I"⟩, 6), (⟨"ShapeMinima", "refusalOfItem", "(I)I"⟩, 8), (⟨"ShapeMinima", "refusalOfRun", "(II)I"⟩, 8), (⟨"ShapeMinima$History", "loseOldest", "()V"⟩, 3), (⟨"ShapeMinima$Index", "rank", "(III)I"⟩, 6), (⟨"ShapeMinima$Index", "stepsToLeftWithin", "(II)I"⟩, 6), (⟨"ShapeMinima$Family", "countSizes", "()V"⟩, 8), (⟨"ShapeMinima$Family", "goTour", "()V"⟩, 8), (⟨"ShapeMinima$Family", "root", "()I"⟩, 8), (⟨"ShapeMinima$Family", "sonBehind", "(II)I"⟩, 8), (⟨"ShapeMinima", "refusalOfNodes", "(II)I"⟩, 8), (⟨"ShapeMinima$Index", "entries", "()I"⟩, 6), (⟨"ShapeMinima", "rowsThere", "()I"⟩, 8), (⟨"ShapeMinimaModel", "found", "(I)I"⟩, 22)]
theorem lw_r1 : ∀ q ∈ lw_privs_1, lw_okq q := List.forall_mem_cons.mpr ⟨lw_p0, List.forall_mem_cons.mpr ⟨lw_p1, List.forall_mem_cons.mpr ⟨lw_p2, List.forall_mem_cons.mpr ⟨lw_p3, List.forall_mem_cons.mpr ⟨lw_p4, List.forall_mem_cons.mpr ⟨lw_p5, List.forall_mem_cons.mpr ⟨lw_p6, List.forall_mem_cons.mpr ⟨lw_p7, List.forall_mem_cons.mpr ⟨lw_p8, List.forall_mem_cons.mpr ⟨lw_p9, List.forall_mem_cons.mpr ⟨lw_p10, List.forall_mem_cons.mpr ⟨lw_p11, List.forall_mem_cons.mpr ⟨lw_p12, List.forall_mem_cons.mpr ⟨lw_p13, List.forall_mem_cons.mpr ⟨lw_p14, List.forall_mem_cons.mpr ⟨lw_p15, fun _ h => absurd h List.not_mem_nil⟩⟩⟩⟩⟩⟩⟩⟩⟩⟩⟩⟩⟩⟩⟩⟩
theorem lw_p16 : lw_okq (⟨"ShapeMinimaModel", "against", "(II)I"⟩, 22) := ⟨⟨by decide +kernel, by decide +kernel⟩, List.mem_of_getElem? (i := 571) (by decide +kernel), List.mem_of_getElem? (i := 662) (by decide +kernel), List.mem_of_getElem? (i := 663) (by decide +kernel)⟩
theorem lw_p17 : lw_okq (⟨"ShapeMinimaModel", "tells", "(II)I"⟩, 22) := ⟨⟨by decide +kernel, by decide +kernel⟩, List.mem_of_getElem? (i := 571) (by decide +kernel), List.mem_of_getElem? (i := 666) (by decide +kernel), List.mem_of_getElem? (i := 667) (by decide +kernel)⟩
theorem lw_p18 : lw_okq (⟨"ShapeMinimaModel", "isPart", "(III)Z"⟩, 22) := ⟨⟨by decide +kernel, by decide +kernel⟩, List.mem_of_getElem? (i := 571) (by decide +kernel), List.mem_of_getElem? (i := 682) (by decide +kernel), List.mem_of_getElem? (i := 683) (by decide +kernel)⟩
theorem lw_p19 : lw_okq (⟨"ShapeMinimaModel", "makesAll", "()V"⟩, 22) := ⟨⟨by decide +kernel, by decide +kernel⟩, List.mem_of_getElem? (i := 571) (by decide +kernel), List.mem_of_getElem? (i := 690) (by decide +kernel), List.mem_of_getElem? (i := 691) (by decide +kernel)⟩
theorem lw_p20 : lw_okq (⟨"ShapeMinimaModel", "blocks", "()I"⟩, 22) := ⟨⟨by decide +kernel, by decide +kernel⟩, List.mem_of_getElem? (i := 571) (by decide +kernel), List.mem_of_getElem? (i := 694) (by decide +kernel), List.mem_of_getElem? (i := 695) (by decide +kernel)⟩
theorem lw_p21 : lw_okq (⟨"ShapeMinimaModel", "shapeOfBlock", "(I)I"⟩, 22) := ⟨⟨by decide +kernel, by decide +kernel⟩, List.mem_of_getElem? (i := 571) (by decide +kernel), List.mem_of_getElem? (i := 698) (by decide +kernel), List.mem_of_getElem? (i := 699) (by decide +kernel)⟩
theorem lw_p22 : lw_okq (⟨"ShapeMinimaModel", "shapeOf", "(II)I"⟩, 22) := ⟨⟨by decide +kernel, by decide +kernel⟩, List.mem_of_getElem? (i := 571) (by decide +kernel), List.mem_of_getElem? (i := 702) (by decide +kernel), List.mem_of_getElem? (i := 703) (by decide +kernel)⟩
theorem lw_p23 : lw_okq (⟨"ShapeMinimaModel", "makes", "(I)V"⟩, 22) := ⟨⟨by decide +kernel, by decide +kernel⟩, List.mem_of_getElem? (i := 571) (by decide +kernel), List.mem_of_getElem? (i := 706) (by decide +kernel), List.mem_of_getElem? (i := 707) (by decide +kernel)⟩
theorem lw_p24 : lw_okq (⟨"ShapeMinimaModel", "isMade", "(I)Z"⟩, 22) := ⟨⟨by decide +kernel, by decide +kernel⟩, List.mem_of_getElem? (i := 571) (by decide +kernel), List.mem_of_getElem? (i := 710) (by decide +kernel), List.mem_of_getElem? (i := 711) (by decide +kernel)⟩
theorem lw_p25 : lw_okq (⟨"ShapeMinimaModel", "againstRun", "(II)I"⟩, 22) := ⟨⟨by decide +kernel, by decide +kernel⟩, List.mem_of_getElem? (i := 571) (by decide +kernel), List.mem_of_getElem? (i := 718) (by decide +kernel), List.mem_of_getElem? (i := 719) (by decide +kernel)⟩
theorem lw_p26 : lw_okq (⟨"ShapeMinimaModel", "leastOf", "(II)I"⟩, 22) := ⟨⟨by decide +kernel, by decide +kernel⟩, List.mem_of_getElem? (i := 571) (by decide +kernel), List.mem_of_getElem? (i := 750) (by decide +kernel), List.mem_of_getElem? (i := 751) (by decide +kernel)⟩
theorem lw_p27 : lw_okq (⟨"ShapeMinimaModel", "leftOf", "(I)I"⟩, 22) := ⟨⟨by decide +kernel, by decide +kernel⟩, List.mem_of_getElem? (i := 571) (by decide +kernel), List.mem_of_getElem? (i := 762) (by decide +kernel), List.mem_of_getElem? (i := 763) (by decide +kernel)⟩
theorem lw_p28 : lw_okq (⟨"ShapeMinimaModel", "rightOf", "(I)I"⟩, 22) := ⟨⟨by decide +kernel, by decide +kernel⟩, List.mem_of_getElem? (i := 571) (by decide +kernel), List.mem_of_getElem? (i := 770) (by decide +kernel), List.mem_of_getElem? (i := 771) (by decide +kernel)⟩
theorem lw_p29 : lw_okq (⟨"ShapeMinimaModel", "ownsOf", "(I)I"⟩, 22) := ⟨⟨by decide +kernel, by decide +kernel⟩, List.mem_of_getElem? (i := 571) (by decide +kernel), List.mem_of_getElem? (i := 778) (by decide +kernel), List.mem_of_getElem? (i := 779) (by decide +kernel)⟩
theorem lw_p30 : lw_okq (⟨"ShapeMinimaModel", "depthOf", "(I)I"⟩, 22) := ⟨⟨by decide +kernel, by decide +kernel⟩, List.mem_of_getElem? (i := 571) (by decide +kernel), List.mem_of_getElem? (i := 790) (by decide +kernel), List.mem_of_getElem? (i := 791) (by decide +kernel)⟩
theorem lw_p31 : lw_okq (⟨"ShapeMinimaModel", "takenOff", "(II)I"⟩, 22) := ⟨⟨by decide +kernel, by decide +kernel⟩, List.mem_of_getElem? (i := 571) (by decide +kernel), List.mem_of_getElem? (i := 810) (by decide +kernel), List.mem_of_getElem? (i := 811) (by decide +kernel)⟩
def lw_privs_2 : List (MethodName × Nat) := [(⟨"ShapeMinimaModel", "against", "(II)I"⟩, 22), (⟨"ShapeMinimaModel", "tells", "(II)I"⟩, 22), (⟨"ShapeMinimaModel", "isPart", "(III)Z"⟩, 22), (⟨"ShapeMinimaModel", "makesAll", "()V"⟩, 22), (⟨"ShapeMinimaModel", "blocks", "()I"⟩, 22), (⟨"ShapeMinimaModel", "shapeOfBlock", "(I)I"⟩, 22), (⟨"ShapeMinimaModel", "shapeOf", "(II)I"⟩, 22), (⟨"ShapeMinimaModel", "makes", "(I)V"⟩, 22), (⟨"ShapeMinimaModel", "isMade", "(I)Z"⟩, 22), (⟨"ShapeMinimaModel", "againstRun", "(II)I"⟩, 22), (⟨"ShapeMinimaModel", "leastOf", "(II)I"⟩, 22), (⟨"ShapeMinimaModel", "leftOf", "(I)I"⟩, 22), (⟨"ShapeMinimaModel", "rightOf", "(I)I"⟩, 22), (⟨"ShapeMinimaModel", "ownsOf", "(I)I"⟩, 22), (⟨"ShapeMinimaModel", "depthOf", "(I)I"⟩, 22), (⟨"ShapeMinimaModel", "takenOff", "(II)I"⟩, 22)]
theorem lw_r2 : ∀ q ∈ lw_privs_2, lw_okq q := List.forall_mem_cons.mpr ⟨lw_p16, List.forall_mem_cons.mpr ⟨lw_p17, List.forall_mem_cons.mpr ⟨lw_p18, List.forall_mem_cons.mpr ⟨lw_p19, List.forall_mem_cons.mpr ⟨lw_p20, List.forall_mem_cons.mpr ⟨lw_p21, List.forall_mem_cons.mpr ⟨lw_p22, List.forall_mem_cons.mpr ⟨lw_p23, List.forall_mem_cons.mpr ⟨lw_p24, List.forall_mem_cons.mpr ⟨lw_p25, List.forall_mem_cons.mpr ⟨lw_p26, List.forall_mem_cons.mpr ⟨lw_p27, List.forall_mem_cons.mpr ⟨lw_p28, List.forall_mem_cons.mpr ⟨lw_p29, List.forall_mem_cons.mpr ⟨lw_p30, List.forall_mem_cons.mpr ⟨lw_p31, fun _ h => absurd h List.not_mem_nil⟩⟩⟩⟩⟩⟩⟩⟩⟩⟩⟩⟩⟩⟩⟩⟩
theorem lw_p32 : lw_okq (⟨"ShapeMinimaModel", "isTree", "(I)Z"⟩, 22) := ⟨⟨by decide +kernel, by decide +kernel⟩, List.mem_of_getElem? (i := 571) (by decide +kernel), List.mem_of_getElem? (i := 818) (by decide +kernel), List.mem_of_getElem? (i := 819) (by decide +kernel)⟩
theorem lw_p33 : lw_okq (⟨"ShapeMinimaModel", "againstNodes", "(II)I"⟩, 22) := ⟨⟨by decide +kernel, by decide +kernel⟩, List.mem_of_getElem? (i := 571) (by decide +kernel), List.mem_of_getElem? (i := 826) (by decide +kernel), List.mem_of_getElem? (i := 827) (by decide +kernel)⟩
theorem lw_p34 : lw_okq (⟨"ShapeMinimaModel", "isNode", "(I)Z"⟩, 22) := ⟨⟨by decide +kernel, by decide +kernel⟩, List.mem_of_getElem? (i := 571) (by decide +kernel), List.mem_of_getElem? (i := 830) (by decide +kernel), List.mem_of_getElem? (i := 831) (by decide +kernel)⟩
theorem lw_p35 : lw_okq (⟨"ShapeMinimaModel", "meeting", "(II)I"⟩, 22) := ⟨⟨by decide +kernel, by decide +kernel⟩, List.mem_of_getElem? (i := 571) (by decide +kernel), List.mem_of_getElem? (i := 834) (by decide +kernel), List.mem_of_getElem? (i := 835) (by decide +kernel)⟩
theorem lw_p36 : lw_okq (⟨"ShapeMinimaModel", "deepness", "(I)I"⟩, 22) := ⟨⟨by decide +kernel, by decide +kernel⟩, List.mem_of_getElem? (i := 571) (by decide +kernel), List.mem_of_getElem? (i := 838) (by decide +kernel), List.mem_of_getElem? (i := 839) (by decide +kernel)⟩
theorem lw_p37 : lw_okq (⟨"ShapeMinimaModel", "upTo", "(II)I"⟩, 22) := ⟨⟨by decide +kernel, by decide +kernel⟩, List.mem_of_getElem? (i := 571) (by decide +kernel), List.mem_of_getElem? (i := 842) (by decide +kernel), List.mem_of_getElem? (i := 843) (by decide +kernel)⟩
theorem lw_p38 : lw_okq (⟨"ShapeMinimaModel", "below", "(I)I"⟩, 22) := ⟨⟨by decide +kernel, by decide +kernel⟩, List.mem_of_getElem? (i := 571) (by decide +kernel), List.mem_of_getElem? (i := 858) (by decide +kernel), List.mem_of_getElem? (i := 859) (by decide +kernel)⟩
theorem lw_p39 : lw_okq (⟨"ShapeMinimaModel", "isBelow", "(II)Z"⟩, 22) := ⟨⟨by decide +kernel, by decide +kernel⟩, List.mem_of_getElem? (i := 571) (by decide +kernel), List.mem_of_getElem? (i := 862) (by decide +kernel), List.mem_of_getElem? (i := 863) (by decide +kernel)⟩
theorem lw_p40 : lw_okq (⟨"ShapeMinimaModel", "firstMet", "(I)I"⟩, 22) := ⟨⟨by decide +kernel, by decide +kernel⟩, List.mem_of_getElem? (i := 571) (by decide +kernel), List.mem_of_getElem? (i := 866) (by decide +kernel), List.mem_of_getElem? (i := 867) (by decide +kernel)⟩
theorem lw_p41 : lw_okq (⟨"ShapeMinimaModel", "countOf", "(I)I"⟩, 22) := ⟨⟨by decide +kernel, by decide +kernel⟩, List.mem_of_getElem? (i := 571) (by decide +kernel), List.mem_of_getElem? (i := 878) (by decide +kernel), List.mem_of_getElem? (i := 879) (by decide +kernel)⟩
theorem lw_p42 : lw_okq (⟨"ShapeMinimaModel", "shapesNow", "()I"⟩, 22) := ⟨⟨by decide +kernel, by decide +kernel⟩, List.mem_of_getElem? (i := 571) (by decide +kernel), List.mem_of_getElem? (i := 882) (by decide +kernel), List.mem_of_getElem? (i := 883) (by decide +kernel)⟩
theorem lw_p43 : lw_okq (⟨"ShapeMinimaModel", "levels", "()I"⟩, 22) := ⟨⟨by decide +kernel, by decide +kernel⟩, List.mem_of_getElem? (i := 571) (by decide +kernel), List.mem_of_getElem? (i := 886) (by decide +kernel), List.mem_of_getElem? (i := 887) (by decide +kernel)⟩
theorem lw_p44 : lw_okq (⟨"ShapeMinimaModel", "bits", "()I"⟩, 22) := ⟨⟨by decide +kernel, by decide +kernel⟩, List.mem_of_getElem? (i := 571) (by decide +kernel), List.mem_of_getElem? (i := 890) (by decide +kernel), List.mem_of_getElem? (i := 891) (by decide +kernel)⟩
theorem lw_p45 : lw_okq (⟨"ShapeMinimaModel", "rowsThere", "()I"⟩, 22) := ⟨⟨by decide +kernel, by decide +kernel⟩, List.mem_of_getElem? (i := 571) (by decide +kernel), List.mem_of_getElem? (i := 894) (by decide +kernel), List.mem_of_getElem? (i := 895) (by decide +kernel)⟩
def lw_privs_3 : List (MethodName × Nat) := [(⟨"ShapeMinimaModel", "isTree", "(I)Z"⟩, 22), (⟨"ShapeMinimaModel", "againstNodes", "(II)I"⟩, 22), (⟨"ShapeMinimaModel", "isNode", "(I)Z"⟩, 22), (⟨"ShapeMinimaModel", "meeting", "(II)I"⟩, 22), (⟨"ShapeMinimaModel", "deepness", "(I)I"⟩, 22), (⟨"ShapeMinimaModel", "upTo", "(II)I"⟩, 22), (⟨"ShapeMinimaModel", "below", "(I)I"⟩, 22), (⟨"ShapeMinimaModel", "isBelow", "(II)Z"⟩, 22), (⟨"ShapeMinimaModel", "firstMet", "(I)I"⟩, 22), (⟨"ShapeMinimaModel", "countOf", "(I)I"⟩, 22), (⟨"ShapeMinimaModel", "shapesNow", "()I"⟩, 22), (⟨"ShapeMinimaModel", "levels", "()I"⟩, 22), (⟨"ShapeMinimaModel", "bits", "()I"⟩, 22), (⟨"ShapeMinimaModel", "rowsThere", "()I"⟩, 22)]
theorem lw_r3 : ∀ q ∈ lw_privs_3, lw_okq q := List.forall_mem_cons.mpr ⟨lw_p32, List.forall_mem_cons.mpr ⟨lw_p33, List.forall_mem_cons.mpr ⟨lw_p34, List.forall_mem_cons.mpr ⟨lw_p35, List.forall_mem_cons.mpr ⟨lw_p36, List.forall_mem_cons.mpr ⟨lw_p37, List.forall_mem_cons.mpr ⟨lw_p38, List.forall_mem_cons.mpr ⟨lw_p39, List.forall_mem_cons.mpr ⟨lw_p40, List.forall_mem_cons.mpr ⟨lw_p41, List.forall_mem_cons.mpr ⟨lw_p42, List.forall_mem_cons.mpr ⟨lw_p43, List.forall_mem_cons.mpr ⟨lw_p44, List.forall_mem_cons.mpr ⟨lw_p45, fun _ h => absurd h List.not_mem_nil⟩⟩⟩⟩⟩⟩⟩⟩⟩⟩⟩⟩⟩⟩
def lw_privs : List (MethodName × Nat) := lw_privs_1 ++ (lw_privs_2 ++ (lw_privs_3))
def lw_tbl : List Cond := k2_sels lw_privs ++ tables_1
theorem lw_privs_ok : ∀ q ∈ lw_privs, lw_okq q := by
  show ∀ q ∈ lw_privs_1 ++ (lw_privs_2 ++ (lw_privs_3)), lw_okq q
  exact List.forall_mem_append.mpr ⟨lw_r1, List.forall_mem_append.mpr ⟨lw_r2, lw_r3⟩⟩

def RX0 : String := "ShapeMinima$Family"
def TX0 : u_T := fun k => match k with
  | 0 => ("ShapeMinima$Family", "parents", "[I", true)
  | 1 => ("ShapeMinima$Family", "depths", "[I", true)
  | 2 => ("ShapeMinima$Family", "sizes", "[I", true)
  | 3 => ("ShapeMinima$Family", "firsts", "[I", true)
  | 4 => ("ShapeMinima$Family", "met", "[I", true)
  | 5 => ("ShapeMinima$Family", "metDepths", "LShapeMinima$Row;", true)
  | 6 => ("ShapeMinima$Family", "tour", "LShapeMinima$Index;", true)
  | _ => ("ShapeMinima$Family", "nodes", "I", false)
def tyX0 : Nat → FieldType := fun k => match k with
  | 0 => .array .int
  | 1 => .array .int
  | 2 => .array .int
  | 3 => .array .int
  | 4 => .array .int
  | 5 => .object "ShapeMinima$Row"
  | 6 => .object "ShapeMinima$Index"
  | _ => .int
theorem nmX0 : ∀ a, a < 8 → ∀ b, b < 8 → a ≠ b → (TX0 a).2.1 ≠ (TX0 b).2.1 := by decide +kernel
theorem tyX0_ok : ∀ k, k < 8 → parseFieldDescriptor (TX0 k).2.2.1 = some (tyX0 k) := by decide +kernel
abbrev cX0_init : ByteArray := prog_2_method_1_code
def yX0_init : MethodName := ⟨RX0, "<init>", "()V"⟩
abbrev cX0_lacks : ByteArray := prog_2_method_2_code
def yX0_lacks : MethodName := ⟨RX0, "lacks", "(I)Z"⟩
abbrev cX0_isTold : ByteArray := prog_2_method_3_code
def yX0_isTold : MethodName := ⟨RX0, "isTold", "(LShapeMinima$Row;)Z"⟩
abbrev cX0_allComeToTheRoot : ByteArray := prog_2_method_4_code
def yX0_allComeToTheRoot : MethodName := ⟨RX0, "allComeToTheRoot", "(LShapeMinima$Row;)Z"⟩
abbrev cX0_stepsToTheRoot : ByteArray := prog_2_method_5_code
def yX0_stepsToTheRoot : MethodName := ⟨RX0, "stepsToTheRoot", "([III)I"⟩
abbrev cX0_becomeTold : ByteArray := prog_2_method_6_code
def yX0_becomeTold : MethodName := ⟨RX0, "becomeTold", "(LShapeMinima$Row;)V"⟩
abbrev cX0_countSizes : ByteArray := prog_2_method_7_code
def yX0_countSizes : MethodName := ⟨RX0, "countSizes", "()V"⟩
abbrev cX0_root : ByteArray := prog_2_method_8_code
def yX0_root : MethodName := ⟨RX0, "root", "()I"⟩
abbrev cX0_goTour : ByteArray := prog_2_method_9_code
def yX0_goTour : MethodName := ⟨RX0, "goTour", "()V"⟩
abbrev cX0_sonBehind : ByteArray := prog_2_method_10_code
def yX0_sonBehind : MethodName := ⟨RX0, "sonBehind", "(II)I"⟩
abbrev cX0_meetingNode : ByteArray := prog_2_method_11_code
def yX0_meetingNode : MethodName := ⟨RX0, "meetingNode", "(II)I"⟩
abbrev cX0_ancestorAt : ByteArray := prog_2_method_12_code
def yX0_ancestorAt : MethodName := ⟨RX0, "ancestorAt", "(II)I"⟩
def RX1 : String := "ShapeMinima$History"
def TX1 : u_T := fun k => match k with
  | 0 => ("ShapeMinima$History", "places", "[I", true)
  | 1 => ("ShapeMinima$History", "olds", "[I", true)
  | _ => ("ShapeMinima$History", "many", "I", false)
def tyX1 : Nat → FieldType := fun k => match k with
  | 0 => .array .int
  | 1 => .array .int
  | _ => .int
theorem nmX1 : ∀ a, a < 3 → ∀ b, b < 3 → a ≠ b → (TX1 a).2.1 ≠ (TX1 b).2.1 := by decide +kernel
theorem tyX1_ok : ∀ k, k < 3 → parseFieldDescriptor (TX1 k).2.2.1 = some (tyX1 k) := by decide +kernel
abbrev cX1_init : ByteArray := prog_3_method_1_code
def yX1_init : MethodName := ⟨RX1, "<init>", "()V"⟩
abbrev cX1_forget : ByteArray := prog_3_method_2_code
def yX1_forget : MethodName := ⟨RX1, "forget", "()V"⟩
abbrev cX1_remember : ByteArray := prog_3_method_3_code
def yX1_remember : MethodName := ⟨RX1, "remember", "(II)V"⟩
abbrev cX1_loseOldest : ByteArray := prog_3_method_4_code
def yX1_loseOldest : MethodName := ⟨RX1, "loseOldest", "()V"⟩
def RX2 : String := "ShapeMinima$Image"
def TX2 : u_T := fun k => match k with
  | 0 => ("ShapeMinima$Image", "items", "LShapeMinima$Row;", true)
  | _ => ("ShapeMinima$Image", "width", "I", false)
def tyX2 : Nat → FieldType := fun k => match k with
  | 0 => .object "ShapeMinima$Row"
  | _ => .int
theorem nmX2 : ∀ a, a < 2 → ∀ b, b < 2 → a ≠ b → (TX2 a).2.1 ≠ (TX2 b).2.1 := by decide +kernel
theorem tyX2_ok : ∀ k, k < 2 → parseFieldDescriptor (TX2 k).2.2.1 = some (tyX2 k) := by decide +kernel
abbrev cX2_init : ByteArray := prog_4_method_1_code
def yX2_init : MethodName := ⟨RX2, "<init>", "()V"⟩
def RX3 : String := "ShapeMinima$Index"
def TX3 : u_T := fun k => match k with
  | 0 => ("ShapeMinima$Index", "items", "LShapeMinima$Row;", true)
  | 1 => ("ShapeMinima$Index", "shapes", "[I", true)
  | 2 => ("ShapeMinima$Index", "made", "LShapeMinima$ShapeSet;", true)
  | 3 => ("ShapeMinima$Index", "pile", "[I", true)
  | 4 => ("ShapeMinima$Index", "width", "I", false)
  | _ => ("ShapeMinima$Index", "blocks", "I", false)
def tyX3 : Nat → FieldType := fun k => match k with
  | 0 => .object "ShapeMinima$Row"
  | 1 => .array .int
  | 2 => .object "ShapeMinima$ShapeSet"
  | 3 => .array .int
  | 4 => .int
  | _ => .int
theorem nmX3 : ∀ a, a < 6 → ∀ b, b < 6 → a ≠ b → (TX3 a).2.1 ≠ (TX3 b).2.1 := by decide +kernel
theorem tyX3_ok : ∀ k, k < 6 → parseFieldDescriptor (TX3 k).2.2.1 = some (tyX3 k) := by decide +kernel
abbrev cX3_init : ByteArray := prog_5_method_1_code
def yX3_init : MethodName := ⟨RX3, "<init>", "()V"⟩
abbrev cX3_isNone : ByteArray := prog_5_method_2_code
def yX3_isNone : MethodName := ⟨RX3, "isNone", "()Z"⟩
abbrev cX3_becomeOver : ByteArray := prog_5_method_3_code
def yX3_becomeOver : MethodName := ⟨RX3, "becomeOver", "(LShapeMinima$Row;I)V"⟩
abbrev cX3_change : ByteArray := prog_5_method_4_code
def yX3_change : MethodName := ⟨RX3, "change", "(II)Z"⟩
abbrev cX3_shapeNow : ByteArray := prog_5_method_5_code
def yX3_shapeNow : MethodName := ⟨RX3, "shapeNow", "(I)I"⟩
abbrev cX3_tableEntry : ByteArray := prog_5_method_6_code
def yX3_tableEntry : MethodName := ⟨RX3, "tableEntry", "(III)I"⟩
abbrev cX3_leadingDigit : ByteArray := prog_5_method_7_code
def yX3_leadingDigit : MethodName := ⟨RX3, "leadingDigit", "(I)I"⟩
abbrev cX3_unlikeShapes : ByteArray := prog_5_method_8_code
def yX3_unlikeShapes : MethodName := ⟨RX3, "unlikeShapes", "()I"⟩
abbrev cX3_levels : ByteArray := prog_5_method_9_code
def yX3_levels : MethodName := ⟨RX3, "levels", "()I"⟩
abbrev cX3_entries : ByteArray := prog_5_method_10_code
def yX3_entries : MethodName := ⟨RX3, "entries", "()I"⟩
abbrev cX3_bits : ByteArray := prog_5_method_11_code
def yX3_bits : MethodName := ⟨RX3, "bits", "()I"⟩
abbrev cX3_leastPlace : ByteArray := prog_5_method_12_code
def yX3_leastPlace : MethodName := ⟨RX3, "leastPlace", "(II)I"⟩
abbrev cX3_kthPlace : ByteArray := prog_5_method_13_code
def yX3_kthPlace : MethodName := ⟨RX3, "kthPlace", "(III)I"⟩
abbrev cX3_rank : ByteArray := prog_5_method_14_code
def yX3_rank : MethodName := ⟨RX3, "rank", "(III)I"⟩
abbrev cX3_leftEdge : ByteArray := prog_5_method_15_code
def yX3_leftEdge : MethodName := ⟨RX3, "leftEdge", "(I)I"⟩
abbrev cX3_rightEdge : ByteArray := prog_5_method_16_code
def yX3_rightEdge : MethodName := ⟨RX3, "rightEdge", "(I)I"⟩
abbrev cX3_runsOwned : ByteArray := prog_5_method_17_code
def yX3_runsOwned : MethodName := ⟨RX3, "runsOwned", "(I)I"⟩
abbrev cX3_parentPlace : ByteArray := prog_5_method_18_code
def yX3_parentPlace : MethodName := ⟨RX3, "parentPlace", "(I)I"⟩
abbrev cX3_depthOf : ByteArray := prog_5_method_19_code
def yX3_depthOf : MethodName := ⟨RX3, "depthOf", "(I)I"⟩
abbrev cX3_ancestor : ByteArray := prog_5_method_20_code
def yX3_ancestor : MethodName := ⟨RX3, "ancestor", "(II)I"⟩
abbrev cX3_areAlike : ByteArray := prog_5_method_21_code
def yX3_areAlike : MethodName := ⟨RX3, "areAlike", "(III)Z"⟩
abbrev cX3_stepsToLeftWithin : ByteArray := prog_5_method_22_code
def yX3_stepsToLeftWithin : MethodName := ⟨RX3, "stepsToLeftWithin", "(II)I"⟩
def RX4 : String := "ShapeMinima$Row"
def TX4 : u_T := fun k => match k with
  | 0 => ("ShapeMinima$Row", "ints", "[I", true)
  | _ => ("ShapeMinima$Row", "many", "I", false)
def tyX4 : Nat → FieldType := fun k => match k with
  | 0 => .array .int
  | _ => .int
theorem nmX4 : ∀ a, a < 2 → ∀ b, b < 2 → a ≠ b → (TX4 a).2.1 ≠ (TX4 b).2.1 := by decide +kernel
theorem tyX4_ok : ∀ k, k < 2 → parseFieldDescriptor (TX4 k).2.2.1 = some (tyX4 k) := by decide +kernel
abbrev cX4_init : ByteArray := prog_6_method_1_code
def yX4_init : MethodName := ⟨RX4, "<init>", "()V"⟩
abbrev cX4_isMissing : ByteArray := prog_6_method_2_code
def yX4_isMissing : MethodName := ⟨RX4, "isMissing", "()Z"⟩
abbrev cX4_lacks : ByteArray := prog_6_method_3_code
def yX4_lacks : MethodName := ⟨RX4, "lacks", "(I)Z"⟩
abbrev cX4_lacksSome : ByteArray := prog_6_method_4_code
def yX4_lacksSome : MethodName := ⟨RX4, "lacksSome", "(II)Z"⟩
abbrev cX4_becomeZeros : ByteArray := prog_6_method_5_code
def yX4_becomeZeros : MethodName := ⟨RX4, "becomeZeros", "(I)V"⟩
abbrev cX4_become : ByteArray := prog_6_method_6_code
def yX4_become : MethodName := ⟨RX4, "become", "(LShapeMinima$Row;)V"⟩
abbrev cX4_digestOn : ByteArray := prog_6_method_7_code
def yX4_digestOn : MethodName := ⟨RX4, "digestOn", "(J)J"⟩
def RX5 : String := "ShapeMinima$ShapeSet"
def TX5 : u_T := fun k => match k with
  | 0 => ("ShapeMinima$ShapeSet", "words", "[J", true)
  | _ => ("ShapeMinima$ShapeSet", "many", "I", false)
def tyX5 : Nat → FieldType := fun k => match k with
  | 0 => .array .long
  | _ => .int
theorem nmX5 : ∀ a, a < 2 → ∀ b, b < 2 → a ≠ b → (TX5 a).2.1 ≠ (TX5 b).2.1 := by decide +kernel
theorem tyX5_ok : ∀ k, k < 2 → parseFieldDescriptor (TX5 k).2.2.1 = some (tyX5 k) := by decide +kernel
abbrev cX5_init : ByteArray := prog_7_method_1_code
def yX5_init : MethodName := ⟨RX5, "<init>", "()V"⟩
abbrev cX5_becomeEmpty : ByteArray := prog_7_method_2_code
def yX5_becomeEmpty : MethodName := ⟨RX5, "becomeEmpty", "()V"⟩
abbrev cX5_has : ByteArray := prog_7_method_3_code
def yX5_has : MethodName := ⟨RX5, "has", "(I)Z"⟩
abbrev cX5_include : ByteArray := prog_7_method_4_code
def yX5_include : MethodName := ⟨RX5, "include", "(I)V"⟩
def RX6 : String := "ShapeMinima"
def TX6 : u_T := fun k => match k with
  | 0 => ("ShapeMinima", "rows", "[LShapeMinima$Row;", true)
  | 1 => ("ShapeMinima", "index", "LShapeMinima$Index;", true)
  | 2 => ("ShapeMinima", "history", "LShapeMinima$History;", true)
  | 3 => ("ShapeMinima", "images", "[LShapeMinima$Image;", true)
  | 4 => ("ShapeMinima", "family", "LShapeMinima$Family;", true)
  | 5 => ("ShapeMinima", "findingCounts", "[I", true)
  | 6 => ("ShapeMinima", "latestFinding", "I", false)
  | _ => ("ShapeMinima", "told", "I", false)
def tyX6 : Nat → FieldType := fun k => match k with
  | 0 => .array (.object "ShapeMinima$Row")
  | 1 => .object "ShapeMinima$Index"
  | 2 => .object "ShapeMinima$History"
  | 3 => .array (.object "ShapeMinima$Image")
  | 4 => .object "ShapeMinima$Family"
  | 5 => .array .int
  | 6 => .int
  | _ => .int
theorem nmX6 : ∀ a, a < 8 → ∀ b, b < 8 → a ≠ b → (TX6 a).2.1 ≠ (TX6 b).2.1 := by decide +kernel
theorem tyX6_ok : ∀ k, k < 8 → parseFieldDescriptor (TX6 k).2.2.1 = some (tyX6 k) := by decide +kernel
abbrev cX6_init : ByteArray := prog_1_method_1_code
def yX6_init : MethodName := ⟨RX6, "<init>", "()V"⟩
abbrev cX6_row : ByteArray := prog_1_method_2_code
def yX6_row : MethodName := ⟨RX6, "row", "(II)I"⟩
abbrev cX6_lay : ByteArray := prog_1_method_3_code
def yX6_lay : MethodName := ⟨RX6, "lay", "(III)I"⟩
abbrev cX6_at : ByteArray := prog_1_method_4_code
def yX6_at : MethodName := ⟨RX6, "at", "(II)I"⟩
abbrev cX6_tear : ByteArray := prog_1_method_5_code
def yX6_tear : MethodName := ⟨RX6, "tear", "(I)I"⟩
abbrev cX6_copy : ByteArray := prog_1_method_6_code
def yX6_copy : MethodName := ⟨RX6, "copy", "(IIIII)I"⟩
abbrev cX6_build : ByteArray := prog_1_method_7_code
def yX6_build : MethodName := ⟨RX6, "build", "(II)I"⟩
abbrev cX6_put : ByteArray := prog_1_method_8_code
def yX6_put : MethodName := ⟨RX6, "put", "(II)I"⟩
abbrev cX6_undo : ByteArray := prog_1_method_9_code
def yX6_undo : MethodName := ⟨RX6, "undo", "()I"⟩
abbrev cX6_keep : ByteArray := prog_1_method_10_code
def yX6_keep : MethodName := ⟨RX6, "keep", "(I)I"⟩
abbrev cX6_on : ByteArray := prog_1_method_11_code
def yX6_on : MethodName := ⟨RX6, "on", "(I)I"⟩
abbrev cX6_item : ByteArray := prog_1_method_12_code
def yX6_item : MethodName := ⟨RX6, "item", "(I)I"⟩
abbrev cX6_shape : ByteArray := prog_1_method_13_code
def yX6_shape : MethodName := ⟨RX6, "shape", "(I)I"⟩
abbrev cX6_entry : ByteArray := prog_1_method_14_code
def yX6_entry : MethodName := ⟨RX6, "entry", "(III)I"⟩
abbrev cX6_least : ByteArray := prog_1_method_15_code
def yX6_least : MethodName := ⟨RX6, "least", "(II)I"⟩
abbrev cX6_kth : ByteArray := prog_1_method_16_code
def yX6_kth : MethodName := ⟨RX6, "kth", "(III)I"⟩
abbrev cX6_left : ByteArray := prog_1_method_17_code
def yX6_left : MethodName := ⟨RX6, "left", "(I)I"⟩
abbrev cX6_right : ByteArray := prog_1_method_18_code
def yX6_right : MethodName := ⟨RX6, "right", "(I)I"⟩
abbrev cX6_owns : ByteArray := prog_1_method_19_code
def yX6_owns : MethodName := ⟨RX6, "owns", "(I)I"⟩
abbrev cX6_sum : ByteArray := prog_1_method_20_code
def yX6_sum : MethodName := ⟨RX6, "sum", "()J"⟩
abbrev cX6_parent : ByteArray := prog_1_method_21_code
def yX6_parent : MethodName := ⟨RX6, "parent", "(I)I"⟩
abbrev cX6_depth : ByteArray := prog_1_method_22_code
def yX6_depth : MethodName := ⟨RX6, "depth", "(I)I"⟩
abbrev cX6_size : ByteArray := prog_1_method_23_code
def yX6_size : MethodName := ⟨RX6, "size", "(I)I"⟩
abbrev cX6_above : ByteArray := prog_1_method_24_code
def yX6_above : MethodName := ⟨RX6, "above", "(II)I"⟩
abbrev cX6_alike : ByteArray := prog_1_method_25_code
def yX6_alike : MethodName := ⟨RX6, "alike", "(III)I"⟩
abbrev cX6_tree : ByteArray := prog_1_method_26_code
def yX6_tree : MethodName := ⟨RX6, "tree", "(I)I"⟩
abbrev cX6_meet : ByteArray := prog_1_method_27_code
def yX6_meet : MethodName := ⟨RX6, "meet", "(II)I"⟩
abbrev cX6_apart : ByteArray := prog_1_method_28_code
def yX6_apart : MethodName := ⟨RX6, "apart", "(II)I"⟩
abbrev cX6_up : ByteArray := prog_1_method_29_code
def yX6_up : MethodName := ⟨RX6, "up", "(II)I"⟩
abbrev cX6_node : ByteArray := prog_1_method_30_code
def yX6_node : MethodName := ⟨RX6, "node", "(II)I"⟩
abbrev cX6_asked : ByteArray := prog_1_method_31_code
def yX6_asked : MethodName := ⟨RX6, "asked", "()I"⟩
abbrev cX6_count : ByteArray := prog_1_method_32_code
def yX6_count : MethodName := ⟨RX6, "count", "(I)I"⟩
abbrev cX6_finding : ByteArray := prog_1_method_33_code
def yX6_finding : MethodName := ⟨RX6, "finding", "()I"⟩
abbrev cX6_findings : ByteArray := prog_1_method_34_code
def yX6_findings : MethodName := ⟨RX6, "findings", "(I)I"⟩
abbrev cX6_digest : ByteArray := prog_1_method_35_code
def yX6_digest : MethodName := ⟨RX6, "digest", "()J"⟩
abbrev cX6_refuse : ByteArray := prog_1_method_36_code
def yX6_refuse : MethodName := ⟨RX6, "refuse", "(I)I"⟩
abbrev cX6_isNoRow : ByteArray := prog_1_method_37_code
def yX6_isNoRow : MethodName := ⟨RX6, "isNoRow", "(I)Z"⟩
abbrev cX6_isNoImage : ByteArray := prog_1_method_38_code
def yX6_isNoImage : MethodName := ⟨RX6, "isNoImage", "(I)Z"⟩
abbrev cX6_refusalOfPlace : ByteArray := prog_1_method_39_code
def yX6_refusalOfPlace : MethodName := ⟨RX6, "refusalOfPlace", "(II)I"⟩
abbrev cX6_refusalOfItem : ByteArray := prog_1_method_40_code
def yX6_refusalOfItem : MethodName := ⟨RX6, "refusalOfItem", "(I)I"⟩
abbrev cX6_refusalOfRun : ByteArray := prog_1_method_41_code
def yX6_refusalOfRun : MethodName := ⟨RX6, "refusalOfRun", "(II)I"⟩
abbrev cX6_refusalOfNodes : ByteArray := prog_1_method_42_code
def yX6_refusalOfNodes : MethodName := ⟨RX6, "refusalOfNodes", "(II)I"⟩
abbrev cX6_rowsThere : ByteArray := prog_1_method_43_code
def yX6_rowsThere : MethodName := ⟨RX6, "rowsThere", "()I"⟩
def RX7 : String := "ShapeMinimaModel"
def TX7 : u_T := fun k => match k with
  | 0 => ("ShapeMinimaModel", "thrown", "I", false)
  | 1 => ("ShapeMinimaModel", "askedLast", "I", false)
  | 2 => ("ShapeMinimaModel", "findingLast", "I", false)
  | 3 => ("ShapeMinimaModel", "findingMany", "[I", true)
  | 4 => ("ShapeMinimaModel", "rows", "[I", true)
  | 5 => ("ShapeMinimaModel", "rowSize", "[I", true)
  | 6 => ("ShapeMinimaModel", "items", "I", false)
  | 7 => ("ShapeMinimaModel", "wide", "I", false)
  | 8 => ("ShapeMinimaModel", "item", "[I", true)
  | 9 => ("ShapeMinimaModel", "made", "[I", true)
  | 10 => ("ShapeMinimaModel", "madeMany", "I", false)
  | 11 => ("ShapeMinimaModel", "undoAt", "[I", true)
  | 12 => ("ShapeMinimaModel", "undoWas", "[I", true)
  | 13 => ("ShapeMinimaModel", "undoMany", "I", false)
  | 14 => ("ShapeMinimaModel", "kept", "[I", true)
  | 15 => ("ShapeMinimaModel", "keptItems", "[I", true)
  | 16 => ("ShapeMinimaModel", "keptWide", "[I", true)
  | 17 => ("ShapeMinimaModel", "pile", "[I", true)
  | 18 => ("ShapeMinimaModel", "piled", "I", false)
  | 19 => ("ShapeMinimaModel", "nodes", "I", false)
  | 20 => ("ShapeMinimaModel", "above", "[I", true)
  | _ => ("ShapeMinimaModel", "parentLast", "I", false)
def tyX7 : Nat → FieldType := fun k => match k with
  | 0 => .int
  | 1 => .int
  | 2 => .int
  | 3 => .array .int
  | 4 => .array .int
  | 5 => .array .int
  | 6 => .int
  | 7 => .int
  | 8 => .array .int
  | 9 => .array .int
  | 10 => .int
  | 11 => .array .int
  | 12 => .array .int
  | 13 => .int
  | 14 => .array .int
  | 15 => .array .int
  | 16 => .array .int
  | 17 => .array .int
  | 18 => .int
  | 19 => .int
  | 20 => .array .int
  | _ => .int
theorem nmX7 : ∀ a, a < 22 → ∀ b, b < 22 → a ≠ b → (TX7 a).2.1 ≠ (TX7 b).2.1 := by decide +kernel
theorem tyX7_ok : ∀ k, k < 22 → parseFieldDescriptor (TX7 k).2.2.1 = some (tyX7 k) := by decide +kernel
abbrev cX7_init : ByteArray := prog_9_method_1_code
def yX7_init : MethodName := ⟨RX7, "<init>", "()V"⟩
abbrev cX7_in : ByteArray := prog_9_method_3_code
def yX7_in : MethodName := ⟨RX7, "in", "(III)Z"⟩
abbrev cX7_found : ByteArray := prog_9_method_4_code
def yX7_found : MethodName := ⟨RX7, "found", "(I)I"⟩
abbrev cX7_tells : ByteArray := prog_9_method_5_code
def yX7_tells : MethodName := ⟨RX7, "tells", "(II)I"⟩
abbrev cX7_isRow : ByteArray := prog_9_method_6_code
def yX7_isRow : MethodName := ⟨RX7, "isRow", "(I)Z"⟩
abbrev cX7_row : ByteArray := prog_9_method_7_code
def yX7_row : MethodName := ⟨RX7, "row", "(II)I"⟩
abbrev cX7_against : ByteArray := prog_9_method_8_code
def yX7_against : MethodName := ⟨RX7, "against", "(II)I"⟩
abbrev cX7_lay : ByteArray := prog_9_method_9_code
def yX7_lay : MethodName := ⟨RX7, "lay", "(III)I"⟩
abbrev cX7_at : ByteArray := prog_9_method_10_code
def yX7_at : MethodName := ⟨RX7, "at", "(II)I"⟩
abbrev cX7_tear : ByteArray := prog_9_method_11_code
def yX7_tear : MethodName := ⟨RX7, "tear", "(I)I"⟩
abbrev cX7_isPart : ByteArray := prog_9_method_12_code
def yX7_isPart : MethodName := ⟨RX7, "isPart", "(III)Z"⟩
abbrev cX7_copy : ByteArray := prog_9_method_13_code
def yX7_copy : MethodName := ⟨RX7, "copy", "(IIIII)I"⟩
abbrev cX7_blocks : ByteArray := prog_9_method_14_code
def yX7_blocks : MethodName := ⟨RX7, "blocks", "()I"⟩
abbrev cX7_shapeOf : ByteArray := prog_9_method_15_code
def yX7_shapeOf : MethodName := ⟨RX7, "shapeOf", "(II)I"⟩
abbrev cX7_shapeOfBlock : ByteArray := prog_9_method_16_code
def yX7_shapeOfBlock : MethodName := ⟨RX7, "shapeOfBlock", "(I)I"⟩
abbrev cX7_isMade : ByteArray := prog_9_method_17_code
def yX7_isMade : MethodName := ⟨RX7, "isMade", "(I)Z"⟩
abbrev cX7_makes : ByteArray := prog_9_method_18_code
def yX7_makes : MethodName := ⟨RX7, "makes", "(I)V"⟩
abbrev cX7_makesAll : ByteArray := prog_9_method_19_code
def yX7_makesAll : MethodName := ⟨RX7, "makesAll", "()V"⟩
abbrev cX7_build : ByteArray := prog_9_method_20_code
def yX7_build : MethodName := ⟨RX7, "build", "(II)I"⟩
abbrev cX7_againstRun : ByteArray := prog_9_method_21_code
def yX7_againstRun : MethodName := ⟨RX7, "againstRun", "(II)I"⟩
abbrev cX7_put : ByteArray := prog_9_method_22_code
def yX7_put : MethodName := ⟨RX7, "put", "(II)I"⟩
abbrev cX7_undo : ByteArray := prog_9_method_23_code
def yX7_undo : MethodName := ⟨RX7, "undo", "()I"⟩
abbrev cX7_keep : ByteArray := prog_9_method_24_code
def yX7_keep : MethodName := ⟨RX7, "keep", "(I)I"⟩
abbrev cX7_on : ByteArray := prog_9_method_25_code
def yX7_on : MethodName := ⟨RX7, "on", "(I)I"⟩
abbrev cX7_item : ByteArray := prog_9_method_26_code
def yX7_item : MethodName := ⟨RX7, "item", "(I)I"⟩
abbrev cX7_shape : ByteArray := prog_9_method_27_code
def yX7_shape : MethodName := ⟨RX7, "shape", "(I)I"⟩
abbrev cX7_entry : ByteArray := prog_9_method_28_code
def yX7_entry : MethodName := ⟨RX7, "entry", "(III)I"⟩
abbrev cX7_leastOf : ByteArray := prog_9_method_29_code
def yX7_leastOf : MethodName := ⟨RX7, "leastOf", "(II)I"⟩
abbrev cX7_least : ByteArray := prog_9_method_30_code
def yX7_least : MethodName := ⟨RX7, "least", "(II)I"⟩
abbrev cX7_kth : ByteArray := prog_9_method_31_code
def yX7_kth : MethodName := ⟨RX7, "kth", "(III)I"⟩
abbrev cX7_leftOf : ByteArray := prog_9_method_32_code
def yX7_leftOf : MethodName := ⟨RX7, "leftOf", "(I)I"⟩
abbrev cX7_rightOf : ByteArray := prog_9_method_33_code
def yX7_rightOf : MethodName := ⟨RX7, "rightOf", "(I)I"⟩
abbrev cX7_left : ByteArray := prog_9_method_34_code
def yX7_left : MethodName := ⟨RX7, "left", "(I)I"⟩
abbrev cX7_right : ByteArray := prog_9_method_35_code
def yX7_right : MethodName := ⟨RX7, "right", "(I)I"⟩
abbrev cX7_ownsOf : ByteArray := prog_9_method_36_code
def yX7_ownsOf : MethodName := ⟨RX7, "ownsOf", "(I)I"⟩
abbrev cX7_owns : ByteArray := prog_9_method_37_code
def yX7_owns : MethodName := ⟨RX7, "owns", "(I)I"⟩
abbrev cX7_sum : ByteArray := prog_9_method_38_code
def yX7_sum : MethodName := ⟨RX7, "sum", "()J"⟩
abbrev cX7_depthOf : ByteArray := prog_9_method_39_code
def yX7_depthOf : MethodName := ⟨RX7, "depthOf", "(I)I"⟩
abbrev cX7_parent : ByteArray := prog_9_method_40_code
def yX7_parent : MethodName := ⟨RX7, "parent", "(I)I"⟩
abbrev cX7_depth : ByteArray := prog_9_method_41_code
def yX7_depth : MethodName := ⟨RX7, "depth", "(I)I"⟩
abbrev cX7_size : ByteArray := prog_9_method_42_code
def yX7_size : MethodName := ⟨RX7, "size", "(I)I"⟩
abbrev cX7_above : ByteArray := prog_9_method_43_code
def yX7_above : MethodName := ⟨RX7, "above", "(II)I"⟩
abbrev cX7_takenOff : ByteArray := prog_9_method_44_code
def yX7_takenOff : MethodName := ⟨RX7, "takenOff", "(II)I"⟩
abbrev cX7_alike : ByteArray := prog_9_method_45_code
def yX7_alike : MethodName := ⟨RX7, "alike", "(III)I"⟩
abbrev cX7_isTree : ByteArray := prog_9_method_46_code
def yX7_isTree : MethodName := ⟨RX7, "isTree", "(I)Z"⟩
abbrev cX7_tree : ByteArray := prog_9_method_47_code
def yX7_tree : MethodName := ⟨RX7, "tree", "(I)I"⟩
abbrev cX7_deepness : ByteArray := prog_9_method_48_code
def yX7_deepness : MethodName := ⟨RX7, "deepness", "(I)I"⟩
abbrev cX7_upTo : ByteArray := prog_9_method_49_code
def yX7_upTo : MethodName := ⟨RX7, "upTo", "(II)I"⟩
abbrev cX7_isNode : ByteArray := prog_9_method_50_code
def yX7_isNode : MethodName := ⟨RX7, "isNode", "(I)Z"⟩
abbrev cX7_meeting : ByteArray := prog_9_method_51_code
def yX7_meeting : MethodName := ⟨RX7, "meeting", "(II)I"⟩
abbrev cX7_againstNodes : ByteArray := prog_9_method_52_code
def yX7_againstNodes : MethodName := ⟨RX7, "againstNodes", "(II)I"⟩
abbrev cX7_meet : ByteArray := prog_9_method_53_code
def yX7_meet : MethodName := ⟨RX7, "meet", "(II)I"⟩
abbrev cX7_apart : ByteArray := prog_9_method_54_code
def yX7_apart : MethodName := ⟨RX7, "apart", "(II)I"⟩
abbrev cX7_up : ByteArray := prog_9_method_55_code
def yX7_up : MethodName := ⟨RX7, "up", "(II)I"⟩
abbrev cX7_isBelow : ByteArray := prog_9_method_56_code
def yX7_isBelow : MethodName := ⟨RX7, "isBelow", "(II)Z"⟩
abbrev cX7_below : ByteArray := prog_9_method_57_code
def yX7_below : MethodName := ⟨RX7, "below", "(I)I"⟩
abbrev cX7_firstMet : ByteArray := prog_9_method_58_code
def yX7_firstMet : MethodName := ⟨RX7, "firstMet", "(I)I"⟩
abbrev cX7_node : ByteArray := prog_9_method_59_code
def yX7_node : MethodName := ⟨RX7, "node", "(II)I"⟩
abbrev cX7_asked : ByteArray := prog_9_method_60_code
def yX7_asked : MethodName := ⟨RX7, "asked", "()I"⟩
abbrev cX7_shapesNow : ByteArray := prog_9_method_61_code
def yX7_shapesNow : MethodName := ⟨RX7, "shapesNow", "()I"⟩
abbrev cX7_levels : ByteArray := prog_9_method_62_code
def yX7_levels : MethodName := ⟨RX7, "levels", "()I"⟩
abbrev cX7_bits : ByteArray := prog_9_method_63_code
def yX7_bits : MethodName := ⟨RX7, "bits", "()I"⟩
abbrev cX7_rowsThere : ByteArray := prog_9_method_64_code
def yX7_rowsThere : MethodName := ⟨RX7, "rowsThere", "()I"⟩
abbrev cX7_countOf : ByteArray := prog_9_method_65_code
def yX7_countOf : MethodName := ⟨RX7, "countOf", "(I)I"⟩
abbrev cX7_count : ByteArray := prog_9_method_66_code
def yX7_count : MethodName := ⟨RX7, "count", "(I)I"⟩
abbrev cX7_finding : ByteArray := prog_9_method_67_code
def yX7_finding : MethodName := ⟨RX7, "finding", "()I"⟩
abbrev cX7_findings : ByteArray := prog_9_method_68_code
def yX7_findings : MethodName := ⟨RX7, "findings", "(I)I"⟩
abbrev cX7_digest : ByteArray := prog_9_method_69_code
def yX7_digest : MethodName := ⟨RX7, "digest", "()J"⟩
def RJ6 : String := "java/lang/Integer"
abbrev cJ6_bitCount_0f7a4 : ByteArray := prog_10_method_49_code
def yJ6_bitCount_0f7a4 : MethodName := ⟨RJ6, "bitCount", "(I)I"⟩
def RJ9 : String := "java/lang/Math"
abbrev cJ9_max_7cf53 : ByteArray := prog_11_method_65_code
def yJ9_max_7cf53 : MethodName := ⟨RJ9, "max", "(II)I"⟩
abbrev cJ9_min_7cf53 : ByteArray := prog_11_method_69_code
def yJ9_min_7cf53 : MethodName := ⟨RJ9, "min", "(II)I"⟩
def RJ10 : String := "java/lang/System"
def RJ7 : String := "java/util/Arrays"
abbrev cJ7_fill_d0a16 : ByteArray := prog_13_method_101_code
def yJ7_fill_d0a16 : MethodName := ⟨RJ7, "fill", "([JJ)V"⟩
abbrev cJ7_fill_53178 : ByteArray := prog_13_method_103_code
def yJ7_fill_53178 : MethodName := ⟨RJ7, "fill", "([II)V"⟩
def RL : String := "ShapeMinimaLaw"
abbrev cL_law : ByteArray := code
def yL_law : MethodName := ⟨RL, "law", "([I)Z"⟩
abbrev vwCl : List vw_C := [(RX0, TX0, 8), (RX1, TX1, 3), (RX2, TX2, 2), (RX3, TX3, 6), (RX4, TX4, 2), (RX5, TX5, 2), (RX6, TX6, 8), (RX7, TX7, 22)]
end
section
/-- the words that a call carries on: all but the two on arrays of references -/
def jT : List Cond := lw_tbl.filter goodWord
theorem jT_lw {w : Cond} (h : w ∈ jT) : w ∈ lw_tbl := (List.mem_filter.mp h).1
theorem jT_good {w : Cond} (h : w ∈ jT) : goodWord w = true := (List.mem_filter.mp h).2
theorem mem_ps {ws : List Cond} (ps : List Nat) (h : ws = ps.filterMap (fun i => lw_tbl[i]?) ∧ ws.all goodWord = true) : ∀ w ∈ ws, w ∈ jT := by
  intro w hw
  have hg := List.all_eq_true.mp h.2 w hw
  rw [h.1] at hw
  obtain ⟨i, -, hi⟩ := List.mem_filterMap.mp hw
  exact List.mem_filter.mpr ⟨List.mem_of_getElem? hi, hg⟩
theorem tbl_in {w : Cond} (i : Nat) (h : tables_1[i]? = some w ∧ goodWord w = true) : w ∈ jT := List.mem_filter.mpr ⟨List.mem_append_right _ (List.mem_of_getElem? h.1), h.2⟩
theorem tbl_lw {w : Cond} (i : Nat) (h : tables_1[i]? = some w) : w ∈ lw_tbl := List.mem_append_right _ (List.mem_of_getElem? h)
theorem sel_in {w : Cond} (i : Nat) (h : (k2_sels lw_privs)[i]? = some w ∧ goodWord w = true) : w ∈ jT := List.mem_filter.mpr ⟨List.mem_append_left _ (List.mem_of_getElem? h.1), h.2⟩
theorem inX0 : ∀ w ∈ u_ws RX0 TX0 8, w ∈ jT := mem_ps [194, 196, 198, 200, 202, 204, 206, 208] (by decide +kernel)
theorem inX1 : ∀ w ∈ u_ws RX1 TX1 3, w ∈ jT := mem_ps [165, 167, 169] (by decide +kernel)
theorem inX2 : ∀ w ∈ u_ws RX2 TX2 2, w ∈ jT := mem_ps [101, 103] (by decide +kernel)
theorem inX3 : ∀ w ∈ u_ws RX3 TX3 6, w ∈ jT := mem_ps [140, 142, 144, 146, 148, 150] (by decide +kernel)
theorem inX4 : ∀ w ∈ u_ws RX4 TX4 2, w ∈ jT := mem_ps [82, 84] (by decide +kernel)
theorem inX5 : ∀ w ∈ u_ws RX5 TX5 2, w ∈ jT := mem_ps [123, 125] (by decide +kernel)
theorem inX6 : ∀ w ∈ u_ws RX6 TX6 8, w ∈ jT := mem_ps [219, 221, 223, 225, 227, 229, 231, 233] (by decide +kernel)
theorem inX7 : ∀ w ∈ u_ws RX7 TX7 22, w ∈ jT := mem_ps [644, 646, 648, 650, 652, 654, 656, 658, 660, 662, 664, 666, 668, 670, 672, 674, 676, 678, 680, 682, 684, 686] (by decide +kernel)
theorem wi_ShapeMinimaLaw : Cond.initialized RL ∈ jT := tbl_in 0 (by decide +kernel)
theorem wi_ShapeMinima : Cond.initialized RX6 ∈ jT := tbl_in 1 (by decide +kernel)
theorem wi_ShapeMinima_Row : Cond.initialized RX4 ∈ jT := tbl_in 2 (by decide +kernel)
theorem wi_ShapeMinima_Image : Cond.initialized RX2 ∈ jT := tbl_in 3 (by decide +kernel)
theorem wi_ShapeMinima_Index : Cond.initialized RX3 ∈ jT := tbl_in 4 (by decide +kernel)
theorem wi_ShapeMinima_ShapeSet : Cond.initialized RX5 ∈ jT := tbl_in 5 (by decide +kernel)
theorem wi_ShapeMinima_History : Cond.initialized RX1 ∈ jT := tbl_in 6 (by decide +kernel)
theorem wi_ShapeMinima_Family : Cond.initialized RX0 ∈ jT := tbl_in 7 (by decide +kernel)
theorem wi_ShapeMinimaModel : Cond.initialized RX7 ∈ jT := tbl_in 8 (by decide +kernel)
theorem wi_java_util_Arrays : Cond.initialized RJ7 ∈ jT := tbl_in 9 (by decide +kernel)
theorem wi_java_lang_System : Cond.initialized RJ10 ∈ jT := tbl_in 10 (by decide +kernel)
theorem wi_java_lang_Math : Cond.initialized RJ9 ∈ jT := tbl_in 11 (by decide +kernel)
theorem wi_java_lang_Integer : Cond.initialized RJ6 ∈ jT := tbl_in 12 (by decide +kernel)
theorem wn_X6 : Cond.instantiable RX6 8 ∈ jT := tbl_in 14 (by decide +kernel)
theorem wn_X4 : Cond.instantiable RX4 2 ∈ jT := tbl_in 23 (by decide +kernel)
theorem wn_X2 : Cond.instantiable RX2 2 ∈ jT := tbl_in 44 (by decide +kernel)
theorem wn_X3 : Cond.instantiable RX3 6 ∈ jT := tbl_in 61 (by decide +kernel)
theorem wn_X5 : Cond.instantiable RX5 2 ∈ jT := tbl_in 69 (by decide +kernel)
theorem wn_X1 : Cond.instantiable RX1 3 ∈ jT := tbl_in 108 (by decide +kernel)
theorem wn_X0 : Cond.instantiable RX0 8 ∈ jT := tbl_in 127 (by decide +kernel)
theorem wn_X7 : Cond.instantiable RX7 22 ∈ jT := tbl_in 571 (by decide +kernel)
theorem wcl_L_7 : Cond.classLink RL 7 RX6 ∈ jT := tbl_in 13 (by decide +kernel)
theorem wcl_X6_9 : Cond.classLink RX6 9 RX4 ∈ jT := tbl_in 21 (by decide +kernel)
theorem wcl_X6_16 : Cond.classLink RX6 16 RX2 ∈ jT := tbl_in 42 (by decide +kernel)
theorem wcl_X2_7 : Cond.classLink RX2 7 RX4 ∈ jT := tbl_in 49 (by decide +kernel)
theorem wcl_X6_23 : Cond.classLink RX6 23 RX3 ∈ jT := tbl_in 60 (by decide +kernel)
theorem wcl_X3_9 : Cond.classLink RX3 9 RX4 ∈ jT := tbl_in 66 (by decide +kernel)
theorem wcl_X3_22 : Cond.classLink RX3 22 RX5 ∈ jT := tbl_in 68 (by decide +kernel)
theorem wcl_X6_30 : Cond.classLink RX6 30 RX1 ∈ jT := tbl_in 107 (by decide +kernel)
theorem wcl_X6_37 : Cond.classLink RX6 37 RX0 ∈ jT := tbl_in 126 (by decide +kernel)
theorem wcl_X0_27 : Cond.classLink RX0 27 RX4 ∈ jT := tbl_in 132 (by decide +kernel)
theorem wcl_X0_34 : Cond.classLink RX0 34 RX3 ∈ jT := tbl_in 134 (by decide +kernel)
theorem wcl_L_10 : Cond.classLink RL 10 RX7 ∈ jT := tbl_in 570 (by decide +kernel)
theorem wc_yX6_init : Cond.code yX6_init cX6_init 2 none ∈ jT := tbl_in 17 (by decide +kernel)
theorem wc_objectInit : Cond.code Lib.objectInit ⟨#[0xb1]⟩ 1 none ∈ jT := tbl_in 20 (by decide +kernel)
theorem wc_yX4_init : Cond.code yX4_init cX4_init 1 none ∈ jT := tbl_in 26 (by decide +kernel)
theorem wc_yX2_init : Cond.code yX2_init cX2_init 1 none ∈ jT := tbl_in 47 (by decide +kernel)
theorem wc_yX3_init : Cond.code yX3_init cX3_init 1 none ∈ jT := tbl_in 64 (by decide +kernel)
theorem wc_yX5_init : Cond.code yX5_init cX5_init 1 none ∈ jT := tbl_in 72 (by decide +kernel)
theorem wc_yX1_init : Cond.code yX1_init cX1_init 1 none ∈ jT := tbl_in 111 (by decide +kernel)
theorem wc_yX0_init : Cond.code yX0_init cX0_init 1 none ∈ jT := tbl_in 130 (by decide +kernel)
theorem wc_yX6_row : Cond.code yX6_row cX6_row 3 (some .int) ∈ jT := tbl_in 193 (by decide +kernel)
theorem wc_yX6_isNoRow : Cond.code yX6_isNoRow cX6_isNoRow 1 (some .boolean) ∈ jT := tbl_in 196 (by decide +kernel)
theorem wc_yX6_refuse : Cond.code yX6_refuse cX6_refuse 2 (some .int) ∈ jT := tbl_in 200 (by decide +kernel)
theorem wc_yX4_becomeZeros : Cond.code yX4_becomeZeros cX4_becomeZeros 2 none ∈ jT := tbl_in 204 (by decide +kernel)
theorem wc_yJ7_fill_53178 : Cond.code yJ7_fill_53178 cJ7_fill_53178 4 none ∈ jT := tbl_in 207 (by decide +kernel)
theorem wc_yX6_lay : Cond.code yX6_lay cX6_lay 5 (some .int) ∈ jT := tbl_in 211 (by decide +kernel)
theorem wc_yX6_refusalOfPlace : Cond.code yX6_refusalOfPlace cX6_refusalOfPlace 3 (some .int) ∈ jT := tbl_in 215 (by decide +kernel)
theorem wc_yX4_isMissing : Cond.code yX4_isMissing cX4_isMissing 1 (some .boolean) ∈ jT := tbl_in 219 (by decide +kernel)
theorem wc_yX4_lacks : Cond.code yX4_lacks cX4_lacks 2 (some .boolean) ∈ jT := tbl_in 223 (by decide +kernel)
theorem wc_yX6_at : Cond.code yX6_at cX6_at 4 (some .int) ∈ jT := tbl_in 227 (by decide +kernel)
theorem wc_yX6_tear : Cond.code yX6_tear cX6_tear 3 (some .int) ∈ jT := tbl_in 231 (by decide +kernel)
theorem wc_yX6_copy : Cond.code yX6_copy cX6_copy 6 (some .int) ∈ jT := tbl_in 235 (by decide +kernel)
theorem wc_yX4_lacksSome : Cond.code yX4_lacksSome cX4_lacksSome 3 (some .boolean) ∈ jT := tbl_in 239 (by decide +kernel)
theorem wc_yX6_build : Cond.code yX6_build cX6_build 3 (some .int) ∈ jT := tbl_in 246 (by decide +kernel)
theorem wc_yX3_becomeOver : Cond.code yX3_becomeOver cX3_becomeOver 4 none ∈ jT := tbl_in 250 (by decide +kernel)
theorem wc_yX4_become : Cond.code yX4_become cX4_become 2 none ∈ jT := tbl_in 254 (by decide +kernel)
theorem wc_yX5_becomeEmpty : Cond.code yX5_becomeEmpty cX5_becomeEmpty 1 none ∈ jT := tbl_in 259 (by decide +kernel)
theorem wc_yJ7_fill_d0a16 : Cond.code yJ7_fill_d0a16 cJ7_fill_d0a16 5 none ∈ jT := tbl_in 262 (by decide +kernel)
theorem wc_yX3_shapeNow : Cond.code yX3_shapeNow cX3_shapeNow 7 (some .int) ∈ jT := tbl_in 266 (by decide +kernel)
theorem wc_yJ9_min_7cf53 : Cond.code yJ9_min_7cf53 cJ9_min_7cf53 2 (some .int) ∈ jT := tbl_in 269 (by decide +kernel)
theorem wc_yX5_include : Cond.code yX5_include cX5_include 2 none ∈ jT := tbl_in 273 (by decide +kernel)
theorem wc_yX5_has : Cond.code yX5_has cX5_has 2 (some .boolean) ∈ jT := tbl_in 277 (by decide +kernel)
theorem wc_yX1_forget : Cond.code yX1_forget cX1_forget 1 none ∈ jT := tbl_in 281 (by decide +kernel)
theorem wc_yX6_put : Cond.code yX6_put cX6_put 4 (some .int) ∈ jT := tbl_in 285 (by decide +kernel)
theorem wc_yX6_refusalOfItem : Cond.code yX6_refusalOfItem cX6_refusalOfItem 2 (some .int) ∈ jT := tbl_in 289 (by decide +kernel)
theorem wc_yX6_refusalOfRun : Cond.code yX6_refusalOfRun cX6_refusalOfRun 3 (some .int) ∈ jT := tbl_in 293 (by decide +kernel)
theorem wc_yX3_isNone : Cond.code yX3_isNone cX3_isNone 1 (some .boolean) ∈ jT := tbl_in 297 (by decide +kernel)
theorem wc_yX1_remember : Cond.code yX1_remember cX1_remember 3 none ∈ jT := tbl_in 302 (by decide +kernel)
theorem wc_yX1_loseOldest : Cond.code yX1_loseOldest cX1_loseOldest 2 none ∈ jT := tbl_in 306 (by decide +kernel)
theorem wc_yX3_change : Cond.code yX3_change cX3_change 5 (some .boolean) ∈ jT := tbl_in 310 (by decide +kernel)
theorem wc_yX6_undo : Cond.code yX6_undo cX6_undo 2 (some .int) ∈ jT := tbl_in 315 (by decide +kernel)
theorem wc_yX6_keep : Cond.code yX6_keep cX6_keep 2 (some .int) ∈ jT := tbl_in 319 (by decide +kernel)
theorem wc_yX6_isNoImage : Cond.code yX6_isNoImage cX6_isNoImage 1 (some .boolean) ∈ jT := tbl_in 322 (by decide +kernel)
theorem wc_yX6_on : Cond.code yX6_on cX6_on 2 (some .int) ∈ jT := tbl_in 327 (by decide +kernel)
theorem wc_yX6_item : Cond.code yX6_item cX6_item 3 (some .int) ∈ jT := tbl_in 331 (by decide +kernel)
theorem wc_yX6_shape : Cond.code yX6_shape cX6_shape 2 (some .int) ∈ jT := tbl_in 335 (by decide +kernel)
theorem wc_yX6_entry : Cond.code yX6_entry cX6_entry 5 (some .int) ∈ jT := tbl_in 339 (by decide +kernel)
theorem wc_yJ6_bitCount_0f7a4 : Cond.code yJ6_bitCount_0f7a4 cJ6_bitCount_0f7a4 1 (some .int) ∈ jT := tbl_in 343 (by decide +kernel)
theorem wc_yX3_tableEntry : Cond.code yX3_tableEntry cX3_tableEntry 7 (some .int) ∈ jT := tbl_in 350 (by decide +kernel)
theorem wc_yX3_leadingDigit : Cond.code yX3_leadingDigit cX3_leadingDigit 2 (some .int) ∈ jT := tbl_in 353 (by decide +kernel)
theorem wc_yJ9_max_7cf53 : Cond.code yJ9_max_7cf53 cJ9_max_7cf53 2 (some .int) ∈ jT := tbl_in 356 (by decide +kernel)
theorem wc_yX6_least : Cond.code yX6_least cX6_least 5 (some .int) ∈ jT := tbl_in 360 (by decide +kernel)
theorem wc_yX3_leastPlace : Cond.code yX3_leastPlace cX3_leastPlace 5 (some .int) ∈ jT := tbl_in 364 (by decide +kernel)
theorem wc_yX6_kth : Cond.code yX6_kth cX6_kth 6 (some .int) ∈ jT := tbl_in 368 (by decide +kernel)
theorem wc_yX3_kthPlace : Cond.code yX3_kthPlace cX3_kthPlace 5 (some .int) ∈ jT := tbl_in 372 (by decide +kernel)
theorem wc_yX3_rank : Cond.code yX3_rank cX3_rank 7 (some .int) ∈ jT := tbl_in 376 (by decide +kernel)
theorem wc_yX6_left : Cond.code yX6_left cX6_left 4 (some .int) ∈ jT := tbl_in 380 (by decide +kernel)
theorem wc_yX3_leftEdge : Cond.code yX3_leftEdge cX3_leftEdge 3 (some .int) ∈ jT := tbl_in 384 (by decide +kernel)
theorem wc_yX6_right : Cond.code yX6_right cX6_right 4 (some .int) ∈ jT := tbl_in 388 (by decide +kernel)
theorem wc_yX3_rightEdge : Cond.code yX3_rightEdge cX3_rightEdge 3 (some .int) ∈ jT := tbl_in 392 (by decide +kernel)
theorem wc_yX6_owns : Cond.code yX6_owns cX6_owns 3 (some .int) ∈ jT := tbl_in 396 (by decide +kernel)
theorem wc_yX3_runsOwned : Cond.code yX3_runsOwned cX3_runsOwned 2 (some .int) ∈ jT := tbl_in 400 (by decide +kernel)
theorem wc_yX6_sum : Cond.code yX6_sum cX6_sum 4 (some .long) ∈ jT := tbl_in 406 (by decide +kernel)
theorem wc_yX6_parent : Cond.code yX6_parent cX6_parent 3 (some .int) ∈ jT := tbl_in 410 (by decide +kernel)
theorem wc_yX3_parentPlace : Cond.code yX3_parentPlace cX3_parentPlace 4 (some .int) ∈ jT := tbl_in 414 (by decide +kernel)
theorem wc_yX6_depth : Cond.code yX6_depth cX6_depth 3 (some .int) ∈ jT := tbl_in 418 (by decide +kernel)
theorem wc_yX3_depthOf : Cond.code yX3_depthOf cX3_depthOf 4 (some .int) ∈ jT := tbl_in 422 (by decide +kernel)
theorem wc_yX6_size : Cond.code yX6_size cX6_size 3 (some .int) ∈ jT := tbl_in 427 (by decide +kernel)
theorem wc_yX6_above : Cond.code yX6_above cX6_above 4 (some .int) ∈ jT := tbl_in 431 (by decide +kernel)
theorem wc_yX3_ancestor : Cond.code yX3_ancestor cX3_ancestor 6 (some .int) ∈ jT := tbl_in 435 (by decide +kernel)
theorem wc_yX6_alike : Cond.code yX6_alike cX6_alike 4 (some .int) ∈ jT := tbl_in 439 (by decide +kernel)
theorem wc_yX3_areAlike : Cond.code yX3_areAlike cX3_areAlike 5 (some .boolean) ∈ jT := tbl_in 443 (by decide +kernel)
theorem wc_yX3_stepsToLeftWithin : Cond.code yX3_stepsToLeftWithin cX3_stepsToLeftWithin 3 (some .int) ∈ jT := tbl_in 447 (by decide +kernel)
theorem wc_yX6_tree : Cond.code yX6_tree cX6_tree 2 (some .int) ∈ jT := tbl_in 451 (by decide +kernel)
theorem wc_yX0_isTold : Cond.code yX0_isTold cX0_isTold 3 (some .boolean) ∈ jT := tbl_in 454 (by decide +kernel)
theorem wc_yX0_allComeToTheRoot : Cond.code yX0_allComeToTheRoot cX0_allComeToTheRoot 2 (some .boolean) ∈ jT := tbl_in 458 (by decide +kernel)
theorem wc_yX0_stepsToTheRoot : Cond.code yX0_stepsToTheRoot cX0_stepsToTheRoot 5 (some .int) ∈ jT := tbl_in 461 (by decide +kernel)
theorem wc_yX0_becomeTold : Cond.code yX0_becomeTold cX0_becomeTold 3 none ∈ jT := tbl_in 465 (by decide +kernel)
theorem wc_yX0_countSizes : Cond.code yX0_countSizes cX0_countSizes 4 none ∈ jT := tbl_in 470 (by decide +kernel)
theorem wc_yX0_goTour : Cond.code yX0_goTour cX0_goTour 6 none ∈ jT := tbl_in 475 (by decide +kernel)
theorem wc_yX0_root : Cond.code yX0_root cX0_root 2 (some .int) ∈ jT := tbl_in 479 (by decide +kernel)
theorem wc_yX0_sonBehind : Cond.code yX0_sonBehind cX0_sonBehind 4 (some .int) ∈ jT := tbl_in 484 (by decide +kernel)
theorem wc_yX6_meet : Cond.code yX6_meet cX6_meet 4 (some .int) ∈ jT := tbl_in 489 (by decide +kernel)
theorem wc_yX6_refusalOfNodes : Cond.code yX6_refusalOfNodes cX6_refusalOfNodes 3 (some .int) ∈ jT := tbl_in 493 (by decide +kernel)
theorem wc_yX0_lacks : Cond.code yX0_lacks cX0_lacks 2 (some .boolean) ∈ jT := tbl_in 497 (by decide +kernel)
theorem wc_yX0_meetingNode : Cond.code yX0_meetingNode cX0_meetingNode 5 (some .int) ∈ jT := tbl_in 501 (by decide +kernel)
theorem wc_yX6_apart : Cond.code yX6_apart cX6_apart 5 (some .int) ∈ jT := tbl_in 508 (by decide +kernel)
theorem wc_yX6_up : Cond.code yX6_up cX6_up 4 (some .int) ∈ jT := tbl_in 512 (by decide +kernel)
theorem wc_yX0_ancestorAt : Cond.code yX0_ancestorAt cX0_ancestorAt 5 (some .int) ∈ jT := tbl_in 516 (by decide +kernel)
theorem wc_yX6_node : Cond.code yX6_node cX6_node 3 (some .int) ∈ jT := tbl_in 520 (by decide +kernel)
theorem wc_yX6_asked : Cond.code yX6_asked cX6_asked 1 (some .int) ∈ jT := tbl_in 524 (by decide +kernel)
theorem wc_yX6_count : Cond.code yX6_count cX6_count 2 (some .int) ∈ jT := tbl_in 528 (by decide +kernel)
theorem wc_yX3_unlikeShapes : Cond.code yX3_unlikeShapes cX3_unlikeShapes 4 (some .int) ∈ jT := tbl_in 532 (by decide +kernel)
theorem wc_yX3_levels : Cond.code yX3_levels cX3_levels 3 (some .int) ∈ jT := tbl_in 536 (by decide +kernel)
theorem wc_yX3_bits : Cond.code yX3_bits cX3_bits 2 (some .int) ∈ jT := tbl_in 540 (by decide +kernel)
theorem wc_yX3_entries : Cond.code yX3_entries cX3_entries 3 (some .int) ∈ jT := tbl_in 545 (by decide +kernel)
theorem wc_yX6_rowsThere : Cond.code yX6_rowsThere cX6_rowsThere 3 (some .int) ∈ jT := tbl_in 549 (by decide +kernel)
theorem wc_yX6_finding : Cond.code yX6_finding cX6_finding 1 (some .int) ∈ jT := tbl_in 553 (by decide +kernel)
theorem wc_yX6_findings : Cond.code yX6_findings cX6_findings 2 (some .int) ∈ jT := tbl_in 557 (by decide +kernel)
theorem wc_yX6_digest : Cond.code yX6_digest cX6_digest 4 (some .long) ∈ jT := tbl_in 561 (by decide +kernel)
theorem wc_yX4_digestOn : Cond.code yX4_digestOn cX4_digestOn 6 (some .long) ∈ jT := tbl_in 568 (by decide +kernel)
theorem wc_yX7_init : Cond.code yX7_init cX7_init 2 none ∈ jT := tbl_in 574 (by decide +kernel)
theorem wc_yX7_row : Cond.code yX7_row cX7_row 4 (some .int) ∈ jT := tbl_in 646 (by decide +kernel)
theorem wc_yX7_isRow : Cond.code yX7_isRow cX7_isRow 1 (some .boolean) ∈ jT := tbl_in 649 (by decide +kernel)
theorem wc_yX7_in : Cond.code yX7_in cX7_in 3 (some .boolean) ∈ jT := tbl_in 652 (by decide +kernel)
theorem wc_yX7_found : Cond.code yX7_found cX7_found 2 (some .int) ∈ jT := tbl_in 656 (by decide +kernel)
theorem wc_yX7_lay : Cond.code yX7_lay cX7_lay 6 (some .int) ∈ jT := tbl_in 660 (by decide +kernel)
theorem wc_yX7_against : Cond.code yX7_against cX7_against 3 (some .int) ∈ jT := tbl_in 664 (by decide +kernel)
theorem wc_yX7_tells : Cond.code yX7_tells cX7_tells 3 (some .int) ∈ jT := tbl_in 668 (by decide +kernel)
theorem wc_yX7_at : Cond.code yX7_at cX7_at 4 (some .int) ∈ jT := tbl_in 672 (by decide +kernel)
theorem wc_yX7_tear : Cond.code yX7_tear cX7_tear 3 (some .int) ∈ jT := tbl_in 676 (by decide +kernel)
theorem wc_yX7_copy : Cond.code yX7_copy cX7_copy 10 (some .int) ∈ jT := tbl_in 680 (by decide +kernel)
theorem wc_yX7_isPart : Cond.code yX7_isPart cX7_isPart 4 (some .boolean) ∈ jT := tbl_in 684 (by decide +kernel)
theorem wc_yX7_build : Cond.code yX7_build cX7_build 4 (some .int) ∈ jT := tbl_in 688 (by decide +kernel)
theorem wc_yX7_makesAll : Cond.code yX7_makesAll cX7_makesAll 2 none ∈ jT := tbl_in 692 (by decide +kernel)
theorem wc_yX7_blocks : Cond.code yX7_blocks cX7_blocks 1 (some .int) ∈ jT := tbl_in 696 (by decide +kernel)
theorem wc_yX7_shapeOfBlock : Cond.code yX7_shapeOfBlock cX7_shapeOfBlock 4 (some .int) ∈ jT := tbl_in 700 (by decide +kernel)
theorem wc_yX7_shapeOf : Cond.code yX7_shapeOf cX7_shapeOf 5 (some .int) ∈ jT := tbl_in 704 (by decide +kernel)
theorem wc_yX7_makes : Cond.code yX7_makes cX7_makes 2 none ∈ jT := tbl_in 708 (by decide +kernel)
theorem wc_yX7_isMade : Cond.code yX7_isMade cX7_isMade 2 (some .boolean) ∈ jT := tbl_in 712 (by decide +kernel)
theorem wc_yX7_put : Cond.code yX7_put cX7_put 7 (some .int) ∈ jT := tbl_in 716 (by decide +kernel)
theorem wc_yX7_againstRun : Cond.code yX7_againstRun cX7_againstRun 3 (some .int) ∈ jT := tbl_in 720 (by decide +kernel)
theorem wc_yX7_undo : Cond.code yX7_undo cX7_undo 1 (some .int) ∈ jT := tbl_in 724 (by decide +kernel)
theorem wc_yX7_keep : Cond.code yX7_keep cX7_keep 3 (some .int) ∈ jT := tbl_in 728 (by decide +kernel)
theorem wc_yX7_on : Cond.code yX7_on cX7_on 3 (some .int) ∈ jT := tbl_in 732 (by decide +kernel)
theorem wc_yX7_item : Cond.code yX7_item cX7_item 3 (some .int) ∈ jT := tbl_in 736 (by decide +kernel)
theorem wc_yX7_shape : Cond.code yX7_shape cX7_shape 2 (some .int) ∈ jT := tbl_in 740 (by decide +kernel)
theorem wc_yX7_entry : Cond.code yX7_entry cX7_entry 9 (some .int) ∈ jT := tbl_in 744 (by decide +kernel)
theorem wc_yX7_least : Cond.code yX7_least cX7_least 5 (some .int) ∈ jT := tbl_in 748 (by decide +kernel)
theorem wc_yX7_leastOf : Cond.code yX7_leastOf cX7_leastOf 5 (some .int) ∈ jT := tbl_in 752 (by decide +kernel)
theorem wc_yX7_kth : Cond.code yX7_kth cX7_kth 8 (some .int) ∈ jT := tbl_in 756 (by decide +kernel)
theorem wc_yX7_left : Cond.code yX7_left cX7_left 4 (some .int) ∈ jT := tbl_in 760 (by decide +kernel)
theorem wc_yX7_leftOf : Cond.code yX7_leftOf cX7_leftOf 3 (some .int) ∈ jT := tbl_in 764 (by decide +kernel)
theorem wc_yX7_right : Cond.code yX7_right cX7_right 4 (some .int) ∈ jT := tbl_in 768 (by decide +kernel)
theorem wc_yX7_rightOf : Cond.code yX7_rightOf cX7_rightOf 3 (some .int) ∈ jT := tbl_in 772 (by decide +kernel)
theorem wc_yX7_owns : Cond.code yX7_owns cX7_owns 3 (some .int) ∈ jT := tbl_in 776 (by decide +kernel)
theorem wc_yX7_ownsOf : Cond.code yX7_ownsOf cX7_ownsOf 2 (some .int) ∈ jT := tbl_in 780 (by decide +kernel)
theorem wc_yX7_sum : Cond.code yX7_sum cX7_sum 4 (some .long) ∈ jT := tbl_in 784 (by decide +kernel)
theorem wc_yX7_parent : Cond.code yX7_parent cX7_parent 3 (some .int) ∈ jT := tbl_in 788 (by decide +kernel)
theorem wc_yX7_depthOf : Cond.code yX7_depthOf cX7_depthOf 6 (some .int) ∈ jT := tbl_in 792 (by decide +kernel)
theorem wc_yX7_depth : Cond.code yX7_depth cX7_depth 3 (some .int) ∈ jT := tbl_in 796 (by decide +kernel)
theorem wc_yX7_size : Cond.code yX7_size cX7_size 3 (some .int) ∈ jT := tbl_in 800 (by decide +kernel)
theorem wc_yX7_above : Cond.code yX7_above cX7_above 6 (some .int) ∈ jT := tbl_in 804 (by decide +kernel)
theorem wc_yX7_alike : Cond.code yX7_alike cX7_alike 5 (some .int) ∈ jT := tbl_in 808 (by decide +kernel)
theorem wc_yX7_takenOff : Cond.code yX7_takenOff cX7_takenOff 5 (some .int) ∈ jT := tbl_in 812 (by decide +kernel)
theorem wc_yX7_tree : Cond.code yX7_tree cX7_tree 3 (some .int) ∈ jT := tbl_in 816 (by decide +kernel)
theorem wc_yX7_isTree : Cond.code yX7_isTree cX7_isTree 8 (some .boolean) ∈ jT := tbl_in 820 (by decide +kernel)
theorem wc_yX7_meet : Cond.code yX7_meet cX7_meet 4 (some .int) ∈ jT := tbl_in 824 (by decide +kernel)
theorem wc_yX7_againstNodes : Cond.code yX7_againstNodes cX7_againstNodes 3 (some .int) ∈ jT := tbl_in 828 (by decide +kernel)
theorem wc_yX7_isNode : Cond.code yX7_isNode cX7_isNode 2 (some .boolean) ∈ jT := tbl_in 832 (by decide +kernel)
theorem wc_yX7_meeting : Cond.code yX7_meeting cX7_meeting 6 (some .int) ∈ jT := tbl_in 836 (by decide +kernel)
theorem wc_yX7_deepness : Cond.code yX7_deepness cX7_deepness 4 (some .int) ∈ jT := tbl_in 840 (by decide +kernel)
theorem wc_yX7_upTo : Cond.code yX7_upTo cX7_upTo 5 (some .int) ∈ jT := tbl_in 844 (by decide +kernel)
theorem wc_yX7_apart : Cond.code yX7_apart cX7_apart 4 (some .int) ∈ jT := tbl_in 848 (by decide +kernel)
theorem wc_yX7_up : Cond.code yX7_up cX7_up 4 (some .int) ∈ jT := tbl_in 852 (by decide +kernel)
theorem wc_yX7_node : Cond.code yX7_node cX7_node 3 (some .int) ∈ jT := tbl_in 856 (by decide +kernel)
theorem wc_yX7_below : Cond.code yX7_below cX7_below 4 (some .int) ∈ jT := tbl_in 860 (by decide +kernel)
theorem wc_yX7_isBelow : Cond.code yX7_isBelow cX7_isBelow 3 (some .boolean) ∈ jT := tbl_in 864 (by decide +kernel)
theorem wc_yX7_firstMet : Cond.code yX7_firstMet cX7_firstMet 5 (some .int) ∈ jT := tbl_in 868 (by decide +kernel)
theorem wc_yX7_asked : Cond.code yX7_asked cX7_asked 1 (some .int) ∈ jT := tbl_in 872 (by decide +kernel)
theorem wc_yX7_count : Cond.code yX7_count cX7_count 2 (some .int) ∈ jT := tbl_in 876 (by decide +kernel)
theorem wc_yX7_countOf : Cond.code yX7_countOf cX7_countOf 2 (some .int) ∈ jT := tbl_in 880 (by decide +kernel)
theorem wc_yX7_shapesNow : Cond.code yX7_shapesNow cX7_shapesNow 6 (some .int) ∈ jT := tbl_in 884 (by decide +kernel)
theorem wc_yX7_levels : Cond.code yX7_levels cX7_levels 3 (some .int) ∈ jT := tbl_in 888 (by decide +kernel)
theorem wc_yX7_bits : Cond.code yX7_bits cX7_bits 3 (some .int) ∈ jT := tbl_in 892 (by decide +kernel)
theorem wc_yX7_rowsThere : Cond.code yX7_rowsThere cX7_rowsThere 3 (some .int) ∈ jT := tbl_in 896 (by decide +kernel)
theorem wc_yX7_finding : Cond.code yX7_finding cX7_finding 1 (some .int) ∈ jT := tbl_in 900 (by decide +kernel)
theorem wc_yX7_findings : Cond.code yX7_findings cX7_findings 2 (some .int) ∈ jT := tbl_in 904 (by decide +kernel)
theorem wc_yX7_digest : Cond.code yX7_digest cX7_digest 5 (some .long) ∈ jT := tbl_in 908 (by decide +kernel)
theorem wim_yX6_init : Cond.instanceMethod yX6_init ∈ jT := tbl_in 16 (by decide +kernel)
theorem wim_objectInit : Cond.instanceMethod Lib.objectInit ∈ jT := tbl_in 19 (by decide +kernel)
theorem wim_yX4_init : Cond.instanceMethod yX4_init ∈ jT := tbl_in 25 (by decide +kernel)
theorem wim_yX2_init : Cond.instanceMethod yX2_init ∈ jT := tbl_in 46 (by decide +kernel)
theorem wim_yX3_init : Cond.instanceMethod yX3_init ∈ jT := tbl_in 63 (by decide +kernel)
theorem wim_yX5_init : Cond.instanceMethod yX5_init ∈ jT := tbl_in 71 (by decide +kernel)
theorem wim_yX1_init : Cond.instanceMethod yX1_init ∈ jT := tbl_in 110 (by decide +kernel)
theorem wim_yX0_init : Cond.instanceMethod yX0_init ∈ jT := tbl_in 129 (by decide +kernel)
theorem wim_yX6_row : Cond.instanceMethod yX6_row ∈ jT := tbl_in 191 (by decide +kernel)
theorem wim_yX6_refuse : Cond.instanceMethod yX6_refuse ∈ jT := tbl_in 199 (by decide +kernel)
theorem wim_yX4_becomeZeros : Cond.instanceMethod yX4_becomeZeros ∈ jT := tbl_in 202 (by decide +kernel)
theorem wim_yX6_lay : Cond.instanceMethod yX6_lay ∈ jT := tbl_in 209 (by decide +kernel)
theorem wim_yX6_refusalOfPlace : Cond.instanceMethod yX6_refusalOfPlace ∈ jT := tbl_in 214 (by decide +kernel)
theorem wim_yX4_isMissing : Cond.instanceMethod yX4_isMissing ∈ jT := tbl_in 217 (by decide +kernel)
theorem wim_yX4_lacks : Cond.instanceMethod yX4_lacks ∈ jT := tbl_in 221 (by decide +kernel)
theorem wim_yX6_at : Cond.instanceMethod yX6_at ∈ jT := tbl_in 225 (by decide +kernel)
theorem wim_yX6_tear : Cond.instanceMethod yX6_tear ∈ jT := tbl_in 229 (by decide +kernel)
theorem wim_yX6_copy : Cond.instanceMethod yX6_copy ∈ jT := tbl_in 233 (by decide +kernel)
theorem wim_yX4_lacksSome : Cond.instanceMethod yX4_lacksSome ∈ jT := tbl_in 237 (by decide +kernel)
theorem wim_yX6_build : Cond.instanceMethod yX6_build ∈ jT := tbl_in 244 (by decide +kernel)
theorem wim_yX3_becomeOver : Cond.instanceMethod yX3_becomeOver ∈ jT := tbl_in 248 (by decide +kernel)
theorem wim_yX4_become : Cond.instanceMethod yX4_become ∈ jT := tbl_in 252 (by decide +kernel)
theorem wim_yX5_becomeEmpty : Cond.instanceMethod yX5_becomeEmpty ∈ jT := tbl_in 257 (by decide +kernel)
theorem wim_yX3_shapeNow : Cond.instanceMethod yX3_shapeNow ∈ jT := tbl_in 265 (by decide +kernel)
theorem wim_yX5_include : Cond.instanceMethod yX5_include ∈ jT := tbl_in 271 (by decide +kernel)
theorem wim_yX5_has : Cond.instanceMethod yX5_has ∈ jT := tbl_in 275 (by decide +kernel)
theorem wim_yX1_forget : Cond.instanceMethod yX1_forget ∈ jT := tbl_in 279 (by decide +kernel)
theorem wim_yX6_put : Cond.instanceMethod yX6_put ∈ jT := tbl_in 283 (by decide +kernel)
theorem wim_yX6_refusalOfItem : Cond.instanceMethod yX6_refusalOfItem ∈ jT := tbl_in 288 (by decide +kernel)
theorem wim_yX6_refusalOfRun : Cond.instanceMethod yX6_refusalOfRun ∈ jT := tbl_in 292 (by decide +kernel)
theorem wim_yX3_isNone : Cond.instanceMethod yX3_isNone ∈ jT := tbl_in 295 (by decide +kernel)
theorem wim_yX1_remember : Cond.instanceMethod yX1_remember ∈ jT := tbl_in 300 (by decide +kernel)
theorem wim_yX1_loseOldest : Cond.instanceMethod yX1_loseOldest ∈ jT := tbl_in 305 (by decide +kernel)
theorem wim_yX3_change : Cond.instanceMethod yX3_change ∈ jT := tbl_in 308 (by decide +kernel)
theorem wim_yX6_undo : Cond.instanceMethod yX6_undo ∈ jT := tbl_in 313 (by decide +kernel)
theorem wim_yX6_keep : Cond.instanceMethod yX6_keep ∈ jT := tbl_in 317 (by decide +kernel)
theorem wim_yX6_on : Cond.instanceMethod yX6_on ∈ jT := tbl_in 325 (by decide +kernel)
theorem wim_yX6_item : Cond.instanceMethod yX6_item ∈ jT := tbl_in 329 (by decide +kernel)
theorem wim_yX6_shape : Cond.instanceMethod yX6_shape ∈ jT := tbl_in 333 (by decide +kernel)
theorem wim_yX6_entry : Cond.instanceMethod yX6_entry ∈ jT := tbl_in 337 (by decide +kernel)
theorem wim_yX3_tableEntry : Cond.instanceMethod yX3_tableEntry ∈ jT := tbl_in 348 (by decide +kernel)
theorem wim_yX6_least : Cond.instanceMethod yX6_least ∈ jT := tbl_in 358 (by decide +kernel)
theorem wim_yX3_leastPlace : Cond.instanceMethod yX3_leastPlace ∈ jT := tbl_in 362 (by decide +kernel)
theorem wim_yX6_kth : Cond.instanceMethod yX6_kth ∈ jT := tbl_in 366 (by decide +kernel)
theorem wim_yX3_kthPlace : Cond.instanceMethod yX3_kthPlace ∈ jT := tbl_in 370 (by decide +kernel)
theorem wim_yX3_rank : Cond.instanceMethod yX3_rank ∈ jT := tbl_in 375 (by decide +kernel)
theorem wim_yX6_left : Cond.instanceMethod yX6_left ∈ jT := tbl_in 378 (by decide +kernel)
theorem wim_yX3_leftEdge : Cond.instanceMethod yX3_leftEdge ∈ jT := tbl_in 382 (by decide +kernel)
theorem wim_yX6_right : Cond.instanceMethod yX6_right ∈ jT := tbl_in 386 (by decide +kernel)
theorem wim_yX3_rightEdge : Cond.instanceMethod yX3_rightEdge ∈ jT := tbl_in 390 (by decide +kernel)
theorem wim_yX6_owns : Cond.instanceMethod yX6_owns ∈ jT := tbl_in 394 (by decide +kernel)
theorem wim_yX3_runsOwned : Cond.instanceMethod yX3_runsOwned ∈ jT := tbl_in 398 (by decide +kernel)
theorem wim_yX6_sum : Cond.instanceMethod yX6_sum ∈ jT := tbl_in 404 (by decide +kernel)
theorem wim_yX6_parent : Cond.instanceMethod yX6_parent ∈ jT := tbl_in 408 (by decide +kernel)
theorem wim_yX3_parentPlace : Cond.instanceMethod yX3_parentPlace ∈ jT := tbl_in 412 (by decide +kernel)
theorem wim_yX6_depth : Cond.instanceMethod yX6_depth ∈ jT := tbl_in 416 (by decide +kernel)
theorem wim_yX3_depthOf : Cond.instanceMethod yX3_depthOf ∈ jT := tbl_in 420 (by decide +kernel)
theorem wim_yX6_size : Cond.instanceMethod yX6_size ∈ jT := tbl_in 425 (by decide +kernel)
theorem wim_yX6_above : Cond.instanceMethod yX6_above ∈ jT := tbl_in 429 (by decide +kernel)
theorem wim_yX3_ancestor : Cond.instanceMethod yX3_ancestor ∈ jT := tbl_in 433 (by decide +kernel)
theorem wim_yX6_alike : Cond.instanceMethod yX6_alike ∈ jT := tbl_in 437 (by decide +kernel)
theorem wim_yX3_areAlike : Cond.instanceMethod yX3_areAlike ∈ jT := tbl_in 441 (by decide +kernel)
theorem wim_yX3_stepsToLeftWithin : Cond.instanceMethod yX3_stepsToLeftWithin ∈ jT := tbl_in 446 (by decide +kernel)
theorem wim_yX6_tree : Cond.instanceMethod yX6_tree ∈ jT := tbl_in 449 (by decide +kernel)
theorem wim_yX0_becomeTold : Cond.instanceMethod yX0_becomeTold ∈ jT := tbl_in 463 (by decide +kernel)
theorem wim_yX0_countSizes : Cond.instanceMethod yX0_countSizes ∈ jT := tbl_in 469 (by decide +kernel)
theorem wim_yX0_goTour : Cond.instanceMethod yX0_goTour ∈ jT := tbl_in 474 (by decide +kernel)
theorem wim_yX0_root : Cond.instanceMethod yX0_root ∈ jT := tbl_in 478 (by decide +kernel)
theorem wim_yX0_sonBehind : Cond.instanceMethod yX0_sonBehind ∈ jT := tbl_in 483 (by decide +kernel)
theorem wim_yX6_meet : Cond.instanceMethod yX6_meet ∈ jT := tbl_in 487 (by decide +kernel)
theorem wim_yX6_refusalOfNodes : Cond.instanceMethod yX6_refusalOfNodes ∈ jT := tbl_in 492 (by decide +kernel)
theorem wim_yX0_lacks : Cond.instanceMethod yX0_lacks ∈ jT := tbl_in 495 (by decide +kernel)
theorem wim_yX0_meetingNode : Cond.instanceMethod yX0_meetingNode ∈ jT := tbl_in 499 (by decide +kernel)
theorem wim_yX6_apart : Cond.instanceMethod yX6_apart ∈ jT := tbl_in 506 (by decide +kernel)
theorem wim_yX6_up : Cond.instanceMethod yX6_up ∈ jT := tbl_in 510 (by decide +kernel)
theorem wim_yX0_ancestorAt : Cond.instanceMethod yX0_ancestorAt ∈ jT := tbl_in 514 (by decide +kernel)
theorem wim_yX6_node : Cond.instanceMethod yX6_node ∈ jT := tbl_in 518 (by decide +kernel)
theorem wim_yX6_asked : Cond.instanceMethod yX6_asked ∈ jT := tbl_in 522 (by decide +kernel)
theorem wim_yX6_count : Cond.instanceMethod yX6_count ∈ jT := tbl_in 526 (by decide +kernel)
theorem wim_yX3_unlikeShapes : Cond.instanceMethod yX3_unlikeShapes ∈ jT := tbl_in 530 (by decide +kernel)
theorem wim_yX3_levels : Cond.instanceMethod yX3_levels ∈ jT := tbl_in 534 (by decide +kernel)
theorem wim_yX3_bits : Cond.instanceMethod yX3_bits ∈ jT := tbl_in 538 (by decide +kernel)
theorem wim_yX3_entries : Cond.instanceMethod yX3_entries ∈ jT := tbl_in 544 (by decide +kernel)
theorem wim_yX6_rowsThere : Cond.instanceMethod yX6_rowsThere ∈ jT := tbl_in 548 (by decide +kernel)
theorem wim_yX6_finding : Cond.instanceMethod yX6_finding ∈ jT := tbl_in 551 (by decide +kernel)
theorem wim_yX6_findings : Cond.instanceMethod yX6_findings ∈ jT := tbl_in 555 (by decide +kernel)
theorem wim_yX6_digest : Cond.instanceMethod yX6_digest ∈ jT := tbl_in 559 (by decide +kernel)
theorem wim_yX4_digestOn : Cond.instanceMethod yX4_digestOn ∈ jT := tbl_in 566 (by decide +kernel)
theorem wim_yX7_init : Cond.instanceMethod yX7_init ∈ jT := tbl_in 573 (by decide +kernel)
theorem wim_yX7_row : Cond.instanceMethod yX7_row ∈ jT := tbl_in 644 (by decide +kernel)
theorem wim_yX7_found : Cond.instanceMethod yX7_found ∈ jT := tbl_in 655 (by decide +kernel)
theorem wim_yX7_lay : Cond.instanceMethod yX7_lay ∈ jT := tbl_in 658 (by decide +kernel)
theorem wim_yX7_against : Cond.instanceMethod yX7_against ∈ jT := tbl_in 663 (by decide +kernel)
theorem wim_yX7_tells : Cond.instanceMethod yX7_tells ∈ jT := tbl_in 667 (by decide +kernel)
theorem wim_yX7_at : Cond.instanceMethod yX7_at ∈ jT := tbl_in 670 (by decide +kernel)
theorem wim_yX7_tear : Cond.instanceMethod yX7_tear ∈ jT := tbl_in 674 (by decide +kernel)
theorem wim_yX7_copy : Cond.instanceMethod yX7_copy ∈ jT := tbl_in 678 (by decide +kernel)
theorem wim_yX7_isPart : Cond.instanceMethod yX7_isPart ∈ jT := tbl_in 683 (by decide +kernel)
theorem wim_yX7_build : Cond.instanceMethod yX7_build ∈ jT := tbl_in 686 (by decide +kernel)
theorem wim_yX7_makesAll : Cond.instanceMethod yX7_makesAll ∈ jT := tbl_in 691 (by decide +kernel)
theorem wim_yX7_blocks : Cond.instanceMethod yX7_blocks ∈ jT := tbl_in 695 (by decide +kernel)
theorem wim_yX7_shapeOfBlock : Cond.instanceMethod yX7_shapeOfBlock ∈ jT := tbl_in 699 (by decide +kernel)
theorem wim_yX7_shapeOf : Cond.instanceMethod yX7_shapeOf ∈ jT := tbl_in 703 (by decide +kernel)
theorem wim_yX7_makes : Cond.instanceMethod yX7_makes ∈ jT := tbl_in 707 (by decide +kernel)
theorem wim_yX7_isMade : Cond.instanceMethod yX7_isMade ∈ jT := tbl_in 711 (by decide +kernel)
theorem wim_yX7_put : Cond.instanceMethod yX7_put ∈ jT := tbl_in 714 (by decide +kernel)
theorem wim_yX7_againstRun : Cond.instanceMethod yX7_againstRun ∈ jT := tbl_in 719 (by decide +kernel)
theorem wim_yX7_undo : Cond.instanceMethod yX7_undo ∈ jT := tbl_in 722 (by decide +kernel)
theorem wim_yX7_keep : Cond.instanceMethod yX7_keep ∈ jT := tbl_in 726 (by decide +kernel)
theorem wim_yX7_on : Cond.instanceMethod yX7_on ∈ jT := tbl_in 730 (by decide +kernel)
theorem wim_yX7_item : Cond.instanceMethod yX7_item ∈ jT := tbl_in 734 (by decide +kernel)
theorem wim_yX7_shape : Cond.instanceMethod yX7_shape ∈ jT := tbl_in 738 (by decide +kernel)
theorem wim_yX7_entry : Cond.instanceMethod yX7_entry ∈ jT := tbl_in 742 (by decide +kernel)
theorem wim_yX7_least : Cond.instanceMethod yX7_least ∈ jT := tbl_in 746 (by decide +kernel)
theorem wim_yX7_leastOf : Cond.instanceMethod yX7_leastOf ∈ jT := tbl_in 751 (by decide +kernel)
theorem wim_yX7_kth : Cond.instanceMethod yX7_kth ∈ jT := tbl_in 754 (by decide +kernel)
theorem wim_yX7_left : Cond.instanceMethod yX7_left ∈ jT := tbl_in 758 (by decide +kernel)
theorem wim_yX7_leftOf : Cond.instanceMethod yX7_leftOf ∈ jT := tbl_in 763 (by decide +kernel)
theorem wim_yX7_right : Cond.instanceMethod yX7_right ∈ jT := tbl_in 766 (by decide +kernel)
theorem wim_yX7_rightOf : Cond.instanceMethod yX7_rightOf ∈ jT := tbl_in 771 (by decide +kernel)
theorem wim_yX7_owns : Cond.instanceMethod yX7_owns ∈ jT := tbl_in 774 (by decide +kernel)
theorem wim_yX7_ownsOf : Cond.instanceMethod yX7_ownsOf ∈ jT := tbl_in 779 (by decide +kernel)
theorem wim_yX7_sum : Cond.instanceMethod yX7_sum ∈ jT := tbl_in 782 (by decide +kernel)
theorem wim_yX7_parent : Cond.instanceMethod yX7_parent ∈ jT := tbl_in 786 (by decide +kernel)
theorem wim_yX7_depthOf : Cond.instanceMethod yX7_depthOf ∈ jT := tbl_in 791 (by decide +kernel)
theorem wim_yX7_depth : Cond.instanceMethod yX7_depth ∈ jT := tbl_in 794 (by decide +kernel)
theorem wim_yX7_size : Cond.instanceMethod yX7_size ∈ jT := tbl_in 798 (by decide +kernel)
theorem wim_yX7_above : Cond.instanceMethod yX7_above ∈ jT := tbl_in 802 (by decide +kernel)
theorem wim_yX7_alike : Cond.instanceMethod yX7_alike ∈ jT := tbl_in 806 (by decide +kernel)
theorem wim_yX7_takenOff : Cond.instanceMethod yX7_takenOff ∈ jT := tbl_in 811 (by decide +kernel)
theorem wim_yX7_tree : Cond.instanceMethod yX7_tree ∈ jT := tbl_in 814 (by decide +kernel)
theorem wim_yX7_isTree : Cond.instanceMethod yX7_isTree ∈ jT := tbl_in 819 (by decide +kernel)
theorem wim_yX7_meet : Cond.instanceMethod yX7_meet ∈ jT := tbl_in 822 (by decide +kernel)
theorem wim_yX7_againstNodes : Cond.instanceMethod yX7_againstNodes ∈ jT := tbl_in 827 (by decide +kernel)
theorem wim_yX7_isNode : Cond.instanceMethod yX7_isNode ∈ jT := tbl_in 831 (by decide +kernel)
theorem wim_yX7_meeting : Cond.instanceMethod yX7_meeting ∈ jT := tbl_in 835 (by decide +kernel)
theorem wim_yX7_deepness : Cond.instanceMethod yX7_deepness ∈ jT := tbl_in 839 (by decide +kernel)
theorem wim_yX7_upTo : Cond.instanceMethod yX7_upTo ∈ jT := tbl_in 843 (by decide +kernel)
theorem wim_yX7_apart : Cond.instanceMethod yX7_apart ∈ jT := tbl_in 846 (by decide +kernel)
theorem wim_yX7_up : Cond.instanceMethod yX7_up ∈ jT := tbl_in 850 (by decide +kernel)
theorem wim_yX7_node : Cond.instanceMethod yX7_node ∈ jT := tbl_in 854 (by decide +kernel)
theorem wim_yX7_below : Cond.instanceMethod yX7_below ∈ jT := tbl_in 859 (by decide +kernel)
theorem wim_yX7_isBelow : Cond.instanceMethod yX7_isBelow ∈ jT := tbl_in 863 (by decide +kernel)
theorem wim_yX7_firstMet : Cond.instanceMethod yX7_firstMet ∈ jT := tbl_in 867 (by decide +kernel)
theorem wim_yX7_asked : Cond.instanceMethod yX7_asked ∈ jT := tbl_in 870 (by decide +kernel)
theorem wim_yX7_count : Cond.instanceMethod yX7_count ∈ jT := tbl_in 874 (by decide +kernel)
theorem wim_yX7_countOf : Cond.instanceMethod yX7_countOf ∈ jT := tbl_in 879 (by decide +kernel)
theorem wim_yX7_shapesNow : Cond.instanceMethod yX7_shapesNow ∈ jT := tbl_in 883 (by decide +kernel)
theorem wim_yX7_levels : Cond.instanceMethod yX7_levels ∈ jT := tbl_in 887 (by decide +kernel)
theorem wim_yX7_bits : Cond.instanceMethod yX7_bits ∈ jT := tbl_in 891 (by decide +kernel)
theorem wim_yX7_rowsThere : Cond.instanceMethod yX7_rowsThere ∈ jT := tbl_in 895 (by decide +kernel)
theorem wim_yX7_finding : Cond.instanceMethod yX7_finding ∈ jT := tbl_in 898 (by decide +kernel)
theorem wim_yX7_findings : Cond.instanceMethod yX7_findings ∈ jT := tbl_in 902 (by decide +kernel)
theorem wim_yX7_digest : Cond.instanceMethod yX7_digest ∈ jT := tbl_in 906 (by decide +kernel)
theorem wst_yX6_isNoRow : Cond.static yX6_isNoRow ∈ jT := tbl_in 195 (by decide +kernel)
theorem wst_yJ7_fill_53178 : Cond.static yJ7_fill_53178 ∈ jT := tbl_in 206 (by decide +kernel)
theorem wst_arraycopyName : Cond.static arraycopyName ∈ jT := tbl_in 241 (by decide +kernel)
theorem wst_yJ7_fill_d0a16 : Cond.static yJ7_fill_d0a16 ∈ jT := tbl_in 261 (by decide +kernel)
theorem wst_yJ9_min_7cf53 : Cond.static yJ9_min_7cf53 ∈ jT := tbl_in 268 (by decide +kernel)
theorem wst_yX6_isNoImage : Cond.static yX6_isNoImage ∈ jT := tbl_in 321 (by decide +kernel)
theorem wst_yJ6_bitCount_0f7a4 : Cond.static yJ6_bitCount_0f7a4 ∈ jT := tbl_in 342 (by decide +kernel)
theorem wst_yX3_leadingDigit : Cond.static yX3_leadingDigit ∈ jT := tbl_in 352 (by decide +kernel)
theorem wst_yJ9_max_7cf53 : Cond.static yJ9_max_7cf53 ∈ jT := tbl_in 355 (by decide +kernel)
theorem wst_yX0_isTold : Cond.static yX0_isTold ∈ jT := tbl_in 453 (by decide +kernel)
theorem wst_yX0_allComeToTheRoot : Cond.static yX0_allComeToTheRoot ∈ jT := tbl_in 457 (by decide +kernel)
theorem wst_yX0_stepsToTheRoot : Cond.static yX0_stepsToTheRoot ∈ jT := tbl_in 460 (by decide +kernel)
theorem wst_yX7_isRow : Cond.static yX7_isRow ∈ jT := tbl_in 648 (by decide +kernel)
theorem wst_yX7_in : Cond.static yX7_in ∈ jT := tbl_in 651 (by decide +kernel)
theorem wna_arraycopyName : Cond.native arraycopyName ∈ jT := tbl_in 242 (by decide +kernel)
theorem wse_yX6_row : Cond.selects RX6 yX6_row yX6_row ∈ jT := tbl_in 192 (by decide +kernel)
theorem wse_yX4_becomeZeros : Cond.selects RX4 yX4_becomeZeros yX4_becomeZeros ∈ jT := tbl_in 203 (by decide +kernel)
theorem wse_yX6_lay : Cond.selects RX6 yX6_lay yX6_lay ∈ jT := tbl_in 210 (by decide +kernel)
theorem wse_yX4_isMissing : Cond.selects RX4 yX4_isMissing yX4_isMissing ∈ jT := tbl_in 218 (by decide +kernel)
theorem wse_yX4_lacks : Cond.selects RX4 yX4_lacks yX4_lacks ∈ jT := tbl_in 222 (by decide +kernel)
theorem wse_yX6_at : Cond.selects RX6 yX6_at yX6_at ∈ jT := tbl_in 226 (by decide +kernel)
theorem wse_yX6_tear : Cond.selects RX6 yX6_tear yX6_tear ∈ jT := tbl_in 230 (by decide +kernel)
theorem wse_yX6_copy : Cond.selects RX6 yX6_copy yX6_copy ∈ jT := tbl_in 234 (by decide +kernel)
theorem wse_yX4_lacksSome : Cond.selects RX4 yX4_lacksSome yX4_lacksSome ∈ jT := tbl_in 238 (by decide +kernel)
theorem wse_yX6_build : Cond.selects RX6 yX6_build yX6_build ∈ jT := tbl_in 245 (by decide +kernel)
theorem wse_yX3_becomeOver : Cond.selects RX3 yX3_becomeOver yX3_becomeOver ∈ jT := tbl_in 249 (by decide +kernel)
theorem wse_yX4_become : Cond.selects RX4 yX4_become yX4_become ∈ jT := tbl_in 253 (by decide +kernel)
theorem wse_yX5_becomeEmpty : Cond.selects RX5 yX5_becomeEmpty yX5_becomeEmpty ∈ jT := tbl_in 258 (by decide +kernel)
theorem wse_yX5_include : Cond.selects RX5 yX5_include yX5_include ∈ jT := tbl_in 272 (by decide +kernel)
theorem wse_yX5_has : Cond.selects RX5 yX5_has yX5_has ∈ jT := tbl_in 276 (by decide +kernel)
theorem wse_yX1_forget : Cond.selects RX1 yX1_forget yX1_forget ∈ jT := tbl_in 280 (by decide +kernel)
theorem wse_yX6_put : Cond.selects RX6 yX6_put yX6_put ∈ jT := tbl_in 284 (by decide +kernel)
theorem wse_yX3_isNone : Cond.selects RX3 yX3_isNone yX3_isNone ∈ jT := tbl_in 296 (by decide +kernel)
theorem wse_yX1_remember : Cond.selects RX1 yX1_remember yX1_remember ∈ jT := tbl_in 301 (by decide +kernel)
theorem wse_yX3_change : Cond.selects RX3 yX3_change yX3_change ∈ jT := tbl_in 309 (by decide +kernel)
theorem wse_yX6_undo : Cond.selects RX6 yX6_undo yX6_undo ∈ jT := tbl_in 314 (by decide +kernel)
theorem wse_yX6_keep : Cond.selects RX6 yX6_keep yX6_keep ∈ jT := tbl_in 318 (by decide +kernel)
theorem wse_yX6_on : Cond.selects RX6 yX6_on yX6_on ∈ jT := tbl_in 326 (by decide +kernel)
theorem wse_yX6_item : Cond.selects RX6 yX6_item yX6_item ∈ jT := tbl_in 330 (by decide +kernel)
theorem wse_yX6_shape : Cond.selects RX6 yX6_shape yX6_shape ∈ jT := tbl_in 334 (by decide +kernel)
theorem wse_yX6_entry : Cond.selects RX6 yX6_entry yX6_entry ∈ jT := tbl_in 338 (by decide +kernel)
theorem wse_yX3_tableEntry : Cond.selects RX3 yX3_tableEntry yX3_tableEntry ∈ jT := tbl_in 349 (by decide +kernel)
theorem wse_yX6_least : Cond.selects RX6 yX6_least yX6_least ∈ jT := tbl_in 359 (by decide +kernel)
theorem wse_yX3_leastPlace : Cond.selects RX3 yX3_leastPlace yX3_leastPlace ∈ jT := tbl_in 363 (by decide +kernel)
theorem wse_yX6_kth : Cond.selects RX6 yX6_kth yX6_kth ∈ jT := tbl_in 367 (by decide +kernel)
theorem wse_yX3_kthPlace : Cond.selects RX3 yX3_kthPlace yX3_kthPlace ∈ jT := tbl_in 371 (by decide +kernel)
theorem wse_yX6_left : Cond.selects RX6 yX6_left yX6_left ∈ jT := tbl_in 379 (by decide +kernel)
theorem wse_yX3_leftEdge : Cond.selects RX3 yX3_leftEdge yX3_leftEdge ∈ jT := tbl_in 383 (by decide +kernel)
theorem wse_yX6_right : Cond.selects RX6 yX6_right yX6_right ∈ jT := tbl_in 387 (by decide +kernel)
theorem wse_yX3_rightEdge : Cond.selects RX3 yX3_rightEdge yX3_rightEdge ∈ jT := tbl_in 391 (by decide +kernel)
theorem wse_yX6_owns : Cond.selects RX6 yX6_owns yX6_owns ∈ jT := tbl_in 395 (by decide +kernel)
theorem wse_yX3_runsOwned : Cond.selects RX3 yX3_runsOwned yX3_runsOwned ∈ jT := tbl_in 399 (by decide +kernel)
theorem wse_yX6_sum : Cond.selects RX6 yX6_sum yX6_sum ∈ jT := tbl_in 405 (by decide +kernel)
theorem wse_yX6_parent : Cond.selects RX6 yX6_parent yX6_parent ∈ jT := tbl_in 409 (by decide +kernel)
theorem wse_yX3_parentPlace : Cond.selects RX3 yX3_parentPlace yX3_parentPlace ∈ jT := tbl_in 413 (by decide +kernel)
theorem wse_yX6_depth : Cond.selects RX6 yX6_depth yX6_depth ∈ jT := tbl_in 417 (by decide +kernel)
theorem wse_yX3_depthOf : Cond.selects RX3 yX3_depthOf yX3_depthOf ∈ jT := tbl_in 421 (by decide +kernel)
theorem wse_yX6_size : Cond.selects RX6 yX6_size yX6_size ∈ jT := tbl_in 426 (by decide +kernel)
theorem wse_yX6_above : Cond.selects RX6 yX6_above yX6_above ∈ jT := tbl_in 430 (by decide +kernel)
theorem wse_yX3_ancestor : Cond.selects RX3 yX3_ancestor yX3_ancestor ∈ jT := tbl_in 434 (by decide +kernel)
theorem wse_yX6_alike : Cond.selects RX6 yX6_alike yX6_alike ∈ jT := tbl_in 438 (by decide +kernel)
theorem wse_yX3_areAlike : Cond.selects RX3 yX3_areAlike yX3_areAlike ∈ jT := tbl_in 442 (by decide +kernel)
theorem wse_yX6_tree : Cond.selects RX6 yX6_tree yX6_tree ∈ jT := tbl_in 450 (by decide +kernel)
theorem wse_yX0_becomeTold : Cond.selects RX0 yX0_becomeTold yX0_becomeTold ∈ jT := tbl_in 464 (by decide +kernel)
theorem wse_yX6_meet : Cond.selects RX6 yX6_meet yX6_meet ∈ jT := tbl_in 488 (by decide +kernel)
theorem wse_yX0_lacks : Cond.selects RX0 yX0_lacks yX0_lacks ∈ jT := tbl_in 496 (by decide +kernel)
theorem wse_yX0_meetingNode : Cond.selects RX0 yX0_meetingNode yX0_meetingNode ∈ jT := tbl_in 500 (by decide +kernel)
theorem wse_yX6_apart : Cond.selects RX6 yX6_apart yX6_apart ∈ jT := tbl_in 507 (by decide +kernel)
theorem wse_yX6_up : Cond.selects RX6 yX6_up yX6_up ∈ jT := tbl_in 511 (by decide +kernel)
theorem wse_yX0_ancestorAt : Cond.selects RX0 yX0_ancestorAt yX0_ancestorAt ∈ jT := tbl_in 515 (by decide +kernel)
theorem wse_yX6_node : Cond.selects RX6 yX6_node yX6_node ∈ jT := tbl_in 519 (by decide +kernel)
theorem wse_yX6_asked : Cond.selects RX6 yX6_asked yX6_asked ∈ jT := tbl_in 523 (by decide +kernel)
theorem wse_yX6_count : Cond.selects RX6 yX6_count yX6_count ∈ jT := tbl_in 527 (by decide +kernel)
theorem wse_yX3_unlikeShapes : Cond.selects RX3 yX3_unlikeShapes yX3_unlikeShapes ∈ jT := tbl_in 531 (by decide +kernel)
theorem wse_yX3_levels : Cond.selects RX3 yX3_levels yX3_levels ∈ jT := tbl_in 535 (by decide +kernel)
theorem wse_yX3_bits : Cond.selects RX3 yX3_bits yX3_bits ∈ jT := tbl_in 539 (by decide +kernel)
theorem wse_yX6_finding : Cond.selects RX6 yX6_finding yX6_finding ∈ jT := tbl_in 552 (by decide +kernel)
theorem wse_yX6_findings : Cond.selects RX6 yX6_findings yX6_findings ∈ jT := tbl_in 556 (by decide +kernel)
theorem wse_yX6_digest : Cond.selects RX6 yX6_digest yX6_digest ∈ jT := tbl_in 560 (by decide +kernel)
theorem wse_yX4_digestOn : Cond.selects RX4 yX4_digestOn yX4_digestOn ∈ jT := tbl_in 567 (by decide +kernel)
theorem wse_yX7_row : Cond.selects RX7 yX7_row yX7_row ∈ jT := tbl_in 645 (by decide +kernel)
theorem wse_yX7_lay : Cond.selects RX7 yX7_lay yX7_lay ∈ jT := tbl_in 659 (by decide +kernel)
theorem wse_yX7_at : Cond.selects RX7 yX7_at yX7_at ∈ jT := tbl_in 671 (by decide +kernel)
theorem wse_yX7_tear : Cond.selects RX7 yX7_tear yX7_tear ∈ jT := tbl_in 675 (by decide +kernel)
theorem wse_yX7_copy : Cond.selects RX7 yX7_copy yX7_copy ∈ jT := tbl_in 679 (by decide +kernel)
theorem wse_yX7_build : Cond.selects RX7 yX7_build yX7_build ∈ jT := tbl_in 687 (by decide +kernel)
theorem wse_yX7_put : Cond.selects RX7 yX7_put yX7_put ∈ jT := tbl_in 715 (by decide +kernel)
theorem wse_yX7_undo : Cond.selects RX7 yX7_undo yX7_undo ∈ jT := tbl_in 723 (by decide +kernel)
theorem wse_yX7_keep : Cond.selects RX7 yX7_keep yX7_keep ∈ jT := tbl_in 727 (by decide +kernel)
theorem wse_yX7_on : Cond.selects RX7 yX7_on yX7_on ∈ jT := tbl_in 731 (by decide +kernel)
theorem wse_yX7_item : Cond.selects RX7 yX7_item yX7_item ∈ jT := tbl_in 735 (by decide +kernel)
theorem wse_yX7_shape : Cond.selects RX7 yX7_shape yX7_shape ∈ jT := tbl_in 739 (by decide +kernel)
theorem wse_yX7_entry : Cond.selects RX7 yX7_entry yX7_entry ∈ jT := tbl_in 743 (by decide +kernel)
theorem wse_yX7_least : Cond.selects RX7 yX7_least yX7_least ∈ jT := tbl_in 747 (by decide +kernel)
theorem wse_yX7_kth : Cond.selects RX7 yX7_kth yX7_kth ∈ jT := tbl_in 755 (by decide +kernel)
theorem wse_yX7_left : Cond.selects RX7 yX7_left yX7_left ∈ jT := tbl_in 759 (by decide +kernel)
theorem wse_yX7_right : Cond.selects RX7 yX7_right yX7_right ∈ jT := tbl_in 767 (by decide +kernel)
theorem wse_yX7_owns : Cond.selects RX7 yX7_owns yX7_owns ∈ jT := tbl_in 775 (by decide +kernel)
theorem wse_yX7_sum : Cond.selects RX7 yX7_sum yX7_sum ∈ jT := tbl_in 783 (by decide +kernel)
theorem wse_yX7_parent : Cond.selects RX7 yX7_parent yX7_parent ∈ jT := tbl_in 787 (by decide +kernel)
theorem wse_yX7_depth : Cond.selects RX7 yX7_depth yX7_depth ∈ jT := tbl_in 795 (by decide +kernel)
theorem wse_yX7_size : Cond.selects RX7 yX7_size yX7_size ∈ jT := tbl_in 799 (by decide +kernel)
theorem wse_yX7_above : Cond.selects RX7 yX7_above yX7_above ∈ jT := tbl_in 803 (by decide +kernel)
theorem wse_yX7_alike : Cond.selects RX7 yX7_alike yX7_alike ∈ jT := tbl_in 807 (by decide +kernel)
theorem wse_yX7_tree : Cond.selects RX7 yX7_tree yX7_tree ∈ jT := tbl_in 815 (by decide +kernel)
theorem wse_yX7_meet : Cond.selects RX7 yX7_meet yX7_meet ∈ jT := tbl_in 823 (by decide +kernel)
theorem wse_yX7_apart : Cond.selects RX7 yX7_apart yX7_apart ∈ jT := tbl_in 847 (by decide +kernel)
theorem wse_yX7_up : Cond.selects RX7 yX7_up yX7_up ∈ jT := tbl_in 851 (by decide +kernel)
theorem wse_yX7_node : Cond.selects RX7 yX7_node yX7_node ∈ jT := tbl_in 855 (by decide +kernel)
theorem wse_yX7_asked : Cond.selects RX7 yX7_asked yX7_asked ∈ jT := tbl_in 871 (by decide +kernel)
theorem wse_yX7_count : Cond.selects RX7 yX7_count yX7_count ∈ jT := tbl_in 875 (by decide +kernel)
theorem wse_yX7_finding : Cond.selects RX7 yX7_finding yX7_finding ∈ jT := tbl_in 899 (by decide +kernel)
theorem wse_yX7_findings : Cond.selects RX7 yX7_findings yX7_findings ∈ jT := tbl_in 903 (by decide +kernel)
theorem wse_yX7_digest : Cond.selects RX7 yX7_digest yX7_digest ∈ jT := tbl_in 907 (by decide +kernel)
theorem wse_yX6_refuse : Cond.selects RX6 yX6_refuse yX6_refuse ∈ jT := sel_in 0 (by decide +kernel)
theorem wse_yX6_refusalOfPlace : Cond.selects RX6 yX6_refusalOfPlace yX6_refusalOfPlace ∈ jT := sel_in 1 (by decide +kernel)
theorem wse_yX3_shapeNow : Cond.selects RX3 yX3_shapeNow yX3_shapeNow ∈ jT := sel_in 2 (by decide +kernel)
theorem wse_yX6_refusalOfItem : Cond.selects RX6 yX6_refusalOfItem yX6_refusalOfItem ∈ jT := sel_in 3 (by decide +kernel)
theorem wse_yX6_refusalOfRun : Cond.selects RX6 yX6_refusalOfRun yX6_refusalOfRun ∈ jT := sel_in 4 (by decide +kernel)
theorem wse_yX1_loseOldest : Cond.selects RX1 yX1_loseOldest yX1_loseOldest ∈ jT := sel_in 5 (by decide +kernel)
theorem wse_yX3_rank : Cond.selects RX3 yX3_rank yX3_rank ∈ jT := sel_in 6 (by decide +kernel)
theorem wse_yX3_stepsToLeftWithin : Cond.selects RX3 yX3_stepsToLeftWithin yX3_stepsToLeftWithin ∈ jT := sel_in 7 (by decide +kernel)
theorem wse_yX0_countSizes : Cond.selects RX0 yX0_countSizes yX0_countSizes ∈ jT := sel_in 8 (by decide +kernel)
theorem wse_yX0_goTour : Cond.selects RX0 yX0_goTour yX0_goTour ∈ jT := sel_in 9 (by decide +kernel)
theorem wse_yX0_root : Cond.selects RX0 yX0_root yX0_root ∈ jT := sel_in 10 (by decide +kernel)
theorem wse_yX0_sonBehind : Cond.selects RX0 yX0_sonBehind yX0_sonBehind ∈ jT := sel_in 11 (by decide +kernel)
theorem wse_yX6_refusalOfNodes : Cond.selects RX6 yX6_refusalOfNodes yX6_refusalOfNodes ∈ jT := sel_in 12 (by decide +kernel)
theorem wse_yX3_entries : Cond.selects RX3 yX3_entries yX3_entries ∈ jT := sel_in 13 (by decide +kernel)
theorem wse_yX6_rowsThere : Cond.selects RX6 yX6_rowsThere yX6_rowsThere ∈ jT := sel_in 14 (by decide +kernel)
theorem wse_yX7_found : Cond.selects RX7 yX7_found yX7_found ∈ jT := sel_in 15 (by decide +kernel)
theorem wse_yX7_against : Cond.selects RX7 yX7_against yX7_against ∈ jT := sel_in 16 (by decide +kernel)
theorem wse_yX7_tells : Cond.selects RX7 yX7_tells yX7_tells ∈ jT := sel_in 17 (by decide +kernel)
theorem wse_yX7_isPart : Cond.selects RX7 yX7_isPart yX7_isPart ∈ jT := sel_in 18 (by decide +kernel)
theorem wse_yX7_makesAll : Cond.selects RX7 yX7_makesAll yX7_makesAll ∈ jT := sel_in 19 (by decide +kernel)
theorem wse_yX7_blocks : Cond.selects RX7 yX7_blocks yX7_blocks ∈ jT := sel_in 20 (by decide +kernel)
theorem wse_yX7_shapeOfBlock : Cond.selects RX7 yX7_shapeOfBlock yX7_shapeOfBlock ∈ jT := sel_in 21 (by decide +kernel)
theorem wse_yX7_shapeOf : Cond.selects RX7 yX7_shapeOf yX7_shapeOf ∈ jT := sel_in 22 (by decide +kernel)
theorem wse_yX7_makes : Cond.selects RX7 yX7_makes yX7_makes ∈ jT := sel_in 23 (by decide +kernel)
theorem wse_yX7_isMade : Cond.selects RX7 yX7_isMade yX7_isMade ∈ jT := sel_in 24 (by decide +kernel)
theorem wse_yX7_againstRun : Cond.selects RX7 yX7_againstRun yX7_againstRun ∈ jT := sel_in 25 (by decide +kernel)
theorem wse_yX7_leastOf : Cond.selects RX7 yX7_leastOf yX7_leastOf ∈ jT := sel_in 26 (by decide +kernel)
theorem wse_yX7_leftOf : Cond.selects RX7 yX7_leftOf yX7_leftOf ∈ jT := sel_in 27 (by decide +kernel)
theorem wse_yX7_rightOf : Cond.selects RX7 yX7_rightOf yX7_rightOf ∈ jT := sel_in 28 (by decide +kernel)
theorem wse_yX7_ownsOf : Cond.selects RX7 yX7_ownsOf yX7_ownsOf ∈ jT := sel_in 29 (by decide +kernel)
theorem wse_yX7_depthOf : Cond.selects RX7 yX7_depthOf yX7_depthOf ∈ jT := sel_in 30 (by decide +kernel)
theorem wse_yX7_takenOff : Cond.selects RX7 yX7_takenOff yX7_takenOff ∈ jT := sel_in 31 (by decide +kernel)
theorem wse_yX7_isTree : Cond.selects RX7 yX7_isTree yX7_isTree ∈ jT := sel_in 32 (by decide +kernel)
theorem wse_yX7_againstNodes : Cond.selects RX7 yX7_againstNodes yX7_againstNodes ∈ jT := sel_in 33 (by decide +kernel)
theorem wse_yX7_isNode : Cond.selects RX7 yX7_isNode yX7_isNode ∈ jT := sel_in 34 (by decide +kernel)
theorem wse_yX7_meeting : Cond.selects RX7 yX7_meeting yX7_meeting ∈ jT := sel_in 35 (by decide +kernel)
theorem wse_yX7_deepness : Cond.selects RX7 yX7_deepness yX7_deepness ∈ jT := sel_in 36 (by decide +kernel)
theorem wse_yX7_upTo : Cond.selects RX7 yX7_upTo yX7_upTo ∈ jT := sel_in 37 (by decide +kernel)
theorem wse_yX7_below : Cond.selects RX7 yX7_below yX7_below ∈ jT := sel_in 38 (by decide +kernel)
theorem wse_yX7_isBelow : Cond.selects RX7 yX7_isBelow yX7_isBelow ∈ jT := sel_in 39 (by decide +kernel)
theorem wse_yX7_firstMet : Cond.selects RX7 yX7_firstMet yX7_firstMet ∈ jT := sel_in 40 (by decide +kernel)
theorem wse_yX7_countOf : Cond.selects RX7 yX7_countOf yX7_countOf ∈ jT := sel_in 41 (by decide +kernel)
theorem wse_yX7_shapesNow : Cond.selects RX7 yX7_shapesNow yX7_shapesNow ∈ jT := sel_in 42 (by decide +kernel)
theorem wse_yX7_levels : Cond.selects RX7 yX7_levels yX7_levels ∈ jT := sel_in 43 (by decide +kernel)
theorem wse_yX7_bits : Cond.selects RX7 yX7_bits yX7_bits ∈ jT := sel_in 44 (by decide +kernel)
theorem wse_yX7_rowsThere : Cond.selects RX7 yX7_rowsThere yX7_rowsThere ∈ jT := sel_in 45 (by decide +kernel)
theorem wml_L_9 : Cond.methodLink RL 9 yX6_init ∈ jT := tbl_in 15 (by decide +kernel)
theorem wml_X6_3 : Cond.methodLink RX6 3 Lib.objectInit ∈ jT := tbl_in 18 (by decide +kernel)
theorem wml_X6_15 : Cond.methodLink RX6 15 yX4_init ∈ jT := tbl_in 24 (by decide +kernel)
theorem wml_X4_3 : Cond.methodLink RX4 3 Lib.objectInit ∈ jT := tbl_in 27 (by decide +kernel)
theorem wml_X6_22 : Cond.methodLink RX6 22 yX2_init ∈ jT := tbl_in 45 (by decide +kernel)
theorem wml_X2_1 : Cond.methodLink RX2 1 Lib.objectInit ∈ jT := tbl_in 48 (by decide +kernel)
theorem wml_X2_9 : Cond.methodLink RX2 9 yX4_init ∈ jT := tbl_in 50 (by decide +kernel)
theorem wml_X6_25 : Cond.methodLink RX6 25 yX3_init ∈ jT := tbl_in 62 (by decide +kernel)
theorem wml_X3_3 : Cond.methodLink RX3 3 Lib.objectInit ∈ jT := tbl_in 65 (by decide +kernel)
theorem wml_X3_11 : Cond.methodLink RX3 11 yX4_init ∈ jT := tbl_in 67 (by decide +kernel)
theorem wml_X3_24 : Cond.methodLink RX3 24 yX5_init ∈ jT := tbl_in 70 (by decide +kernel)
theorem wml_X5_3 : Cond.methodLink RX5 3 Lib.objectInit ∈ jT := tbl_in 73 (by decide +kernel)
theorem wml_X6_32 : Cond.methodLink RX6 32 yX1_init ∈ jT := tbl_in 109 (by decide +kernel)
theorem wml_X1_3 : Cond.methodLink RX1 3 Lib.objectInit ∈ jT := tbl_in 112 (by decide +kernel)
theorem wml_X6_39 : Cond.methodLink RX6 39 yX0_init ∈ jT := tbl_in 128 (by decide +kernel)
theorem wml_X0_3 : Cond.methodLink RX0 3 Lib.objectInit ∈ jT := tbl_in 131 (by decide +kernel)
theorem wml_X0_29 : Cond.methodLink RX0 29 yX4_init ∈ jT := tbl_in 133 (by decide +kernel)
theorem wml_X0_36 : Cond.methodLink RX0 36 yX3_init ∈ jT := tbl_in 135 (by decide +kernel)
theorem wml_L_13 : Cond.methodLink RL 13 yX6_row ∈ jT := tbl_in 190 (by decide +kernel)
theorem wml_X6_55 : Cond.methodLink RX6 55 yX6_isNoRow ∈ jT := tbl_in 194 (by decide +kernel)
theorem wml_X6_59 : Cond.methodLink RX6 59 yX6_refuse ∈ jT := tbl_in 197 (by decide +kernel)
theorem wml_X6_63 : Cond.methodLink RX6 63 yX4_becomeZeros ∈ jT := tbl_in 201 (by decide +kernel)
theorem wml_X4_19 : Cond.methodLink RX4 19 yJ7_fill_53178 ∈ jT := tbl_in 205 (by decide +kernel)
theorem wml_L_18 : Cond.methodLink RL 18 yX6_lay ∈ jT := tbl_in 208 (by decide +kernel)
theorem wml_X6_67 : Cond.methodLink RX6 67 yX6_refusalOfPlace ∈ jT := tbl_in 212 (by decide +kernel)
theorem wml_X6_74 : Cond.methodLink RX6 74 yX4_isMissing ∈ jT := tbl_in 216 (by decide +kernel)
theorem wml_X6_245 : Cond.methodLink RX6 245 yX4_lacks ∈ jT := tbl_in 220 (by decide +kernel)
theorem wml_L_23 : Cond.methodLink RL 23 yX6_at ∈ jT := tbl_in 224 (by decide +kernel)
theorem wml_L_27 : Cond.methodLink RL 27 yX6_tear ∈ jT := tbl_in 228 (by decide +kernel)
theorem wml_L_32 : Cond.methodLink RL 32 yX6_copy ∈ jT := tbl_in 232 (by decide +kernel)
theorem wml_X6_81 : Cond.methodLink RX6 81 yX4_lacksSome ∈ jT := tbl_in 236 (by decide +kernel)
theorem wml_X6_85 : Cond.methodLink RX6 85 arraycopyName ∈ jT := tbl_in 240 (by decide +kernel)
theorem wml_L_37 : Cond.methodLink RL 37 yX6_build ∈ jT := tbl_in 243 (by decide +kernel)
theorem wml_X6_91 : Cond.methodLink RX6 91 yX3_becomeOver ∈ jT := tbl_in 247 (by decide +kernel)
theorem wml_X3_43 : Cond.methodLink RX3 43 yX4_become ∈ jT := tbl_in 251 (by decide +kernel)
theorem wml_X4_25 : Cond.methodLink RX4 25 arraycopyName ∈ jT := tbl_in 255 (by decide +kernel)
theorem wml_X3_50 : Cond.methodLink RX3 50 yX5_becomeEmpty ∈ jT := tbl_in 256 (by decide +kernel)
theorem wml_X5_19 : Cond.methodLink RX5 19 yJ7_fill_d0a16 ∈ jT := tbl_in 260 (by decide +kernel)
theorem wml_X3_53 : Cond.methodLink RX3 53 yX3_shapeNow ∈ jT := tbl_in 263 (by decide +kernel)
theorem wml_X3_68 : Cond.methodLink RX3 68 yJ9_min_7cf53 ∈ jT := tbl_in 267 (by decide +kernel)
theorem wml_X3_57 : Cond.methodLink RX3 57 yX5_include ∈ jT := tbl_in 270 (by decide +kernel)
theorem wml_X5_25 : Cond.methodLink RX5 25 yX5_has ∈ jT := tbl_in 274 (by decide +kernel)
theorem wml_X6_95 : Cond.methodLink RX6 95 yX1_forget ∈ jT := tbl_in 278 (by decide +kernel)
theorem wml_L_41 : Cond.methodLink RL 41 yX6_put ∈ jT := tbl_in 282 (by decide +kernel)
theorem wml_X6_101 : Cond.methodLink RX6 101 yX6_refusalOfItem ∈ jT := tbl_in 286 (by decide +kernel)
theorem wml_X6_158 : Cond.methodLink RX6 158 yX6_refusalOfRun ∈ jT := tbl_in 290 (by decide +kernel)
theorem wml_X6_125 : Cond.methodLink RX6 125 yX3_isNone ∈ jT := tbl_in 294 (by decide +kernel)
theorem wml_X3_39 : Cond.methodLink RX3 39 yX4_isMissing ∈ jT := tbl_in 298 (by decide +kernel)
theorem wml_X6_108 : Cond.methodLink RX6 108 yX1_remember ∈ jT := tbl_in 299 (by decide +kernel)
theorem wml_X1_22 : Cond.methodLink RX1 22 yX1_loseOldest ∈ jT := tbl_in 303 (by decide +kernel)
theorem wml_X6_112 : Cond.methodLink RX6 112 yX3_change ∈ jT := tbl_in 307 (by decide +kernel)
theorem wml_X3_61 : Cond.methodLink RX3 61 yX4_lacks ∈ jT := tbl_in 311 (by decide +kernel)
theorem wml_L_45 : Cond.methodLink RL 45 yX6_undo ∈ jT := tbl_in 312 (by decide +kernel)
theorem wml_L_50 : Cond.methodLink RL 50 yX6_keep ∈ jT := tbl_in 316 (by decide +kernel)
theorem wml_X6_122 : Cond.methodLink RX6 122 yX6_isNoImage ∈ jT := tbl_in 320 (by decide +kernel)
theorem wml_X6_129 : Cond.methodLink RX6 129 yX4_become ∈ jT := tbl_in 323 (by decide +kernel)
theorem wml_L_54 : Cond.methodLink RL 54 yX6_on ∈ jT := tbl_in 324 (by decide +kernel)
theorem wml_L_58 : Cond.methodLink RL 58 yX6_item ∈ jT := tbl_in 328 (by decide +kernel)
theorem wml_L_62 : Cond.methodLink RL 62 yX6_shape ∈ jT := tbl_in 332 (by decide +kernel)
theorem wml_L_66 : Cond.methodLink RL 66 yX6_entry ∈ jT := tbl_in 336 (by decide +kernel)
theorem wml_X6_144 : Cond.methodLink RX6 144 yX5_has ∈ jT := tbl_in 340 (by decide +kernel)
theorem wml_X6_149 : Cond.methodLink RX6 149 yJ6_bitCount_0f7a4 ∈ jT := tbl_in 341 (by decide +kernel)
theorem wml_X6_154 : Cond.methodLink RX6 154 yX3_tableEntry ∈ jT := tbl_in 347 (by decide +kernel)
theorem wml_X3_74 : Cond.methodLink RX3 74 yX3_leadingDigit ∈ jT := tbl_in 351 (by decide +kernel)
theorem wml_X3_77 : Cond.methodLink RX3 77 yJ9_max_7cf53 ∈ jT := tbl_in 354 (by decide +kernel)
theorem wml_L_70 : Cond.methodLink RL 70 yX6_least ∈ jT := tbl_in 357 (by decide +kernel)
theorem wml_X6_161 : Cond.methodLink RX6 161 yX3_leastPlace ∈ jT := tbl_in 361 (by decide +kernel)
theorem wml_L_74 : Cond.methodLink RL 74 yX6_kth ∈ jT := tbl_in 365 (by decide +kernel)
theorem wml_X6_164 : Cond.methodLink RX6 164 yX3_kthPlace ∈ jT := tbl_in 369 (by decide +kernel)
theorem wml_X3_87 : Cond.methodLink RX3 87 yX3_rank ∈ jT := tbl_in 373 (by decide +kernel)
theorem wml_L_78 : Cond.methodLink RL 78 yX6_left ∈ jT := tbl_in 377 (by decide +kernel)
theorem wml_X6_167 : Cond.methodLink RX6 167 yX3_leftEdge ∈ jT := tbl_in 381 (by decide +kernel)
theorem wml_L_82 : Cond.methodLink RL 82 yX6_right ∈ jT := tbl_in 385 (by decide +kernel)
theorem wml_X6_170 : Cond.methodLink RX6 170 yX3_rightEdge ∈ jT := tbl_in 389 (by decide +kernel)
theorem wml_L_86 : Cond.methodLink RL 86 yX6_owns ∈ jT := tbl_in 393 (by decide +kernel)
theorem wml_X6_173 : Cond.methodLink RX6 173 yX3_runsOwned ∈ jT := tbl_in 397 (by decide +kernel)
theorem wml_X3_91 : Cond.methodLink RX3 91 yX3_leftEdge ∈ jT := tbl_in 401 (by decide +kernel)
theorem wml_X3_94 : Cond.methodLink RX3 94 yX3_rightEdge ∈ jT := tbl_in 402 (by decide +kernel)
theorem wml_L_90 : Cond.methodLink RL 90 yX6_sum ∈ jT := tbl_in 403 (by decide +kernel)
theorem wml_L_95 : Cond.methodLink RL 95 yX6_parent ∈ jT := tbl_in 407 (by decide +kernel)
theorem wml_X6_176 : Cond.methodLink RX6 176 yX3_parentPlace ∈ jT := tbl_in 411 (by decide +kernel)
theorem wml_L_99 : Cond.methodLink RL 99 yX6_depth ∈ jT := tbl_in 415 (by decide +kernel)
theorem wml_X6_179 : Cond.methodLink RX6 179 yX3_depthOf ∈ jT := tbl_in 419 (by decide +kernel)
theorem wml_X3_97 : Cond.methodLink RX3 97 yX3_parentPlace ∈ jT := tbl_in 423 (by decide +kernel)
theorem wml_L_103 : Cond.methodLink RL 103 yX6_size ∈ jT := tbl_in 424 (by decide +kernel)
theorem wml_L_107 : Cond.methodLink RL 107 yX6_above ∈ jT := tbl_in 428 (by decide +kernel)
theorem wml_X6_182 : Cond.methodLink RX6 182 yX3_ancestor ∈ jT := tbl_in 432 (by decide +kernel)
theorem wml_L_111 : Cond.methodLink RL 111 yX6_alike ∈ jT := tbl_in 436 (by decide +kernel)
theorem wml_X6_185 : Cond.methodLink RX6 185 yX3_areAlike ∈ jT := tbl_in 440 (by decide +kernel)
theorem wml_X3_100 : Cond.methodLink RX3 100 yX3_stepsToLeftWithin ∈ jT := tbl_in 444 (by decide +kernel)
theorem wml_L_115 : Cond.methodLink RL 115 yX6_tree ∈ jT := tbl_in 448 (by decide +kernel)
theorem wml_X6_189 : Cond.methodLink RX6 189 yX0_isTold ∈ jT := tbl_in 452 (by decide +kernel)
theorem wml_X0_51 : Cond.methodLink RX0 51 yX4_lacks ∈ jT := tbl_in 455 (by decide +kernel)
theorem wml_X0_55 : Cond.methodLink RX0 55 yX0_allComeToTheRoot ∈ jT := tbl_in 456 (by decide +kernel)
theorem wml_X0_59 : Cond.methodLink RX0 59 yX0_stepsToTheRoot ∈ jT := tbl_in 459 (by decide +kernel)
theorem wml_X6_193 : Cond.methodLink RX6 193 yX0_becomeTold ∈ jT := tbl_in 462 (by decide +kernel)
theorem wml_X0_63 : Cond.methodLink RX0 63 arraycopyName ∈ jT := tbl_in 466 (by decide +kernel)
theorem wml_X0_69 : Cond.methodLink RX0 69 yX0_countSizes ∈ jT := tbl_in 467 (by decide +kernel)
theorem wml_X0_75 : Cond.methodLink RX0 75 yJ7_fill_53178 ∈ jT := tbl_in 471 (by decide +kernel)
theorem wml_X0_72 : Cond.methodLink RX0 72 yX0_goTour ∈ jT := tbl_in 472 (by decide +kernel)
theorem wml_X0_81 : Cond.methodLink RX0 81 yX0_root ∈ jT := tbl_in 476 (by decide +kernel)
theorem wml_X0_85 : Cond.methodLink RX0 85 yX4_becomeZeros ∈ jT := tbl_in 480 (by decide +kernel)
theorem wml_X0_89 : Cond.methodLink RX0 89 yX0_sonBehind ∈ jT := tbl_in 481 (by decide +kernel)
theorem wml_X0_93 : Cond.methodLink RX0 93 yX3_becomeOver ∈ jT := tbl_in 485 (by decide +kernel)
theorem wml_L_119 : Cond.methodLink RL 119 yX6_meet ∈ jT := tbl_in 486 (by decide +kernel)
theorem wml_X6_199 : Cond.methodLink RX6 199 yX6_refusalOfNodes ∈ jT := tbl_in 490 (by decide +kernel)
theorem wml_X6_211 : Cond.methodLink RX6 211 yX0_lacks ∈ jT := tbl_in 494 (by decide +kernel)
theorem wml_X6_202 : Cond.methodLink RX6 202 yX0_meetingNode ∈ jT := tbl_in 498 (by decide +kernel)
theorem wml_X0_97 : Cond.methodLink RX0 97 yJ9_min_7cf53 ∈ jT := tbl_in 502 (by decide +kernel)
theorem wml_X0_102 : Cond.methodLink RX0 102 yJ9_max_7cf53 ∈ jT := tbl_in 503 (by decide +kernel)
theorem wml_X0_105 : Cond.methodLink RX0 105 yX3_leastPlace ∈ jT := tbl_in 504 (by decide +kernel)
theorem wml_L_123 : Cond.methodLink RL 123 yX6_apart ∈ jT := tbl_in 505 (by decide +kernel)
theorem wml_L_127 : Cond.methodLink RL 127 yX6_up ∈ jT := tbl_in 509 (by decide +kernel)
theorem wml_X6_208 : Cond.methodLink RX6 208 yX0_ancestorAt ∈ jT := tbl_in 513 (by decide +kernel)
theorem wml_L_131 : Cond.methodLink RL 131 yX6_node ∈ jT := tbl_in 517 (by decide +kernel)
theorem wml_L_135 : Cond.methodLink RL 135 yX6_asked ∈ jT := tbl_in 521 (by decide +kernel)
theorem wml_L_139 : Cond.methodLink RL 139 yX6_count ∈ jT := tbl_in 525 (by decide +kernel)
theorem wml_X6_220 : Cond.methodLink RX6 220 yX3_unlikeShapes ∈ jT := tbl_in 529 (by decide +kernel)
theorem wml_X6_224 : Cond.methodLink RX6 224 yX3_levels ∈ jT := tbl_in 533 (by decide +kernel)
theorem wml_X6_228 : Cond.methodLink RX6 228 yX3_bits ∈ jT := tbl_in 537 (by decide +kernel)
theorem wml_X3_80 : Cond.methodLink RX3 80 yX3_unlikeShapes ∈ jT := tbl_in 541 (by decide +kernel)
theorem wml_X3_84 : Cond.methodLink RX3 84 yX3_entries ∈ jT := tbl_in 542 (by decide +kernel)
theorem wml_X6_231 : Cond.methodLink RX6 231 yX6_rowsThere ∈ jT := tbl_in 546 (by decide +kernel)
theorem wml_L_143 : Cond.methodLink RL 143 yX6_finding ∈ jT := tbl_in 550 (by decide +kernel)
theorem wml_L_147 : Cond.methodLink RL 147 yX6_findings ∈ jT := tbl_in 554 (by decide +kernel)
theorem wml_L_151 : Cond.methodLink RL 151 yX6_digest ∈ jT := tbl_in 558 (by decide +kernel)
theorem wml_X6_238 : Cond.methodLink RX6 238 yX6_count ∈ jT := tbl_in 564 (by decide +kernel)
theorem wml_X6_241 : Cond.methodLink RX6 241 yX4_digestOn ∈ jT := tbl_in 565 (by decide +kernel)
theorem wml_L_12 : Cond.methodLink RL 12 yX7_init ∈ jT := tbl_in 572 (by decide +kernel)
theorem wml_X7_1 : Cond.methodLink RX7 1 Lib.objectInit ∈ jT := tbl_in 575 (by decide +kernel)
theorem wml_L_17 : Cond.methodLink RL 17 yX7_row ∈ jT := tbl_in 643 (by decide +kernel)
theorem wml_X7_60 : Cond.methodLink RX7 60 yX7_isRow ∈ jT := tbl_in 647 (by decide +kernel)
theorem wml_X7_56 : Cond.methodLink RX7 56 yX7_in ∈ jT := tbl_in 650 (by decide +kernel)
theorem wml_X7_64 : Cond.methodLink RX7 64 yX7_found ∈ jT := tbl_in 653 (by decide +kernel)
theorem wml_L_22 : Cond.methodLink RL 22 yX7_lay ∈ jT := tbl_in 657 (by decide +kernel)
theorem wml_X7_68 : Cond.methodLink RX7 68 yX7_against ∈ jT := tbl_in 661 (by decide +kernel)
theorem wml_X7_72 : Cond.methodLink RX7 72 yX7_tells ∈ jT := tbl_in 665 (by decide +kernel)
theorem wml_L_26 : Cond.methodLink RL 26 yX7_at ∈ jT := tbl_in 669 (by decide +kernel)
theorem wml_L_31 : Cond.methodLink RL 31 yX7_tear ∈ jT := tbl_in 673 (by decide +kernel)
theorem wml_L_36 : Cond.methodLink RL 36 yX7_copy ∈ jT := tbl_in 677 (by decide +kernel)
theorem wml_X7_75 : Cond.methodLink RX7 75 yX7_isPart ∈ jT := tbl_in 681 (by decide +kernel)
theorem wml_L_40 : Cond.methodLink RL 40 yX7_build ∈ jT := tbl_in 685 (by decide +kernel)
theorem wml_X7_110 : Cond.methodLink RX7 110 yX7_makesAll ∈ jT := tbl_in 689 (by decide +kernel)
theorem wml_X7_99 : Cond.methodLink RX7 99 yX7_blocks ∈ jT := tbl_in 693 (by decide +kernel)
theorem wml_X7_103 : Cond.methodLink RX7 103 yX7_shapeOfBlock ∈ jT := tbl_in 697 (by decide +kernel)
theorem wml_X7_87 : Cond.methodLink RX7 87 yX7_shapeOf ∈ jT := tbl_in 701 (by decide +kernel)
theorem wml_X7_106 : Cond.methodLink RX7 106 yX7_makes ∈ jT := tbl_in 705 (by decide +kernel)
theorem wml_X7_90 : Cond.methodLink RX7 90 yX7_isMade ∈ jT := tbl_in 709 (by decide +kernel)
theorem wml_L_44 : Cond.methodLink RL 44 yX7_put ∈ jT := tbl_in 713 (by decide +kernel)
theorem wml_X7_113 : Cond.methodLink RX7 113 yX7_againstRun ∈ jT := tbl_in 717 (by decide +kernel)
theorem wml_L_49 : Cond.methodLink RL 49 yX7_undo ∈ jT := tbl_in 721 (by decide +kernel)
theorem wml_L_53 : Cond.methodLink RL 53 yX7_keep ∈ jT := tbl_in 725 (by decide +kernel)
theorem wml_L_57 : Cond.methodLink RL 57 yX7_on ∈ jT := tbl_in 729 (by decide +kernel)
theorem wml_L_61 : Cond.methodLink RL 61 yX7_item ∈ jT := tbl_in 733 (by decide +kernel)
theorem wml_L_65 : Cond.methodLink RL 65 yX7_shape ∈ jT := tbl_in 737 (by decide +kernel)
theorem wml_L_69 : Cond.methodLink RL 69 yX7_entry ∈ jT := tbl_in 741 (by decide +kernel)
theorem wml_L_73 : Cond.methodLink RL 73 yX7_least ∈ jT := tbl_in 745 (by decide +kernel)
theorem wml_X7_116 : Cond.methodLink RX7 116 yX7_leastOf ∈ jT := tbl_in 749 (by decide +kernel)
theorem wml_L_77 : Cond.methodLink RL 77 yX7_kth ∈ jT := tbl_in 753 (by decide +kernel)
theorem wml_L_81 : Cond.methodLink RL 81 yX7_left ∈ jT := tbl_in 757 (by decide +kernel)
theorem wml_X7_119 : Cond.methodLink RX7 119 yX7_leftOf ∈ jT := tbl_in 761 (by decide +kernel)
theorem wml_L_85 : Cond.methodLink RL 85 yX7_right ∈ jT := tbl_in 765 (by decide +kernel)
theorem wml_X7_122 : Cond.methodLink RX7 122 yX7_rightOf ∈ jT := tbl_in 769 (by decide +kernel)
theorem wml_L_89 : Cond.methodLink RL 89 yX7_owns ∈ jT := tbl_in 773 (by decide +kernel)
theorem wml_X7_125 : Cond.methodLink RX7 125 yX7_ownsOf ∈ jT := tbl_in 777 (by decide +kernel)
theorem wml_L_94 : Cond.methodLink RL 94 yX7_sum ∈ jT := tbl_in 781 (by decide +kernel)
theorem wml_L_98 : Cond.methodLink RL 98 yX7_parent ∈ jT := tbl_in 785 (by decide +kernel)
theorem wml_X7_131 : Cond.methodLink RX7 131 yX7_depthOf ∈ jT := tbl_in 789 (by decide +kernel)
theorem wml_L_102 : Cond.methodLink RL 102 yX7_depth ∈ jT := tbl_in 793 (by decide +kernel)
theorem wml_L_106 : Cond.methodLink RL 106 yX7_size ∈ jT := tbl_in 797 (by decide +kernel)
theorem wml_L_110 : Cond.methodLink RL 110 yX7_above ∈ jT := tbl_in 801 (by decide +kernel)
theorem wml_L_114 : Cond.methodLink RL 114 yX7_alike ∈ jT := tbl_in 805 (by decide +kernel)
theorem wml_X7_134 : Cond.methodLink RX7 134 yX7_takenOff ∈ jT := tbl_in 809 (by decide +kernel)
theorem wml_L_118 : Cond.methodLink RL 118 yX7_tree ∈ jT := tbl_in 813 (by decide +kernel)
theorem wml_X7_137 : Cond.methodLink RX7 137 yX7_isTree ∈ jT := tbl_in 817 (by decide +kernel)
theorem wml_L_122 : Cond.methodLink RL 122 yX7_meet ∈ jT := tbl_in 821 (by decide +kernel)
theorem wml_X7_152 : Cond.methodLink RX7 152 yX7_againstNodes ∈ jT := tbl_in 825 (by decide +kernel)
theorem wml_X7_149 : Cond.methodLink RX7 149 yX7_isNode ∈ jT := tbl_in 829 (by decide +kernel)
theorem wml_X7_155 : Cond.methodLink RX7 155 yX7_meeting ∈ jT := tbl_in 833 (by decide +kernel)
theorem wml_X7_143 : Cond.methodLink RX7 143 yX7_deepness ∈ jT := tbl_in 837 (by decide +kernel)
theorem wml_X7_146 : Cond.methodLink RX7 146 yX7_upTo ∈ jT := tbl_in 841 (by decide +kernel)
theorem wml_L_126 : Cond.methodLink RL 126 yX7_apart ∈ jT := tbl_in 845 (by decide +kernel)
theorem wml_L_130 : Cond.methodLink RL 130 yX7_up ∈ jT := tbl_in 849 (by decide +kernel)
theorem wml_L_134 : Cond.methodLink RL 134 yX7_node ∈ jT := tbl_in 853 (by decide +kernel)
theorem wml_X7_162 : Cond.methodLink RX7 162 yX7_below ∈ jT := tbl_in 857 (by decide +kernel)
theorem wml_X7_158 : Cond.methodLink RX7 158 yX7_isBelow ∈ jT := tbl_in 861 (by decide +kernel)
theorem wml_X7_165 : Cond.methodLink RX7 165 yX7_firstMet ∈ jT := tbl_in 865 (by decide +kernel)
theorem wml_L_138 : Cond.methodLink RL 138 yX7_asked ∈ jT := tbl_in 869 (by decide +kernel)
theorem wml_L_142 : Cond.methodLink RL 142 yX7_count ∈ jT := tbl_in 873 (by decide +kernel)
theorem wml_X7_180 : Cond.methodLink RX7 180 yX7_countOf ∈ jT := tbl_in 877 (by decide +kernel)
theorem wml_X7_168 : Cond.methodLink RX7 168 yX7_shapesNow ∈ jT := tbl_in 881 (by decide +kernel)
theorem wml_X7_171 : Cond.methodLink RX7 171 yX7_levels ∈ jT := tbl_in 885 (by decide +kernel)
theorem wml_X7_174 : Cond.methodLink RX7 174 yX7_bits ∈ jT := tbl_in 889 (by decide +kernel)
theorem wml_X7_177 : Cond.methodLink RX7 177 yX7_rowsThere ∈ jT := tbl_in 893 (by decide +kernel)
theorem wml_L_146 : Cond.methodLink RL 146 yX7_finding ∈ jT := tbl_in 897 (by decide +kernel)
theorem wml_L_150 : Cond.methodLink RL 150 yX7_findings ∈ jT := tbl_in 901 (by decide +kernel)
theorem wml_L_154 : Cond.methodLink RL 154 yX7_digest ∈ jT := tbl_in 905 (by decide +kernel)
theorem wf_X4_9 : Cond.fieldLink RX4 9 (TX4 0).1 (TX4 0).2.1 (TX4 0).2.2.1 ∈ jT := tbl_in 28 (by decide +kernel)
theorem wf_X0_48 : Cond.fieldLink RX0 48 (TX4 0).1 (TX4 0).2.1 (TX4 0).2.2.1 ∈ jT := tbl_in 29 (by decide +kernel)
theorem wf_X6_71 : Cond.fieldLink RX6 71 (TX4 0).1 (TX4 0).2.1 (TX4 0).2.2.1 ∈ jT := tbl_in 30 (by decide +kernel)
theorem wf_X3_65 : Cond.fieldLink RX3 65 (TX4 0).1 (TX4 0).2.1 (TX4 0).2.2.1 ∈ jT := tbl_in 31 (by decide +kernel)
theorem wf_X4_15 : Cond.fieldLink RX4 15 (TX4 1).1 (TX4 1).2.1 (TX4 1).2.2.1 ∈ jT := tbl_in 32 (by decide +kernel)
theorem wf_X0_45 : Cond.fieldLink RX0 45 (TX4 1).1 (TX4 1).2.1 (TX4 1).2.2.1 ∈ jT := tbl_in 33 (by decide +kernel)
theorem wf_X3_47 : Cond.fieldLink RX3 47 (TX4 1).1 (TX4 1).2.1 (TX4 1).2.2.1 ∈ jT := tbl_in 34 (by decide +kernel)
theorem wf_X6_78 : Cond.fieldLink RX6 78 (TX4 1).1 (TX4 1).2.1 (TX4 1).2.2.1 ∈ jT := tbl_in 35 (by decide +kernel)
theorem wf_X2_10 : Cond.fieldLink RX2 10 (TX2 0).1 (TX2 0).2.1 (TX2 0).2.2.1 ∈ jT := tbl_in 51 (by decide +kernel)
theorem wf_X6_128 : Cond.fieldLink RX6 128 (TX2 0).1 (TX2 0).2.1 (TX2 0).2.2.1 ∈ jT := tbl_in 52 (by decide +kernel)
theorem wf_X2_16 : Cond.fieldLink RX2 16 (TX2 1).1 (TX2 1).2.1 (TX2 1).2.2.1 ∈ jT := tbl_in 53 (by decide +kernel)
theorem wf_X6_136 : Cond.fieldLink RX6 136 (TX2 1).1 (TX2 1).2.1 (TX2 1).2.2.1 ∈ jT := tbl_in 54 (by decide +kernel)
theorem wf_X5_9 : Cond.fieldLink RX5 9 (TX5 0).1 (TX5 0).2.1 (TX5 0).2.2.1 ∈ jT := tbl_in 74 (by decide +kernel)
theorem wf_X5_15 : Cond.fieldLink RX5 15 (TX5 1).1 (TX5 1).2.1 (TX5 1).2.2.1 ∈ jT := tbl_in 75 (by decide +kernel)
theorem wf_X6_227 : Cond.fieldLink RX6 227 (TX5 1).1 (TX5 1).2.1 (TX5 1).2.2.1 ∈ jT := tbl_in 76 (by decide +kernel)
theorem wf_X3_12 : Cond.fieldLink RX3 12 (TX3 0).1 (TX3 0).2.1 (TX3 0).2.2.1 ∈ jT := tbl_in 83 (by decide +kernel)
theorem wf_X6_104 : Cond.fieldLink RX6 104 (TX3 0).1 (TX3 0).2.1 (TX3 0).2.2.1 ∈ jT := tbl_in 84 (by decide +kernel)
theorem wf_X3_18 : Cond.fieldLink RX3 18 (TX3 1).1 (TX3 1).2.1 (TX3 1).2.2.1 ∈ jT := tbl_in 85 (by decide +kernel)
theorem wf_X6_137 : Cond.fieldLink RX6 137 (TX3 1).1 (TX3 1).2.1 (TX3 1).2.2.1 ∈ jT := tbl_in 86 (by decide +kernel)
theorem wf_X3_25 : Cond.fieldLink RX3 25 (TX3 2).1 (TX3 2).2.1 (TX3 2).2.2.1 ∈ jT := tbl_in 87 (by decide +kernel)
theorem wf_X6_140 : Cond.fieldLink RX6 140 (TX3 2).1 (TX3 2).2.1 (TX3 2).2.2.1 ∈ jT := tbl_in 88 (by decide +kernel)
theorem wf_X3_29 : Cond.fieldLink RX3 29 (TX3 3).1 (TX3 3).2.1 (TX3 3).2.2.1 ∈ jT := tbl_in 89 (by decide +kernel)
theorem wf_X3_32 : Cond.fieldLink RX3 32 (TX3 4).1 (TX3 4).2.1 (TX3 4).2.2.1 ∈ jT := tbl_in 90 (by decide +kernel)
theorem wf_X6_133 : Cond.fieldLink RX6 133 (TX3 4).1 (TX3 4).2.1 (TX3 4).2.2.1 ∈ jT := tbl_in 91 (by decide +kernel)
theorem wf_X3_36 : Cond.fieldLink RX3 36 (TX3 5).1 (TX3 5).2.1 (TX3 5).2.2.1 ∈ jT := tbl_in 92 (by decide +kernel)
theorem wf_X6_98 : Cond.fieldLink RX6 98 (TX3 5).1 (TX3 5).2.1 (TX3 5).2.2.1 ∈ jT := tbl_in 93 (by decide +kernel)
theorem wf_X1_9 : Cond.fieldLink RX1 9 (TX1 0).1 (TX1 0).2.1 (TX1 0).2.2.1 ∈ jT := tbl_in 113 (by decide +kernel)
theorem wf_X6_116 : Cond.fieldLink RX6 116 (TX1 0).1 (TX1 0).2.1 (TX1 0).2.2.1 ∈ jT := tbl_in 114 (by decide +kernel)
theorem wf_X1_15 : Cond.fieldLink RX1 15 (TX1 1).1 (TX1 1).2.1 (TX1 1).2.2.1 ∈ jT := tbl_in 115 (by decide +kernel)
theorem wf_X6_119 : Cond.fieldLink RX6 119 (TX1 1).1 (TX1 1).2.1 (TX1 1).2.2.1 ∈ jT := tbl_in 116 (by decide +kernel)
theorem wf_X1_18 : Cond.fieldLink RX1 18 (TX1 2).1 (TX1 2).2.1 (TX1 2).2.2.1 ∈ jT := tbl_in 117 (by decide +kernel)
theorem wf_X6_115 : Cond.fieldLink RX6 115 (TX1 2).1 (TX1 2).2.1 (TX1 2).2.2.1 ∈ jT := tbl_in 118 (by decide +kernel)
theorem wf_X0_9 : Cond.fieldLink RX0 9 (TX0 0).1 (TX0 0).2.1 (TX0 0).2.2.1 ∈ jT := tbl_in 136 (by decide +kernel)
theorem wf_X0_15 : Cond.fieldLink RX0 15 (TX0 1).1 (TX0 1).2.1 (TX0 1).2.2.1 ∈ jT := tbl_in 137 (by decide +kernel)
theorem wf_X6_205 : Cond.fieldLink RX6 205 (TX0 1).1 (TX0 1).2.1 (TX0 1).2.2.1 ∈ jT := tbl_in 138 (by decide +kernel)
theorem wf_X0_18 : Cond.fieldLink RX0 18 (TX0 2).1 (TX0 2).2.1 (TX0 2).2.2.1 ∈ jT := tbl_in 139 (by decide +kernel)
theorem wf_X6_214 : Cond.fieldLink RX6 214 (TX0 2).1 (TX0 2).2.1 (TX0 2).2.2.1 ∈ jT := tbl_in 140 (by decide +kernel)
theorem wf_X0_21 : Cond.fieldLink RX0 21 (TX0 3).1 (TX0 3).2.1 (TX0 3).2.2.1 ∈ jT := tbl_in 141 (by decide +kernel)
theorem wf_X6_217 : Cond.fieldLink RX6 217 (TX0 3).1 (TX0 3).2.1 (TX0 3).2.2.1 ∈ jT := tbl_in 142 (by decide +kernel)
theorem wf_X0_24 : Cond.fieldLink RX0 24 (TX0 4).1 (TX0 4).2.1 (TX0 4).2.2.1 ∈ jT := tbl_in 143 (by decide +kernel)
theorem wf_X0_30 : Cond.fieldLink RX0 30 (TX0 5).1 (TX0 5).2.1 (TX0 5).2.2.1 ∈ jT := tbl_in 144 (by decide +kernel)
theorem wf_X0_37 : Cond.fieldLink RX0 37 (TX0 6).1 (TX0 6).2.1 (TX0 6).2.2.1 ∈ jT := tbl_in 145 (by decide +kernel)
theorem wf_X0_41 : Cond.fieldLink RX0 41 (TX0 7).1 (TX0 7).2.1 (TX0 7).2.2.1 ∈ jT := tbl_in 146 (by decide +kernel)
theorem wf_X6_196 : Cond.fieldLink RX6 196 (TX0 7).1 (TX0 7).2.1 (TX0 7).2.2.1 ∈ jT := tbl_in 147 (by decide +kernel)
theorem wf_X6_11 : Cond.fieldLink RX6 11 (TX6 0).1 (TX6 0).2.1 (TX6 0).2.2.1 ∈ jT := tbl_in 165 (by decide +kernel)
theorem wf_X6_26 : Cond.fieldLink RX6 26 (TX6 1).1 (TX6 1).2.1 (TX6 1).2.2.1 ∈ jT := tbl_in 166 (by decide +kernel)
theorem wf_X6_33 : Cond.fieldLink RX6 33 (TX6 2).1 (TX6 2).2.1 (TX6 2).2.2.1 ∈ jT := tbl_in 167 (by decide +kernel)
theorem wf_X6_18 : Cond.fieldLink RX6 18 (TX6 3).1 (TX6 3).2.1 (TX6 3).2.2.1 ∈ jT := tbl_in 168 (by decide +kernel)
theorem wf_X6_40 : Cond.fieldLink RX6 40 (TX6 4).1 (TX6 4).2.1 (TX6 4).2.2.1 ∈ jT := tbl_in 169 (by decide +kernel)
theorem wf_X6_44 : Cond.fieldLink RX6 44 (TX6 5).1 (TX6 5).2.1 (TX6 5).2.2.1 ∈ jT := tbl_in 170 (by decide +kernel)
theorem wf_X6_48 : Cond.fieldLink RX6 48 (TX6 6).1 (TX6 6).2.1 (TX6 6).2.2.1 ∈ jT := tbl_in 171 (by decide +kernel)
theorem wf_X6_52 : Cond.fieldLink RX6 52 (TX6 7).1 (TX6 7).2.1 (TX6 7).2.2.1 ∈ jT := tbl_in 172 (by decide +kernel)
theorem wf_X7_46 : Cond.fieldLink RX7 46 (TX7 0).1 (TX7 0).2.1 (TX7 0).2.2.1 ∈ jT := tbl_in 576 (by decide +kernel)
theorem wf_X7_53 : Cond.fieldLink RX7 53 (TX7 1).1 (TX7 1).2.1 (TX7 1).2.2.1 ∈ jT := tbl_in 577 (by decide +kernel)
theorem wf_X7_50 : Cond.fieldLink RX7 50 (TX7 2).1 (TX7 2).2.1 (TX7 2).2.2.1 ∈ jT := tbl_in 578 (by decide +kernel)
theorem wf_X7_7 : Cond.fieldLink RX7 7 (TX7 3).1 (TX7 3).2.1 (TX7 3).2.2.1 ∈ jT := tbl_in 579 (by decide +kernel)
theorem wf_X7_13 : Cond.fieldLink RX7 13 (TX7 4).1 (TX7 4).2.1 (TX7 4).2.2.1 ∈ jT := tbl_in 580 (by decide +kernel)
theorem wf_X7_16 : Cond.fieldLink RX7 16 (TX7 5).1 (TX7 5).2.1 (TX7 5).2.2.1 ∈ jT := tbl_in 581 (by decide +kernel)
theorem wf_X7_81 : Cond.fieldLink RX7 81 (TX7 6).1 (TX7 6).2.1 (TX7 6).2.2.1 ∈ jT := tbl_in 582 (by decide +kernel)
theorem wf_X7_78 : Cond.fieldLink RX7 78 (TX7 7).1 (TX7 7).2.1 (TX7 7).2.2.1 ∈ jT := tbl_in 583 (by decide +kernel)
theorem wf_X7_19 : Cond.fieldLink RX7 19 (TX7 8).1 (TX7 8).2.1 (TX7 8).2.2.1 ∈ jT := tbl_in 584 (by decide +kernel)
theorem wf_X7_22 : Cond.fieldLink RX7 22 (TX7 9).1 (TX7 9).2.1 (TX7 9).2.2.1 ∈ jT := tbl_in 585 (by decide +kernel)
theorem wf_X7_93 : Cond.fieldLink RX7 93 (TX7 10).1 (TX7 10).2.1 (TX7 10).2.2.1 ∈ jT := tbl_in 586 (by decide +kernel)
theorem wf_X7_25 : Cond.fieldLink RX7 25 (TX7 11).1 (TX7 11).2.1 (TX7 11).2.2.1 ∈ jT := tbl_in 587 (by decide +kernel)
theorem wf_X7_28 : Cond.fieldLink RX7 28 (TX7 12).1 (TX7 12).2.1 (TX7 12).2.2.1 ∈ jT := tbl_in 588 (by decide +kernel)
theorem wf_X7_96 : Cond.fieldLink RX7 96 (TX7 13).1 (TX7 13).2.1 (TX7 13).2.2.1 ∈ jT := tbl_in 589 (by decide +kernel)
theorem wf_X7_31 : Cond.fieldLink RX7 31 (TX7 14).1 (TX7 14).2.1 (TX7 14).2.2.1 ∈ jT := tbl_in 590 (by decide +kernel)
theorem wf_X7_34 : Cond.fieldLink RX7 34 (TX7 15).1 (TX7 15).2.1 (TX7 15).2.2.1 ∈ jT := tbl_in 591 (by decide +kernel)
theorem wf_X7_37 : Cond.fieldLink RX7 37 (TX7 16).1 (TX7 16).2.1 (TX7 16).2.2.1 ∈ jT := tbl_in 592 (by decide +kernel)
theorem wf_X7_40 : Cond.fieldLink RX7 40 (TX7 17).1 (TX7 17).2.1 (TX7 17).2.2.1 ∈ jT := tbl_in 593 (by decide +kernel)
theorem wf_X7_84 : Cond.fieldLink RX7 84 (TX7 18).1 (TX7 18).2.1 (TX7 18).2.2.1 ∈ jT := tbl_in 594 (by decide +kernel)
theorem wf_X7_140 : Cond.fieldLink RX7 140 (TX7 19).1 (TX7 19).2.1 (TX7 19).2.2.1 ∈ jT := tbl_in 595 (by decide +kernel)
theorem wf_X7_43 : Cond.fieldLink RX7 43 (TX7 20).1 (TX7 20).2.1 (TX7 20).2.2.1 ∈ jT := tbl_in 596 (by decide +kernel)
theorem wf_X7_128 : Cond.fieldLink RX7 128 (TX7 21).1 (TX7 21).2.1 (TX7 21).2.2.1 ∈ jT := tbl_in 597 (by decide +kernel)
theorem wk_J6_265 : Cond.constant RJ6 265 1431655765 ∈ jT := tbl_in 344 (by decide +kernel)
theorem wk_J6_266 : Cond.constant RJ6 266 858993459 ∈ jT := tbl_in 345 (by decide +kernel)
theorem wk_J6_267 : Cond.constant RJ6 267 252645135 ∈ jT := tbl_in 346 (by decide +kernel)
theorem wk_X6_234 : Cond.constantLong RX6 234 17 ∈ jT := tbl_in 562 (by decide +kernel)
theorem wk_X6_236 : Cond.constantLong RX6 236 31 ∈ jT := tbl_in 563 (by decide +kernel)
theorem wk_X4_31 : Cond.constantLong RX4 31 31 ∈ jT := tbl_in 569 (by decide +kernel)
theorem wk_X7_183 : Cond.constantLong RX7 183 17 ∈ jT := tbl_in 909 (by decide +kernel)
theorem wk_X7_185 : Cond.constantLong RX7 185 31 ∈ jT := tbl_in 910 (by decide +kernel)
theorem wac_int : Cond.arrayClass .int ∈ jT := tbl_in 41 (by decide +kernel)
theorem wac_long : Cond.arrayClass .long ∈ jT := tbl_in 82 (by decide +kernel)
theorem wao_X4 : Cond.arrayOver (.object RX4) ∈ lw_tbl := tbl_lw 22 (by decide +kernel)
theorem wao_X2 : Cond.arrayOver (.object RX2) ∈ lw_tbl := tbl_lw 43 (by decide +kernel)
end
section
theorem dX0_init_0 : decode cX0_init 0 = .ok (.aload_n 0, 1) := by decide +kernel
theorem dX0_init_1 : decode cX0_init 1 = .ok (.invokespecial 3, 3) := by decide +kernel
theorem dX0_init_4 : decode cX0_init 4 = .ok (.aload_n 0, 1) := by decide +kernel
theorem dX0_init_5 : decode cX0_init 5 = .ok (.bipush 24, 2) := by decide +kernel
theorem dX0_init_7 : decode cX0_init 7 = .ok (.newarray .int, 2) := by decide +kernel
theorem dX0_init_9 : decode cX0_init 9 = .ok (.putfield 9, 3) := by decide +kernel
theorem dX0_init_12 : decode cX0_init 12 = .ok (.aload_n 0, 1) := by decide +kernel
theorem dX0_init_13 : decode cX0_init 13 = .ok (.bipush 24, 2) := by decide +kernel
theorem dX0_init_15 : decode cX0_init 15 = .ok (.newarray .int, 2) := by decide +kernel
theorem dX0_init_17 : decode cX0_init 17 = .ok (.putfield 15, 3) := by decide +kernel
theorem dX0_init_20 : decode cX0_init 20 = .ok (.aload_n 0, 1) := by decide +kernel
theorem dX0_init_21 : decode cX0_init 21 = .ok (.bipush 24, 2) := by decide +kernel
theorem dX0_init_23 : decode cX0_init 23 = .ok (.newarray .int, 2) := by decide +kernel
theorem dX0_init_25 : decode cX0_init 25 = .ok (.putfield 18, 3) := by decide +kernel
theorem dX0_init_28 : decode cX0_init 28 = .ok (.aload_n 0, 1) := by decide +kernel
theorem dX0_init_29 : decode cX0_init 29 = .ok (.bipush 24, 2) := by decide +kernel
theorem dX0_init_31 : decode cX0_init 31 = .ok (.newarray .int, 2) := by decide +kernel
theorem dX0_init_33 : decode cX0_init 33 = .ok (.putfield 21, 3) := by decide +kernel
theorem dX0_init_36 : decode cX0_init 36 = .ok (.aload_n 0, 1) := by decide +kernel
theorem dX0_init_37 : decode cX0_init 37 = .ok (.bipush 47, 2) := by decide +kernel
theorem dX0_init_39 : decode cX0_init 39 = .ok (.newarray .int, 2) := by decide +kernel
theorem dX0_init_41 : decode cX0_init 41 = .ok (.putfield 24, 3) := by decide +kernel
theorem dX0_init_44 : decode cX0_init 44 = .ok (.aload_n 0, 1) := by decide +kernel
theorem dX0_init_45 : decode cX0_init 45 = .ok (.new 27, 3) := by decide +kernel
theorem dX0_init_48 : decode cX0_init 48 = .ok (.dup, 1) := by decide +kernel
theorem dX0_init_49 : decode cX0_init 49 = .ok (.invokespecial 29, 3) := by decide +kernel
theorem dX0_init_52 : decode cX0_init 52 = .ok (.putfield 30, 3) := by decide +kernel
theorem dX0_init_55 : decode cX0_init 55 = .ok (.aload_n 0, 1) := by decide +kernel
theorem dX0_init_56 : decode cX0_init 56 = .ok (.new 34, 3) := by decide +kernel
theorem dX0_init_59 : decode cX0_init 59 = .ok (.dup, 1) := by decide +kernel
theorem dX0_init_60 : decode cX0_init 60 = .ok (.invokespecial 36, 3) := by decide +kernel
theorem dX0_init_63 : decode cX0_init 63 = .ok (.putfield 37, 3) := by decide +kernel
theorem dX0_init_66 : decode cX0_init 66 = .ok (.aload_n 0, 1) := by decide +kernel
theorem dX0_init_67 : decode cX0_init 67 = .ok (.iconst 0, 1) := by decide +kernel
theorem dX0_init_68 : decode cX0_init 68 = .ok (.putfield 41, 3) := by decide +kernel
theorem dX0_init_71 : decode cX0_init 71 = .ok (.return_, 1) := by decide +kernel
theorem dX0_lacks_0 : decode cX0_lacks 0 = .ok (.iload_n 1, 1) := by decide +kernel
theorem dX0_lacks_1 : decode cX0_lacks 1 = .ok (.ifCond .lt 11, 3) := by decide +kernel
theorem dX0_lacks_4 : decode cX0_lacks 4 = .ok (.iload_n 1, 1) := by decide +kernel
theorem dX0_lacks_5 : decode cX0_lacks 5 = .ok (.aload_n 0, 1) := by decide +kernel
theorem dX0_lacks_6 : decode cX0_lacks 6 = .ok (.getfield 41, 3) := by decide +kernel
theorem dX0_lacks_9 : decode cX0_lacks 9 = .ok (.if_icmp .lt 7, 3) := by decide +kernel
theorem dX0_lacks_12 : decode cX0_lacks 12 = .ok (.iconst 1, 1) := by decide +kernel
theorem dX0_lacks_13 : decode cX0_lacks 13 = .ok (.goto 4, 3) := by decide +kernel
theorem dX0_lacks_16 : decode cX0_lacks 16 = .ok (.iconst 0, 1) := by decide +kernel
theorem dX0_lacks_17 : decode cX0_lacks 17 = .ok (.ireturn, 1) := by decide +kernel
theorem dX0_isTold_0 : decode cX0_isTold 0 = .ok (.iconst 0, 1) := by decide +kernel
theorem dX0_isTold_1 : decode cX0_isTold 1 = .ok (.istore_n 1, 1) := by decide +kernel
theorem dX0_isTold_2 : decode cX0_isTold 2 = .ok (.iconst 0, 1) := by decide +kernel
theorem dX0_isTold_3 : decode cX0_isTold 3 = .ok (.istore_n 2, 1) := by decide +kernel
theorem dX0_isTold_4 : decode cX0_isTold 4 = .ok (.iload_n 2, 1) := by decide +kernel
theorem dX0_isTold_5 : decode cX0_isTold 5 = .ok (.aload_n 0, 1) := by decide +kernel
theorem dX0_isTold_6 : decode cX0_isTold 6 = .ok (.getfield 45, 3) := by decide +kernel
theorem dX0_isTold_9 : decode cX0_isTold 9 = .ok (.if_icmp .ge 40, 3) := by decide +kernel
theorem dX0_isTold_12 : decode cX0_isTold 12 = .ok (.aload_n 0, 1) := by decide +kernel
theorem dX0_isTold_13 : decode cX0_isTold 13 = .ok (.getfield 48, 3) := by decide +kernel
theorem dX0_isTold_16 : decode cX0_isTold 16 = .ok (.iload_n 2, 1) := by decide +kernel
theorem dX0_isTold_17 : decode cX0_isTold 17 = .ok (.iaload, 1) := by decide +kernel
theorem dX0_isTold_18 : decode cX0_isTold 18 = .ok (.iconst (-1), 1) := by decide +kernel
theorem dX0_isTold_19 : decode cX0_isTold 19 = .ok (.if_icmp .ne 9, 3) := by decide +kernel
theorem dX0_isTold_22 : decode cX0_isTold 22 = .ok (.iinc 1 1, 3) := by decide +kernel
theorem dX0_isTold_25 : decode cX0_isTold 25 = .ok (.goto 18, 3) := by decide +kernel
theorem dX0_isTold_28 : decode cX0_isTold 28 = .ok (.aload_n 0, 1) := by decide +kernel
theorem dX0_isTold_29 : decode cX0_isTold 29 = .ok (.aload_n 0, 1) := by decide +kernel
theorem dX0_isTold_30 : decode cX0_isTold 30 = .ok (.getfield 48, 3) := by decide +kernel
theorem dX0_isTold_33 : decode cX0_isTold 33 = .ok (.iload_n 2, 1) := by decide +kernel
theorem dX0_isTold_34 : decode cX0_isTold 34 = .ok (.iaload, 1) := by decide +kernel
theorem dX0_isTold_35 : decode cX0_isTold 35 = .ok (.invokevirtual 51, 3) := by decide +kernel
theorem dX0_isTold_38 : decode cX0_isTold 38 = .ok (.ifCond .eq 5, 3) := by decide +kernel
theorem dX0_isTold_41 : decode cX0_isTold 41 = .ok (.iconst 0, 1) := by decide +kernel
theorem dX0_isTold_42 : decode cX0_isTold 42 = .ok (.ireturn, 1) := by decide +kernel
theorem dX0_isTold_43 : decode cX0_isTold 43 = .ok (.iinc 2 1, 3) := by decide +kernel
theorem dX0_isTold_46 : decode cX0_isTold 46 = .ok (.goto (-42), 3) := by decide +kernel
theorem dX0_isTold_49 : decode cX0_isTold 49 = .ok (.iload_n 1, 1) := by decide +kernel
theorem dX0_isTold_50 : decode cX0_isTold 50 = .ok (.iconst 1, 1) := by decide +kernel
theorem dX0_isTold_51 : decode cX0_isTold 51 = .ok (.if_icmp .ne 14, 3) := by decide +kernel
theorem dX0_isTold_54 : decode cX0_isTold 54 = .ok (.aload_n 0, 1) := by decide +kernel
theorem dX0_isTold_55 : decode cX0_isTold 55 = .ok (.invokestatic 55, 3) := by decide +kernel
theorem dX0_isTold_58 : decode cX0_isTold 58 = .ok (.ifCond .eq 7, 3) := by decide +kernel
theorem dX0_isTold_61 : decode cX0_isTold 61 = .ok (.iconst 1, 1) := by decide +kernel
theorem dX0_isTold_62 : decode cX0_isTold 62 = .ok (.goto 4, 3) := by decide +kernel
theorem dX0_isTold_65 : decode cX0_isTold 65 = .ok (.iconst 0, 1) := by decide +kernel
theorem dX0_isTold_66 : decode cX0_isTold 66 = .ok (.ireturn, 1) := by decide +kernel
theorem dX0_allComeToTheRoot_0 : decode cX0_allComeToTheRoot 0 = .ok (.iconst 0, 1) := by decide +kernel
theorem dX0_allComeToTheRoot_1 : decode cX0_allComeToTheRoot 1 = .ok (.istore_n 1, 1) := by decide +kernel
theorem dX0_allComeToTheRoot_2 : decode cX0_allComeToTheRoot 2 = .ok (.iload_n 1, 1) := by decide +kernel
theorem dX0_allComeToTheRoot_3 : decode cX0_allComeToTheRoot 3 = .ok (.aload_n 0, 1) := by decide +kernel
theorem dX0_allComeToTheRoot_4 : decode cX0_allComeToTheRoot 4 = .ok (.getfield 45, 3) := by decide +kernel
theorem dX0_allComeToTheRoot_7 : decode cX0_allComeToTheRoot 7 = .ok (.if_icmp .ge 30, 3) := by decide +kernel
theorem dX0_allComeToTheRoot_10 : decode cX0_allComeToTheRoot 10 = .ok (.aload_n 0, 1) := by decide +kernel
theorem dX0_allComeToTheRoot_11 : decode cX0_allComeToTheRoot 11 = .ok (.getfield 48, 3) := by decide +kernel
theorem dX0_allComeToTheRoot_14 : decode cX0_allComeToTheRoot 14 = .ok (.iload_n 1, 1) := by decide +kernel
theorem dX0_allComeToTheRoot_15 : decode cX0_allComeToTheRoot 15 = .ok (.aload_n 0, 1) := by decide +kernel
theorem dX0_allComeToTheRoot_16 : decode cX0_allComeToTheRoot 16 = .ok (.getfield 45, 3) := by decide +kernel
theorem dX0_allComeToTheRoot_19 : decode cX0_allComeToTheRoot 19 = .ok (.invokestatic 59, 3) := by decide +kernel
theorem dX0_allComeToTheRoot_22 : decode cX0_allComeToTheRoot 22 = .ok (.aload_n 0, 1) := by decide +kernel
theorem dX0_allComeToTheRoot_23 : decode cX0_allComeToTheRoot 23 = .ok (.getfield 45, 3) := by decide +kernel
theorem dX0_allComeToTheRoot_26 : decode cX0_allComeToTheRoot 26 = .ok (.if_icmp .lt 5, 3) := by decide +kernel
theorem dX0_allComeToTheRoot_29 : decode cX0_allComeToTheRoot 29 = .ok (.iconst 0, 1) := by decide +kernel
theorem dX0_allComeToTheRoot_30 : decode cX0_allComeToTheRoot 30 = .ok (.ireturn, 1) := by decide +kernel
theorem dX0_allComeToTheRoot_31 : decode cX0_allComeToTheRoot 31 = .ok (.iinc 1 1, 3) := by decide +kernel
theorem dX0_allComeToTheRoot_34 : decode cX0_allComeToTheRoot 34 = .ok (.goto (-32), 3) := by decide +kernel
theorem dX0_allComeToTheRoot_37 : decode cX0_allComeToTheRoot 37 = .ok (.iconst 1, 1) := by decide +kernel
theorem dX0_allComeToTheRoot_38 : decode cX0_allComeToTheRoot 38 = .ok (.ireturn, 1) := by decide +kernel
theorem dX0_stepsToTheRoot_0 : decode cX0_stepsToTheRoot 0 = .ok (.iconst 0, 1) := by decide +kernel
theorem dX0_stepsToTheRoot_1 : decode cX0_stepsToTheRoot 1 = .ok (.istore_n 3, 1) := by decide +kernel
theorem dX0_stepsToTheRoot_2 : decode cX0_stepsToTheRoot 2 = .ok (.iload_n 1, 1) := by decide +kernel
theorem dX0_stepsToTheRoot_3 : decode cX0_stepsToTheRoot 3 = .ok (.istore 4, 2) := by decide +kernel
theorem dX0_stepsToTheRoot_5 : decode cX0_stepsToTheRoot 5 = .ok (.iload_n 3, 1) := by decide +kernel
theorem dX0_stepsToTheRoot_6 : decode cX0_stepsToTheRoot 6 = .ok (.iload_n 2, 1) := by decide +kernel
theorem dX0_stepsToTheRoot_7 : decode cX0_stepsToTheRoot 7 = .ok (.if_icmp .ge 23, 3) := by decide +kernel
theorem dX0_stepsToTheRoot_10 : decode cX0_stepsToTheRoot 10 = .ok (.aload_n 0, 1) := by decide +kernel
theorem dX0_stepsToTheRoot_11 : decode cX0_stepsToTheRoot 11 = .ok (.iload 4, 2) := by decide +kernel
theorem dX0_stepsToTheRoot_13 : decode cX0_stepsToTheRoot 13 = .ok (.iaload, 1) := by decide +kernel
theorem dX0_stepsToTheRoot_14 : decode cX0_stepsToTheRoot 14 = .ok (.iconst (-1), 1) := by decide +kernel
theorem dX0_stepsToTheRoot_15 : decode cX0_stepsToTheRoot 15 = .ok (.if_icmp .eq 15, 3) := by decide +kernel
theorem dX0_stepsToTheRoot_18 : decode cX0_stepsToTheRoot 18 = .ok (.aload_n 0, 1) := by decide +kernel
theorem dX0_stepsToTheRoot_19 : decode cX0_stepsToTheRoot 19 = .ok (.iload 4, 2) := by decide +kernel
theorem dX0_stepsToTheRoot_21 : decode cX0_stepsToTheRoot 21 = .ok (.iaload, 1) := by decide +kernel
theorem dX0_stepsToTheRoot_22 : decode cX0_stepsToTheRoot 22 = .ok (.istore 4, 2) := by decide +kernel
theorem dX0_stepsToTheRoot_24 : decode cX0_stepsToTheRoot 24 = .ok (.iinc 3 1, 3) := by decide +kernel
theorem dX0_stepsToTheRoot_27 : decode cX0_stepsToTheRoot 27 = .ok (.goto (-22), 3) := by decide +kernel
theorem dX0_stepsToTheRoot_30 : decode cX0_stepsToTheRoot 30 = .ok (.iload_n 3, 1) := by decide +kernel
theorem dX0_stepsToTheRoot_31 : decode cX0_stepsToTheRoot 31 = .ok (.ireturn, 1) := by decide +kernel
theorem dX0_becomeTold_0 : decode cX0_becomeTold 0 = .ok (.aload_n 0, 1) := by decide +kernel
theorem dX0_becomeTold_1 : decode cX0_becomeTold 1 = .ok (.aload_n 1, 1) := by decide +kernel
theorem dX0_becomeTold_2 : decode cX0_becomeTold 2 = .ok (.getfield 45, 3) := by decide +kernel
theorem dX0_becomeTold_5 : decode cX0_becomeTold 5 = .ok (.putfield 41, 3) := by decide +kernel
theorem dX0_becomeTold_8 : decode cX0_becomeTold 8 = .ok (.aload_n 1, 1) := by decide +kernel
theorem dX0_becomeTold_9 : decode cX0_becomeTold 9 = .ok (.getfield 48, 3) := by decide +kernel
theorem dX0_becomeTold_12 : decode cX0_becomeTold 12 = .ok (.iconst 0, 1) := by decide +kernel
theorem dX0_becomeTold_13 : decode cX0_becomeTold 13 = .ok (.aload_n 0, 1) := by decide +kernel
theorem dX0_becomeTold_14 : decode cX0_becomeTold 14 = .ok (.getfield 9, 3) := by decide +kernel
theorem dX0_becomeTold_17 : decode cX0_becomeTold 17 = .ok (.iconst 0, 1) := by decide +kernel
theorem dX0_becomeTold_18 : decode cX0_becomeTold 18 = .ok (.aload_n 0, 1) := by decide +kernel
theorem dX0_becomeTold_19 : decode cX0_becomeTold 19 = .ok (.getfield 41, 3) := by decide +kernel
theorem dX0_becomeTold_22 : decode cX0_becomeTold 22 = .ok (.invokestatic 63, 3) := by decide +kernel
theorem dX0_becomeTold_25 : decode cX0_becomeTold 25 = .ok (.iconst 0, 1) := by decide +kernel
theorem dX0_becomeTold_26 : decode cX0_becomeTold 26 = .ok (.istore_n 2, 1) := by decide +kernel
theorem dX0_becomeTold_27 : decode cX0_becomeTold 27 = .ok (.iload_n 2, 1) := by decide +kernel
theorem dX0_becomeTold_28 : decode cX0_becomeTold 28 = .ok (.aload_n 0, 1) := by decide +kernel
theorem dX0_becomeTold_29 : decode cX0_becomeTold 29 = .ok (.getfield 41, 3) := by decide +kernel
theorem dX0_becomeTold_32 : decode cX0_becomeTold 32 = .ok (.if_icmp .ge 27, 3) := by decide +kernel
theorem dX0_becomeTold_35 : decode cX0_becomeTold 35 = .ok (.aload_n 0, 1) := by decide +kernel
theorem dX0_becomeTold_36 : decode cX0_becomeTold 36 = .ok (.getfield 15, 3) := by decide +kernel
theorem dX0_becomeTold_39 : decode cX0_becomeTold 39 = .ok (.iload_n 2, 1) := by decide +kernel
theorem dX0_becomeTold_40 : decode cX0_becomeTold 40 = .ok (.aload_n 0, 1) := by decide +kernel
theorem dX0_becomeTold_41 : decode cX0_becomeTold 41 = .ok (.getfield 9, 3) := by decide +kernel
theorem dX0_becomeTold_44 : decode cX0_becomeTold 44 = .ok (.iload_n 2, 1) := by decide +kernel
theorem dX0_becomeTold_45 : decode cX0_becomeTold 45 = .ok (.aload_n 0, 1) := by decide +kernel
theorem dX0_becomeTold_46 : decode cX0_becomeTold 46 = .ok (.getfield 41, 3) := by decide +kernel
theorem dX0_becomeTold_49 : decode cX0_becomeTold 49 = .ok (.invokestatic 59, 3) := by decide +kernel
theorem dX0_becomeTold_52 : decode cX0_becomeTold 52 = .ok (.iastore, 1) := by decide +kernel
theorem dX0_becomeTold_53 : decode cX0_becomeTold 53 = .ok (.iinc 2 1, 3) := by decide +kernel
theorem dX0_becomeTold_56 : decode cX0_becomeTold 56 = .ok (.goto (-29), 3) := by decide +kernel
theorem dX0_becomeTold_59 : decode cX0_becomeTold 59 = .ok (.aload_n 0, 1) := by decide +kernel
theorem dX0_becomeTold_60 : decode cX0_becomeTold 60 = .ok (.invokevirtual 69, 3) := by decide +kernel
theorem dX0_becomeTold_63 : decode cX0_becomeTold 63 = .ok (.aload_n 0, 1) := by decide +kernel
theorem dX0_becomeTold_64 : decode cX0_becomeTold 64 = .ok (.invokevirtual 72, 3) := by decide +kernel
theorem dX0_becomeTold_67 : decode cX0_becomeTold 67 = .ok (.return_, 1) := by decide +kernel
theorem dX0_countSizes_0 : decode cX0_countSizes 0 = .ok (.aload_n 0, 1) := by decide +kernel
theorem dX0_countSizes_1 : decode cX0_countSizes 1 = .ok (.getfield 18, 3) := by decide +kernel
theorem dX0_countSizes_4 : decode cX0_countSizes 4 = .ok (.iconst 0, 1) := by decide +kernel
theorem dX0_countSizes_5 : decode cX0_countSizes 5 = .ok (.invokestatic 75, 3) := by decide +kernel
theorem dX0_countSizes_8 : decode cX0_countSizes 8 = .ok (.iconst 0, 1) := by decide +kernel
theorem dX0_countSizes_9 : decode cX0_countSizes 9 = .ok (.istore_n 1, 1) := by decide +kernel
theorem dX0_countSizes_10 : decode cX0_countSizes 10 = .ok (.iload_n 1, 1) := by decide +kernel
theorem dX0_countSizes_11 : decode cX0_countSizes 11 = .ok (.aload_n 0, 1) := by decide +kernel
theorem dX0_countSizes_12 : decode cX0_countSizes 12 = .ok (.getfield 41, 3) := by decide +kernel
theorem dX0_countSizes_15 : decode cX0_countSizes 15 = .ok (.if_icmp .ge 46, 3) := by decide +kernel
theorem dX0_countSizes_18 : decode cX0_countSizes 18 = .ok (.iload_n 1, 1) := by decide +kernel
theorem dX0_countSizes_19 : decode cX0_countSizes 19 = .ok (.istore_n 2, 1) := by decide +kernel
theorem dX0_countSizes_20 : decode cX0_countSizes 20 = .ok (.iconst 0, 1) := by decide +kernel
theorem dX0_countSizes_21 : decode cX0_countSizes 21 = .ok (.istore_n 3, 1) := by decide +kernel
theorem dX0_countSizes_22 : decode cX0_countSizes 22 = .ok (.iload_n 3, 1) := by decide +kernel
theorem dX0_countSizes_23 : decode cX0_countSizes 23 = .ok (.aload_n 0, 1) := by decide +kernel
theorem dX0_countSizes_24 : decode cX0_countSizes 24 = .ok (.getfield 15, 3) := by decide +kernel
theorem dX0_countSizes_27 : decode cX0_countSizes 27 = .ok (.iload_n 1, 1) := by decide +kernel
theorem dX0_countSizes_28 : decode cX0_countSizes 28 = .ok (.iaload, 1) := by decide +kernel
theorem dX0_countSizes_29 : decode cX0_countSizes 29 = .ok (.if_icmp .gt 26, 3) := by decide +kernel
theorem dX0_countSizes_32 : decode cX0_countSizes 32 = .ok (.aload_n 0, 1) := by decide +kernel
theorem dX0_countSizes_33 : decode cX0_countSizes 33 = .ok (.getfield 18, 3) := by decide +kernel
theorem dX0_countSizes_36 : decode cX0_countSizes 36 = .ok (.iload_n 2, 1) := by decide +kernel
theorem dX0_countSizes_37 : decode cX0_countSizes 37 = .ok (.dup2, 1) := by decide +kernel
theorem dX0_countSizes_38 : decode cX0_countSizes 38 = .ok (.iaload, 1) := by decide +kernel
theorem dX0_countSizes_39 : decode cX0_countSizes 39 = .ok (.iconst 1, 1) := by decide +kernel
theorem dX0_countSizes_40 : decode cX0_countSizes 40 = .ok (.iadd, 1) := by decide +kernel
theorem dX0_countSizes_41 : decode cX0_countSizes 41 = .ok (.iastore, 1) := by decide +kernel
theorem dX0_countSizes_42 : decode cX0_countSizes 42 = .ok (.aload_n 0, 1) := by decide +kernel
theorem dX0_countSizes_43 : decode cX0_countSizes 43 = .ok (.getfield 9, 3) := by decide +kernel
theorem dX0_countSizes_46 : decode cX0_countSizes 46 = .ok (.iload_n 2, 1) := by decide +kernel
theorem dX0_countSizes_47 : decode cX0_countSizes 47 = .ok (.iaload, 1) := by decide +kernel
theorem dX0_countSizes_48 : decode cX0_countSizes 48 = .ok (.istore_n 2, 1) := by decide +kernel
theorem dX0_countSizes_49 : decode cX0_countSizes 49 = .ok (.iinc 3 1, 3) := by decide +kernel
theorem dX0_countSizes_52 : decode cX0_countSizes 52 = .ok (.goto (-30), 3) := by decide +kernel
theorem dX0_countSizes_55 : decode cX0_countSizes 55 = .ok (.iinc 1 1, 3) := by decide +kernel
theorem dX0_countSizes_58 : decode cX0_countSizes 58 = .ok (.goto (-48), 3) := by decide +kernel
theorem dX0_countSizes_61 : decode cX0_countSizes 61 = .ok (.return_, 1) := by decide +kernel
theorem dX0_root_0 : decode cX0_root 0 = .ok (.iconst 0, 1) := by decide +kernel
theorem dX0_root_1 : decode cX0_root 1 = .ok (.istore_n 1, 1) := by decide +kernel
theorem dX0_root_2 : decode cX0_root 2 = .ok (.iload_n 1, 1) := by decide +kernel
theorem dX0_root_3 : decode cX0_root 3 = .ok (.aload_n 0, 1) := by decide +kernel
theorem dX0_root_4 : decode cX0_root 4 = .ok (.getfield 41, 3) := by decide +kernel
theorem dX0_root_7 : decode cX0_root 7 = .ok (.iconst 1, 1) := by decide +kernel
theorem dX0_root_8 : decode cX0_root 8 = .ok (.isub, 1) := by decide +kernel
theorem dX0_root_9 : decode cX0_root 9 = .ok (.if_icmp .ge 19, 3) := by decide +kernel
theorem dX0_root_12 : decode cX0_root 12 = .ok (.aload_n 0, 1) := by decide +kernel
theorem dX0_root_13 : decode cX0_root 13 = .ok (.getfield 9, 3) := by decide +kernel
theorem dX0_root_16 : decode cX0_root 16 = .ok (.iload_n 1, 1) := by decide +kernel
theorem dX0_root_17 : decode cX0_root 17 = .ok (.iaload, 1) := by decide +kernel
theorem dX0_root_18 : decode cX0_root 18 = .ok (.iconst (-1), 1) := by decide +kernel
theorem dX0_root_19 : decode cX0_root 19 = .ok (.if_icmp .eq 9, 3) := by decide +kernel
theorem dX0_root_22 : decode cX0_root 22 = .ok (.iinc 1 1, 3) := by decide +kernel
theorem dX0_root_25 : decode cX0_root 25 = .ok (.goto (-23), 3) := by decide +kernel
theorem dX0_root_28 : decode cX0_root 28 = .ok (.iload_n 1, 1) := by decide +kernel
theorem dX0_root_29 : decode cX0_root 29 = .ok (.ireturn, 1) := by decide +kernel
theorem dX0_goTour_0 : decode cX0_goTour 0 = .ok (.aload_n 0, 1) := by decide +kernel
theorem dX0_goTour_1 : decode cX0_goTour 1 = .ok (.getfield 21, 3) := by decide +kernel
theorem dX0_goTour_4 : decode cX0_goTour 4 = .ok (.iconst (-1), 1) := by decide +kernel
theorem dX0_goTour_5 : decode cX0_goTour 5 = .ok (.invokestatic 75, 3) := by decide +kernel
theorem dX0_goTour_8 : decode cX0_goTour 8 = .ok (.iconst 2, 1) := by decide +kernel
theorem dX0_goTour_9 : decode cX0_goTour 9 = .ok (.aload_n 0, 1) := by decide +kernel
theorem dX0_goTour_10 : decode cX0_goTour 10 = .ok (.getfield 41, 3) := by decide +kernel
theorem dX0_goTour_13 : decode cX0_goTour 13 = .ok (.imul, 1) := by decide +kernel
theorem dX0_goTour_14 : decode cX0_goTour 14 = .ok (.iconst 1, 1) := by decide +kernel
theorem dX0_goTour_15 : decode cX0_goTour 15 = .ok (.isub, 1) := by decide +kernel
theorem dX0_goTour_16 : decode cX0_goTour 16 = .ok (.istore_n 1, 1) := by decide +kernel
theorem dX0_goTour_17 : decode cX0_goTour 17 = .ok (.aload_n 0, 1) := by decide +kernel
theorem dX0_goTour_18 : decode cX0_goTour 18 = .ok (.invokevirtual 81, 3) := by decide +kernel
theorem dX0_goTour_21 : decode cX0_goTour 21 = .ok (.istore_n 2, 1) := by decide +kernel
theorem dX0_goTour_22 : decode cX0_goTour 22 = .ok (.iconst (-1), 1) := by decide +kernel
theorem dX0_goTour_23 : decode cX0_goTour 23 = .ok (.istore_n 3, 1) := by decide +kernel
theorem dX0_goTour_24 : decode cX0_goTour 24 = .ok (.aload_n 0, 1) := by decide +kernel
theorem dX0_goTour_25 : decode cX0_goTour 25 = .ok (.getfield 30, 3) := by decide +kernel
theorem dX0_goTour_28 : decode cX0_goTour 28 = .ok (.iload_n 1, 1) := by decide +kernel
theorem dX0_goTour_29 : decode cX0_goTour 29 = .ok (.invokevirtual 85, 3) := by decide +kernel
theorem dX0_goTour_32 : decode cX0_goTour 32 = .ok (.iconst 0, 1) := by decide +kernel
theorem dX0_goTour_33 : decode cX0_goTour 33 = .ok (.istore 4, 2) := by decide +kernel
theorem dX0_goTour_35 : decode cX0_goTour 35 = .ok (.iload 4, 2) := by decide +kernel
theorem dX0_goTour_37 : decode cX0_goTour 37 = .ok (.iload_n 1, 1) := by decide +kernel
theorem dX0_goTour_38 : decode cX0_goTour 38 = .ok (.if_icmp .ge 100, 3) := by decide +kernel
theorem dX0_goTour_41 : decode cX0_goTour 41 = .ok (.iload_n 2, 1) := by decide +kernel
theorem dX0_goTour_42 : decode cX0_goTour 42 = .ok (.iconst (-1), 1) := by decide +kernel
theorem dX0_goTour_43 : decode cX0_goTour 43 = .ok (.if_icmp .eq 95, 3) := by decide +kernel
theorem dX0_goTour_46 : decode cX0_goTour 46 = .ok (.aload_n 0, 1) := by decide +kernel
theorem dX0_goTour_47 : decode cX0_goTour 47 = .ok (.getfield 24, 3) := by decide +kernel
theorem dX0_goTour_50 : decode cX0_goTour 50 = .ok (.iload 4, 2) := by decide +kernel
theorem dX0_goTour_52 : decode cX0_goTour 52 = .ok (.iload_n 2, 1) := by decide +kernel
theorem dX0_goTour_53 : decode cX0_goTour 53 = .ok (.iastore, 1) := by decide +kernel
theorem dX0_goTour_54 : decode cX0_goTour 54 = .ok (.aload_n 0, 1) := by decide +kernel
theorem dX0_goTour_55 : decode cX0_goTour 55 = .ok (.getfield 30, 3) := by decide +kernel
theorem dX0_goTour_58 : decode cX0_goTour 58 = .ok (.getfield 48, 3) := by decide +kernel
theorem dX0_goTour_61 : decode cX0_goTour 61 = .ok (.iload 4, 2) := by decide +kernel
theorem dX0_goTour_63 : decode cX0_goTour 63 = .ok (.aload_n 0, 1) := by decide +kernel
theorem dX0_goTour_64 : decode cX0_goTour 64 = .ok (.getfield 15, 3) := by decide +kernel
theorem dX0_goTour_67 : decode cX0_goTour 67 = .ok (.iload_n 2, 1) := by decide +kernel
theorem dX0_goTour_68 : decode cX0_goTour 68 = .ok (.iaload, 1) := by decide +kernel
theorem dX0_goTour_69 : decode cX0_goTour 69 = .ok (.iastore, 1) := by decide +kernel
theorem dX0_goTour_70 : decode cX0_goTour 70 = .ok (.aload_n 0, 1) := by decide +kernel
theorem dX0_goTour_71 : decode cX0_goTour 71 = .ok (.getfield 21, 3) := by decide +kernel
theorem dX0_goTour_74 : decode cX0_goTour 74 = .ok (.iload_n 2, 1) := by decide +kernel
theorem dX0_goTour_75 : decode cX0_goTour 75 = .ok (.iaload, 1) := by decide +kernel
theorem dX0_goTour_76 : decode cX0_goTour 76 = .ok (.iconst (-1), 1) := by decide +kernel
theorem dX0_goTour_77 : decode cX0_goTour 77 = .ok (.if_icmp .ne 11, 3) := by decide +kernel
theorem dX0_goTour_80 : decode cX0_goTour 80 = .ok (.aload_n 0, 1) := by decide +kernel
theorem dX0_goTour_81 : decode cX0_goTour 81 = .ok (.getfield 21, 3) := by decide +kernel
theorem dX0_goTour_84 : decode cX0_goTour 84 = .ok (.iload_n 2, 1) := by decide +kernel
theorem dX0_goTour_85 : decode cX0_goTour 85 = .ok (.iload 4, 2) := by decide +kernel
theorem dX0_goTour_87 : decode cX0_goTour 87 = .ok (.iastore, 1) := by decide +kernel
theorem dX0_goTour_88 : decode cX0_goTour 88 = .ok (.aload_n 0, 1) := by decide +kernel
theorem dX0_goTour_89 : decode cX0_goTour 89 = .ok (.iload_n 2, 1) := by decide +kernel
theorem dX0_goTour_90 : decode cX0_goTour 90 = .ok (.iload_n 3, 1) := by decide +kernel
theorem dX0_goTour_91 : decode cX0_goTour 91 = .ok (.invokevirtual 89, 3) := by decide +kernel
theorem dX0_goTour_94 : decode cX0_goTour 94 = .ok (.istore 5, 2) := by decide +kernel
theorem dX0_goTour_96 : decode cX0_goTour 96 = .ok (.iload 5, 2) := by decide +kernel
theorem dX0_goTour_98 : decode cX0_goTour 98 = .ok (.aload_n 0, 1) := by decide +kernel
theorem dX0_goTour_99 : decode cX0_goTour 99 = .ok (.getfield 41, 3) := by decide +kernel
theorem dX0_goTour_102 : decode cX0_goTour 102 = .ok (.if_icmp .ge 7, 3) := by decide +kernel
theorem dX0_goTour_105 : decode cX0_goTour 105 = .ok (.iconst (-1), 1) := by decide +kernel
theorem dX0_goTour_106 : decode cX0_goTour 106 = .ok (.goto 4, 3) := by decide +kernel
theorem dX0_goTour_109 : decode cX0_goTour 109 = .ok (.iload_n 2, 1) := by decide +kernel
theorem dX0_goTour_110 : decode cX0_goTour 110 = .ok (.istore_n 3, 1) := by decide +kernel
theorem dX0_goTour_111 : decode cX0_goTour 111 = .ok (.iload 5, 2) := by decide +kernel
theorem dX0_goTour_113 : decode cX0_goTour 113 = .ok (.aload_n 0, 1) := by decide +kernel
theorem dX0_goTour_114 : decode cX0_goTour 114 = .ok (.getfield 41, 3) := by decide +kernel
theorem dX0_goTour_117 : decode cX0_goTour 117 = .ok (.if_icmp .ge 8, 3) := by decide +kernel
theorem dX0_goTour_120 : decode cX0_goTour 120 = .ok (.iload 5, 2) := by decide +kernel
theorem dX0_goTour_122 : decode cX0_goTour 122 = .ok (.goto 9, 3) := by decide +kernel
theorem dX0_goTour_125 : decode cX0_goTour 125 = .ok (.aload_n 0, 1) := by decide +kernel
theorem dX0_goTour_126 : decode cX0_goTour 126 = .ok (.getfield 9, 3) := by decide +kernel
theorem dX0_goTour_129 : decode cX0_goTour 129 = .ok (.iload_n 2, 1) := by decide +kernel
theorem dX0_goTour_130 : decode cX0_goTour 130 = .ok (.iaload, 1) := by decide +kernel
theorem dX0_goTour_131 : decode cX0_goTour 131 = .ok (.istore_n 2, 1) := by decide +kernel
theorem dX0_goTour_132 : decode cX0_goTour 132 = .ok (.iinc 4 1, 3) := by decide +kernel
theorem dX0_goTour_135 : decode cX0_goTour 135 = .ok (.goto (-100), 3) := by decide +kernel
theorem dX0_goTour_138 : decode cX0_goTour 138 = .ok (.aload_n 0, 1) := by decide +kernel
theorem dX0_goTour_139 : decode cX0_goTour 139 = .ok (.getfield 37, 3) := by decide +kernel
theorem dX0_goTour_142 : decode cX0_goTour 142 = .ok (.aload_n 0, 1) := by decide +kernel
theorem dX0_goTour_143 : decode cX0_goTour 143 = .ok (.getfield 30, 3) := by decide +kernel
theorem dX0_goTour_146 : decode cX0_goTour 146 = .ok (.iconst 4, 1) := by decide +kernel
theorem dX0_goTour_147 : decode cX0_goTour 147 = .ok (.invokevirtual 93, 3) := by decide +kernel
theorem dX0_goTour_150 : decode cX0_goTour 150 = .ok (.return_, 1) := by decide +kernel
theorem dX0_sonBehind_0 : decode cX0_sonBehind 0 = .ok (.iload_n 2, 1) := by decide +kernel
theorem dX0_sonBehind_1 : decode cX0_sonBehind 1 = .ok (.iconst 1, 1) := by decide +kernel
theorem dX0_sonBehind_2 : decode cX0_sonBehind 2 = .ok (.iadd, 1) := by decide +kernel
theorem dX0_sonBehind_3 : decode cX0_sonBehind 3 = .ok (.istore_n 3, 1) := by decide +kernel
theorem dX0_sonBehind_4 : decode cX0_sonBehind 4 = .ok (.iload_n 3, 1) := by decide +kernel
theorem dX0_sonBehind_5 : decode cX0_sonBehind 5 = .ok (.aload_n 0, 1) := by decide +kernel
theorem dX0_sonBehind_6 : decode cX0_sonBehind 6 = .ok (.getfield 41, 3) := by decide +kernel
theorem dX0_sonBehind_9 : decode cX0_sonBehind 9 = .ok (.if_icmp .ge 19, 3) := by decide +kernel
theorem dX0_sonBehind_12 : decode cX0_sonBehind 12 = .ok (.aload_n 0, 1) := by decide +kernel
theorem dX0_sonBehind_13 : decode cX0_sonBehind 13 = .ok (.getfield 9, 3) := by decide +kernel
theorem dX0_sonBehind_16 : decode cX0_sonBehind 16 = .ok (.iload_n 3, 1) := by decide +kernel
theorem dX0_sonBehind_17 : decode cX0_sonBehind 17 = .ok (.iaload, 1) := by decide +kernel
theorem dX0_sonBehind_18 : decode cX0_sonBehind 18 = .ok (.iload_n 1, 1) := by decide +kernel
theorem dX0_sonBehind_19 : decode cX0_sonBehind 19 = .ok (.if_icmp .eq 9, 3) := by decide +kernel
theorem dX0_sonBehind_22 : decode cX0_sonBehind 22 = .ok (.iinc 3 1, 3) := by decide +kernel
theorem dX0_sonBehind_25 : decode cX0_sonBehind 25 = .ok (.goto (-21), 3) := by decide +kernel
theorem dX0_sonBehind_28 : decode cX0_sonBehind 28 = .ok (.iload_n 3, 1) := by decide +kernel
theorem dX0_sonBehind_29 : decode cX0_sonBehind 29 = .ok (.ireturn, 1) := by decide +kernel
theorem dX0_meetingNode_0 : decode cX0_meetingNode 0 = .ok (.aload_n 0, 1) := by decide +kernel
theorem dX0_meetingNode_1 : decode cX0_meetingNode 1 = .ok (.getfield 21, 3) := by decide +kernel
theorem dX0_meetingNode_4 : decode cX0_meetingNode 4 = .ok (.iload_n 1, 1) := by decide +kernel
theorem dX0_meetingNode_5 : decode cX0_meetingNode 5 = .ok (.iaload, 1) := by decide +kernel
theorem dX0_meetingNode_6 : decode cX0_meetingNode 6 = .ok (.aload_n 0, 1) := by decide +kernel
theorem dX0_meetingNode_7 : decode cX0_meetingNode 7 = .ok (.getfield 21, 3) := by decide +kernel
theorem dX0_meetingNode_10 : decode cX0_meetingNode 10 = .ok (.iload_n 2, 1) := by decide +kernel
theorem dX0_meetingNode_11 : decode cX0_meetingNode 11 = .ok (.iaload, 1) := by decide +kernel
theorem dX0_meetingNode_12 : decode cX0_meetingNode 12 = .ok (.invokestatic 97, 3) := by decide +kernel
theorem dX0_meetingNode_15 : decode cX0_meetingNode 15 = .ok (.istore_n 3, 1) := by decide +kernel
theorem dX0_meetingNode_16 : decode cX0_meetingNode 16 = .ok (.aload_n 0, 1) := by decide +kernel
theorem dX0_meetingNode_17 : decode cX0_meetingNode 17 = .ok (.getfield 21, 3) := by decide +kernel
theorem dX0_meetingNode_20 : decode cX0_meetingNode 20 = .ok (.iload_n 1, 1) := by decide +kernel
theorem dX0_meetingNode_21 : decode cX0_meetingNode 21 = .ok (.iaload, 1) := by decide +kernel
theorem dX0_meetingNode_22 : decode cX0_meetingNode 22 = .ok (.aload_n 0, 1) := by decide +kernel
theorem dX0_meetingNode_23 : decode cX0_meetingNode 23 = .ok (.getfield 21, 3) := by decide +kernel
theorem dX0_meetingNode_26 : decode cX0_meetingNode 26 = .ok (.iload_n 2, 1) := by decide +kernel
theorem dX0_meetingNode_27 : decode cX0_meetingNode 27 = .ok (.iaload, 1) := by decide +kernel
theorem dX0_meetingNode_28 : decode cX0_meetingNode 28 = .ok (.invokestatic 102, 3) := by decide +kernel
theorem dX0_meetingNode_31 : decode cX0_meetingNode 31 = .ok (.istore 4, 2) := by decide +kernel
theorem dX0_meetingNode_33 : decode cX0_meetingNode 33 = .ok (.aload_n 0, 1) := by decide +kernel
theorem dX0_meetingNode_34 : decode cX0_meetingNode 34 = .ok (.getfield 24, 3) := by decide +kernel
theorem dX0_meetingNode_37 : decode cX0_meetingNode 37 = .ok (.aload_n 0, 1) := by decide +kernel
theorem dX0_meetingNode_38 : decode cX0_meetingNode 38 = .ok (.getfield 37, 3) := by decide +kernel
theorem dX0_meetingNode_41 : decode cX0_meetingNode 41 = .ok (.iload_n 3, 1) := by decide +kernel
theorem dX0_meetingNode_42 : decode cX0_meetingNode 42 = .ok (.iload 4, 2) := by decide +kernel
theorem dX0_meetingNode_44 : decode cX0_meetingNode 44 = .ok (.invokevirtual 105, 3) := by decide +kernel
theorem dX0_meetingNode_47 : decode cX0_meetingNode 47 = .ok (.iaload, 1) := by decide +kernel
theorem dX0_meetingNode_48 : decode cX0_meetingNode 48 = .ok (.ireturn, 1) := by decide +kernel
theorem dX0_ancestorAt_0 : decode cX0_ancestorAt 0 = .ok (.iload_n 2, 1) := by decide +kernel
theorem dX0_ancestorAt_1 : decode cX0_ancestorAt 1 = .ok (.aload_n 0, 1) := by decide +kernel
theorem dX0_ancestorAt_2 : decode cX0_ancestorAt 2 = .ok (.getfield 15, 3) := by decide +kernel
theorem dX0_ancestorAt_5 : decode cX0_ancestorAt 5 = .ok (.iload_n 1, 1) := by decide +kernel
theorem dX0_ancestorAt_6 : decode cX0_ancestorAt 6 = .ok (.iaload, 1) := by decide +kernel
theorem dX0_ancestorAt_7 : decode cX0_ancestorAt 7 = .ok (.if_icmp .le 6, 3) := by decide +kernel
theorem dX0_ancestorAt_10 : decode cX0_ancestorAt 10 = .ok (.bipush (-9), 2) := by decide +kernel
theorem dX0_ancestorAt_12 : decode cX0_ancestorAt 12 = .ok (.ireturn, 1) := by decide +kernel
theorem dX0_ancestorAt_13 : decode cX0_ancestorAt 13 = .ok (.iload_n 1, 1) := by decide +kernel
theorem dX0_ancestorAt_14 : decode cX0_ancestorAt 14 = .ok (.istore_n 3, 1) := by decide +kernel
theorem dX0_ancestorAt_15 : decode cX0_ancestorAt 15 = .ok (.aload_n 0, 1) := by decide +kernel
theorem dX0_ancestorAt_16 : decode cX0_ancestorAt 16 = .ok (.getfield 15, 3) := by decide +kernel
theorem dX0_ancestorAt_19 : decode cX0_ancestorAt 19 = .ok (.iload_n 1, 1) := by decide +kernel
theorem dX0_ancestorAt_20 : decode cX0_ancestorAt 20 = .ok (.iaload, 1) := by decide +kernel
theorem dX0_ancestorAt_21 : decode cX0_ancestorAt 21 = .ok (.istore 4, 2) := by decide +kernel
theorem dX0_ancestorAt_23 : decode cX0_ancestorAt 23 = .ok (.iload 4, 2) := by decide +kernel
theorem dX0_ancestorAt_25 : decode cX0_ancestorAt 25 = .ok (.iload_n 2, 1) := by decide +kernel
theorem dX0_ancestorAt_26 : decode cX0_ancestorAt 26 = .ok (.if_icmp .le 16, 3) := by decide +kernel
theorem dX0_ancestorAt_29 : decode cX0_ancestorAt 29 = .ok (.aload_n 0, 1) := by decide +kernel
theorem dX0_ancestorAt_30 : decode cX0_ancestorAt 30 = .ok (.getfield 9, 3) := by decide +kernel
theorem dX0_ancestorAt_33 : decode cX0_ancestorAt 33 = .ok (.iload_n 3, 1) := by decide +kernel
theorem dX0_ancestorAt_34 : decode cX0_ancestorAt 34 = .ok (.iaload, 1) := by decide +kernel
theorem dX0_ancestorAt_35 : decode cX0_ancestorAt 35 = .ok (.istore_n 3, 1) := by decide +kernel
theorem dX0_ancestorAt_36 : decode cX0_ancestorAt 36 = .ok (.iinc 4 (-1), 3) := by decide +kernel
theorem dX0_ancestorAt_39 : decode cX0_ancestorAt 39 = .ok (.goto (-16), 3) := by decide +kernel
theorem dX0_ancestorAt_42 : decode cX0_ancestorAt 42 = .ok (.iload_n 3, 1) := by decide +kernel
theorem dX0_ancestorAt_43 : decode cX0_ancestorAt 43 = .ok (.ireturn, 1) := by decide +kernel
theorem dX1_init_0 : decode cX1_init 0 = .ok (.aload_n 0, 1) := by decide +kernel
theorem dX1_init_1 : decode cX1_init 1 = .ok (.invokespecial 3, 3) := by decide +kernel
theorem dX1_init_4 : decode cX1_init 4 = .ok (.aload_n 0, 1) := by decide +kernel
theorem dX1_init_5 : decode cX1_init 5 = .ok (.bipush 10, 2) := by decide +kernel
theorem dX1_init_7 : decode cX1_init 7 = .ok (.newarray .int, 2) := by decide +kernel
theorem dX1_init_9 : decode cX1_init 9 = .ok (.putfield 9, 3) := by decide +kernel
theorem dX1_init_12 : decode cX1_init 12 = .ok (.aload_n 0, 1) := by decide +kernel
theorem dX1_init_13 : decode cX1_init 13 = .ok (.bipush 10, 2) := by decide +kernel
theorem dX1_init_15 : decode cX1_init 15 = .ok (.newarray .int, 2) := by decide +kernel
theorem dX1_init_17 : decode cX1_init 17 = .ok (.putfield 15, 3) := by decide +kernel
theorem dX1_init_20 : decode cX1_init 20 = .ok (.aload_n 0, 1) := by decide +kernel
theorem dX1_init_21 : decode cX1_init 21 = .ok (.iconst 0, 1) := by decide +kernel
theorem dX1_init_22 : decode cX1_init 22 = .ok (.putfield 18, 3) := by decide +kernel
theorem dX1_init_25 : decode cX1_init 25 = .ok (.return_, 1) := by decide +kernel
theorem dX1_forget_0 : decode cX1_forget 0 = .ok (.aload_n 0, 1) := by decide +kernel
theorem dX1_forget_1 : decode cX1_forget 1 = .ok (.iconst 0, 1) := by decide +kernel
theorem dX1_forget_2 : decode cX1_forget 2 = .ok (.putfield 18, 3) := by decide +kernel
theorem dX1_forget_5 : decode cX1_forget 5 = .ok (.return_, 1) := by decide +kernel
theorem dX1_remember_0 : decode cX1_remember 0 = .ok (.aload_n 0, 1) := by decide +kernel
theorem dX1_remember_1 : decode cX1_remember 1 = .ok (.getfield 18, 3) := by decide +kernel
theorem dX1_remember_4 : decode cX1_remember 4 = .ok (.bipush 10, 2) := by decide +kernel
theorem dX1_remember_6 : decode cX1_remember 6 = .ok (.if_icmp .lt 7, 3) := by decide +kernel
theorem dX1_remember_9 : decode cX1_remember 9 = .ok (.aload_n 0, 1) := by decide +kernel
theorem dX1_remember_10 : decode cX1_remember 10 = .ok (.invokevirtual 22, 3) := by decide +kernel
theorem dX1_remember_13 : decode cX1_remember 13 = .ok (.aload_n 0, 1) := by decide +kernel
theorem dX1_remember_14 : decode cX1_remember 14 = .ok (.getfield 9, 3) := by decide +kernel
theorem dX1_remember_17 : decode cX1_remember 17 = .ok (.aload_n 0, 1) := by decide +kernel
theorem dX1_remember_18 : decode cX1_remember 18 = .ok (.getfield 18, 3) := by decide +kernel
theorem dX1_remember_21 : decode cX1_remember 21 = .ok (.iload_n 1, 1) := by decide +kernel
theorem dX1_remember_22 : decode cX1_remember 22 = .ok (.iastore, 1) := by decide +kernel
theorem dX1_remember_23 : decode cX1_remember 23 = .ok (.aload_n 0, 1) := by decide +kernel
theorem dX1_remember_24 : decode cX1_remember 24 = .ok (.getfield 15, 3) := by decide +kernel
theorem dX1_remember_27 : decode cX1_remember 27 = .ok (.aload_n 0, 1) := by decide +kernel
theorem dX1_remember_28 : decode cX1_remember 28 = .ok (.getfield 18, 3) := by decide +kernel
theorem dX1_remember_31 : decode cX1_remember 31 = .ok (.iload_n 2, 1) := by decide +kernel
theorem dX1_remember_32 : decode cX1_remember 32 = .ok (.iastore, 1) := by decide +kernel
theorem dX1_remember_33 : decode cX1_remember 33 = .ok (.aload_n 0, 1) := by decide +kernel
theorem dX1_remember_34 : decode cX1_remember 34 = .ok (.dup, 1) := by decide +kernel
theorem dX1_remember_35 : decode cX1_remember 35 = .ok (.getfield 18, 3) := by decide +kernel
theorem dX1_remember_38 : decode cX1_remember 38 = .ok (.iconst 1, 1) := by decide +kernel
theorem dX1_remember_39 : decode cX1_remember 39 = .ok (.iadd, 1) := by decide +kernel
theorem dX1_remember_40 : decode cX1_remember 40 = .ok (.putfield 18, 3) := by decide +kernel
theorem dX1_remember_43 : decode cX1_remember 43 = .ok (.return_, 1) := by decide +kernel
theorem dX1_loseOldest_0 : decode cX1_loseOldest 0 = .ok (.iconst 1, 1) := by decide +kernel
theorem dX1_loseOldest_1 : decode cX1_loseOldest 1 = .ok (.istore_n 1, 1) := by decide +kernel
theorem dX1_loseOldest_2 : decode cX1_loseOldest 2 = .ok (.iload_n 1, 1) := by decide +kernel
theorem dX1_loseOldest_3 : decode cX1_loseOldest 3 = .ok (.bipush 10, 2) := by decide +kernel
theorem dX1_loseOldest_5 : decode cX1_loseOldest 5 = .ok (.if_icmp .ge 37, 3) := by decide +kernel
theorem dX1_loseOldest_8 : decode cX1_loseOldest 8 = .ok (.aload_n 0, 1) := by decide +kernel
theorem dX1_loseOldest_9 : decode cX1_loseOldest 9 = .ok (.getfield 9, 3) := by decide +kernel
theorem dX1_loseOldest_12 : decode cX1_loseOldest 12 = .ok (.iload_n 1, 1) := by decide +kernel
theorem dX1_loseOldest_13 : decode cX1_loseOldest 13 = .ok (.iconst 1, 1) := by decide +kernel
theorem dX1_loseOldest_14 : decode cX1_loseOldest 14 = .ok (.isub, 1) := by decide +kernel
theorem dX1_loseOldest_15 : decode cX1_loseOldest 15 = .ok (.aload_n 0, 1) := by decide +kernel
theorem dX1_loseOldest_16 : decode cX1_loseOldest 16 = .ok (.getfield 9, 3) := by decide +kernel
theorem dX1_loseOldest_19 : decode cX1_loseOldest 19 = .ok (.iload_n 1, 1) := by decide +kernel
theorem dX1_loseOldest_20 : decode cX1_loseOldest 20 = .ok (.iaload, 1) := by decide +kernel
theorem dX1_loseOldest_21 : decode cX1_loseOldest 21 = .ok (.iastore, 1) := by decide +kernel
theorem dX1_loseOldest_22 : decode cX1_loseOldest 22 = .ok (.aload_n 0, 1) := by decide +kernel
theorem dX1_loseOldest_23 : decode cX1_loseOldest 23 = .ok (.getfield 15, 3) := by decide +kernel
theorem dX1_loseOldest_26 : decode cX1_loseOldest 26 = .ok (.iload_n 1, 1) := by decide +kernel
theorem dX1_loseOldest_27 : decode cX1_loseOldest 27 = .ok (.iconst 1, 1) := by decide +kernel
theorem dX1_loseOldest_28 : decode cX1_loseOldest 28 = .ok (.isub, 1) := by decide +kernel
theorem dX1_loseOldest_29 : decode cX1_loseOldest 29 = .ok (.aload_n 0, 1) := by decide +kernel
theorem dX1_loseOldest_30 : decode cX1_loseOldest 30 = .ok (.getfield 15, 3) := by decide +kernel
theorem dX1_loseOldest_33 : decode cX1_loseOldest 33 = .ok (.iload_n 1, 1) := by decide +kernel
theorem dX1_loseOldest_34 : decode cX1_loseOldest 34 = .ok (.iaload, 1) := by decide +kernel
theorem dX1_loseOldest_35 : decode cX1_loseOldest 35 = .ok (.iastore, 1) := by decide +kernel
theorem dX1_loseOldest_36 : decode cX1_loseOldest 36 = .ok (.iinc 1 1, 3) := by decide +kernel
theorem dX1_loseOldest_39 : decode cX1_loseOldest 39 = .ok (.goto (-37), 3) := by decide +kernel
theorem dX1_loseOldest_42 : decode cX1_loseOldest 42 = .ok (.aload_n 0, 1) := by decide +kernel
theorem dX1_loseOldest_43 : decode cX1_loseOldest 43 = .ok (.bipush 9, 2) := by decide +kernel
theorem dX1_loseOldest_45 : decode cX1_loseOldest 45 = .ok (.putfield 18, 3) := by decide +kernel
theorem dX1_loseOldest_48 : decode cX1_loseOldest 48 = .ok (.return_, 1) := by decide +kernel
theorem dX2_init_0 : decode cX2_init 0 = .ok (.aload_n 0, 1) := by decide +kernel
theorem dX2_init_1 : decode cX2_init 1 = .ok (.invokespecial 1, 3) := by decide +kernel
theorem dX2_init_4 : decode cX2_init 4 = .ok (.aload_n 0, 1) := by decide +kernel
theorem dX2_init_5 : decode cX2_init 5 = .ok (.new 7, 3) := by decide +kernel
theorem dX2_init_8 : decode cX2_init 8 = .ok (.dup, 1) := by decide +kernel
theorem dX2_init_9 : decode cX2_init 9 = .ok (.invokespecial 9, 3) := by decide +kernel
theorem dX2_init_12 : decode cX2_init 12 = .ok (.putfield 10, 3) := by decide +kernel
theorem dX2_init_15 : decode cX2_init 15 = .ok (.aload_n 0, 1) := by decide +kernel
theorem dX2_init_16 : decode cX2_init 16 = .ok (.iconst 0, 1) := by decide +kernel
theorem dX2_init_17 : decode cX2_init 17 = .ok (.putfield 16, 3) := by decide +kernel
theorem dX2_init_20 : decode cX2_init 20 = .ok (.return_, 1) := by decide +kernel
theorem dX3_init_0 : decode cX3_init 0 = .ok (.aload_n 0, 1) := by decide +kernel
theorem dX3_init_1 : decode cX3_init 1 = .ok (.invokespecial 3, 3) := by decide +kernel
theorem dX3_init_4 : decode cX3_init 4 = .ok (.aload_n 0, 1) := by decide +kernel
theorem dX3_init_5 : decode cX3_init 5 = .ok (.new 9, 3) := by decide +kernel
theorem dX3_init_8 : decode cX3_init 8 = .ok (.dup, 1) := by decide +kernel
theorem dX3_init_9 : decode cX3_init 9 = .ok (.invokespecial 11, 3) := by decide +kernel
theorem dX3_init_12 : decode cX3_init 12 = .ok (.putfield 12, 3) := by decide +kernel
theorem dX3_init_15 : decode cX3_init 15 = .ok (.aload_n 0, 1) := by decide +kernel
theorem dX3_init_16 : decode cX3_init 16 = .ok (.bipush 48, 2) := by decide +kernel
theorem dX3_init_18 : decode cX3_init 18 = .ok (.newarray .int, 2) := by decide +kernel
theorem dX3_init_20 : decode cX3_init 20 = .ok (.putfield 18, 3) := by decide +kernel
theorem dX3_init_23 : decode cX3_init 23 = .ok (.aload_n 0, 1) := by decide +kernel
theorem dX3_init_24 : decode cX3_init 24 = .ok (.new 22, 3) := by decide +kernel
theorem dX3_init_27 : decode cX3_init 27 = .ok (.dup, 1) := by decide +kernel
theorem dX3_init_28 : decode cX3_init 28 = .ok (.invokespecial 24, 3) := by decide +kernel
theorem dX3_init_31 : decode cX3_init 31 = .ok (.putfield 25, 3) := by decide +kernel
theorem dX3_init_34 : decode cX3_init 34 = .ok (.aload_n 0, 1) := by decide +kernel
theorem dX3_init_35 : decode cX3_init 35 = .ok (.bipush 6, 2) := by decide +kernel
theorem dX3_init_37 : decode cX3_init 37 = .ok (.newarray .int, 2) := by decide +kernel
theorem dX3_init_39 : decode cX3_init 39 = .ok (.putfield 29, 3) := by decide +kernel
theorem dX3_init_42 : decode cX3_init 42 = .ok (.aload_n 0, 1) := by decide +kernel
theorem dX3_init_43 : decode cX3_init 43 = .ok (.iconst 0, 1) := by decide +kernel
theorem dX3_init_44 : decode cX3_init 44 = .ok (.putfield 32, 3) := by decide +kernel
theorem dX3_init_47 : decode cX3_init 47 = .ok (.aload_n 0, 1) := by decide +kernel
theorem dX3_init_48 : decode cX3_init 48 = .ok (.iconst 0, 1) := by decide +kernel
theorem dX3_init_49 : decode cX3_init 49 = .ok (.putfield 36, 3) := by decide +kernel
theorem dX3_init_52 : decode cX3_init 52 = .ok (.return_, 1) := by decide +kernel
theorem dX3_isNone_0 : decode cX3_isNone 0 = .ok (.aload_n 0, 1) := by decide +kernel
theorem dX3_isNone_1 : decode cX3_isNone 1 = .ok (.getfield 12, 3) := by decide +kernel
theorem dX3_isNone_4 : decode cX3_isNone 4 = .ok (.invokevirtual 39, 3) := by decide +kernel
theorem dX3_isNone_7 : decode cX3_isNone 7 = .ok (.ireturn, 1) := by decide +kernel
theorem dX3_becomeOver_0 : decode cX3_becomeOver 0 = .ok (.aload_n 0, 1) := by decide +kernel
theorem dX3_becomeOver_1 : decode cX3_becomeOver 1 = .ok (.getfield 12, 3) := by decide +kernel
theorem dX3_becomeOver_4 : decode cX3_becomeOver 4 = .ok (.aload_n 1, 1) := by decide +kernel
theorem dX3_becomeOver_5 : decode cX3_becomeOver 5 = .ok (.invokevirtual 43, 3) := by decide +kernel
theorem dX3_becomeOver_8 : decode cX3_becomeOver 8 = .ok (.aload_n 0, 1) := by decide +kernel
theorem dX3_becomeOver_9 : decode cX3_becomeOver 9 = .ok (.iload_n 2, 1) := by decide +kernel
theorem dX3_becomeOver_10 : decode cX3_becomeOver 10 = .ok (.putfield 32, 3) := by decide +kernel
theorem dX3_becomeOver_13 : decode cX3_becomeOver 13 = .ok (.aload_n 0, 1) := by decide +kernel
theorem dX3_becomeOver_14 : decode cX3_becomeOver 14 = .ok (.iload_n 2, 1) := by decide +kernel
theorem dX3_becomeOver_15 : decode cX3_becomeOver 15 = .ok (.iconst 1, 1) := by decide +kernel
theorem dX3_becomeOver_16 : decode cX3_becomeOver 16 = .ok (.if_icmp .ge 7, 3) := by decide +kernel
theorem dX3_becomeOver_19 : decode cX3_becomeOver 19 = .ok (.iconst 0, 1) := by decide +kernel
theorem dX3_becomeOver_20 : decode cX3_becomeOver 20 = .ok (.goto 16, 3) := by decide +kernel
theorem dX3_becomeOver_23 : decode cX3_becomeOver 23 = .ok (.aload_n 0, 1) := by decide +kernel
theorem dX3_becomeOver_24 : decode cX3_becomeOver 24 = .ok (.getfield 12, 3) := by decide +kernel
theorem dX3_becomeOver_27 : decode cX3_becomeOver 27 = .ok (.getfield 47, 3) := by decide +kernel
theorem dX3_becomeOver_30 : decode cX3_becomeOver 30 = .ok (.iload_n 2, 1) := by decide +kernel
theorem dX3_becomeOver_31 : decode cX3_becomeOver 31 = .ok (.iadd, 1) := by decide +kernel
theorem dX3_becomeOver_32 : decode cX3_becomeOver 32 = .ok (.iconst 1, 1) := by decide +kernel
theorem dX3_becomeOver_33 : decode cX3_becomeOver 33 = .ok (.isub, 1) := by decide +kernel
theorem dX3_becomeOver_34 : decode cX3_becomeOver 34 = .ok (.iload_n 2, 1) := by decide +kernel
theorem dX3_becomeOver_35 : decode cX3_becomeOver 35 = .ok (.idiv, 1) := by decide +kernel
theorem dX3_becomeOver_36 : decode cX3_becomeOver 36 = .ok (.putfield 36, 3) := by decide +kernel
theorem dX3_becomeOver_39 : decode cX3_becomeOver 39 = .ok (.aload_n 0, 1) := by decide +kernel
theorem dX3_becomeOver_40 : decode cX3_becomeOver 40 = .ok (.getfield 25, 3) := by decide +kernel
theorem dX3_becomeOver_43 : decode cX3_becomeOver 43 = .ok (.invokevirtual 50, 3) := by decide +kernel
theorem dX3_becomeOver_46 : decode cX3_becomeOver 46 = .ok (.iconst 0, 1) := by decide +kernel
theorem dX3_becomeOver_47 : decode cX3_becomeOver 47 = .ok (.istore_n 3, 1) := by decide +kernel
theorem dX3_becomeOver_48 : decode cX3_becomeOver 48 = .ok (.iload_n 3, 1) := by decide +kernel
theorem dX3_becomeOver_49 : decode cX3_becomeOver 49 = .ok (.aload_n 0, 1) := by decide +kernel
theorem dX3_becomeOver_50 : decode cX3_becomeOver 50 = .ok (.getfield 36, 3) := by decide +kernel
theorem dX3_becomeOver_53 : decode cX3_becomeOver 53 = .ok (.if_icmp .ge 33, 3) := by decide +kernel
theorem dX3_becomeOver_56 : decode cX3_becomeOver 56 = .ok (.aload_n 0, 1) := by decide +kernel
theorem dX3_becomeOver_57 : decode cX3_becomeOver 57 = .ok (.getfield 18, 3) := by decide +kernel
theorem dX3_becomeOver_60 : decode cX3_becomeOver 60 = .ok (.iload_n 3, 1) := by decide +kernel
theorem dX3_becomeOver_61 : decode cX3_becomeOver 61 = .ok (.aload_n 0, 1) := by decide +kernel
theorem dX3_becomeOver_62 : decode cX3_becomeOver 62 = .ok (.iload_n 3, 1) := by decide +kernel
theorem dX3_becomeOver_63 : decode cX3_becomeOver 63 = .ok (.invokevirtual 53, 3) := by decide +kernel
theorem dX3_becomeOver_66 : decode cX3_becomeOver 66 = .ok (.iastore, 1) := by decide +kernel
theorem dX3_becomeOver_67 : decode cX3_becomeOver 67 = .ok (.aload_n 0, 1) := by decide +kernel
theorem dX3_becomeOver_68 : decode cX3_becomeOver 68 = .ok (.getfield 25, 3) := by decide +kernel
theorem dX3_becomeOver_71 : decode cX3_becomeOver 71 = .ok (.aload_n 0, 1) := by decide +kernel
theorem dX3_becomeOver_72 : decode cX3_becomeOver 72 = .ok (.getfield 18, 3) := by decide +kernel
theorem dX3_becomeOver_75 : decode cX3_becomeOver 75 = .ok (.iload_n 3, 1) := by decide +kernel
theorem dX3_becomeOver_76 : decode cX3_becomeOver 76 = .ok (.iaload, 1) := by decide +kernel
theorem dX3_becomeOver_77 : decode cX3_becomeOver 77 = .ok (.invokevirtual 57, 3) := by decide +kernel
theorem dX3_becomeOver_80 : decode cX3_becomeOver 80 = .ok (.iinc 3 1, 3) := by decide +kernel
theorem dX3_becomeOver_83 : decode cX3_becomeOver 83 = .ok (.goto (-35), 3) := by decide +kernel
theorem dX3_becomeOver_86 : decode cX3_becomeOver 86 = .ok (.return_, 1) := by decide +kernel
theorem dX3_change_0 : decode cX3_change 0 = .ok (.aload_n 0, 1) := by decide +kernel
theorem dX3_change_1 : decode cX3_change 1 = .ok (.getfield 12, 3) := by decide +kernel
theorem dX3_change_4 : decode cX3_change 4 = .ok (.iload_n 1, 1) := by decide +kernel
theorem dX3_change_5 : decode cX3_change 5 = .ok (.invokevirtual 61, 3) := by decide +kernel
theorem dX3_change_8 : decode cX3_change 8 = .ok (.ifCond .ne 11, 3) := by decide +kernel
theorem dX3_change_11 : decode cX3_change 11 = .ok (.aload_n 0, 1) := by decide +kernel
theorem dX3_change_12 : decode cX3_change 12 = .ok (.getfield 32, 3) := by decide +kernel
theorem dX3_change_15 : decode cX3_change 15 = .ok (.iconst 1, 1) := by decide +kernel
theorem dX3_change_16 : decode cX3_change 16 = .ok (.if_icmp .ge 5, 3) := by decide +kernel
theorem dX3_change_19 : decode cX3_change 19 = .ok (.iconst 0, 1) := by decide +kernel
theorem dX3_change_20 : decode cX3_change 20 = .ok (.ireturn, 1) := by decide +kernel
theorem dX3_change_21 : decode cX3_change 21 = .ok (.aload_n 0, 1) := by decide +kernel
theorem dX3_change_22 : decode cX3_change 22 = .ok (.getfield 12, 3) := by decide +kernel
theorem dX3_change_25 : decode cX3_change 25 = .ok (.getfield 65, 3) := by decide +kernel
theorem dX3_change_28 : decode cX3_change 28 = .ok (.iload_n 1, 1) := by decide +kernel
theorem dX3_change_29 : decode cX3_change 29 = .ok (.iload_n 2, 1) := by decide +kernel
theorem dX3_change_30 : decode cX3_change 30 = .ok (.iastore, 1) := by decide +kernel
theorem dX3_change_31 : decode cX3_change 31 = .ok (.iload_n 1, 1) := by decide +kernel
theorem dX3_change_32 : decode cX3_change 32 = .ok (.aload_n 0, 1) := by decide +kernel
theorem dX3_change_33 : decode cX3_change 33 = .ok (.getfield 32, 3) := by decide +kernel
theorem dX3_change_36 : decode cX3_change 36 = .ok (.idiv, 1) := by decide +kernel
theorem dX3_change_37 : decode cX3_change 37 = .ok (.istore_n 3, 1) := by decide +kernel
theorem dX3_change_38 : decode cX3_change 38 = .ok (.aload_n 0, 1) := by decide +kernel
theorem dX3_change_39 : decode cX3_change 39 = .ok (.getfield 18, 3) := by decide +kernel
theorem dX3_change_42 : decode cX3_change 42 = .ok (.iload_n 3, 1) := by decide +kernel
theorem dX3_change_43 : decode cX3_change 43 = .ok (.iaload, 1) := by decide +kernel
theorem dX3_change_44 : decode cX3_change 44 = .ok (.istore 4, 2) := by decide +kernel
theorem dX3_change_46 : decode cX3_change 46 = .ok (.aload_n 0, 1) := by decide +kernel
theorem dX3_change_47 : decode cX3_change 47 = .ok (.getfield 18, 3) := by decide +kernel
theorem dX3_change_50 : decode cX3_change 50 = .ok (.iload_n 3, 1) := by decide +kernel
theorem dX3_change_51 : decode cX3_change 51 = .ok (.aload_n 0, 1) := by decide +kernel
theorem dX3_change_52 : decode cX3_change 52 = .ok (.iload_n 3, 1) := by decide +kernel
theorem dX3_change_53 : decode cX3_change 53 = .ok (.invokevirtual 53, 3) := by decide +kernel
theorem dX3_change_56 : decode cX3_change 56 = .ok (.iastore, 1) := by decide +kernel
theorem dX3_change_57 : decode cX3_change 57 = .ok (.aload_n 0, 1) := by decide +kernel
theorem dX3_change_58 : decode cX3_change 58 = .ok (.getfield 25, 3) := by decide +kernel
theorem dX3_change_61 : decode cX3_change 61 = .ok (.aload_n 0, 1) := by decide +kernel
theorem dX3_change_62 : decode cX3_change 62 = .ok (.getfield 18, 3) := by decide +kernel
theorem dX3_change_65 : decode cX3_change 65 = .ok (.iload_n 3, 1) := by decide +kernel
theorem dX3_change_66 : decode cX3_change 66 = .ok (.iaload, 1) := by decide +kernel
theorem dX3_change_67 : decode cX3_change 67 = .ok (.invokevirtual 57, 3) := by decide +kernel
theorem dX3_change_70 : decode cX3_change 70 = .ok (.aload_n 0, 1) := by decide +kernel
theorem dX3_change_71 : decode cX3_change 71 = .ok (.getfield 18, 3) := by decide +kernel
theorem dX3_change_74 : decode cX3_change 74 = .ok (.iload_n 3, 1) := by decide +kernel
theorem dX3_change_75 : decode cX3_change 75 = .ok (.iaload, 1) := by decide +kernel
theorem dX3_change_76 : decode cX3_change 76 = .ok (.iload 4, 2) := by decide +kernel
theorem dX3_change_78 : decode cX3_change 78 = .ok (.if_icmp .eq 7, 3) := by decide +kernel
theorem dX3_change_81 : decode cX3_change 81 = .ok (.iconst 1, 1) := by decide +kernel
theorem dX3_change_82 : decode cX3_change 82 = .ok (.goto 4, 3) := by decide +kernel
theorem dX3_change_85 : decode cX3_change 85 = .ok (.iconst 0, 1) := by decide +kernel
theorem dX3_change_86 : decode cX3_change 86 = .ok (.ireturn, 1) := by decide +kernel
theorem dX3_shapeNow_0 : decode cX3_shapeNow 0 = .ok (.iload_n 1, 1) := by decide +kernel
theorem dX3_shapeNow_1 : decode cX3_shapeNow 1 = .ok (.aload_n 0, 1) := by decide +kernel
theorem dX3_shapeNow_2 : decode cX3_shapeNow 2 = .ok (.getfield 32, 3) := by decide +kernel
theorem dX3_shapeNow_5 : decode cX3_shapeNow 5 = .ok (.imul, 1) := by decide +kernel
theorem dX3_shapeNow_6 : decode cX3_shapeNow 6 = .ok (.istore_n 2, 1) := by decide +kernel
theorem dX3_shapeNow_7 : decode cX3_shapeNow 7 = .ok (.iload_n 2, 1) := by decide +kernel
theorem dX3_shapeNow_8 : decode cX3_shapeNow 8 = .ok (.aload_n 0, 1) := by decide +kernel
theorem dX3_shapeNow_9 : decode cX3_shapeNow 9 = .ok (.getfield 32, 3) := by decide +kernel
theorem dX3_shapeNow_12 : decode cX3_shapeNow 12 = .ok (.iadd, 1) := by decide +kernel
theorem dX3_shapeNow_13 : decode cX3_shapeNow 13 = .ok (.aload_n 0, 1) := by decide +kernel
theorem dX3_shapeNow_14 : decode cX3_shapeNow 14 = .ok (.getfield 12, 3) := by decide +kernel
theorem dX3_shapeNow_17 : decode cX3_shapeNow 17 = .ok (.getfield 47, 3) := by decide +kernel
theorem dX3_shapeNow_20 : decode cX3_shapeNow 20 = .ok (.invokestatic 68, 3) := by decide +kernel
theorem dX3_shapeNow_23 : decode cX3_shapeNow 23 = .ok (.istore_n 3, 1) := by decide +kernel
theorem dX3_shapeNow_24 : decode cX3_shapeNow 24 = .ok (.iconst 1, 1) := by decide +kernel
theorem dX3_shapeNow_25 : decode cX3_shapeNow 25 = .ok (.istore 4, 2) := by decide +kernel
theorem dX3_shapeNow_27 : decode cX3_shapeNow 27 = .ok (.iconst 0, 1) := by decide +kernel
theorem dX3_shapeNow_28 : decode cX3_shapeNow 28 = .ok (.istore 5, 2) := by decide +kernel
theorem dX3_shapeNow_30 : decode cX3_shapeNow 30 = .ok (.iload_n 2, 1) := by decide +kernel
theorem dX3_shapeNow_31 : decode cX3_shapeNow 31 = .ok (.istore 6, 2) := by decide +kernel
theorem dX3_shapeNow_33 : decode cX3_shapeNow 33 = .ok (.iload 6, 2) := by decide +kernel
theorem dX3_shapeNow_35 : decode cX3_shapeNow 35 = .ok (.iload_n 3, 1) := by decide +kernel
theorem dX3_shapeNow_36 : decode cX3_shapeNow 36 = .ok (.if_icmp .ge 83, 3) := by decide +kernel
theorem dX3_shapeNow_39 : decode cX3_shapeNow 39 = .ok (.iload 5, 2) := by decide +kernel
theorem dX3_shapeNow_41 : decode cX3_shapeNow 41 = .ok (.bipush 6, 2) := by decide +kernel
theorem dX3_shapeNow_43 : decode cX3_shapeNow 43 = .ok (.if_icmp .ge 76, 3) := by decide +kernel
theorem dX3_shapeNow_46 : decode cX3_shapeNow 46 = .ok (.iload 5, 2) := by decide +kernel
theorem dX3_shapeNow_48 : decode cX3_shapeNow 48 = .ok (.ifCond .le 37, 3) := by decide +kernel
theorem dX3_shapeNow_51 : decode cX3_shapeNow 51 = .ok (.aload_n 0, 1) := by decide +kernel
theorem dX3_shapeNow_52 : decode cX3_shapeNow 52 = .ok (.getfield 29, 3) := by decide +kernel
theorem dX3_shapeNow_55 : decode cX3_shapeNow 55 = .ok (.iload 5, 2) := by decide +kernel
theorem dX3_shapeNow_57 : decode cX3_shapeNow 57 = .ok (.iconst 1, 1) := by decide +kernel
theorem dX3_shapeNow_58 : decode cX3_shapeNow 58 = .ok (.isub, 1) := by decide +kernel
theorem dX3_shapeNow_59 : decode cX3_shapeNow 59 = .ok (.iaload, 1) := by decide +kernel
theorem dX3_shapeNow_60 : decode cX3_shapeNow 60 = .ok (.aload_n 0, 1) := by decide +kernel
theorem dX3_shapeNow_61 : decode cX3_shapeNow 61 = .ok (.getfield 12, 3) := by decide +kernel
theorem dX3_shapeNow_64 : decode cX3_shapeNow 64 = .ok (.getfield 65, 3) := by decide +kernel
theorem dX3_shapeNow_67 : decode cX3_shapeNow 67 = .ok (.iload 6, 2) := by decide +kernel
theorem dX3_shapeNow_69 : decode cX3_shapeNow 69 = .ok (.iaload, 1) := by decide +kernel
theorem dX3_shapeNow_70 : decode cX3_shapeNow 70 = .ok (.if_icmp .le 15, 3) := by decide +kernel
theorem dX3_shapeNow_73 : decode cX3_shapeNow 73 = .ok (.iinc 5 (-1), 3) := by decide +kernel
theorem dX3_shapeNow_76 : decode cX3_shapeNow 76 = .ok (.iconst 2, 1) := by decide +kernel
theorem dX3_shapeNow_77 : decode cX3_shapeNow 77 = .ok (.iload 4, 2) := by decide +kernel
theorem dX3_shapeNow_79 : decode cX3_shapeNow 79 = .ok (.imul, 1) := by decide +kernel
theorem dX3_shapeNow_80 : decode cX3_shapeNow 80 = .ok (.istore 4, 2) := by decide +kernel
theorem dX3_shapeNow_82 : decode cX3_shapeNow 82 = .ok (.goto (-36), 3) := by decide +kernel
theorem dX3_shapeNow_85 : decode cX3_shapeNow 85 = .ok (.aload_n 0, 1) := by decide +kernel
theorem dX3_shapeNow_86 : decode cX3_shapeNow 86 = .ok (.getfield 29, 3) := by decide +kernel
theorem dX3_shapeNow_89 : decode cX3_shapeNow 89 = .ok (.iload 5, 2) := by decide +kernel
theorem dX3_shapeNow_91 : decode cX3_shapeNow 91 = .ok (.aload_n 0, 1) := by decide +kernel
theorem dX3_shapeNow_92 : decode cX3_shapeNow 92 = .ok (.getfield 12, 3) := by decide +kernel
theorem dX3_shapeNow_95 : decode cX3_shapeNow 95 = .ok (.getfield 65, 3) := by decide +kernel
theorem dX3_shapeNow_98 : decode cX3_shapeNow 98 = .ok (.iload 6, 2) := by decide +kernel
theorem dX3_shapeNow_100 : decode cX3_shapeNow 100 = .ok (.iaload, 1) := by decide +kernel
theorem dX3_shapeNow_101 : decode cX3_shapeNow 101 = .ok (.iastore, 1) := by decide +kernel
theorem dX3_shapeNow_102 : decode cX3_shapeNow 102 = .ok (.iinc 5 1, 3) := by decide +kernel
theorem dX3_shapeNow_105 : decode cX3_shapeNow 105 = .ok (.iconst 2, 1) := by decide +kernel
theorem dX3_shapeNow_106 : decode cX3_shapeNow 106 = .ok (.iload 4, 2) := by decide +kernel
theorem dX3_shapeNow_108 : decode cX3_shapeNow 108 = .ok (.imul, 1) := by decide +kernel
theorem dX3_shapeNow_109 : decode cX3_shapeNow 109 = .ok (.iconst 1, 1) := by decide +kernel
theorem dX3_shapeNow_110 : decode cX3_shapeNow 110 = .ok (.iadd, 1) := by decide +kernel
theorem dX3_shapeNow_111 : decode cX3_shapeNow 111 = .ok (.istore 4, 2) := by decide +kernel
theorem dX3_shapeNow_113 : decode cX3_shapeNow 113 = .ok (.iinc 6 1, 3) := by decide +kernel
theorem dX3_shapeNow_116 : decode cX3_shapeNow 116 = .ok (.goto (-83), 3) := by decide +kernel
theorem dX3_shapeNow_119 : decode cX3_shapeNow 119 = .ok (.iload 4, 2) := by decide +kernel
theorem dX3_shapeNow_121 : decode cX3_shapeNow 121 = .ok (.ireturn, 1) := by decide +kernel
theorem dX3_tableEntry_0 : decode cX3_tableEntry 0 = .ok (.iconst 0, 1) := by decide +kernel
theorem dX3_tableEntry_1 : decode cX3_tableEntry 1 = .ok (.istore 4, 2) := by decide +kernel
theorem dX3_tableEntry_3 : decode cX3_tableEntry 3 = .ok (.iconst 0, 1) := by decide +kernel
theorem dX3_tableEntry_4 : decode cX3_tableEntry 4 = .ok (.istore 5, 2) := by decide +kernel
theorem dX3_tableEntry_6 : decode cX3_tableEntry 6 = .ok (.iload_n 1, 1) := by decide +kernel
theorem dX3_tableEntry_7 : decode cX3_tableEntry 7 = .ok (.invokestatic 74, 3) := by decide +kernel
theorem dX3_tableEntry_10 : decode cX3_tableEntry 10 = .ok (.iconst 1, 1) := by decide +kernel
theorem dX3_tableEntry_11 : decode cX3_tableEntry 11 = .ok (.isub, 1) := by decide +kernel
theorem dX3_tableEntry_12 : decode cX3_tableEntry 12 = .ok (.istore 6, 2) := by decide +kernel
theorem dX3_tableEntry_14 : decode cX3_tableEntry 14 = .ok (.iload 6, 2) := by decide +kernel
theorem dX3_tableEntry_16 : decode cX3_tableEntry 16 = .ok (.ifCond .lt 59, 3) := by decide +kernel
theorem dX3_tableEntry_19 : decode cX3_tableEntry 19 = .ok (.iload 5, 2) := by decide +kernel
theorem dX3_tableEntry_21 : decode cX3_tableEntry 21 = .ok (.iload_n 3, 1) := by decide +kernel
theorem dX3_tableEntry_22 : decode cX3_tableEntry 22 = .ok (.if_icmp .gt 53, 3) := by decide +kernel
theorem dX3_tableEntry_25 : decode cX3_tableEntry 25 = .ok (.iload_n 1, 1) := by decide +kernel
theorem dX3_tableEntry_26 : decode cX3_tableEntry 26 = .ok (.iload 6, 2) := by decide +kernel
theorem dX3_tableEntry_28 : decode cX3_tableEntry 28 = .ok (.ishr, 1) := by decide +kernel
theorem dX3_tableEntry_29 : decode cX3_tableEntry 29 = .ok (.iconst 1, 1) := by decide +kernel
theorem dX3_tableEntry_30 : decode cX3_tableEntry 30 = .ok (.iand, 1) := by decide +kernel
theorem dX3_tableEntry_31 : decode cX3_tableEntry 31 = .ok (.ifCond .ne 16, 3) := by decide +kernel
theorem dX3_tableEntry_34 : decode cX3_tableEntry 34 = .ok (.iconst 0, 1) := by decide +kernel
theorem dX3_tableEntry_35 : decode cX3_tableEntry 35 = .ok (.iload 4, 2) := by decide +kernel
theorem dX3_tableEntry_37 : decode cX3_tableEntry 37 = .ok (.iconst 1, 1) := by decide +kernel
theorem dX3_tableEntry_38 : decode cX3_tableEntry 38 = .ok (.isub, 1) := by decide +kernel
theorem dX3_tableEntry_39 : decode cX3_tableEntry 39 = .ok (.invokestatic 77, 3) := by decide +kernel
theorem dX3_tableEntry_42 : decode cX3_tableEntry 42 = .ok (.istore 4, 2) := by decide +kernel
theorem dX3_tableEntry_44 : decode cX3_tableEntry 44 = .ok (.goto 25, 3) := by decide +kernel
theorem dX3_tableEntry_47 : decode cX3_tableEntry 47 = .ok (.iload 4, 2) := by decide +kernel
theorem dX3_tableEntry_49 : decode cX3_tableEntry 49 = .ok (.bipush 6, 2) := by decide +kernel
theorem dX3_tableEntry_51 : decode cX3_tableEntry 51 = .ok (.if_icmp .ge 18, 3) := by decide +kernel
theorem dX3_tableEntry_54 : decode cX3_tableEntry 54 = .ok (.aload_n 0, 1) := by decide +kernel
theorem dX3_tableEntry_55 : decode cX3_tableEntry 55 = .ok (.getfield 29, 3) := by decide +kernel
theorem dX3_tableEntry_58 : decode cX3_tableEntry 58 = .ok (.iload 4, 2) := by decide +kernel
theorem dX3_tableEntry_60 : decode cX3_tableEntry 60 = .ok (.iload 5, 2) := by decide +kernel
theorem dX3_tableEntry_62 : decode cX3_tableEntry 62 = .ok (.iastore, 1) := by decide +kernel
theorem dX3_tableEntry_63 : decode cX3_tableEntry 63 = .ok (.iinc 4 1, 3) := by decide +kernel
theorem dX3_tableEntry_66 : decode cX3_tableEntry 66 = .ok (.iinc 5 1, 3) := by decide +kernel
theorem dX3_tableEntry_69 : decode cX3_tableEntry 69 = .ok (.iinc 6 (-1), 3) := by decide +kernel
theorem dX3_tableEntry_72 : decode cX3_tableEntry 72 = .ok (.goto (-58), 3) := by decide +kernel
theorem dX3_tableEntry_75 : decode cX3_tableEntry 75 = .ok (.iconst 0, 1) := by decide +kernel
theorem dX3_tableEntry_76 : decode cX3_tableEntry 76 = .ok (.istore 6, 2) := by decide +kernel
theorem dX3_tableEntry_78 : decode cX3_tableEntry 78 = .ok (.iload 6, 2) := by decide +kernel
theorem dX3_tableEntry_80 : decode cX3_tableEntry 80 = .ok (.iload 4, 2) := by decide +kernel
theorem dX3_tableEntry_82 : decode cX3_tableEntry 82 = .ok (.if_icmp .ge 28, 3) := by decide +kernel
theorem dX3_tableEntry_85 : decode cX3_tableEntry 85 = .ok (.aload_n 0, 1) := by decide +kernel
theorem dX3_tableEntry_86 : decode cX3_tableEntry 86 = .ok (.getfield 29, 3) := by decide +kernel
theorem dX3_tableEntry_89 : decode cX3_tableEntry 89 = .ok (.iload 6, 2) := by decide +kernel
theorem dX3_tableEntry_91 : decode cX3_tableEntry 91 = .ok (.iaload, 1) := by decide +kernel
theorem dX3_tableEntry_92 : decode cX3_tableEntry 92 = .ok (.iload_n 2, 1) := by decide +kernel
theorem dX3_tableEntry_93 : decode cX3_tableEntry 93 = .ok (.if_icmp .lt 11, 3) := by decide +kernel
theorem dX3_tableEntry_96 : decode cX3_tableEntry 96 = .ok (.aload_n 0, 1) := by decide +kernel
theorem dX3_tableEntry_97 : decode cX3_tableEntry 97 = .ok (.getfield 29, 3) := by decide +kernel
theorem dX3_tableEntry_100 : decode cX3_tableEntry 100 = .ok (.iload 6, 2) := by decide +kernel
theorem dX3_tableEntry_102 : decode cX3_tableEntry 102 = .ok (.iaload, 1) := by decide +kernel
theorem dX3_tableEntry_103 : decode cX3_tableEntry 103 = .ok (.ireturn, 1) := by decide +kernel
theorem dX3_tableEntry_104 : decode cX3_tableEntry 104 = .ok (.iinc 6 1, 3) := by decide +kernel
theorem dX3_tableEntry_107 : decode cX3_tableEntry 107 = .ok (.goto (-29), 3) := by decide +kernel
theorem dX3_tableEntry_110 : decode cX3_tableEntry 110 = .ok (.iload_n 3, 1) := by decide +kernel
theorem dX3_tableEntry_111 : decode cX3_tableEntry 111 = .ok (.ireturn, 1) := by decide +kernel
theorem dX3_leadingDigit_0 : decode cX3_leadingDigit 0 = .ok (.bipush 11, 2) := by decide +kernel
theorem dX3_leadingDigit_2 : decode cX3_leadingDigit 2 = .ok (.istore_n 1, 1) := by decide +kernel
theorem dX3_leadingDigit_3 : decode cX3_leadingDigit 3 = .ok (.iload_n 1, 1) := by decide +kernel
theorem dX3_leadingDigit_4 : decode cX3_leadingDigit 4 = .ok (.ifCond .le 15, 3) := by decide +kernel
theorem dX3_leadingDigit_7 : decode cX3_leadingDigit 7 = .ok (.iload_n 0, 1) := by decide +kernel
theorem dX3_leadingDigit_8 : decode cX3_leadingDigit 8 = .ok (.iload_n 1, 1) := by decide +kernel
theorem dX3_leadingDigit_9 : decode cX3_leadingDigit 9 = .ok (.ishr, 1) := by decide +kernel
theorem dX3_leadingDigit_10 : decode cX3_leadingDigit 10 = .ok (.ifCond .ne 9, 3) := by decide +kernel
theorem dX3_leadingDigit_13 : decode cX3_leadingDigit 13 = .ok (.iinc 1 (-1), 3) := by decide +kernel
theorem dX3_leadingDigit_16 : decode cX3_leadingDigit 16 = .ok (.goto (-13), 3) := by decide +kernel
theorem dX3_leadingDigit_19 : decode cX3_leadingDigit 19 = .ok (.iload_n 1, 1) := by decide +kernel
theorem dX3_leadingDigit_20 : decode cX3_leadingDigit 20 = .ok (.ireturn, 1) := by decide +kernel
theorem dX3_unlikeShapes_0 : decode cX3_unlikeShapes 0 = .ok (.iconst 0, 1) := by decide +kernel
theorem dX3_unlikeShapes_1 : decode cX3_unlikeShapes 1 = .ok (.istore_n 1, 1) := by decide +kernel
theorem dX3_unlikeShapes_2 : decode cX3_unlikeShapes 2 = .ok (.iconst 0, 1) := by decide +kernel
theorem dX3_unlikeShapes_3 : decode cX3_unlikeShapes 3 = .ok (.istore_n 2, 1) := by decide +kernel
theorem dX3_unlikeShapes_4 : decode cX3_unlikeShapes 4 = .ok (.iload_n 2, 1) := by decide +kernel
theorem dX3_unlikeShapes_5 : decode cX3_unlikeShapes 5 = .ok (.aload_n 0, 1) := by decide +kernel
theorem dX3_unlikeShapes_6 : decode cX3_unlikeShapes 6 = .ok (.getfield 36, 3) := by decide +kernel
theorem dX3_unlikeShapes_9 : decode cX3_unlikeShapes 9 = .ok (.if_icmp .ge 45, 3) := by decide +kernel
theorem dX3_unlikeShapes_12 : decode cX3_unlikeShapes 12 = .ok (.iconst 0, 1) := by decide +kernel
theorem dX3_unlikeShapes_13 : decode cX3_unlikeShapes 13 = .ok (.istore_n 3, 1) := by decide +kernel
theorem dX3_unlikeShapes_14 : decode cX3_unlikeShapes 14 = .ok (.iload_n 3, 1) := by decide +kernel
theorem dX3_unlikeShapes_15 : decode cX3_unlikeShapes 15 = .ok (.iload_n 2, 1) := by decide +kernel
theorem dX3_unlikeShapes_16 : decode cX3_unlikeShapes 16 = .ok (.if_icmp .ge 24, 3) := by decide +kernel
theorem dX3_unlikeShapes_19 : decode cX3_unlikeShapes 19 = .ok (.aload_n 0, 1) := by decide +kernel
theorem dX3_unlikeShapes_20 : decode cX3_unlikeShapes 20 = .ok (.getfield 18, 3) := by decide +kernel
theorem dX3_unlikeShapes_23 : decode cX3_unlikeShapes 23 = .ok (.iload_n 3, 1) := by decide +kernel
theorem dX3_unlikeShapes_24 : decode cX3_unlikeShapes 24 = .ok (.iaload, 1) := by decide +kernel
theorem dX3_unlikeShapes_25 : decode cX3_unlikeShapes 25 = .ok (.aload_n 0, 1) := by decide +kernel
theorem dX3_unlikeShapes_26 : decode cX3_unlikeShapes 26 = .ok (.getfield 18, 3) := by decide +kernel
theorem dX3_unlikeShapes_29 : decode cX3_unlikeShapes 29 = .ok (.iload_n 2, 1) := by decide +kernel
theorem dX3_unlikeShapes_30 : decode cX3_unlikeShapes 30 = .ok (.iaload, 1) := by decide +kernel
theorem dX3_unlikeShapes_31 : decode cX3_unlikeShapes 31 = .ok (.if_icmp .eq 9, 3) := by decide +kernel
theorem dX3_unlikeShapes_34 : decode cX3_unlikeShapes 34 = .ok (.iinc 3 1, 3) := by decide +kernel
theorem dX3_unlikeShapes_37 : decode cX3_unlikeShapes 37 = .ok (.goto (-23), 3) := by decide +kernel
theorem dX3_unlikeShapes_40 : decode cX3_unlikeShapes 40 = .ok (.iload_n 3, 1) := by decide +kernel
theorem dX3_unlikeShapes_41 : decode cX3_unlikeShapes 41 = .ok (.iload_n 2, 1) := by decide +kernel
theorem dX3_unlikeShapes_42 : decode cX3_unlikeShapes 42 = .ok (.if_icmp .ne 6, 3) := by decide +kernel
theorem dX3_unlikeShapes_45 : decode cX3_unlikeShapes 45 = .ok (.iinc 1 1, 3) := by decide +kernel
theorem dX3_unlikeShapes_48 : decode cX3_unlikeShapes 48 = .ok (.iinc 2 1, 3) := by decide +kernel
theorem dX3_unlikeShapes_51 : decode cX3_unlikeShapes 51 = .ok (.goto (-47), 3) := by decide +kernel
theorem dX3_unlikeShapes_54 : decode cX3_unlikeShapes 54 = .ok (.iload_n 1, 1) := by decide +kernel
theorem dX3_unlikeShapes_55 : decode cX3_unlikeShapes 55 = .ok (.ireturn, 1) := by decide +kernel
theorem dX3_levels_0 : decode cX3_levels 0 = .ok (.iconst 0, 1) := by decide +kernel
theorem dX3_levels_1 : decode cX3_levels 1 = .ok (.istore_n 1, 1) := by decide +kernel
theorem dX3_levels_2 : decode cX3_levels 2 = .ok (.iconst 1, 1) := by decide +kernel
theorem dX3_levels_3 : decode cX3_levels 3 = .ok (.istore_n 2, 1) := by decide +kernel
theorem dX3_levels_4 : decode cX3_levels 4 = .ok (.iload_n 2, 1) := by decide +kernel
theorem dX3_levels_5 : decode cX3_levels 5 = .ok (.aload_n 0, 1) := by decide +kernel
theorem dX3_levels_6 : decode cX3_levels 6 = .ok (.getfield 36, 3) := by decide +kernel
theorem dX3_levels_9 : decode cX3_levels 9 = .ok (.if_icmp .gt 13, 3) := by decide +kernel
theorem dX3_levels_12 : decode cX3_levels 12 = .ok (.iinc 1 1, 3) := by decide +kernel
theorem dX3_levels_15 : decode cX3_levels 15 = .ok (.iload_n 2, 1) := by decide +kernel
theorem dX3_levels_16 : decode cX3_levels 16 = .ok (.iconst 2, 1) := by decide +kernel
theorem dX3_levels_17 : decode cX3_levels 17 = .ok (.imul, 1) := by decide +kernel
theorem dX3_levels_18 : decode cX3_levels 18 = .ok (.istore_n 2, 1) := by decide +kernel
theorem dX3_levels_19 : decode cX3_levels 19 = .ok (.goto (-15), 3) := by decide +kernel
theorem dX3_levels_22 : decode cX3_levels 22 = .ok (.iload_n 1, 1) := by decide +kernel
theorem dX3_levels_23 : decode cX3_levels 23 = .ok (.ireturn, 1) := by decide +kernel
theorem dX3_entries_0 : decode cX3_entries 0 = .ok (.iconst 0, 1) := by decide +kernel
theorem dX3_entries_1 : decode cX3_entries 1 = .ok (.istore_n 1, 1) := by decide +kernel
theorem dX3_entries_2 : decode cX3_entries 2 = .ok (.iconst 1, 1) := by decide +kernel
theorem dX3_entries_3 : decode cX3_entries 3 = .ok (.istore_n 2, 1) := by decide +kernel
theorem dX3_entries_4 : decode cX3_entries 4 = .ok (.iload_n 2, 1) := by decide +kernel
theorem dX3_entries_5 : decode cX3_entries 5 = .ok (.aload_n 0, 1) := by decide +kernel
theorem dX3_entries_6 : decode cX3_entries 6 = .ok (.getfield 36, 3) := by decide +kernel
theorem dX3_entries_9 : decode cX3_entries 9 = .ok (.if_icmp .gt 21, 3) := by decide +kernel
theorem dX3_entries_12 : decode cX3_entries 12 = .ok (.iload_n 1, 1) := by decide +kernel
theorem dX3_entries_13 : decode cX3_entries 13 = .ok (.aload_n 0, 1) := by decide +kernel
theorem dX3_entries_14 : decode cX3_entries 14 = .ok (.getfield 36, 3) := by decide +kernel
theorem dX3_entries_17 : decode cX3_entries 17 = .ok (.iload_n 2, 1) := by decide +kernel
theorem dX3_entries_18 : decode cX3_entries 18 = .ok (.isub, 1) := by decide +kernel
theorem dX3_entries_19 : decode cX3_entries 19 = .ok (.iconst 1, 1) := by decide +kernel
theorem dX3_entries_20 : decode cX3_entries 20 = .ok (.iadd, 1) := by decide +kernel
theorem dX3_entries_21 : decode cX3_entries 21 = .ok (.iadd, 1) := by decide +kernel
theorem dX3_entries_22 : decode cX3_entries 22 = .ok (.istore_n 1, 1) := by decide +kernel
theorem dX3_entries_23 : decode cX3_entries 23 = .ok (.iload_n 2, 1) := by decide +kernel
theorem dX3_entries_24 : decode cX3_entries 24 = .ok (.iconst 2, 1) := by decide +kernel
theorem dX3_entries_25 : decode cX3_entries 25 = .ok (.imul, 1) := by decide +kernel
theorem dX3_entries_26 : decode cX3_entries 26 = .ok (.istore_n 2, 1) := by decide +kernel
theorem dX3_entries_27 : decode cX3_entries 27 = .ok (.goto (-23), 3) := by decide +kernel
theorem dX3_entries_30 : decode cX3_entries 30 = .ok (.iload_n 1, 1) := by decide +kernel
theorem dX3_entries_31 : decode cX3_entries 31 = .ok (.ireturn, 1) := by decide +kernel
theorem dX3_bits_0 : decode cX3_bits 0 = .ok (.iconst 3, 1) := by decide +kernel
theorem dX3_bits_1 : decode cX3_bits 1 = .ok (.aload_n 0, 1) := by decide +kernel
theorem dX3_bits_2 : decode cX3_bits 2 = .ok (.getfield 32, 3) := by decide +kernel
theorem dX3_bits_5 : decode cX3_bits 5 = .ok (.imul, 1) := by decide +kernel
theorem dX3_bits_6 : decode cX3_bits 6 = .ok (.aload_n 0, 1) := by decide +kernel
theorem dX3_bits_7 : decode cX3_bits 7 = .ok (.getfield 32, 3) := by decide +kernel
theorem dX3_bits_10 : decode cX3_bits 10 = .ok (.imul, 1) := by decide +kernel
theorem dX3_bits_11 : decode cX3_bits 11 = .ok (.aload_n 0, 1) := by decide +kernel
theorem dX3_bits_12 : decode cX3_bits 12 = .ok (.invokevirtual 80, 3) := by decide +kernel
theorem dX3_bits_15 : decode cX3_bits 15 = .ok (.imul, 1) := by decide +kernel
theorem dX3_bits_16 : decode cX3_bits 16 = .ok (.istore_n 1, 1) := by decide +kernel
theorem dX3_bits_17 : decode cX3_bits 17 = .ok (.iconst 2, 1) := by decide +kernel
theorem dX3_bits_18 : decode cX3_bits 18 = .ok (.aload_n 0, 1) := by decide +kernel
theorem dX3_bits_19 : decode cX3_bits 19 = .ok (.getfield 32, 3) := by decide +kernel
theorem dX3_bits_22 : decode cX3_bits 22 = .ok (.imul, 1) := by decide +kernel
theorem dX3_bits_23 : decode cX3_bits 23 = .ok (.aload_n 0, 1) := by decide +kernel
theorem dX3_bits_24 : decode cX3_bits 24 = .ok (.getfield 36, 3) := by decide +kernel
theorem dX3_bits_27 : decode cX3_bits 27 = .ok (.imul, 1) := by decide +kernel
theorem dX3_bits_28 : decode cX3_bits 28 = .ok (.bipush 6, 2) := by decide +kernel
theorem dX3_bits_30 : decode cX3_bits 30 = .ok (.aload_n 0, 1) := by decide +kernel
theorem dX3_bits_31 : decode cX3_bits 31 = .ok (.invokevirtual 84, 3) := by decide +kernel
theorem dX3_bits_34 : decode cX3_bits 34 = .ok (.imul, 1) := by decide +kernel
theorem dX3_bits_35 : decode cX3_bits 35 = .ok (.iadd, 1) := by decide +kernel
theorem dX3_bits_36 : decode cX3_bits 36 = .ok (.iload_n 1, 1) := by decide +kernel
theorem dX3_bits_37 : decode cX3_bits 37 = .ok (.iadd, 1) := by decide +kernel
theorem dX3_bits_38 : decode cX3_bits 38 = .ok (.ireturn, 1) := by decide +kernel
theorem dX3_leastPlace_0 : decode cX3_leastPlace 0 = .ok (.iload_n 1, 1) := by decide +kernel
theorem dX3_leastPlace_1 : decode cX3_leastPlace 1 = .ok (.istore_n 3, 1) := by decide +kernel
theorem dX3_leastPlace_2 : decode cX3_leastPlace 2 = .ok (.iload_n 1, 1) := by decide +kernel
theorem dX3_leastPlace_3 : decode cX3_leastPlace 3 = .ok (.iconst 1, 1) := by decide +kernel
theorem dX3_leastPlace_4 : decode cX3_leastPlace 4 = .ok (.iadd, 1) := by decide +kernel
theorem dX3_leastPlace_5 : decode cX3_leastPlace 5 = .ok (.istore 4, 2) := by decide +kernel
theorem dX3_leastPlace_7 : decode cX3_leastPlace 7 = .ok (.iload 4, 2) := by decide +kernel
theorem dX3_leastPlace_9 : decode cX3_leastPlace 9 = .ok (.iload_n 2, 1) := by decide +kernel
theorem dX3_leastPlace_10 : decode cX3_leastPlace 10 = .ok (.if_icmp .gt 34, 3) := by decide +kernel
theorem dX3_leastPlace_13 : decode cX3_leastPlace 13 = .ok (.aload_n 0, 1) := by decide +kernel
theorem dX3_leastPlace_14 : decode cX3_leastPlace 14 = .ok (.getfield 12, 3) := by decide +kernel
theorem dX3_leastPlace_17 : decode cX3_leastPlace 17 = .ok (.getfield 65, 3) := by decide +kernel
theorem dX3_leastPlace_20 : decode cX3_leastPlace 20 = .ok (.iload 4, 2) := by decide +kernel
theorem dX3_leastPlace_22 : decode cX3_leastPlace 22 = .ok (.iaload, 1) := by decide +kernel
theorem dX3_leastPlace_23 : decode cX3_leastPlace 23 = .ok (.aload_n 0, 1) := by decide +kernel
theorem dX3_leastPlace_24 : decode cX3_leastPlace 24 = .ok (.getfield 12, 3) := by decide +kernel
theorem dX3_leastPlace_27 : decode cX3_leastPlace 27 = .ok (.getfield 65, 3) := by decide +kernel
theorem dX3_leastPlace_30 : decode cX3_leastPlace 30 = .ok (.iload_n 3, 1) := by decide +kernel
theorem dX3_leastPlace_31 : decode cX3_leastPlace 31 = .ok (.iaload, 1) := by decide +kernel
theorem dX3_leastPlace_32 : decode cX3_leastPlace 32 = .ok (.if_icmp .ge 6, 3) := by decide +kernel
theorem dX3_leastPlace_35 : decode cX3_leastPlace 35 = .ok (.iload 4, 2) := by decide +kernel
theorem dX3_leastPlace_37 : decode cX3_leastPlace 37 = .ok (.istore_n 3, 1) := by decide +kernel
theorem dX3_leastPlace_38 : decode cX3_leastPlace 38 = .ok (.iinc 4 1, 3) := by decide +kernel
theorem dX3_leastPlace_41 : decode cX3_leastPlace 41 = .ok (.goto (-34), 3) := by decide +kernel
theorem dX3_leastPlace_44 : decode cX3_leastPlace 44 = .ok (.iload_n 3, 1) := by decide +kernel
theorem dX3_leastPlace_45 : decode cX3_leastPlace 45 = .ok (.ireturn, 1) := by decide +kernel
theorem dX3_kthPlace_0 : decode cX3_kthPlace 0 = .ok (.iload_n 1, 1) := by decide +kernel
theorem dX3_kthPlace_1 : decode cX3_kthPlace 1 = .ok (.istore 4, 2) := by decide +kernel
theorem dX3_kthPlace_3 : decode cX3_kthPlace 3 = .ok (.iload 4, 2) := by decide +kernel
theorem dX3_kthPlace_5 : decode cX3_kthPlace 5 = .ok (.iload_n 2, 1) := by decide +kernel
theorem dX3_kthPlace_6 : decode cX3_kthPlace 6 = .ok (.if_icmp .ge 21, 3) := by decide +kernel
theorem dX3_kthPlace_9 : decode cX3_kthPlace 9 = .ok (.aload_n 0, 1) := by decide +kernel
theorem dX3_kthPlace_10 : decode cX3_kthPlace 10 = .ok (.iload_n 1, 1) := by decide +kernel
theorem dX3_kthPlace_11 : decode cX3_kthPlace 11 = .ok (.iload_n 2, 1) := by decide +kernel
theorem dX3_kthPlace_12 : decode cX3_kthPlace 12 = .ok (.iload 4, 2) := by decide +kernel
theorem dX3_kthPlace_14 : decode cX3_kthPlace 14 = .ok (.invokevirtual 87, 3) := by decide +kernel
theorem dX3_kthPlace_17 : decode cX3_kthPlace 17 = .ok (.iload_n 3, 1) := by decide +kernel
theorem dX3_kthPlace_18 : decode cX3_kthPlace 18 = .ok (.if_icmp .eq 9, 3) := by decide +kernel
theorem dX3_kthPlace_21 : decode cX3_kthPlace 21 = .ok (.iinc 4 1, 3) := by decide +kernel
theorem dX3_kthPlace_24 : decode cX3_kthPlace 24 = .ok (.goto (-21), 3) := by decide +kernel
theorem dX3_kthPlace_27 : decode cX3_kthPlace 27 = .ok (.iload 4, 2) := by decide +kernel
theorem dX3_kthPlace_29 : decode cX3_kthPlace 29 = .ok (.ireturn, 1) := by decide +kernel
theorem dX3_rank_0 : decode cX3_rank 0 = .ok (.iconst 0, 1) := by decide +kernel
theorem dX3_rank_1 : decode cX3_rank 1 = .ok (.istore 4, 2) := by decide +kernel
theorem dX3_rank_3 : decode cX3_rank 3 = .ok (.iload_n 1, 1) := by decide +kernel
theorem dX3_rank_4 : decode cX3_rank 4 = .ok (.istore 5, 2) := by decide +kernel
theorem dX3_rank_6 : decode cX3_rank 6 = .ok (.iload 5, 2) := by decide +kernel
theorem dX3_rank_8 : decode cX3_rank 8 = .ok (.iload_n 2, 1) := by decide +kernel
theorem dX3_rank_9 : decode cX3_rank 9 = .ok (.if_icmp .gt 74, 3) := by decide +kernel
theorem dX3_rank_12 : decode cX3_rank 12 = .ok (.aload_n 0, 1) := by decide +kernel
theorem dX3_rank_13 : decode cX3_rank 13 = .ok (.getfield 12, 3) := by decide +kernel
theorem dX3_rank_16 : decode cX3_rank 16 = .ok (.getfield 65, 3) := by decide +kernel
theorem dX3_rank_19 : decode cX3_rank 19 = .ok (.iload 5, 2) := by decide +kernel
theorem dX3_rank_21 : decode cX3_rank 21 = .ok (.iaload, 1) := by decide +kernel
theorem dX3_rank_22 : decode cX3_rank 22 = .ok (.aload_n 0, 1) := by decide +kernel
theorem dX3_rank_23 : decode cX3_rank 23 = .ok (.getfield 12, 3) := by decide +kernel
theorem dX3_rank_26 : decode cX3_rank 26 = .ok (.getfield 65, 3) := by decide +kernel
theorem dX3_rank_29 : decode cX3_rank 29 = .ok (.iload_n 3, 1) := by decide +kernel
theorem dX3_rank_30 : decode cX3_rank 30 = .ok (.iaload, 1) := by decide +kernel
theorem dX3_rank_31 : decode cX3_rank 31 = .ok (.if_icmp .ge 7, 3) := by decide +kernel
theorem dX3_rank_34 : decode cX3_rank 34 = .ok (.iconst 1, 1) := by decide +kernel
theorem dX3_rank_35 : decode cX3_rank 35 = .ok (.goto 4, 3) := by decide +kernel
theorem dX3_rank_38 : decode cX3_rank 38 = .ok (.iconst 0, 1) := by decide +kernel
theorem dX3_rank_39 : decode cX3_rank 39 = .ok (.istore 6, 2) := by decide +kernel
theorem dX3_rank_41 : decode cX3_rank 41 = .ok (.iload 6, 2) := by decide +kernel
theorem dX3_rank_43 : decode cX3_rank 43 = .ok (.ifCond .ne 31, 3) := by decide +kernel
theorem dX3_rank_46 : decode cX3_rank 46 = .ok (.iload 5, 2) := by decide +kernel
theorem dX3_rank_48 : decode cX3_rank 48 = .ok (.iload_n 3, 1) := by decide +kernel
theorem dX3_rank_49 : decode cX3_rank 49 = .ok (.if_icmp .ge 28, 3) := by decide +kernel
theorem dX3_rank_52 : decode cX3_rank 52 = .ok (.aload_n 0, 1) := by decide +kernel
theorem dX3_rank_53 : decode cX3_rank 53 = .ok (.getfield 12, 3) := by decide +kernel
theorem dX3_rank_56 : decode cX3_rank 56 = .ok (.getfield 65, 3) := by decide +kernel
theorem dX3_rank_59 : decode cX3_rank 59 = .ok (.iload 5, 2) := by decide +kernel
theorem dX3_rank_61 : decode cX3_rank 61 = .ok (.iaload, 1) := by decide +kernel
theorem dX3_rank_62 : decode cX3_rank 62 = .ok (.aload_n 0, 1) := by decide +kernel
theorem dX3_rank_63 : decode cX3_rank 63 = .ok (.getfield 12, 3) := by decide +kernel
theorem dX3_rank_66 : decode cX3_rank 66 = .ok (.getfield 65, 3) := by decide +kernel
theorem dX3_rank_69 : decode cX3_rank 69 = .ok (.iload_n 3, 1) := by decide +kernel
theorem dX3_rank_70 : decode cX3_rank 70 = .ok (.iaload, 1) := by decide +kernel
theorem dX3_rank_71 : decode cX3_rank 71 = .ok (.if_icmp .ne 6, 3) := by decide +kernel
theorem dX3_rank_74 : decode cX3_rank 74 = .ok (.iinc 4 1, 3) := by decide +kernel
theorem dX3_rank_77 : decode cX3_rank 77 = .ok (.iinc 5 1, 3) := by decide +kernel
theorem dX3_rank_80 : decode cX3_rank 80 = .ok (.goto (-74), 3) := by decide +kernel
theorem dX3_rank_83 : decode cX3_rank 83 = .ok (.iload 4, 2) := by decide +kernel
theorem dX3_rank_85 : decode cX3_rank 85 = .ok (.ireturn, 1) := by decide +kernel
theorem dX3_leftEdge_0 : decode cX3_leftEdge 0 = .ok (.iload_n 1, 1) := by decide +kernel
theorem dX3_leftEdge_1 : decode cX3_leftEdge 1 = .ok (.iconst 1, 1) := by decide +kernel
theorem dX3_leftEdge_2 : decode cX3_leftEdge 2 = .ok (.isub, 1) := by decide +kernel
theorem dX3_leftEdge_3 : decode cX3_leftEdge 3 = .ok (.istore_n 2, 1) := by decide +kernel
theorem dX3_leftEdge_4 : decode cX3_leftEdge 4 = .ok (.iload_n 2, 1) := by decide +kernel
theorem dX3_leftEdge_5 : decode cX3_leftEdge 5 = .ok (.ifCond .lt 30, 3) := by decide +kernel
theorem dX3_leftEdge_8 : decode cX3_leftEdge 8 = .ok (.aload_n 0, 1) := by decide +kernel
theorem dX3_leftEdge_9 : decode cX3_leftEdge 9 = .ok (.getfield 12, 3) := by decide +kernel
theorem dX3_leftEdge_12 : decode cX3_leftEdge 12 = .ok (.getfield 65, 3) := by decide +kernel
theorem dX3_leftEdge_15 : decode cX3_leftEdge 15 = .ok (.iload_n 2, 1) := by decide +kernel
theorem dX3_leftEdge_16 : decode cX3_leftEdge 16 = .ok (.iaload, 1) := by decide +kernel
theorem dX3_leftEdge_17 : decode cX3_leftEdge 17 = .ok (.aload_n 0, 1) := by decide +kernel
theorem dX3_leftEdge_18 : decode cX3_leftEdge 18 = .ok (.getfield 12, 3) := by decide +kernel
theorem dX3_leftEdge_21 : decode cX3_leftEdge 21 = .ok (.getfield 65, 3) := by decide +kernel
theorem dX3_leftEdge_24 : decode cX3_leftEdge 24 = .ok (.iload_n 1, 1) := by decide +kernel
theorem dX3_leftEdge_25 : decode cX3_leftEdge 25 = .ok (.iaload, 1) := by decide +kernel
theorem dX3_leftEdge_26 : decode cX3_leftEdge 26 = .ok (.if_icmp .le 9, 3) := by decide +kernel
theorem dX3_leftEdge_29 : decode cX3_leftEdge 29 = .ok (.iinc 2 (-1), 3) := by decide +kernel
theorem dX3_leftEdge_32 : decode cX3_leftEdge 32 = .ok (.goto (-28), 3) := by decide +kernel
theorem dX3_leftEdge_35 : decode cX3_leftEdge 35 = .ok (.iload_n 2, 1) := by decide +kernel
theorem dX3_leftEdge_36 : decode cX3_leftEdge 36 = .ok (.ireturn, 1) := by decide +kernel
theorem dX3_rightEdge_0 : decode cX3_rightEdge 0 = .ok (.iload_n 1, 1) := by decide +kernel
theorem dX3_rightEdge_1 : decode cX3_rightEdge 1 = .ok (.iconst 1, 1) := by decide +kernel
theorem dX3_rightEdge_2 : decode cX3_rightEdge 2 = .ok (.iadd, 1) := by decide +kernel
theorem dX3_rightEdge_3 : decode cX3_rightEdge 3 = .ok (.istore_n 2, 1) := by decide +kernel
theorem dX3_rightEdge_4 : decode cX3_rightEdge 4 = .ok (.iload_n 2, 1) := by decide +kernel
theorem dX3_rightEdge_5 : decode cX3_rightEdge 5 = .ok (.aload_n 0, 1) := by decide +kernel
theorem dX3_rightEdge_6 : decode cX3_rightEdge 6 = .ok (.getfield 12, 3) := by decide +kernel
theorem dX3_rightEdge_9 : decode cX3_rightEdge 9 = .ok (.getfield 47, 3) := by decide +kernel
theorem dX3_rightEdge_12 : decode cX3_rightEdge 12 = .ok (.if_icmp .ge 30, 3) := by decide +kernel
theorem dX3_rightEdge_15 : decode cX3_rightEdge 15 = .ok (.aload_n 0, 1) := by decide +kernel
theorem dX3_rightEdge_16 : decode cX3_rightEdge 16 = .ok (.getfield 12, 3) := by decide +kernel
theorem dX3_rightEdge_19 : decode cX3_rightEdge 19 = .ok (.getfield 65, 3) := by decide +kernel
theorem dX3_rightEdge_22 : decode cX3_rightEdge 22 = .ok (.iload_n 2, 1) := by decide +kernel
theorem dX3_rightEdge_23 : decode cX3_rightEdge 23 = .ok (.iaload, 1) := by decide +kernel
theorem dX3_rightEdge_24 : decode cX3_rightEdge 24 = .ok (.aload_n 0, 1) := by decide +kernel
theorem dX3_rightEdge_25 : decode cX3_rightEdge 25 = .ok (.getfield 12, 3) := by decide +kernel
theorem dX3_rightEdge_28 : decode cX3_rightEdge 28 = .ok (.getfield 65, 3) := by decide +kernel
theorem dX3_rightEdge_31 : decode cX3_rightEdge 31 = .ok (.iload_n 1, 1) := by decide +kernel
theorem dX3_rightEdge_32 : decode cX3_rightEdge 32 = .ok (.iaload, 1) := by decide +kernel
theorem dX3_rightEdge_33 : decode cX3_rightEdge 33 = .ok (.if_icmp .lt 9, 3) := by decide +kernel
theorem dX3_rightEdge_36 : decode cX3_rightEdge 36 = .ok (.iinc 2 1, 3) := by decide +kernel
theorem dX3_rightEdge_39 : decode cX3_rightEdge 39 = .ok (.goto (-35), 3) := by decide +kernel
theorem dX3_rightEdge_42 : decode cX3_rightEdge 42 = .ok (.iload_n 2, 1) := by decide +kernel
theorem dX3_rightEdge_43 : decode cX3_rightEdge 43 = .ok (.ireturn, 1) := by decide +kernel
theorem dX3_runsOwned_0 : decode cX3_runsOwned 0 = .ok (.iload_n 1, 1) := by decide +kernel
theorem dX3_runsOwned_1 : decode cX3_runsOwned 1 = .ok (.aload_n 0, 1) := by decide +kernel
theorem dX3_runsOwned_2 : decode cX3_runsOwned 2 = .ok (.iload_n 1, 1) := by decide +kernel
theorem dX3_runsOwned_3 : decode cX3_runsOwned 3 = .ok (.invokevirtual 91, 3) := by decide +kernel
theorem dX3_runsOwned_6 : decode cX3_runsOwned 6 = .ok (.isub, 1) := by decide +kernel
theorem dX3_runsOwned_7 : decode cX3_runsOwned 7 = .ok (.aload_n 0, 1) := by decide +kernel
theorem dX3_runsOwned_8 : decode cX3_runsOwned 8 = .ok (.iload_n 1, 1) := by decide +kernel
theorem dX3_runsOwned_9 : decode cX3_runsOwned 9 = .ok (.invokevirtual 94, 3) := by decide +kernel
theorem dX3_runsOwned_12 : decode cX3_runsOwned 12 = .ok (.iload_n 1, 1) := by decide +kernel
theorem dX3_runsOwned_13 : decode cX3_runsOwned 13 = .ok (.isub, 1) := by decide +kernel
theorem dX3_runsOwned_14 : decode cX3_runsOwned 14 = .ok (.imul, 1) := by decide +kernel
theorem dX3_runsOwned_15 : decode cX3_runsOwned 15 = .ok (.ireturn, 1) := by decide +kernel
theorem dX3_parentPlace_0 : decode cX3_parentPlace 0 = .ok (.aload_n 0, 1) := by decide +kernel
theorem dX3_parentPlace_1 : decode cX3_parentPlace 1 = .ok (.iload_n 1, 1) := by decide +kernel
theorem dX3_parentPlace_2 : decode cX3_parentPlace 2 = .ok (.invokevirtual 91, 3) := by decide +kernel
theorem dX3_parentPlace_5 : decode cX3_parentPlace 5 = .ok (.istore_n 2, 1) := by decide +kernel
theorem dX3_parentPlace_6 : decode cX3_parentPlace 6 = .ok (.aload_n 0, 1) := by decide +kernel
theorem dX3_parentPlace_7 : decode cX3_parentPlace 7 = .ok (.iload_n 1, 1) := by decide +kernel
theorem dX3_parentPlace_8 : decode cX3_parentPlace 8 = .ok (.invokevirtual 94, 3) := by decide +kernel
theorem dX3_parentPlace_11 : decode cX3_parentPlace 11 = .ok (.istore_n 3, 1) := by decide +kernel
theorem dX3_parentPlace_12 : decode cX3_parentPlace 12 = .ok (.iload_n 3, 1) := by decide +kernel
theorem dX3_parentPlace_13 : decode cX3_parentPlace 13 = .ok (.aload_n 0, 1) := by decide +kernel
theorem dX3_parentPlace_14 : decode cX3_parentPlace 14 = .ok (.getfield 12, 3) := by decide +kernel
theorem dX3_parentPlace_17 : decode cX3_parentPlace 17 = .ok (.getfield 47, 3) := by decide +kernel
theorem dX3_parentPlace_20 : decode cX3_parentPlace 20 = .ok (.if_icmp .lt 14, 3) := by decide +kernel
theorem dX3_parentPlace_23 : decode cX3_parentPlace 23 = .ok (.iload_n 2, 1) := by decide +kernel
theorem dX3_parentPlace_24 : decode cX3_parentPlace 24 = .ok (.ifCond .ge 8, 3) := by decide +kernel
theorem dX3_parentPlace_27 : decode cX3_parentPlace 27 = .ok (.bipush (-9), 2) := by decide +kernel
theorem dX3_parentPlace_29 : decode cX3_parentPlace 29 = .ok (.goto 4, 3) := by decide +kernel
theorem dX3_parentPlace_32 : decode cX3_parentPlace 32 = .ok (.iload_n 2, 1) := by decide +kernel
theorem dX3_parentPlace_33 : decode cX3_parentPlace 33 = .ok (.ireturn, 1) := by decide +kernel
theorem dX3_parentPlace_34 : decode cX3_parentPlace 34 = .ok (.iload_n 2, 1) := by decide +kernel
theorem dX3_parentPlace_35 : decode cX3_parentPlace 35 = .ok (.ifCond .ge 5, 3) := by decide +kernel
theorem dX3_parentPlace_38 : decode cX3_parentPlace 38 = .ok (.iload_n 3, 1) := by decide +kernel
theorem dX3_parentPlace_39 : decode cX3_parentPlace 39 = .ok (.ireturn, 1) := by decide +kernel
theorem dX3_parentPlace_40 : decode cX3_parentPlace 40 = .ok (.aload_n 0, 1) := by decide +kernel
theorem dX3_parentPlace_41 : decode cX3_parentPlace 41 = .ok (.getfield 12, 3) := by decide +kernel
theorem dX3_parentPlace_44 : decode cX3_parentPlace 44 = .ok (.getfield 65, 3) := by decide +kernel
theorem dX3_parentPlace_47 : decode cX3_parentPlace 47 = .ok (.iload_n 2, 1) := by decide +kernel
theorem dX3_parentPlace_48 : decode cX3_parentPlace 48 = .ok (.iaload, 1) := by decide +kernel
theorem dX3_parentPlace_49 : decode cX3_parentPlace 49 = .ok (.aload_n 0, 1) := by decide +kernel
theorem dX3_parentPlace_50 : decode cX3_parentPlace 50 = .ok (.getfield 12, 3) := by decide +kernel
theorem dX3_parentPlace_53 : decode cX3_parentPlace 53 = .ok (.getfield 65, 3) := by decide +kernel
theorem dX3_parentPlace_56 : decode cX3_parentPlace 56 = .ok (.iload_n 3, 1) := by decide +kernel
theorem dX3_parentPlace_57 : decode cX3_parentPlace 57 = .ok (.iaload, 1) := by decide +kernel
theorem dX3_parentPlace_58 : decode cX3_parentPlace 58 = .ok (.if_icmp .le 7, 3) := by decide +kernel
theorem dX3_parentPlace_61 : decode cX3_parentPlace 61 = .ok (.iload_n 2, 1) := by decide +kernel
theorem dX3_parentPlace_62 : decode cX3_parentPlace 62 = .ok (.goto 4, 3) := by decide +kernel
theorem dX3_parentPlace_65 : decode cX3_parentPlace 65 = .ok (.iload_n 3, 1) := by decide +kernel
theorem dX3_parentPlace_66 : decode cX3_parentPlace 66 = .ok (.ireturn, 1) := by decide +kernel
theorem dX3_depthOf_0 : decode cX3_depthOf 0 = .ok (.iconst 0, 1) := by decide +kernel
theorem dX3_depthOf_1 : decode cX3_depthOf 1 = .ok (.istore_n 2, 1) := by decide +kernel
theorem dX3_depthOf_2 : decode cX3_depthOf 2 = .ok (.aload_n 0, 1) := by decide +kernel
theorem dX3_depthOf_3 : decode cX3_depthOf 3 = .ok (.iload_n 1, 1) := by decide +kernel
theorem dX3_depthOf_4 : decode cX3_depthOf 4 = .ok (.invokevirtual 97, 3) := by decide +kernel
theorem dX3_depthOf_7 : decode cX3_depthOf 7 = .ok (.istore_n 3, 1) := by decide +kernel
theorem dX3_depthOf_8 : decode cX3_depthOf 8 = .ok (.iload_n 2, 1) := by decide +kernel
theorem dX3_depthOf_9 : decode cX3_depthOf 9 = .ok (.aload_n 0, 1) := by decide +kernel
theorem dX3_depthOf_10 : decode cX3_depthOf 10 = .ok (.getfield 12, 3) := by decide +kernel
theorem dX3_depthOf_13 : decode cX3_depthOf 13 = .ok (.getfield 47, 3) := by decide +kernel
theorem dX3_depthOf_16 : decode cX3_depthOf 16 = .ok (.if_icmp .ge 21, 3) := by decide +kernel
theorem dX3_depthOf_19 : decode cX3_depthOf 19 = .ok (.iload_n 3, 1) := by decide +kernel
theorem dX3_depthOf_20 : decode cX3_depthOf 20 = .ok (.bipush (-9), 2) := by decide +kernel
theorem dX3_depthOf_22 : decode cX3_depthOf 22 = .ok (.if_icmp .eq 15, 3) := by decide +kernel
theorem dX3_depthOf_25 : decode cX3_depthOf 25 = .ok (.aload_n 0, 1) := by decide +kernel
theorem dX3_depthOf_26 : decode cX3_depthOf 26 = .ok (.iload_n 3, 1) := by decide +kernel
theorem dX3_depthOf_27 : decode cX3_depthOf 27 = .ok (.invokevirtual 97, 3) := by decide +kernel
theorem dX3_depthOf_30 : decode cX3_depthOf 30 = .ok (.istore_n 3, 1) := by decide +kernel
theorem dX3_depthOf_31 : decode cX3_depthOf 31 = .ok (.iinc 2 1, 3) := by decide +kernel
theorem dX3_depthOf_34 : decode cX3_depthOf 34 = .ok (.goto (-26), 3) := by decide +kernel
theorem dX3_depthOf_37 : decode cX3_depthOf 37 = .ok (.iload_n 2, 1) := by decide +kernel
theorem dX3_depthOf_38 : decode cX3_depthOf 38 = .ok (.ireturn, 1) := by decide +kernel
theorem dX3_ancestor_0 : decode cX3_ancestor 0 = .ok (.iload_n 2, 1) := by decide +kernel
theorem dX3_ancestor_1 : decode cX3_ancestor 1 = .ok (.aload_n 0, 1) := by decide +kernel
theorem dX3_ancestor_2 : decode cX3_ancestor 2 = .ok (.getfield 12, 3) := by decide +kernel
theorem dX3_ancestor_5 : decode cX3_ancestor 5 = .ok (.getfield 47, 3) := by decide +kernel
theorem dX3_ancestor_8 : decode cX3_ancestor 8 = .ok (.invokestatic 68, 3) := by decide +kernel
theorem dX3_ancestor_11 : decode cX3_ancestor 11 = .ok (.istore_n 3, 1) := by decide +kernel
theorem dX3_ancestor_12 : decode cX3_ancestor 12 = .ok (.iload_n 1, 1) := by decide +kernel
theorem dX3_ancestor_13 : decode cX3_ancestor 13 = .ok (.istore 4, 2) := by decide +kernel
theorem dX3_ancestor_15 : decode cX3_ancestor 15 = .ok (.iconst 0, 1) := by decide +kernel
theorem dX3_ancestor_16 : decode cX3_ancestor 16 = .ok (.istore 5, 2) := by decide +kernel
theorem dX3_ancestor_18 : decode cX3_ancestor 18 = .ok (.iload 5, 2) := by decide +kernel
theorem dX3_ancestor_20 : decode cX3_ancestor 20 = .ok (.iload_n 3, 1) := by decide +kernel
theorem dX3_ancestor_21 : decode cX3_ancestor 21 = .ok (.if_icmp .ge 24, 3) := by decide +kernel
theorem dX3_ancestor_24 : decode cX3_ancestor 24 = .ok (.iload 4, 2) := by decide +kernel
theorem dX3_ancestor_26 : decode cX3_ancestor 26 = .ok (.bipush (-9), 2) := by decide +kernel
theorem dX3_ancestor_28 : decode cX3_ancestor 28 = .ok (.if_icmp .eq 17, 3) := by decide +kernel
theorem dX3_ancestor_31 : decode cX3_ancestor 31 = .ok (.aload_n 0, 1) := by decide +kernel
theorem dX3_ancestor_32 : decode cX3_ancestor 32 = .ok (.iload 4, 2) := by decide +kernel
theorem dX3_ancestor_34 : decode cX3_ancestor 34 = .ok (.invokevirtual 97, 3) := by decide +kernel
theorem dX3_ancestor_37 : decode cX3_ancestor 37 = .ok (.istore 4, 2) := by decide +kernel
theorem dX3_ancestor_39 : decode cX3_ancestor 39 = .ok (.iinc 5 1, 3) := by decide +kernel
theorem dX3_ancestor_42 : decode cX3_ancestor 42 = .ok (.goto (-24), 3) := by decide +kernel
theorem dX3_ancestor_45 : decode cX3_ancestor 45 = .ok (.iload 4, 2) := by decide +kernel
theorem dX3_ancestor_47 : decode cX3_ancestor 47 = .ok (.ireturn, 1) := by decide +kernel
theorem dX3_areAlike_0 : decode cX3_areAlike 0 = .ok (.iconst 0, 1) := by decide +kernel
theorem dX3_areAlike_1 : decode cX3_areAlike 1 = .ok (.istore 4, 2) := by decide +kernel
theorem dX3_areAlike_3 : decode cX3_areAlike 3 = .ok (.iload 4, 2) := by decide +kernel
theorem dX3_areAlike_5 : decode cX3_areAlike 5 = .ok (.iload_n 3, 1) := by decide +kernel
theorem dX3_areAlike_6 : decode cX3_areAlike 6 = .ok (.if_icmp .ge 32, 3) := by decide +kernel
theorem dX3_areAlike_9 : decode cX3_areAlike 9 = .ok (.aload_n 0, 1) := by decide +kernel
theorem dX3_areAlike_10 : decode cX3_areAlike 10 = .ok (.iload_n 1, 1) := by decide +kernel
theorem dX3_areAlike_11 : decode cX3_areAlike 11 = .ok (.iload_n 1, 1) := by decide +kernel
theorem dX3_areAlike_12 : decode cX3_areAlike 12 = .ok (.iload 4, 2) := by decide +kernel
theorem dX3_areAlike_14 : decode cX3_areAlike 14 = .ok (.iadd, 1) := by decide +kernel
theorem dX3_areAlike_15 : decode cX3_areAlike 15 = .ok (.invokevirtual 100, 3) := by decide +kernel
theorem dX3_areAlike_18 : decode cX3_areAlike 18 = .ok (.aload_n 0, 1) := by decide +kernel
theorem dX3_areAlike_19 : decode cX3_areAlike 19 = .ok (.iload_n 2, 1) := by decide +kernel
theorem dX3_areAlike_20 : decode cX3_areAlike 20 = .ok (.iload_n 2, 1) := by decide +kernel
theorem dX3_areAlike_21 : decode cX3_areAlike 21 = .ok (.iload 4, 2) := by decide +kernel
theorem dX3_areAlike_23 : decode cX3_areAlike 23 = .ok (.iadd, 1) := by decide +kernel
theorem dX3_areAlike_24 : decode cX3_areAlike 24 = .ok (.invokevirtual 100, 3) := by decide +kernel
theorem dX3_areAlike_27 : decode cX3_areAlike 27 = .ok (.if_icmp .eq 5, 3) := by decide +kernel
theorem dX3_areAlike_30 : decode cX3_areAlike 30 = .ok (.iconst 0, 1) := by decide +kernel
theorem dX3_areAlike_31 : decode cX3_areAlike 31 = .ok (.ireturn, 1) := by decide +kernel
theorem dX3_areAlike_32 : decode cX3_areAlike 32 = .ok (.iinc 4 1, 3) := by decide +kernel
theorem dX3_areAlike_35 : decode cX3_areAlike 35 = .ok (.goto (-32), 3) := by decide +kernel
theorem dX3_areAlike_38 : decode cX3_areAlike 38 = .ok (.iconst 1, 1) := by decide +kernel
theorem dX3_areAlike_39 : decode cX3_areAlike 39 = .ok (.ireturn, 1) := by decide +kernel
theorem dX3_stepsToLeftWithin_0 : decode cX3_stepsToLeftWithin 0 = .ok (.iload_n 2, 1) := by decide +kernel
theorem dX3_stepsToLeftWithin_1 : decode cX3_stepsToLeftWithin 1 = .ok (.iload_n 1, 1) := by decide +kernel
theorem dX3_stepsToLeftWithin_2 : decode cX3_stepsToLeftWithin 2 = .ok (.iconst 1, 1) := by decide +kernel
theorem dX3_stepsToLeftWithin_3 : decode cX3_stepsToLeftWithin 3 = .ok (.isub, 1) := by decide +kernel
theorem dX3_stepsToLeftWithin_4 : decode cX3_stepsToLeftWithin 4 = .ok (.aload_n 0, 1) := by decide +kernel
theorem dX3_stepsToLeftWithin_5 : decode cX3_stepsToLeftWithin 5 = .ok (.iload_n 2, 1) := by decide +kernel
theorem dX3_stepsToLeftWithin_6 : decode cX3_stepsToLeftWithin 6 = .ok (.invokevirtual 91, 3) := by decide +kernel
theorem dX3_stepsToLeftWithin_9 : decode cX3_stepsToLeftWithin 9 = .ok (.invokestatic 77, 3) := by decide +kernel
theorem dX3_stepsToLeftWithin_12 : decode cX3_stepsToLeftWithin 12 = .ok (.isub, 1) := by decide +kernel
theorem dX3_stepsToLeftWithin_13 : decode cX3_stepsToLeftWithin 13 = .ok (.ireturn, 1) := by decide +kernel
theorem dX4_init_0 : decode cX4_init 0 = .ok (.aload_n 0, 1) := by decide +kernel
theorem dX4_init_1 : decode cX4_init 1 = .ok (.invokespecial 3, 3) := by decide +kernel
theorem dX4_init_4 : decode cX4_init 4 = .ok (.aload_n 0, 1) := by decide +kernel
theorem dX4_init_5 : decode cX4_init 5 = .ok (.bipush 48, 2) := by decide +kernel
theorem dX4_init_7 : decode cX4_init 7 = .ok (.newarray .int, 2) := by decide +kernel
theorem dX4_init_9 : decode cX4_init 9 = .ok (.putfield 9, 3) := by decide +kernel
theorem dX4_init_12 : decode cX4_init 12 = .ok (.aload_n 0, 1) := by decide +kernel
theorem dX4_init_13 : decode cX4_init 13 = .ok (.iconst (-1), 1) := by decide +kernel
theorem dX4_init_14 : decode cX4_init 14 = .ok (.putfield 15, 3) := by decide +kernel
theorem dX4_init_17 : decode cX4_init 17 = .ok (.return_, 1) := by decide +kernel
theorem dX4_isMissing_0 : decode cX4_isMissing 0 = .ok (.aload_n 0, 1) := by decide +kernel
theorem dX4_isMissing_1 : decode cX4_isMissing 1 = .ok (.getfield 15, 3) := by decide +kernel
theorem dX4_isMissing_4 : decode cX4_isMissing 4 = .ok (.ifCond .ge 7, 3) := by decide +kernel
theorem dX4_isMissing_7 : decode cX4_isMissing 7 = .ok (.iconst 1, 1) := by decide +kernel
theorem dX4_isMissing_8 : decode cX4_isMissing 8 = .ok (.goto 4, 3) := by decide +kernel
theorem dX4_isMissing_11 : decode cX4_isMissing 11 = .ok (.iconst 0, 1) := by decide +kernel
theorem dX4_isMissing_12 : decode cX4_isMissing 12 = .ok (.ireturn, 1) := by decide +kernel
theorem dX4_lacks_0 : decode cX4_lacks 0 = .ok (.iload_n 1, 1) := by decide +kernel
theorem dX4_lacks_1 : decode cX4_lacks 1 = .ok (.ifCond .lt 11, 3) := by decide +kernel
theorem dX4_lacks_4 : decode cX4_lacks 4 = .ok (.iload_n 1, 1) := by decide +kernel
theorem dX4_lacks_5 : decode cX4_lacks 5 = .ok (.aload_n 0, 1) := by decide +kernel
theorem dX4_lacks_6 : decode cX4_lacks 6 = .ok (.getfield 15, 3) := by decide +kernel
theorem dX4_lacks_9 : decode cX4_lacks 9 = .ok (.if_icmp .lt 7, 3) := by decide +kernel
theorem dX4_lacks_12 : decode cX4_lacks 12 = .ok (.iconst 1, 1) := by decide +kernel
theorem dX4_lacks_13 : decode cX4_lacks 13 = .ok (.goto 4, 3) := by decide +kernel
theorem dX4_lacks_16 : decode cX4_lacks 16 = .ok (.iconst 0, 1) := by decide +kernel
theorem dX4_lacks_17 : decode cX4_lacks 17 = .ok (.ireturn, 1) := by decide +kernel
theorem dX4_lacksSome_0 : decode cX4_lacksSome 0 = .ok (.iload_n 1, 1) := by decide +kernel
theorem dX4_lacksSome_1 : decode cX4_lacksSome 1 = .ok (.ifCond .lt 17, 3) := by decide +kernel
theorem dX4_lacksSome_4 : decode cX4_lacksSome 4 = .ok (.iload_n 2, 1) := by decide +kernel
theorem dX4_lacksSome_5 : decode cX4_lacksSome 5 = .ok (.ifCond .lt 13, 3) := by decide +kernel
theorem dX4_lacksSome_8 : decode cX4_lacksSome 8 = .ok (.iload_n 2, 1) := by decide +kernel
theorem dX4_lacksSome_9 : decode cX4_lacksSome 9 = .ok (.aload_n 0, 1) := by decide +kernel
theorem dX4_lacksSome_10 : decode cX4_lacksSome 10 = .ok (.getfield 15, 3) := by decide +kernel
theorem dX4_lacksSome_13 : decode cX4_lacksSome 13 = .ok (.iload_n 1, 1) := by decide +kernel
theorem dX4_lacksSome_14 : decode cX4_lacksSome 14 = .ok (.isub, 1) := by decide +kernel
theorem dX4_lacksSome_15 : decode cX4_lacksSome 15 = .ok (.if_icmp .le 7, 3) := by decide +kernel
theorem dX4_lacksSome_18 : decode cX4_lacksSome 18 = .ok (.iconst 1, 1) := by decide +kernel
theorem dX4_lacksSome_19 : decode cX4_lacksSome 19 = .ok (.goto 4, 3) := by decide +kernel
theorem dX4_lacksSome_22 : decode cX4_lacksSome 22 = .ok (.iconst 0, 1) := by decide +kernel
theorem dX4_lacksSome_23 : decode cX4_lacksSome 23 = .ok (.ireturn, 1) := by decide +kernel
theorem dX4_becomeZeros_0 : decode cX4_becomeZeros 0 = .ok (.aload_n 0, 1) := by decide +kernel
theorem dX4_becomeZeros_1 : decode cX4_becomeZeros 1 = .ok (.getfield 9, 3) := by decide +kernel
theorem dX4_becomeZeros_4 : decode cX4_becomeZeros 4 = .ok (.iconst 0, 1) := by decide +kernel
theorem dX4_becomeZeros_5 : decode cX4_becomeZeros 5 = .ok (.invokestatic 19, 3) := by decide +kernel
theorem dX4_becomeZeros_8 : decode cX4_becomeZeros 8 = .ok (.aload_n 0, 1) := by decide +kernel
theorem dX4_becomeZeros_9 : decode cX4_becomeZeros 9 = .ok (.iload_n 1, 1) := by decide +kernel
theorem dX4_becomeZeros_10 : decode cX4_becomeZeros 10 = .ok (.putfield 15, 3) := by decide +kernel
theorem dX4_becomeZeros_13 : decode cX4_becomeZeros 13 = .ok (.return_, 1) := by decide +kernel
theorem dX4_become_0 : decode cX4_become 0 = .ok (.aload_n 1, 1) := by decide +kernel
theorem dX4_become_1 : decode cX4_become 1 = .ok (.getfield 9, 3) := by decide +kernel
theorem dX4_become_4 : decode cX4_become 4 = .ok (.iconst 0, 1) := by decide +kernel
theorem dX4_become_5 : decode cX4_become 5 = .ok (.aload_n 0, 1) := by decide +kernel
theorem dX4_become_6 : decode cX4_become 6 = .ok (.getfield 9, 3) := by decide +kernel
theorem dX4_become_9 : decode cX4_become 9 = .ok (.iconst 0, 1) := by decide +kernel
theorem dX4_become_10 : decode cX4_become 10 = .ok (.bipush 48, 2) := by decide +kernel
theorem dX4_become_12 : decode cX4_become 12 = .ok (.invokestatic 25, 3) := by decide +kernel
theorem dX4_become_15 : decode cX4_become 15 = .ok (.aload_n 0, 1) := by decide +kernel
theorem dX4_become_16 : decode cX4_become 16 = .ok (.aload_n 1, 1) := by decide +kernel
theorem dX4_become_17 : decode cX4_become 17 = .ok (.getfield 15, 3) := by decide +kernel
theorem dX4_become_20 : decode cX4_become 20 = .ok (.putfield 15, 3) := by decide +kernel
theorem dX4_become_23 : decode cX4_become 23 = .ok (.return_, 1) := by decide +kernel
theorem dX4_digestOn_0 : decode cX4_digestOn 0 = .ok (.lload_n 1, 1) := by decide +kernel
theorem dX4_digestOn_1 : decode cX4_digestOn 1 = .ok (.lstore_n 3, 1) := by decide +kernel
theorem dX4_digestOn_2 : decode cX4_digestOn 2 = .ok (.iconst 0, 1) := by decide +kernel
theorem dX4_digestOn_3 : decode cX4_digestOn 3 = .ok (.istore 5, 2) := by decide +kernel
theorem dX4_digestOn_5 : decode cX4_digestOn 5 = .ok (.iload 5, 2) := by decide +kernel
theorem dX4_digestOn_7 : decode cX4_digestOn 7 = .ok (.aload_n 0, 1) := by decide +kernel
theorem dX4_digestOn_8 : decode cX4_digestOn 8 = .ok (.getfield 15, 3) := by decide +kernel
theorem dX4_digestOn_11 : decode cX4_digestOn 11 = .ok (.if_icmp .ge 24, 3) := by decide +kernel
theorem dX4_digestOn_14 : decode cX4_digestOn 14 = .ok (.ldc2_w 31, 3) := by decide +kernel
theorem dX4_digestOn_17 : decode cX4_digestOn 17 = .ok (.lload_n 3, 1) := by decide +kernel
theorem dX4_digestOn_18 : decode cX4_digestOn 18 = .ok (.lmul, 1) := by decide +kernel
theorem dX4_digestOn_19 : decode cX4_digestOn 19 = .ok (.aload_n 0, 1) := by decide +kernel
theorem dX4_digestOn_20 : decode cX4_digestOn 20 = .ok (.getfield 9, 3) := by decide +kernel
theorem dX4_digestOn_23 : decode cX4_digestOn 23 = .ok (.iload 5, 2) := by decide +kernel
theorem dX4_digestOn_25 : decode cX4_digestOn 25 = .ok (.iaload, 1) := by decide +kernel
theorem dX4_digestOn_26 : decode cX4_digestOn 26 = .ok (.i2l, 1) := by decide +kernel
theorem dX4_digestOn_27 : decode cX4_digestOn 27 = .ok (.ladd, 1) := by decide +kernel
theorem dX4_digestOn_28 : decode cX4_digestOn 28 = .ok (.lstore_n 3, 1) := by decide +kernel
theorem dX4_digestOn_29 : decode cX4_digestOn 29 = .ok (.iinc 5 1, 3) := by decide +kernel
theorem dX4_digestOn_32 : decode cX4_digestOn 32 = .ok (.goto (-27), 3) := by decide +kernel
theorem dX4_digestOn_35 : decode cX4_digestOn 35 = .ok (.lload_n 3, 1) := by decide +kernel
theorem dX4_digestOn_36 : decode cX4_digestOn 36 = .ok (.lreturn, 1) := by decide +kernel
theorem dX5_init_0 : decode cX5_init 0 = .ok (.aload_n 0, 1) := by decide +kernel
theorem dX5_init_1 : decode cX5_init 1 = .ok (.invokespecial 3, 3) := by decide +kernel
theorem dX5_init_4 : decode cX5_init 4 = .ok (.aload_n 0, 1) := by decide +kernel
theorem dX5_init_5 : decode cX5_init 5 = .ok (.bipush 64, 2) := by decide +kernel
theorem dX5_init_7 : decode cX5_init 7 = .ok (.newarray .long, 2) := by decide +kernel
theorem dX5_init_9 : decode cX5_init 9 = .ok (.putfield 9, 3) := by decide +kernel
theorem dX5_init_12 : decode cX5_init 12 = .ok (.aload_n 0, 1) := by decide +kernel
theorem dX5_init_13 : decode cX5_init 13 = .ok (.iconst 0, 1) := by decide +kernel
theorem dX5_init_14 : decode cX5_init 14 = .ok (.putfield 15, 3) := by decide +kernel
theorem dX5_init_17 : decode cX5_init 17 = .ok (.return_, 1) := by decide +kernel
theorem dX5_becomeEmpty_0 : decode cX5_becomeEmpty 0 = .ok (.aload_n 0, 1) := by decide +kernel
theorem dX5_becomeEmpty_1 : decode cX5_becomeEmpty 1 = .ok (.getfield 9, 3) := by decide +kernel
theorem dX5_becomeEmpty_4 : decode cX5_becomeEmpty 4 = .ok (.lconst 0, 1) := by decide +kernel
theorem dX5_becomeEmpty_5 : decode cX5_becomeEmpty 5 = .ok (.invokestatic 19, 3) := by decide +kernel
theorem dX5_becomeEmpty_8 : decode cX5_becomeEmpty 8 = .ok (.aload_n 0, 1) := by decide +kernel
theorem dX5_becomeEmpty_9 : decode cX5_becomeEmpty 9 = .ok (.iconst 0, 1) := by decide +kernel
theorem dX5_becomeEmpty_10 : decode cX5_becomeEmpty 10 = .ok (.putfield 15, 3) := by decide +kernel
theorem dX5_becomeEmpty_13 : decode cX5_becomeEmpty 13 = .ok (.return_, 1) := by decide +kernel
theorem dX5_has_0 : decode cX5_has 0 = .ok (.iload_n 1, 1) := by decide +kernel
theorem dX5_has_1 : decode cX5_has 1 = .ok (.ifCond .lt 35, 3) := by decide +kernel
theorem dX5_has_4 : decode cX5_has 4 = .ok (.iload_n 1, 1) := by decide +kernel
theorem dX5_has_5 : decode cX5_has 5 = .ok (.sipush 4096, 3) := by decide +kernel
theorem dX5_has_8 : decode cX5_has 8 = .ok (.if_icmp .ge 28, 3) := by decide +kernel
theorem dX5_has_11 : decode cX5_has 11 = .ok (.aload_n 0, 1) := by decide +kernel
theorem dX5_has_12 : decode cX5_has 12 = .ok (.getfield 9, 3) := by decide +kernel
theorem dX5_has_15 : decode cX5_has 15 = .ok (.iload_n 1, 1) := by decide +kernel
theorem dX5_has_16 : decode cX5_has 16 = .ok (.bipush 6, 2) := by decide +kernel
theorem dX5_has_18 : decode cX5_has 18 = .ok (.ishr, 1) := by decide +kernel
theorem dX5_has_19 : decode cX5_has 19 = .ok (.laload, 1) := by decide +kernel
theorem dX5_has_20 : decode cX5_has 20 = .ok (.iload_n 1, 1) := by decide +kernel
theorem dX5_has_21 : decode cX5_has 21 = .ok (.bipush 63, 2) := by decide +kernel
theorem dX5_has_23 : decode cX5_has 23 = .ok (.iand, 1) := by decide +kernel
theorem dX5_has_24 : decode cX5_has 24 = .ok (.lushr, 1) := by decide +kernel
theorem dX5_has_25 : decode cX5_has 25 = .ok (.lconst 1, 1) := by decide +kernel
theorem dX5_has_26 : decode cX5_has 26 = .ok (.land, 1) := by decide +kernel
theorem dX5_has_27 : decode cX5_has 27 = .ok (.lconst 0, 1) := by decide +kernel
theorem dX5_has_28 : decode cX5_has 28 = .ok (.lcmp, 1) := by decide +kernel
theorem dX5_has_29 : decode cX5_has 29 = .ok (.ifCond .eq 7, 3) := by decide +kernel
theorem dX5_has_32 : decode cX5_has 32 = .ok (.iconst 1, 1) := by decide +kernel
theorem dX5_has_33 : decode cX5_has 33 = .ok (.goto 4, 3) := by decide +kernel
theorem dX5_has_36 : decode cX5_has 36 = .ok (.iconst 0, 1) := by decide +kernel
theorem dX5_has_37 : decode cX5_has 37 = .ok (.ireturn, 1) := by decide +kernel
theorem dX5_include_0 : decode cX5_include 0 = .ok (.iload_n 1, 1) := by decide +kernel
theorem dX5_include_1 : decode cX5_include 1 = .ok (.ifCond .lt 46, 3) := by decide +kernel
theorem dX5_include_4 : decode cX5_include 4 = .ok (.iload_n 1, 1) := by decide +kernel
theorem dX5_include_5 : decode cX5_include 5 = .ok (.sipush 4096, 3) := by decide +kernel
theorem dX5_include_8 : decode cX5_include 8 = .ok (.if_icmp .ge 39, 3) := by decide +kernel
theorem dX5_include_11 : decode cX5_include 11 = .ok (.aload_n 0, 1) := by decide +kernel
theorem dX5_include_12 : decode cX5_include 12 = .ok (.iload_n 1, 1) := by decide +kernel
theorem dX5_include_13 : decode cX5_include 13 = .ok (.invokevirtual 25, 3) := by decide +kernel
theorem dX5_include_16 : decode cX5_include 16 = .ok (.ifCond .ne 31, 3) := by decide +kernel
theorem dX5_include_19 : decode cX5_include 19 = .ok (.aload_n 0, 1) := by decide +kernel
theorem dX5_include_20 : decode cX5_include 20 = .ok (.getfield 9, 3) := by decide +kernel
theorem dX5_include_23 : decode cX5_include 23 = .ok (.iload_n 1, 1) := by decide +kernel
theorem dX5_include_24 : decode cX5_include 24 = .ok (.bipush 6, 2) := by decide +kernel
theorem dX5_include_26 : decode cX5_include 26 = .ok (.ishr, 1) := by decide +kernel
theorem dX5_include_27 : decode cX5_include 27 = .ok (.dup2, 1) := by decide +kernel
theorem dX5_include_28 : decode cX5_include 28 = .ok (.laload, 1) := by decide +kernel
theorem dX5_include_29 : decode cX5_include 29 = .ok (.lconst 1, 1) := by decide +kernel
theorem dX5_include_30 : decode cX5_include 30 = .ok (.iload_n 1, 1) := by decide +kernel
theorem dX5_include_31 : decode cX5_include 31 = .ok (.bipush 63, 2) := by decide +kernel
theorem dX5_include_33 : decode cX5_include 33 = .ok (.iand, 1) := by decide +kernel
theorem dX5_include_34 : decode cX5_include 34 = .ok (.lshl, 1) := by decide +kernel
theorem dX5_include_35 : decode cX5_include 35 = .ok (.lor, 1) := by decide +kernel
theorem dX5_include_36 : decode cX5_include 36 = .ok (.lastore, 1) := by decide +kernel
theorem dX5_include_37 : decode cX5_include 37 = .ok (.aload_n 0, 1) := by decide +kernel
theorem dX5_include_38 : decode cX5_include 38 = .ok (.dup, 1) := by decide +kernel
theorem dX5_include_39 : decode cX5_include 39 = .ok (.getfield 15, 3) := by decide +kernel
theorem dX5_include_42 : decode cX5_include 42 = .ok (.iconst 1, 1) := by decide +kernel
theorem dX5_include_43 : decode cX5_include 43 = .ok (.iadd, 1) := by decide +kernel
theorem dX5_include_44 : decode cX5_include 44 = .ok (.putfield 15, 3) := by decide +kernel
theorem dX5_include_47 : decode cX5_include 47 = .ok (.return_, 1) := by decide +kernel
theorem dX6_init_0 : decode cX6_init 0 = .ok (.aload_n 0, 1) := by decide +kernel
theorem dX6_init_1 : decode cX6_init 1 = .ok (.invokespecial 3, 3) := by decide +kernel
theorem dX6_init_4 : decode cX6_init 4 = .ok (.aload_n 0, 1) := by decide +kernel
theorem dX6_init_5 : decode cX6_init 5 = .ok (.iconst 4, 1) := by decide +kernel
theorem dX6_init_6 : decode cX6_init 6 = .ok (.anewarray 9, 3) := by decide +kernel
theorem dX6_init_9 : decode cX6_init 9 = .ok (.putfield 11, 3) := by decide +kernel
theorem dX6_init_12 : decode cX6_init 12 = .ok (.iconst 0, 1) := by decide +kernel
theorem dX6_init_13 : decode cX6_init 13 = .ok (.istore_n 1, 1) := by decide +kernel
theorem dX6_init_14 : decode cX6_init 14 = .ok (.iload_n 1, 1) := by decide +kernel
theorem dX6_init_15 : decode cX6_init 15 = .ok (.iconst 4, 1) := by decide +kernel
theorem dX6_init_16 : decode cX6_init 16 = .ok (.if_icmp .ge 22, 3) := by decide +kernel
theorem dX6_init_19 : decode cX6_init 19 = .ok (.aload_n 0, 1) := by decide +kernel
theorem dX6_init_20 : decode cX6_init 20 = .ok (.getfield 11, 3) := by decide +kernel
theorem dX6_init_23 : decode cX6_init 23 = .ok (.iload_n 1, 1) := by decide +kernel
theorem dX6_init_24 : decode cX6_init 24 = .ok (.new 9, 3) := by decide +kernel
theorem dX6_init_27 : decode cX6_init 27 = .ok (.dup, 1) := by decide +kernel
theorem dX6_init_28 : decode cX6_init 28 = .ok (.invokespecial 15, 3) := by decide +kernel
theorem dX6_init_31 : decode cX6_init 31 = .ok (.aastore, 1) := by decide +kernel
theorem dX6_init_32 : decode cX6_init 32 = .ok (.iinc 1 1, 3) := by decide +kernel
theorem dX6_init_35 : decode cX6_init 35 = .ok (.goto (-21), 3) := by decide +kernel
theorem dX6_init_38 : decode cX6_init 38 = .ok (.aload_n 0, 1) := by decide +kernel
theorem dX6_init_39 : decode cX6_init 39 = .ok (.iconst 2, 1) := by decide +kernel
theorem dX6_init_40 : decode cX6_init 40 = .ok (.anewarray 16, 3) := by decide +kernel
theorem dX6_init_43 : decode cX6_init 43 = .ok (.putfield 18, 3) := by decide +kernel
theorem dX6_init_46 : decode cX6_init 46 = .ok (.iconst 0, 1) := by decide +kernel
theorem dX6_init_47 : decode cX6_init 47 = .ok (.istore_n 1, 1) := by decide +kernel
theorem dX6_init_48 : decode cX6_init 48 = .ok (.iload_n 1, 1) := by decide +kernel
theorem dX6_init_49 : decode cX6_init 49 = .ok (.iconst 2, 1) := by decide +kernel
theorem dX6_init_50 : decode cX6_init 50 = .ok (.if_icmp .ge 22, 3) := by decide +kernel
theorem dX6_init_53 : decode cX6_init 53 = .ok (.aload_n 0, 1) := by decide +kernel
theorem dX6_init_54 : decode cX6_init 54 = .ok (.getfield 18, 3) := by decide +kernel
theorem dX6_init_57 : decode cX6_init 57 = .ok (.iload_n 1, 1) := by decide +kernel
theorem dX6_init_58 : decode cX6_init 58 = .ok (.new 16, 3) := by decide +kernel
theorem dX6_init_61 : decode cX6_init 61 = .ok (.dup, 1) := by decide +kernel
theorem dX6_init_62 : decode cX6_init 62 = .ok (.invokespecial 22, 3) := by decide +kernel
theorem dX6_init_65 : decode cX6_init 65 = .ok (.aastore, 1) := by decide +kernel
theorem dX6_init_66 : decode cX6_init 66 = .ok (.iinc 1 1, 3) := by decide +kernel
theorem dX6_init_69 : decode cX6_init 69 = .ok (.goto (-21), 3) := by decide +kernel
theorem dX6_init_72 : decode cX6_init 72 = .ok (.aload_n 0, 1) := by decide +kernel
theorem dX6_init_73 : decode cX6_init 73 = .ok (.new 23, 3) := by decide +kernel
theorem dX6_init_76 : decode cX6_init 76 = .ok (.dup, 1) := by decide +kernel
theorem dX6_init_77 : decode cX6_init 77 = .ok (.invokespecial 25, 3) := by decide +kernel
theorem dX6_init_80 : decode cX6_init 80 = .ok (.putfield 26, 3) := by decide +kernel
theorem dX6_init_83 : decode cX6_init 83 = .ok (.aload_n 0, 1) := by decide +kernel
theorem dX6_init_84 : decode cX6_init 84 = .ok (.new 30, 3) := by decide +kernel
theorem dX6_init_87 : decode cX6_init 87 = .ok (.dup, 1) := by decide +kernel
theorem dX6_init_88 : decode cX6_init 88 = .ok (.invokespecial 32, 3) := by decide +kernel
theorem dX6_init_91 : decode cX6_init 91 = .ok (.putfield 33, 3) := by decide +kernel
theorem dX6_init_94 : decode cX6_init 94 = .ok (.aload_n 0, 1) := by decide +kernel
theorem dX6_init_95 : decode cX6_init 95 = .ok (.new 37, 3) := by decide +kernel
theorem dX6_init_98 : decode cX6_init 98 = .ok (.dup, 1) := by decide +kernel
theorem dX6_init_99 : decode cX6_init 99 = .ok (.invokespecial 39, 3) := by decide +kernel
theorem dX6_init_102 : decode cX6_init 102 = .ok (.putfield 40, 3) := by decide +kernel
theorem dX6_init_105 : decode cX6_init 105 = .ok (.aload_n 0, 1) := by decide +kernel
theorem dX6_init_106 : decode cX6_init 106 = .ok (.iconst 5, 1) := by decide +kernel
theorem dX6_init_107 : decode cX6_init 107 = .ok (.newarray .int, 2) := by decide +kernel
theorem dX6_init_109 : decode cX6_init 109 = .ok (.putfield 44, 3) := by decide +kernel
theorem dX6_init_112 : decode cX6_init 112 = .ok (.aload_n 0, 1) := by decide +kernel
theorem dX6_init_113 : decode cX6_init 113 = .ok (.iconst 0, 1) := by decide +kernel
theorem dX6_init_114 : decode cX6_init 114 = .ok (.putfield 48, 3) := by decide +kernel
theorem dX6_init_117 : decode cX6_init 117 = .ok (.aload_n 0, 1) := by decide +kernel
theorem dX6_init_118 : decode cX6_init 118 = .ok (.iconst 0, 1) := by decide +kernel
theorem dX6_init_119 : decode cX6_init 119 = .ok (.putfield 52, 3) := by decide +kernel
theorem dX6_init_122 : decode cX6_init 122 = .ok (.return_, 1) := by decide +kernel
theorem dX6_row_0 : decode cX6_row 0 = .ok (.iload_n 1, 1) := by decide +kernel
theorem dX6_row_1 : decode cX6_row 1 = .ok (.invokestatic 55, 3) := by decide +kernel
theorem dX6_row_4 : decode cX6_row 4 = .ok (.ifCond .ne 9, 3) := by decide +kernel
theorem dX6_row_7 : decode cX6_row 7 = .ok (.iload_n 2, 1) := by decide +kernel
theorem dX6_row_8 : decode cX6_row 8 = .ok (.bipush 48, 2) := by decide +kernel
theorem dX6_row_10 : decode cX6_row 10 = .ok (.if_icmp .le 5, 3) := by decide +kernel
theorem dX6_row_13 : decode cX6_row 13 = .ok (.iconst (-1), 1) := by decide +kernel
theorem dX6_row_14 : decode cX6_row 14 = .ok (.ireturn, 1) := by decide +kernel
theorem dX6_row_15 : decode cX6_row 15 = .ok (.iload_n 2, 1) := by decide +kernel
theorem dX6_row_16 : decode cX6_row 16 = .ok (.ifCond .ge 9, 3) := by decide +kernel
theorem dX6_row_19 : decode cX6_row 19 = .ok (.aload_n 0, 1) := by decide +kernel
theorem dX6_row_20 : decode cX6_row 20 = .ok (.iconst 3, 1) := by decide +kernel
theorem dX6_row_21 : decode cX6_row 21 = .ok (.invokevirtual 59, 3) := by decide +kernel
theorem dX6_row_24 : decode cX6_row 24 = .ok (.ireturn, 1) := by decide +kernel
theorem dX6_row_25 : decode cX6_row 25 = .ok (.aload_n 0, 1) := by decide +kernel
theorem dX6_row_26 : decode cX6_row 26 = .ok (.getfield 11, 3) := by decide +kernel
theorem dX6_row_29 : decode cX6_row 29 = .ok (.iload_n 1, 1) := by decide +kernel
theorem dX6_row_30 : decode cX6_row 30 = .ok (.aaload, 1) := by decide +kernel
theorem dX6_row_31 : decode cX6_row 31 = .ok (.iload_n 2, 1) := by decide +kernel
theorem dX6_row_32 : decode cX6_row 32 = .ok (.invokevirtual 63, 3) := by decide +kernel
theorem dX6_row_35 : decode cX6_row 35 = .ok (.iload_n 2, 1) := by decide +kernel
theorem dX6_row_36 : decode cX6_row 36 = .ok (.ireturn, 1) := by decide +kernel
theorem dX6_lay_0 : decode cX6_lay 0 = .ok (.aload_n 0, 1) := by decide +kernel
theorem dX6_lay_1 : decode cX6_lay 1 = .ok (.iload_n 1, 1) := by decide +kernel
theorem dX6_lay_2 : decode cX6_lay 2 = .ok (.iload_n 2, 1) := by decide +kernel
theorem dX6_lay_3 : decode cX6_lay 3 = .ok (.invokevirtual 67, 3) := by decide +kernel
theorem dX6_lay_6 : decode cX6_lay 6 = .ok (.istore 4, 2) := by decide +kernel
theorem dX6_lay_8 : decode cX6_lay 8 = .ok (.iload 4, 2) := by decide +kernel
theorem dX6_lay_10 : decode cX6_lay 10 = .ok (.ifCond .eq 6, 3) := by decide +kernel
theorem dX6_lay_13 : decode cX6_lay 13 = .ok (.iload 4, 2) := by decide +kernel
theorem dX6_lay_15 : decode cX6_lay 15 = .ok (.ireturn, 1) := by decide +kernel
theorem dX6_lay_16 : decode cX6_lay 16 = .ok (.aload_n 0, 1) := by decide +kernel
theorem dX6_lay_17 : decode cX6_lay 17 = .ok (.aload_n 0, 1) := by decide +kernel
theorem dX6_lay_18 : decode cX6_lay 18 = .ok (.getfield 11, 3) := by decide +kernel
theorem dX6_lay_21 : decode cX6_lay 21 = .ok (.iload_n 1, 1) := by decide +kernel
theorem dX6_lay_22 : decode cX6_lay 22 = .ok (.aaload, 1) := by decide +kernel
theorem dX6_lay_23 : decode cX6_lay 23 = .ok (.getfield 71, 3) := by decide +kernel
theorem dX6_lay_26 : decode cX6_lay 26 = .ok (.iload_n 2, 1) := by decide +kernel
theorem dX6_lay_27 : decode cX6_lay 27 = .ok (.iaload, 1) := by decide +kernel
theorem dX6_lay_28 : decode cX6_lay 28 = .ok (.putfield 52, 3) := by decide +kernel
theorem dX6_lay_31 : decode cX6_lay 31 = .ok (.aload_n 0, 1) := by decide +kernel
theorem dX6_lay_32 : decode cX6_lay 32 = .ok (.getfield 11, 3) := by decide +kernel
theorem dX6_lay_35 : decode cX6_lay 35 = .ok (.iload_n 1, 1) := by decide +kernel
theorem dX6_lay_36 : decode cX6_lay 36 = .ok (.aaload, 1) := by decide +kernel
theorem dX6_lay_37 : decode cX6_lay 37 = .ok (.getfield 71, 3) := by decide +kernel
theorem dX6_lay_40 : decode cX6_lay 40 = .ok (.iload_n 2, 1) := by decide +kernel
theorem dX6_lay_41 : decode cX6_lay 41 = .ok (.iload_n 3, 1) := by decide +kernel
theorem dX6_lay_42 : decode cX6_lay 42 = .ok (.iastore, 1) := by decide +kernel
theorem dX6_lay_43 : decode cX6_lay 43 = .ok (.iconst 1, 1) := by decide +kernel
theorem dX6_lay_44 : decode cX6_lay 44 = .ok (.ireturn, 1) := by decide +kernel
theorem dX6_at_0 : decode cX6_at 0 = .ok (.aload_n 0, 1) := by decide +kernel
theorem dX6_at_1 : decode cX6_at 1 = .ok (.iload_n 1, 1) := by decide +kernel
theorem dX6_at_2 : decode cX6_at 2 = .ok (.iload_n 2, 1) := by decide +kernel
theorem dX6_at_3 : decode cX6_at 3 = .ok (.invokevirtual 67, 3) := by decide +kernel
theorem dX6_at_6 : decode cX6_at 6 = .ok (.istore_n 3, 1) := by decide +kernel
theorem dX6_at_7 : decode cX6_at 7 = .ok (.iload_n 3, 1) := by decide +kernel
theorem dX6_at_8 : decode cX6_at 8 = .ok (.ifCond .eq 5, 3) := by decide +kernel
theorem dX6_at_11 : decode cX6_at 11 = .ok (.iload_n 3, 1) := by decide +kernel
theorem dX6_at_12 : decode cX6_at 12 = .ok (.ireturn, 1) := by decide +kernel
theorem dX6_at_13 : decode cX6_at 13 = .ok (.aload_n 0, 1) := by decide +kernel
theorem dX6_at_14 : decode cX6_at 14 = .ok (.aload_n 0, 1) := by decide +kernel
theorem dX6_at_15 : decode cX6_at 15 = .ok (.getfield 11, 3) := by decide +kernel
theorem dX6_at_18 : decode cX6_at 18 = .ok (.iload_n 1, 1) := by decide +kernel
theorem dX6_at_19 : decode cX6_at 19 = .ok (.aaload, 1) := by decide +kernel
theorem dX6_at_20 : decode cX6_at 20 = .ok (.getfield 71, 3) := by decide +kernel
theorem dX6_at_23 : decode cX6_at 23 = .ok (.iload_n 2, 1) := by decide +kernel
theorem dX6_at_24 : decode cX6_at 24 = .ok (.iaload, 1) := by decide +kernel
theorem dX6_at_25 : decode cX6_at 25 = .ok (.putfield 52, 3) := by decide +kernel
theorem dX6_at_28 : decode cX6_at 28 = .ok (.iconst 1, 1) := by decide +kernel
theorem dX6_at_29 : decode cX6_at 29 = .ok (.ireturn, 1) := by decide +kernel
theorem dX6_tear_0 : decode cX6_tear 0 = .ok (.iload_n 1, 1) := by decide +kernel
theorem dX6_tear_1 : decode cX6_tear 1 = .ok (.invokestatic 55, 3) := by decide +kernel
theorem dX6_tear_4 : decode cX6_tear 4 = .ok (.ifCond .eq 5, 3) := by decide +kernel
theorem dX6_tear_7 : decode cX6_tear 7 = .ok (.iconst (-1), 1) := by decide +kernel
theorem dX6_tear_8 : decode cX6_tear 8 = .ok (.ireturn, 1) := by decide +kernel
theorem dX6_tear_9 : decode cX6_tear 9 = .ok (.aload_n 0, 1) := by decide +kernel
theorem dX6_tear_10 : decode cX6_tear 10 = .ok (.getfield 11, 3) := by decide +kernel
theorem dX6_tear_13 : decode cX6_tear 13 = .ok (.iload_n 1, 1) := by decide +kernel
theorem dX6_tear_14 : decode cX6_tear 14 = .ok (.aaload, 1) := by decide +kernel
theorem dX6_tear_15 : decode cX6_tear 15 = .ok (.invokevirtual 74, 3) := by decide +kernel
theorem dX6_tear_18 : decode cX6_tear 18 = .ok (.ifCond .eq 9, 3) := by decide +kernel
theorem dX6_tear_21 : decode cX6_tear 21 = .ok (.aload_n 0, 1) := by decide +kernel
theorem dX6_tear_22 : decode cX6_tear 22 = .ok (.iconst 1, 1) := by decide +kernel
theorem dX6_tear_23 : decode cX6_tear 23 = .ok (.invokevirtual 59, 3) := by decide +kernel
theorem dX6_tear_26 : decode cX6_tear 26 = .ok (.ireturn, 1) := by decide +kernel
theorem dX6_tear_27 : decode cX6_tear 27 = .ok (.aload_n 0, 1) := by decide +kernel
theorem dX6_tear_28 : decode cX6_tear 28 = .ok (.getfield 11, 3) := by decide +kernel
theorem dX6_tear_31 : decode cX6_tear 31 = .ok (.iload_n 1, 1) := by decide +kernel
theorem dX6_tear_32 : decode cX6_tear 32 = .ok (.aaload, 1) := by decide +kernel
theorem dX6_tear_33 : decode cX6_tear 33 = .ok (.getfield 78, 3) := by decide +kernel
theorem dX6_tear_36 : decode cX6_tear 36 = .ok (.istore_n 2, 1) := by decide +kernel
theorem dX6_tear_37 : decode cX6_tear 37 = .ok (.aload_n 0, 1) := by decide +kernel
theorem dX6_tear_38 : decode cX6_tear 38 = .ok (.getfield 11, 3) := by decide +kernel
theorem dX6_tear_41 : decode cX6_tear 41 = .ok (.iload_n 1, 1) := by decide +kernel
theorem dX6_tear_42 : decode cX6_tear 42 = .ok (.aaload, 1) := by decide +kernel
theorem dX6_tear_43 : decode cX6_tear 43 = .ok (.iconst (-1), 1) := by decide +kernel
theorem dX6_tear_44 : decode cX6_tear 44 = .ok (.putfield 78, 3) := by decide +kernel
theorem dX6_tear_47 : decode cX6_tear 47 = .ok (.iload_n 2, 1) := by decide +kernel
theorem dX6_tear_48 : decode cX6_tear 48 = .ok (.ireturn, 1) := by decide +kernel
theorem dX6_copy_0 : decode cX6_copy 0 = .ok (.iload_n 1, 1) := by decide +kernel
theorem dX6_copy_1 : decode cX6_copy 1 = .ok (.invokestatic 55, 3) := by decide +kernel
theorem dX6_copy_4 : decode cX6_copy 4 = .ok (.ifCond .ne 10, 3) := by decide +kernel
theorem dX6_copy_7 : decode cX6_copy 7 = .ok (.iload_n 3, 1) := by decide +kernel
theorem dX6_copy_8 : decode cX6_copy 8 = .ok (.invokestatic 55, 3) := by decide +kernel
theorem dX6_copy_11 : decode cX6_copy 11 = .ok (.ifCond .eq 5, 3) := by decide +kernel
theorem dX6_copy_14 : decode cX6_copy 14 = .ok (.iconst (-1), 1) := by decide +kernel
theorem dX6_copy_15 : decode cX6_copy 15 = .ok (.ireturn, 1) := by decide +kernel
theorem dX6_copy_16 : decode cX6_copy 16 = .ok (.aload_n 0, 1) := by decide +kernel
theorem dX6_copy_17 : decode cX6_copy 17 = .ok (.getfield 11, 3) := by decide +kernel
theorem dX6_copy_20 : decode cX6_copy 20 = .ok (.iload_n 1, 1) := by decide +kernel
theorem dX6_copy_21 : decode cX6_copy 21 = .ok (.aaload, 1) := by decide +kernel
theorem dX6_copy_22 : decode cX6_copy 22 = .ok (.invokevirtual 74, 3) := by decide +kernel
theorem dX6_copy_25 : decode cX6_copy 25 = .ok (.ifCond .ne 15, 3) := by decide +kernel
theorem dX6_copy_28 : decode cX6_copy 28 = .ok (.aload_n 0, 1) := by decide +kernel
theorem dX6_copy_29 : decode cX6_copy 29 = .ok (.getfield 11, 3) := by decide +kernel
theorem dX6_copy_32 : decode cX6_copy 32 = .ok (.iload_n 3, 1) := by decide +kernel
theorem dX6_copy_33 : decode cX6_copy 33 = .ok (.aaload, 1) := by decide +kernel
theorem dX6_copy_34 : decode cX6_copy 34 = .ok (.invokevirtual 74, 3) := by decide +kernel
theorem dX6_copy_37 : decode cX6_copy 37 = .ok (.ifCond .eq 9, 3) := by decide +kernel
theorem dX6_copy_40 : decode cX6_copy 40 = .ok (.aload_n 0, 1) := by decide +kernel
theorem dX6_copy_41 : decode cX6_copy 41 = .ok (.iconst 1, 1) := by decide +kernel
theorem dX6_copy_42 : decode cX6_copy 42 = .ok (.invokevirtual 59, 3) := by decide +kernel
theorem dX6_copy_45 : decode cX6_copy 45 = .ok (.ireturn, 1) := by decide +kernel
theorem dX6_copy_46 : decode cX6_copy 46 = .ok (.aload_n 0, 1) := by decide +kernel
theorem dX6_copy_47 : decode cX6_copy 47 = .ok (.getfield 11, 3) := by decide +kernel
theorem dX6_copy_50 : decode cX6_copy 50 = .ok (.iload_n 1, 1) := by decide +kernel
theorem dX6_copy_51 : decode cX6_copy 51 = .ok (.aaload, 1) := by decide +kernel
theorem dX6_copy_52 : decode cX6_copy 52 = .ok (.iload_n 2, 1) := by decide +kernel
theorem dX6_copy_53 : decode cX6_copy 53 = .ok (.iload 5, 2) := by decide +kernel
theorem dX6_copy_55 : decode cX6_copy 55 = .ok (.invokevirtual 81, 3) := by decide +kernel
theorem dX6_copy_58 : decode cX6_copy 58 = .ok (.ifCond .ne 19, 3) := by decide +kernel
theorem dX6_copy_61 : decode cX6_copy 61 = .ok (.aload_n 0, 1) := by decide +kernel
theorem dX6_copy_62 : decode cX6_copy 62 = .ok (.getfield 11, 3) := by decide +kernel
theorem dX6_copy_65 : decode cX6_copy 65 = .ok (.iload_n 3, 1) := by decide +kernel
theorem dX6_copy_66 : decode cX6_copy 66 = .ok (.aaload, 1) := by decide +kernel
theorem dX6_copy_67 : decode cX6_copy 67 = .ok (.iload 4, 2) := by decide +kernel
theorem dX6_copy_69 : decode cX6_copy 69 = .ok (.iload 5, 2) := by decide +kernel
theorem dX6_copy_71 : decode cX6_copy 71 = .ok (.invokevirtual 81, 3) := by decide +kernel
theorem dX6_copy_74 : decode cX6_copy 74 = .ok (.ifCond .eq 9, 3) := by decide +kernel
theorem dX6_copy_77 : decode cX6_copy 77 = .ok (.aload_n 0, 1) := by decide +kernel
theorem dX6_copy_78 : decode cX6_copy 78 = .ok (.iconst 2, 1) := by decide +kernel
theorem dX6_copy_79 : decode cX6_copy 79 = .ok (.invokevirtual 59, 3) := by decide +kernel
theorem dX6_copy_82 : decode cX6_copy 82 = .ok (.ireturn, 1) := by decide +kernel
theorem dX6_copy_83 : decode cX6_copy 83 = .ok (.aload_n 0, 1) := by decide +kernel
theorem dX6_copy_84 : decode cX6_copy 84 = .ok (.getfield 11, 3) := by decide +kernel
theorem dX6_copy_87 : decode cX6_copy 87 = .ok (.iload_n 1, 1) := by decide +kernel
theorem dX6_copy_88 : decode cX6_copy 88 = .ok (.aaload, 1) := by decide +kernel
theorem dX6_copy_89 : decode cX6_copy 89 = .ok (.getfield 71, 3) := by decide +kernel
theorem dX6_copy_92 : decode cX6_copy 92 = .ok (.iload_n 2, 1) := by decide +kernel
theorem dX6_copy_93 : decode cX6_copy 93 = .ok (.aload_n 0, 1) := by decide +kernel
theorem dX6_copy_94 : decode cX6_copy 94 = .ok (.getfield 11, 3) := by decide +kernel
theorem dX6_copy_97 : decode cX6_copy 97 = .ok (.iload_n 3, 1) := by decide +kernel
theorem dX6_copy_98 : decode cX6_copy 98 = .ok (.aaload, 1) := by decide +kernel
theorem dX6_copy_99 : decode cX6_copy 99 = .ok (.getfield 71, 3) := by decide +kernel
theorem dX6_copy_102 : decode cX6_copy 102 = .ok (.iload 4, 2) := by decide +kernel
theorem dX6_copy_104 : decode cX6_copy 104 = .ok (.iload 5, 2) := by decide +kernel
theorem dX6_copy_106 : decode cX6_copy 106 = .ok (.invokestatic 85, 3) := by decide +kernel
theorem dX6_copy_109 : decode cX6_copy 109 = .ok (.iload 5, 2) := by decide +kernel
theorem dX6_copy_111 : decode cX6_copy 111 = .ok (.ireturn, 1) := by decide +kernel
theorem dX6_build_0 : decode cX6_build 0 = .ok (.iload_n 1, 1) := by decide +kernel
theorem dX6_build_1 : decode cX6_build 1 = .ok (.invokestatic 55, 3) := by decide +kernel
theorem dX6_build_4 : decode cX6_build 4 = .ok (.ifCond .ne 14, 3) := by decide +kernel
theorem dX6_build_7 : decode cX6_build 7 = .ok (.iload_n 2, 1) := by decide +kernel
theorem dX6_build_8 : decode cX6_build 8 = .ok (.iconst 1, 1) := by decide +kernel
theorem dX6_build_9 : decode cX6_build 9 = .ok (.if_icmp .lt 9, 3) := by decide +kernel
theorem dX6_build_12 : decode cX6_build 12 = .ok (.iload_n 2, 1) := by decide +kernel
theorem dX6_build_13 : decode cX6_build 13 = .ok (.bipush 6, 2) := by decide +kernel
theorem dX6_build_15 : decode cX6_build 15 = .ok (.if_icmp .le 5, 3) := by decide +kernel
theorem dX6_build_18 : decode cX6_build 18 = .ok (.iconst (-1), 1) := by decide +kernel
theorem dX6_build_19 : decode cX6_build 19 = .ok (.ireturn, 1) := by decide +kernel
theorem dX6_build_20 : decode cX6_build 20 = .ok (.aload_n 0, 1) := by decide +kernel
theorem dX6_build_21 : decode cX6_build 21 = .ok (.getfield 11, 3) := by decide +kernel
theorem dX6_build_24 : decode cX6_build 24 = .ok (.iload_n 1, 1) := by decide +kernel
theorem dX6_build_25 : decode cX6_build 25 = .ok (.aaload, 1) := by decide +kernel
theorem dX6_build_26 : decode cX6_build 26 = .ok (.invokevirtual 74, 3) := by decide +kernel
theorem dX6_build_29 : decode cX6_build 29 = .ok (.ifCond .eq 9, 3) := by decide +kernel
theorem dX6_build_32 : decode cX6_build 32 = .ok (.aload_n 0, 1) := by decide +kernel
theorem dX6_build_33 : decode cX6_build 33 = .ok (.iconst 1, 1) := by decide +kernel
theorem dX6_build_34 : decode cX6_build 34 = .ok (.invokevirtual 59, 3) := by decide +kernel
theorem dX6_build_37 : decode cX6_build 37 = .ok (.ireturn, 1) := by decide +kernel
theorem dX6_build_38 : decode cX6_build 38 = .ok (.aload_n 0, 1) := by decide +kernel
theorem dX6_build_39 : decode cX6_build 39 = .ok (.getfield 11, 3) := by decide +kernel
theorem dX6_build_42 : decode cX6_build 42 = .ok (.iload_n 1, 1) := by decide +kernel
theorem dX6_build_43 : decode cX6_build 43 = .ok (.aaload, 1) := by decide +kernel
theorem dX6_build_44 : decode cX6_build 44 = .ok (.getfield 78, 3) := by decide +kernel
theorem dX6_build_47 : decode cX6_build 47 = .ok (.ifCond .ne 9, 3) := by decide +kernel
theorem dX6_build_50 : decode cX6_build 50 = .ok (.aload_n 0, 1) := by decide +kernel
theorem dX6_build_51 : decode cX6_build 51 = .ok (.iconst 3, 1) := by decide +kernel
theorem dX6_build_52 : decode cX6_build 52 = .ok (.invokevirtual 59, 3) := by decide +kernel
theorem dX6_build_55 : decode cX6_build 55 = .ok (.ireturn, 1) := by decide +kernel
theorem dX6_build_56 : decode cX6_build 56 = .ok (.aload_n 0, 1) := by decide +kernel
theorem dX6_build_57 : decode cX6_build 57 = .ok (.getfield 26, 3) := by decide +kernel
theorem dX6_build_60 : decode cX6_build 60 = .ok (.aload_n 0, 1) := by decide +kernel
end
section
theorem dX6_build_61 : decode cX6_build 61 = .ok (.getfield 11, 3) := by decide +kernel
theorem dX6_build_64 : decode cX6_build 64 = .ok (.iload_n 1, 1) := by decide +kernel
theorem dX6_build_65 : decode cX6_build 65 = .ok (.aaload, 1) := by decide +kernel
theorem dX6_build_66 : decode cX6_build 66 = .ok (.iload_n 2, 1) := by decide +kernel
theorem dX6_build_67 : decode cX6_build 67 = .ok (.invokevirtual 91, 3) := by decide +kernel
theorem dX6_build_70 : decode cX6_build 70 = .ok (.aload_n 0, 1) := by decide +kernel
theorem dX6_build_71 : decode cX6_build 71 = .ok (.getfield 33, 3) := by decide +kernel
theorem dX6_build_74 : decode cX6_build 74 = .ok (.invokevirtual 95, 3) := by decide +kernel
theorem dX6_build_77 : decode cX6_build 77 = .ok (.aload_n 0, 1) := by decide +kernel
theorem dX6_build_78 : decode cX6_build 78 = .ok (.getfield 26, 3) := by decide +kernel
theorem dX6_build_81 : decode cX6_build 81 = .ok (.getfield 98, 3) := by decide +kernel
theorem dX6_build_84 : decode cX6_build 84 = .ok (.ireturn, 1) := by decide +kernel
theorem dX6_put_0 : decode cX6_put 0 = .ok (.aload_n 0, 1) := by decide +kernel
theorem dX6_put_1 : decode cX6_put 1 = .ok (.iload_n 1, 1) := by decide +kernel
theorem dX6_put_2 : decode cX6_put 2 = .ok (.invokevirtual 101, 3) := by decide +kernel
theorem dX6_put_5 : decode cX6_put 5 = .ok (.istore_n 3, 1) := by decide +kernel
theorem dX6_put_6 : decode cX6_put 6 = .ok (.iload_n 3, 1) := by decide +kernel
theorem dX6_put_7 : decode cX6_put 7 = .ok (.ifCond .eq 5, 3) := by decide +kernel
theorem dX6_put_10 : decode cX6_put 10 = .ok (.iload_n 3, 1) := by decide +kernel
theorem dX6_put_11 : decode cX6_put 11 = .ok (.ireturn, 1) := by decide +kernel
theorem dX6_put_12 : decode cX6_put 12 = .ok (.aload_n 0, 1) := by decide +kernel
theorem dX6_put_13 : decode cX6_put 13 = .ok (.aload_n 0, 1) := by decide +kernel
theorem dX6_put_14 : decode cX6_put 14 = .ok (.getfield 26, 3) := by decide +kernel
theorem dX6_put_17 : decode cX6_put 17 = .ok (.getfield 104, 3) := by decide +kernel
theorem dX6_put_20 : decode cX6_put 20 = .ok (.getfield 71, 3) := by decide +kernel
theorem dX6_put_23 : decode cX6_put 23 = .ok (.iload_n 1, 1) := by decide +kernel
theorem dX6_put_24 : decode cX6_put 24 = .ok (.iaload, 1) := by decide +kernel
theorem dX6_put_25 : decode cX6_put 25 = .ok (.putfield 52, 3) := by decide +kernel
theorem dX6_put_28 : decode cX6_put 28 = .ok (.aload_n 0, 1) := by decide +kernel
theorem dX6_put_29 : decode cX6_put 29 = .ok (.getfield 33, 3) := by decide +kernel
theorem dX6_put_32 : decode cX6_put 32 = .ok (.iload_n 1, 1) := by decide +kernel
theorem dX6_put_33 : decode cX6_put 33 = .ok (.aload_n 0, 1) := by decide +kernel
theorem dX6_put_34 : decode cX6_put 34 = .ok (.getfield 52, 3) := by decide +kernel
theorem dX6_put_37 : decode cX6_put 37 = .ok (.invokevirtual 108, 3) := by decide +kernel
theorem dX6_put_40 : decode cX6_put 40 = .ok (.aload_n 0, 1) := by decide +kernel
theorem dX6_put_41 : decode cX6_put 41 = .ok (.getfield 26, 3) := by decide +kernel
theorem dX6_put_44 : decode cX6_put 44 = .ok (.iload_n 1, 1) := by decide +kernel
theorem dX6_put_45 : decode cX6_put 45 = .ok (.iload_n 2, 1) := by decide +kernel
theorem dX6_put_46 : decode cX6_put 46 = .ok (.invokevirtual 112, 3) := by decide +kernel
theorem dX6_put_49 : decode cX6_put 49 = .ok (.ifCond .eq 7, 3) := by decide +kernel
theorem dX6_put_52 : decode cX6_put 52 = .ok (.iconst 1, 1) := by decide +kernel
theorem dX6_put_53 : decode cX6_put 53 = .ok (.goto 4, 3) := by decide +kernel
theorem dX6_put_56 : decode cX6_put 56 = .ok (.iconst 0, 1) := by decide +kernel
theorem dX6_put_57 : decode cX6_put 57 = .ok (.ireturn, 1) := by decide +kernel
theorem dX6_undo_0 : decode cX6_undo 0 = .ok (.aload_n 0, 1) := by decide +kernel
theorem dX6_undo_1 : decode cX6_undo 1 = .ok (.getfield 33, 3) := by decide +kernel
theorem dX6_undo_4 : decode cX6_undo 4 = .ok (.getfield 115, 3) := by decide +kernel
theorem dX6_undo_7 : decode cX6_undo 7 = .ok (.iconst 1, 1) := by decide +kernel
theorem dX6_undo_8 : decode cX6_undo 8 = .ok (.if_icmp .ge 6, 3) := by decide +kernel
theorem dX6_undo_11 : decode cX6_undo 11 = .ok (.bipush (-2), 2) := by decide +kernel
theorem dX6_undo_13 : decode cX6_undo 13 = .ok (.ireturn, 1) := by decide +kernel
theorem dX6_undo_14 : decode cX6_undo 14 = .ok (.aload_n 0, 1) := by decide +kernel
theorem dX6_undo_15 : decode cX6_undo 15 = .ok (.getfield 33, 3) := by decide +kernel
theorem dX6_undo_18 : decode cX6_undo 18 = .ok (.getfield 115, 3) := by decide +kernel
theorem dX6_undo_21 : decode cX6_undo 21 = .ok (.iconst 1, 1) := by decide +kernel
theorem dX6_undo_22 : decode cX6_undo 22 = .ok (.isub, 1) := by decide +kernel
theorem dX6_undo_23 : decode cX6_undo 23 = .ok (.istore_n 1, 1) := by decide +kernel
theorem dX6_undo_24 : decode cX6_undo 24 = .ok (.aload_n 0, 1) := by decide +kernel
theorem dX6_undo_25 : decode cX6_undo 25 = .ok (.getfield 26, 3) := by decide +kernel
theorem dX6_undo_28 : decode cX6_undo 28 = .ok (.aload_n 0, 1) := by decide +kernel
theorem dX6_undo_29 : decode cX6_undo 29 = .ok (.getfield 33, 3) := by decide +kernel
theorem dX6_undo_32 : decode cX6_undo 32 = .ok (.getfield 116, 3) := by decide +kernel
theorem dX6_undo_35 : decode cX6_undo 35 = .ok (.iload_n 1, 1) := by decide +kernel
theorem dX6_undo_36 : decode cX6_undo 36 = .ok (.iaload, 1) := by decide +kernel
theorem dX6_undo_37 : decode cX6_undo 37 = .ok (.aload_n 0, 1) := by decide +kernel
theorem dX6_undo_38 : decode cX6_undo 38 = .ok (.getfield 33, 3) := by decide +kernel
theorem dX6_undo_41 : decode cX6_undo 41 = .ok (.getfield 119, 3) := by decide +kernel
theorem dX6_undo_44 : decode cX6_undo 44 = .ok (.iload_n 1, 1) := by decide +kernel
theorem dX6_undo_45 : decode cX6_undo 45 = .ok (.iaload, 1) := by decide +kernel
theorem dX6_undo_46 : decode cX6_undo 46 = .ok (.invokevirtual 112, 3) := by decide +kernel
theorem dX6_undo_49 : decode cX6_undo 49 = .ok (.pop, 1) := by decide +kernel
theorem dX6_undo_50 : decode cX6_undo 50 = .ok (.aload_n 0, 1) := by decide +kernel
theorem dX6_undo_51 : decode cX6_undo 51 = .ok (.getfield 33, 3) := by decide +kernel
theorem dX6_undo_54 : decode cX6_undo 54 = .ok (.iload_n 1, 1) := by decide +kernel
theorem dX6_undo_55 : decode cX6_undo 55 = .ok (.putfield 115, 3) := by decide +kernel
theorem dX6_undo_58 : decode cX6_undo 58 = .ok (.iload_n 1, 1) := by decide +kernel
theorem dX6_undo_59 : decode cX6_undo 59 = .ok (.ireturn, 1) := by decide +kernel
theorem dX6_keep_0 : decode cX6_keep 0 = .ok (.iload_n 1, 1) := by decide +kernel
theorem dX6_keep_1 : decode cX6_keep 1 = .ok (.invokestatic 122, 3) := by decide +kernel
theorem dX6_keep_4 : decode cX6_keep 4 = .ok (.ifCond .eq 5, 3) := by decide +kernel
theorem dX6_keep_7 : decode cX6_keep 7 = .ok (.iconst (-1), 1) := by decide +kernel
theorem dX6_keep_8 : decode cX6_keep 8 = .ok (.ireturn, 1) := by decide +kernel
theorem dX6_keep_9 : decode cX6_keep 9 = .ok (.aload_n 0, 1) := by decide +kernel
theorem dX6_keep_10 : decode cX6_keep 10 = .ok (.getfield 26, 3) := by decide +kernel
theorem dX6_keep_13 : decode cX6_keep 13 = .ok (.invokevirtual 125, 3) := by decide +kernel
theorem dX6_keep_16 : decode cX6_keep 16 = .ok (.ifCond .eq 6, 3) := by decide +kernel
theorem dX6_keep_19 : decode cX6_keep 19 = .ok (.bipush (-2), 2) := by decide +kernel
theorem dX6_keep_21 : decode cX6_keep 21 = .ok (.ireturn, 1) := by decide +kernel
theorem dX6_keep_22 : decode cX6_keep 22 = .ok (.aload_n 0, 1) := by decide +kernel
theorem dX6_keep_23 : decode cX6_keep 23 = .ok (.getfield 18, 3) := by decide +kernel
theorem dX6_keep_26 : decode cX6_keep 26 = .ok (.iload_n 1, 1) := by decide +kernel
theorem dX6_keep_27 : decode cX6_keep 27 = .ok (.aaload, 1) := by decide +kernel
theorem dX6_keep_28 : decode cX6_keep 28 = .ok (.getfield 128, 3) := by decide +kernel
theorem dX6_keep_31 : decode cX6_keep 31 = .ok (.aload_n 0, 1) := by decide +kernel
theorem dX6_keep_32 : decode cX6_keep 32 = .ok (.getfield 26, 3) := by decide +kernel
theorem dX6_keep_35 : decode cX6_keep 35 = .ok (.getfield 104, 3) := by decide +kernel
theorem dX6_keep_38 : decode cX6_keep 38 = .ok (.invokevirtual 129, 3) := by decide +kernel
theorem dX6_keep_41 : decode cX6_keep 41 = .ok (.aload_n 0, 1) := by decide +kernel
theorem dX6_keep_42 : decode cX6_keep 42 = .ok (.getfield 18, 3) := by decide +kernel
theorem dX6_keep_45 : decode cX6_keep 45 = .ok (.iload_n 1, 1) := by decide +kernel
theorem dX6_keep_46 : decode cX6_keep 46 = .ok (.aaload, 1) := by decide +kernel
theorem dX6_keep_47 : decode cX6_keep 47 = .ok (.aload_n 0, 1) := by decide +kernel
theorem dX6_keep_48 : decode cX6_keep 48 = .ok (.getfield 26, 3) := by decide +kernel
theorem dX6_keep_51 : decode cX6_keep 51 = .ok (.getfield 133, 3) := by decide +kernel
theorem dX6_keep_54 : decode cX6_keep 54 = .ok (.putfield 136, 3) := by decide +kernel
theorem dX6_keep_57 : decode cX6_keep 57 = .ok (.aload_n 0, 1) := by decide +kernel
theorem dX6_keep_58 : decode cX6_keep 58 = .ok (.getfield 26, 3) := by decide +kernel
theorem dX6_keep_61 : decode cX6_keep 61 = .ok (.getfield 104, 3) := by decide +kernel
theorem dX6_keep_64 : decode cX6_keep 64 = .ok (.getfield 78, 3) := by decide +kernel
theorem dX6_keep_67 : decode cX6_keep 67 = .ok (.ireturn, 1) := by decide +kernel
theorem dX6_on_0 : decode cX6_on 0 = .ok (.iload_n 1, 1) := by decide +kernel
theorem dX6_on_1 : decode cX6_on 1 = .ok (.invokestatic 122, 3) := by decide +kernel
theorem dX6_on_4 : decode cX6_on 4 = .ok (.ifCond .eq 5, 3) := by decide +kernel
theorem dX6_on_7 : decode cX6_on 7 = .ok (.iconst (-1), 1) := by decide +kernel
theorem dX6_on_8 : decode cX6_on 8 = .ok (.ireturn, 1) := by decide +kernel
theorem dX6_on_9 : decode cX6_on 9 = .ok (.aload_n 0, 1) := by decide +kernel
theorem dX6_on_10 : decode cX6_on 10 = .ok (.getfield 18, 3) := by decide +kernel
theorem dX6_on_13 : decode cX6_on 13 = .ok (.iload_n 1, 1) := by decide +kernel
theorem dX6_on_14 : decode cX6_on 14 = .ok (.aaload, 1) := by decide +kernel
theorem dX6_on_15 : decode cX6_on 15 = .ok (.getfield 128, 3) := by decide +kernel
theorem dX6_on_18 : decode cX6_on 18 = .ok (.invokevirtual 74, 3) := by decide +kernel
theorem dX6_on_21 : decode cX6_on 21 = .ok (.ifCond .eq 6, 3) := by decide +kernel
theorem dX6_on_24 : decode cX6_on 24 = .ok (.bipush (-2), 2) := by decide +kernel
theorem dX6_on_26 : decode cX6_on 26 = .ok (.ireturn, 1) := by decide +kernel
theorem dX6_on_27 : decode cX6_on 27 = .ok (.aload_n 0, 1) := by decide +kernel
theorem dX6_on_28 : decode cX6_on 28 = .ok (.getfield 26, 3) := by decide +kernel
theorem dX6_on_31 : decode cX6_on 31 = .ok (.aload_n 0, 1) := by decide +kernel
theorem dX6_on_32 : decode cX6_on 32 = .ok (.getfield 18, 3) := by decide +kernel
theorem dX6_on_35 : decode cX6_on 35 = .ok (.iload_n 1, 1) := by decide +kernel
theorem dX6_on_36 : decode cX6_on 36 = .ok (.aaload, 1) := by decide +kernel
theorem dX6_on_37 : decode cX6_on 37 = .ok (.getfield 128, 3) := by decide +kernel
theorem dX6_on_40 : decode cX6_on 40 = .ok (.aload_n 0, 1) := by decide +kernel
theorem dX6_on_41 : decode cX6_on 41 = .ok (.getfield 18, 3) := by decide +kernel
theorem dX6_on_44 : decode cX6_on 44 = .ok (.iload_n 1, 1) := by decide +kernel
theorem dX6_on_45 : decode cX6_on 45 = .ok (.aaload, 1) := by decide +kernel
theorem dX6_on_46 : decode cX6_on 46 = .ok (.getfield 136, 3) := by decide +kernel
theorem dX6_on_49 : decode cX6_on 49 = .ok (.invokevirtual 91, 3) := by decide +kernel
theorem dX6_on_52 : decode cX6_on 52 = .ok (.aload_n 0, 1) := by decide +kernel
theorem dX6_on_53 : decode cX6_on 53 = .ok (.getfield 33, 3) := by decide +kernel
theorem dX6_on_56 : decode cX6_on 56 = .ok (.invokevirtual 95, 3) := by decide +kernel
theorem dX6_on_59 : decode cX6_on 59 = .ok (.aload_n 0, 1) := by decide +kernel
theorem dX6_on_60 : decode cX6_on 60 = .ok (.getfield 26, 3) := by decide +kernel
theorem dX6_on_63 : decode cX6_on 63 = .ok (.getfield 104, 3) := by decide +kernel
theorem dX6_on_66 : decode cX6_on 66 = .ok (.getfield 78, 3) := by decide +kernel
theorem dX6_on_69 : decode cX6_on 69 = .ok (.ireturn, 1) := by decide +kernel
theorem dX6_item_0 : decode cX6_item 0 = .ok (.aload_n 0, 1) := by decide +kernel
theorem dX6_item_1 : decode cX6_item 1 = .ok (.iload_n 1, 1) := by decide +kernel
theorem dX6_item_2 : decode cX6_item 2 = .ok (.invokevirtual 101, 3) := by decide +kernel
theorem dX6_item_5 : decode cX6_item 5 = .ok (.istore_n 2, 1) := by decide +kernel
theorem dX6_item_6 : decode cX6_item 6 = .ok (.iload_n 2, 1) := by decide +kernel
theorem dX6_item_7 : decode cX6_item 7 = .ok (.ifCond .eq 5, 3) := by decide +kernel
theorem dX6_item_10 : decode cX6_item 10 = .ok (.iload_n 2, 1) := by decide +kernel
theorem dX6_item_11 : decode cX6_item 11 = .ok (.ireturn, 1) := by decide +kernel
theorem dX6_item_12 : decode cX6_item 12 = .ok (.aload_n 0, 1) := by decide +kernel
theorem dX6_item_13 : decode cX6_item 13 = .ok (.aload_n 0, 1) := by decide +kernel
theorem dX6_item_14 : decode cX6_item 14 = .ok (.getfield 26, 3) := by decide +kernel
theorem dX6_item_17 : decode cX6_item 17 = .ok (.getfield 104, 3) := by decide +kernel
theorem dX6_item_20 : decode cX6_item 20 = .ok (.getfield 71, 3) := by decide +kernel
theorem dX6_item_23 : decode cX6_item 23 = .ok (.iload_n 1, 1) := by decide +kernel
theorem dX6_item_24 : decode cX6_item 24 = .ok (.iaload, 1) := by decide +kernel
theorem dX6_item_25 : decode cX6_item 25 = .ok (.putfield 52, 3) := by decide +kernel
theorem dX6_item_28 : decode cX6_item 28 = .ok (.iconst 1, 1) := by decide +kernel
theorem dX6_item_29 : decode cX6_item 29 = .ok (.ireturn, 1) := by decide +kernel
theorem dX6_shape_0 : decode cX6_shape 0 = .ok (.aload_n 0, 1) := by decide +kernel
theorem dX6_shape_1 : decode cX6_shape 1 = .ok (.getfield 26, 3) := by decide +kernel
theorem dX6_shape_4 : decode cX6_shape 4 = .ok (.invokevirtual 125, 3) := by decide +kernel
theorem dX6_shape_7 : decode cX6_shape 7 = .ok (.ifCond .eq 6, 3) := by decide +kernel
theorem dX6_shape_10 : decode cX6_shape 10 = .ok (.bipush (-2), 2) := by decide +kernel
theorem dX6_shape_12 : decode cX6_shape 12 = .ok (.ireturn, 1) := by decide +kernel
theorem dX6_shape_13 : decode cX6_shape 13 = .ok (.iload_n 1, 1) := by decide +kernel
theorem dX6_shape_14 : decode cX6_shape 14 = .ok (.ifCond .lt 14, 3) := by decide +kernel
theorem dX6_shape_17 : decode cX6_shape 17 = .ok (.iload_n 1, 1) := by decide +kernel
theorem dX6_shape_18 : decode cX6_shape 18 = .ok (.aload_n 0, 1) := by decide +kernel
theorem dX6_shape_19 : decode cX6_shape 19 = .ok (.getfield 26, 3) := by decide +kernel
theorem dX6_shape_22 : decode cX6_shape 22 = .ok (.getfield 98, 3) := by decide +kernel
theorem dX6_shape_25 : decode cX6_shape 25 = .ok (.if_icmp .lt 9, 3) := by decide +kernel
theorem dX6_shape_28 : decode cX6_shape 28 = .ok (.aload_n 0, 1) := by decide +kernel
theorem dX6_shape_29 : decode cX6_shape 29 = .ok (.iconst 2, 1) := by decide +kernel
theorem dX6_shape_30 : decode cX6_shape 30 = .ok (.invokevirtual 59, 3) := by decide +kernel
theorem dX6_shape_33 : decode cX6_shape 33 = .ok (.ireturn, 1) := by decide +kernel
theorem dX6_shape_34 : decode cX6_shape 34 = .ok (.aload_n 0, 1) := by decide +kernel
theorem dX6_shape_35 : decode cX6_shape 35 = .ok (.getfield 26, 3) := by decide +kernel
theorem dX6_shape_38 : decode cX6_shape 38 = .ok (.getfield 137, 3) := by decide +kernel
theorem dX6_shape_41 : decode cX6_shape 41 = .ok (.iload_n 1, 1) := by decide +kernel
theorem dX6_shape_42 : decode cX6_shape 42 = .ok (.iaload, 1) := by decide +kernel
theorem dX6_shape_43 : decode cX6_shape 43 = .ok (.ireturn, 1) := by decide +kernel
theorem dX6_entry_0 : decode cX6_entry 0 = .ok (.aload_n 0, 1) := by decide +kernel
theorem dX6_entry_1 : decode cX6_entry 1 = .ok (.getfield 26, 3) := by decide +kernel
theorem dX6_entry_4 : decode cX6_entry 4 = .ok (.invokevirtual 125, 3) := by decide +kernel
theorem dX6_entry_7 : decode cX6_entry 7 = .ok (.ifCond .eq 6, 3) := by decide +kernel
theorem dX6_entry_10 : decode cX6_entry 10 = .ok (.bipush (-2), 2) := by decide +kernel
theorem dX6_entry_12 : decode cX6_entry 12 = .ok (.ireturn, 1) := by decide +kernel
theorem dX6_entry_13 : decode cX6_entry 13 = .ok (.aload_n 0, 1) := by decide +kernel
theorem dX6_entry_14 : decode cX6_entry 14 = .ok (.getfield 26, 3) := by decide +kernel
theorem dX6_entry_17 : decode cX6_entry 17 = .ok (.getfield 140, 3) := by decide +kernel
theorem dX6_entry_20 : decode cX6_entry 20 = .ok (.iload_n 1, 1) := by decide +kernel
theorem dX6_entry_21 : decode cX6_entry 21 = .ok (.invokevirtual 144, 3) := by decide +kernel
theorem dX6_entry_24 : decode cX6_entry 24 = .ok (.ifCond .ne 5, 3) := by decide +kernel
theorem dX6_entry_27 : decode cX6_entry 27 = .ok (.iconst (-1), 1) := by decide +kernel
theorem dX6_entry_28 : decode cX6_entry 28 = .ok (.ireturn, 1) := by decide +kernel
theorem dX6_entry_29 : decode cX6_entry 29 = .ok (.iload_n 1, 1) := by decide +kernel
theorem dX6_entry_30 : decode cX6_entry 30 = .ok (.invokestatic 149, 3) := by decide +kernel
theorem dX6_entry_33 : decode cX6_entry 33 = .ok (.iconst 1, 1) := by decide +kernel
theorem dX6_entry_34 : decode cX6_entry 34 = .ok (.isub, 1) := by decide +kernel
theorem dX6_entry_35 : decode cX6_entry 35 = .ok (.istore 4, 2) := by decide +kernel
theorem dX6_entry_37 : decode cX6_entry 37 = .ok (.iload_n 2, 1) := by decide +kernel
theorem dX6_entry_38 : decode cX6_entry 38 = .ok (.ifCond .lt 14, 3) := by decide +kernel
theorem dX6_entry_41 : decode cX6_entry 41 = .ok (.iload_n 3, 1) := by decide +kernel
theorem dX6_entry_42 : decode cX6_entry 42 = .ok (.iload_n 2, 1) := by decide +kernel
theorem dX6_entry_43 : decode cX6_entry 43 = .ok (.if_icmp .lt 9, 3) := by decide +kernel
theorem dX6_entry_46 : decode cX6_entry 46 = .ok (.iload_n 3, 1) := by decide +kernel
theorem dX6_entry_47 : decode cX6_entry 47 = .ok (.iload 4, 2) := by decide +kernel
theorem dX6_entry_49 : decode cX6_entry 49 = .ok (.if_icmp .lt 9, 3) := by decide +kernel
theorem dX6_entry_52 : decode cX6_entry 52 = .ok (.aload_n 0, 1) := by decide +kernel
theorem dX6_entry_53 : decode cX6_entry 53 = .ok (.iconst 2, 1) := by decide +kernel
theorem dX6_entry_54 : decode cX6_entry 54 = .ok (.invokevirtual 59, 3) := by decide +kernel
theorem dX6_entry_57 : decode cX6_entry 57 = .ok (.ireturn, 1) := by decide +kernel
theorem dX6_entry_58 : decode cX6_entry 58 = .ok (.aload_n 0, 1) := by decide +kernel
theorem dX6_entry_59 : decode cX6_entry 59 = .ok (.getfield 26, 3) := by decide +kernel
theorem dX6_entry_62 : decode cX6_entry 62 = .ok (.iload_n 1, 1) := by decide +kernel
theorem dX6_entry_63 : decode cX6_entry 63 = .ok (.iload_n 2, 1) := by decide +kernel
theorem dX6_entry_64 : decode cX6_entry 64 = .ok (.iload_n 3, 1) := by decide +kernel
theorem dX6_entry_65 : decode cX6_entry 65 = .ok (.invokevirtual 154, 3) := by decide +kernel
theorem dX6_entry_68 : decode cX6_entry 68 = .ok (.ireturn, 1) := by decide +kernel
theorem dX6_least_0 : decode cX6_least 0 = .ok (.aload_n 0, 1) := by decide +kernel
theorem dX6_least_1 : decode cX6_least 1 = .ok (.iload_n 1, 1) := by decide +kernel
theorem dX6_least_2 : decode cX6_least 2 = .ok (.iload_n 2, 1) := by decide +kernel
theorem dX6_least_3 : decode cX6_least 3 = .ok (.invokevirtual 158, 3) := by decide +kernel
theorem dX6_least_6 : decode cX6_least 6 = .ok (.istore_n 3, 1) := by decide +kernel
theorem dX6_least_7 : decode cX6_least 7 = .ok (.iload_n 3, 1) := by decide +kernel
theorem dX6_least_8 : decode cX6_least 8 = .ok (.ifCond .eq 5, 3) := by decide +kernel
theorem dX6_least_11 : decode cX6_least 11 = .ok (.iload_n 3, 1) := by decide +kernel
theorem dX6_least_12 : decode cX6_least 12 = .ok (.ireturn, 1) := by decide +kernel
theorem dX6_least_13 : decode cX6_least 13 = .ok (.aload_n 0, 1) := by decide +kernel
theorem dX6_least_14 : decode cX6_least 14 = .ok (.getfield 26, 3) := by decide +kernel
theorem dX6_least_17 : decode cX6_least 17 = .ok (.iload_n 1, 1) := by decide +kernel
theorem dX6_least_18 : decode cX6_least 18 = .ok (.iload_n 2, 1) := by decide +kernel
theorem dX6_least_19 : decode cX6_least 19 = .ok (.invokevirtual 161, 3) := by decide +kernel
theorem dX6_least_22 : decode cX6_least 22 = .ok (.istore 4, 2) := by decide +kernel
theorem dX6_least_24 : decode cX6_least 24 = .ok (.aload_n 0, 1) := by decide +kernel
theorem dX6_least_25 : decode cX6_least 25 = .ok (.aload_n 0, 1) := by decide +kernel
theorem dX6_least_26 : decode cX6_least 26 = .ok (.getfield 26, 3) := by decide +kernel
theorem dX6_least_29 : decode cX6_least 29 = .ok (.getfield 104, 3) := by decide +kernel
theorem dX6_least_32 : decode cX6_least 32 = .ok (.getfield 71, 3) := by decide +kernel
theorem dX6_least_35 : decode cX6_least 35 = .ok (.iload 4, 2) := by decide +kernel
theorem dX6_least_37 : decode cX6_least 37 = .ok (.iaload, 1) := by decide +kernel
theorem dX6_least_38 : decode cX6_least 38 = .ok (.putfield 52, 3) := by decide +kernel
theorem dX6_least_41 : decode cX6_least 41 = .ok (.iload 4, 2) := by decide +kernel
theorem dX6_least_43 : decode cX6_least 43 = .ok (.ireturn, 1) := by decide +kernel
theorem dX6_kth_0 : decode cX6_kth 0 = .ok (.aload_n 0, 1) := by decide +kernel
theorem dX6_kth_1 : decode cX6_kth 1 = .ok (.iload_n 1, 1) := by decide +kernel
theorem dX6_kth_2 : decode cX6_kth 2 = .ok (.iload_n 2, 1) := by decide +kernel
theorem dX6_kth_3 : decode cX6_kth 3 = .ok (.invokevirtual 158, 3) := by decide +kernel
theorem dX6_kth_6 : decode cX6_kth 6 = .ok (.istore 4, 2) := by decide +kernel
theorem dX6_kth_8 : decode cX6_kth 8 = .ok (.iload 4, 2) := by decide +kernel
theorem dX6_kth_10 : decode cX6_kth 10 = .ok (.ifCond .eq 6, 3) := by decide +kernel
theorem dX6_kth_13 : decode cX6_kth 13 = .ok (.iload 4, 2) := by decide +kernel
theorem dX6_kth_15 : decode cX6_kth 15 = .ok (.ireturn, 1) := by decide +kernel
theorem dX6_kth_16 : decode cX6_kth 16 = .ok (.iload_n 3, 1) := by decide +kernel
theorem dX6_kth_17 : decode cX6_kth 17 = .ok (.ifCond .lt 10, 3) := by decide +kernel
theorem dX6_kth_20 : decode cX6_kth 20 = .ok (.iload_n 3, 1) := by decide +kernel
theorem dX6_kth_21 : decode cX6_kth 21 = .ok (.iload_n 2, 1) := by decide +kernel
theorem dX6_kth_22 : decode cX6_kth 22 = .ok (.iload_n 1, 1) := by decide +kernel
theorem dX6_kth_23 : decode cX6_kth 23 = .ok (.isub, 1) := by decide +kernel
theorem dX6_kth_24 : decode cX6_kth 24 = .ok (.if_icmp .le 9, 3) := by decide +kernel
theorem dX6_kth_27 : decode cX6_kth 27 = .ok (.aload_n 0, 1) := by decide +kernel
theorem dX6_kth_28 : decode cX6_kth 28 = .ok (.iconst 2, 1) := by decide +kernel
theorem dX6_kth_29 : decode cX6_kth 29 = .ok (.invokevirtual 59, 3) := by decide +kernel
theorem dX6_kth_32 : decode cX6_kth 32 = .ok (.ireturn, 1) := by decide +kernel
theorem dX6_kth_33 : decode cX6_kth 33 = .ok (.aload_n 0, 1) := by decide +kernel
theorem dX6_kth_34 : decode cX6_kth 34 = .ok (.getfield 26, 3) := by decide +kernel
theorem dX6_kth_37 : decode cX6_kth 37 = .ok (.iload_n 1, 1) := by decide +kernel
theorem dX6_kth_38 : decode cX6_kth 38 = .ok (.iload_n 2, 1) := by decide +kernel
theorem dX6_kth_39 : decode cX6_kth 39 = .ok (.iload_n 3, 1) := by decide +kernel
theorem dX6_kth_40 : decode cX6_kth 40 = .ok (.invokevirtual 164, 3) := by decide +kernel
theorem dX6_kth_43 : decode cX6_kth 43 = .ok (.istore 5, 2) := by decide +kernel
theorem dX6_kth_45 : decode cX6_kth 45 = .ok (.aload_n 0, 1) := by decide +kernel
theorem dX6_kth_46 : decode cX6_kth 46 = .ok (.aload_n 0, 1) := by decide +kernel
theorem dX6_kth_47 : decode cX6_kth 47 = .ok (.getfield 26, 3) := by decide +kernel
theorem dX6_kth_50 : decode cX6_kth 50 = .ok (.getfield 104, 3) := by decide +kernel
theorem dX6_kth_53 : decode cX6_kth 53 = .ok (.getfield 71, 3) := by decide +kernel
theorem dX6_kth_56 : decode cX6_kth 56 = .ok (.iload 5, 2) := by decide +kernel
theorem dX6_kth_58 : decode cX6_kth 58 = .ok (.iaload, 1) := by decide +kernel
theorem dX6_kth_59 : decode cX6_kth 59 = .ok (.putfield 52, 3) := by decide +kernel
theorem dX6_kth_62 : decode cX6_kth 62 = .ok (.iload 5, 2) := by decide +kernel
theorem dX6_kth_64 : decode cX6_kth 64 = .ok (.ireturn, 1) := by decide +kernel
theorem dX6_left_0 : decode cX6_left 0 = .ok (.aload_n 0, 1) := by decide +kernel
theorem dX6_left_1 : decode cX6_left 1 = .ok (.iload_n 1, 1) := by decide +kernel
theorem dX6_left_2 : decode cX6_left 2 = .ok (.invokevirtual 101, 3) := by decide +kernel
theorem dX6_left_5 : decode cX6_left 5 = .ok (.istore_n 2, 1) := by decide +kernel
theorem dX6_left_6 : decode cX6_left 6 = .ok (.iload_n 2, 1) := by decide +kernel
theorem dX6_left_7 : decode cX6_left 7 = .ok (.ifCond .eq 5, 3) := by decide +kernel
theorem dX6_left_10 : decode cX6_left 10 = .ok (.iload_n 2, 1) := by decide +kernel
theorem dX6_left_11 : decode cX6_left 11 = .ok (.ireturn, 1) := by decide +kernel
theorem dX6_left_12 : decode cX6_left 12 = .ok (.aload_n 0, 1) := by decide +kernel
theorem dX6_left_13 : decode cX6_left 13 = .ok (.getfield 26, 3) := by decide +kernel
theorem dX6_left_16 : decode cX6_left 16 = .ok (.iload_n 1, 1) := by decide +kernel
theorem dX6_left_17 : decode cX6_left 17 = .ok (.invokevirtual 167, 3) := by decide +kernel
theorem dX6_left_20 : decode cX6_left 20 = .ok (.istore_n 3, 1) := by decide +kernel
theorem dX6_left_21 : decode cX6_left 21 = .ok (.iload_n 3, 1) := by decide +kernel
theorem dX6_left_22 : decode cX6_left 22 = .ok (.ifCond .ge 8, 3) := by decide +kernel
theorem dX6_left_25 : decode cX6_left 25 = .ok (.bipush (-9), 2) := by decide +kernel
theorem dX6_left_27 : decode cX6_left 27 = .ok (.goto 4, 3) := by decide +kernel
theorem dX6_left_30 : decode cX6_left 30 = .ok (.iload_n 3, 1) := by decide +kernel
theorem dX6_left_31 : decode cX6_left 31 = .ok (.ireturn, 1) := by decide +kernel
theorem dX6_right_0 : decode cX6_right 0 = .ok (.aload_n 0, 1) := by decide +kernel
theorem dX6_right_1 : decode cX6_right 1 = .ok (.iload_n 1, 1) := by decide +kernel
theorem dX6_right_2 : decode cX6_right 2 = .ok (.invokevirtual 101, 3) := by decide +kernel
theorem dX6_right_5 : decode cX6_right 5 = .ok (.istore_n 2, 1) := by decide +kernel
theorem dX6_right_6 : decode cX6_right 6 = .ok (.iload_n 2, 1) := by decide +kernel
theorem dX6_right_7 : decode cX6_right 7 = .ok (.ifCond .eq 5, 3) := by decide +kernel
theorem dX6_right_10 : decode cX6_right 10 = .ok (.iload_n 2, 1) := by decide +kernel
theorem dX6_right_11 : decode cX6_right 11 = .ok (.ireturn, 1) := by decide +kernel
theorem dX6_right_12 : decode cX6_right 12 = .ok (.aload_n 0, 1) := by decide +kernel
theorem dX6_right_13 : decode cX6_right 13 = .ok (.getfield 26, 3) := by decide +kernel
theorem dX6_right_16 : decode cX6_right 16 = .ok (.iload_n 1, 1) := by decide +kernel
theorem dX6_right_17 : decode cX6_right 17 = .ok (.invokevirtual 170, 3) := by decide +kernel
theorem dX6_right_20 : decode cX6_right 20 = .ok (.istore_n 3, 1) := by decide +kernel
theorem dX6_right_21 : decode cX6_right 21 = .ok (.iload_n 3, 1) := by decide +kernel
theorem dX6_right_22 : decode cX6_right 22 = .ok (.aload_n 0, 1) := by decide +kernel
theorem dX6_right_23 : decode cX6_right 23 = .ok (.getfield 26, 3) := by decide +kernel
theorem dX6_right_26 : decode cX6_right 26 = .ok (.getfield 104, 3) := by decide +kernel
theorem dX6_right_29 : decode cX6_right 29 = .ok (.getfield 78, 3) := by decide +kernel
theorem dX6_right_32 : decode cX6_right 32 = .ok (.if_icmp .lt 8, 3) := by decide +kernel
theorem dX6_right_35 : decode cX6_right 35 = .ok (.bipush (-9), 2) := by decide +kernel
theorem dX6_right_37 : decode cX6_right 37 = .ok (.goto 4, 3) := by decide +kernel
theorem dX6_right_40 : decode cX6_right 40 = .ok (.iload_n 3, 1) := by decide +kernel
theorem dX6_right_41 : decode cX6_right 41 = .ok (.ireturn, 1) := by decide +kernel
theorem dX6_owns_0 : decode cX6_owns 0 = .ok (.aload_n 0, 1) := by decide +kernel
theorem dX6_owns_1 : decode cX6_owns 1 = .ok (.iload_n 1, 1) := by decide +kernel
theorem dX6_owns_2 : decode cX6_owns 2 = .ok (.invokevirtual 101, 3) := by decide +kernel
theorem dX6_owns_5 : decode cX6_owns 5 = .ok (.istore_n 2, 1) := by decide +kernel
theorem dX6_owns_6 : decode cX6_owns 6 = .ok (.iload_n 2, 1) := by decide +kernel
theorem dX6_owns_7 : decode cX6_owns 7 = .ok (.ifCond .eq 5, 3) := by decide +kernel
theorem dX6_owns_10 : decode cX6_owns 10 = .ok (.iload_n 2, 1) := by decide +kernel
theorem dX6_owns_11 : decode cX6_owns 11 = .ok (.ireturn, 1) := by decide +kernel
theorem dX6_owns_12 : decode cX6_owns 12 = .ok (.aload_n 0, 1) := by decide +kernel
theorem dX6_owns_13 : decode cX6_owns 13 = .ok (.getfield 26, 3) := by decide +kernel
theorem dX6_owns_16 : decode cX6_owns 16 = .ok (.iload_n 1, 1) := by decide +kernel
theorem dX6_owns_17 : decode cX6_owns 17 = .ok (.invokevirtual 173, 3) := by decide +kernel
theorem dX6_owns_20 : decode cX6_owns 20 = .ok (.ireturn, 1) := by decide +kernel
theorem dX6_sum_0 : decode cX6_sum 0 = .ok (.lconst 0, 1) := by decide +kernel
theorem dX6_sum_1 : decode cX6_sum 1 = .ok (.lstore_n 1, 1) := by decide +kernel
theorem dX6_sum_2 : decode cX6_sum 2 = .ok (.iconst 0, 1) := by decide +kernel
theorem dX6_sum_3 : decode cX6_sum 3 = .ok (.istore_n 3, 1) := by decide +kernel
theorem dX6_sum_4 : decode cX6_sum 4 = .ok (.iload_n 3, 1) := by decide +kernel
theorem dX6_sum_5 : decode cX6_sum 5 = .ok (.aload_n 0, 1) := by decide +kernel
theorem dX6_sum_6 : decode cX6_sum 6 = .ok (.getfield 26, 3) := by decide +kernel
theorem dX6_sum_9 : decode cX6_sum 9 = .ok (.getfield 104, 3) := by decide +kernel
theorem dX6_sum_12 : decode cX6_sum 12 = .ok (.getfield 78, 3) := by decide +kernel
theorem dX6_sum_15 : decode cX6_sum 15 = .ok (.if_icmp .ge 35, 3) := by decide +kernel
theorem dX6_sum_18 : decode cX6_sum 18 = .ok (.lload_n 1, 1) := by decide +kernel
theorem dX6_sum_19 : decode cX6_sum 19 = .ok (.aload_n 0, 1) := by decide +kernel
theorem dX6_sum_20 : decode cX6_sum 20 = .ok (.getfield 26, 3) := by decide +kernel
theorem dX6_sum_23 : decode cX6_sum 23 = .ok (.getfield 104, 3) := by decide +kernel
theorem dX6_sum_26 : decode cX6_sum 26 = .ok (.getfield 71, 3) := by decide +kernel
theorem dX6_sum_29 : decode cX6_sum 29 = .ok (.iload_n 3, 1) := by decide +kernel
theorem dX6_sum_30 : decode cX6_sum 30 = .ok (.iaload, 1) := by decide +kernel
theorem dX6_sum_31 : decode cX6_sum 31 = .ok (.i2l, 1) := by decide +kernel
theorem dX6_sum_32 : decode cX6_sum 32 = .ok (.aload_n 0, 1) := by decide +kernel
theorem dX6_sum_33 : decode cX6_sum 33 = .ok (.getfield 26, 3) := by decide +kernel
theorem dX6_sum_36 : decode cX6_sum 36 = .ok (.iload_n 3, 1) := by decide +kernel
theorem dX6_sum_37 : decode cX6_sum 37 = .ok (.invokevirtual 173, 3) := by decide +kernel
theorem dX6_sum_40 : decode cX6_sum 40 = .ok (.i2l, 1) := by decide +kernel
theorem dX6_sum_41 : decode cX6_sum 41 = .ok (.lmul, 1) := by decide +kernel
theorem dX6_sum_42 : decode cX6_sum 42 = .ok (.ladd, 1) := by decide +kernel
theorem dX6_sum_43 : decode cX6_sum 43 = .ok (.lstore_n 1, 1) := by decide +kernel
theorem dX6_sum_44 : decode cX6_sum 44 = .ok (.iinc 3 1, 3) := by decide +kernel
theorem dX6_sum_47 : decode cX6_sum 47 = .ok (.goto (-43), 3) := by decide +kernel
theorem dX6_sum_50 : decode cX6_sum 50 = .ok (.lload_n 1, 1) := by decide +kernel
theorem dX6_sum_51 : decode cX6_sum 51 = .ok (.lreturn, 1) := by decide +kernel
theorem dX6_parent_0 : decode cX6_parent 0 = .ok (.aload_n 0, 1) := by decide +kernel
theorem dX6_parent_1 : decode cX6_parent 1 = .ok (.iload_n 1, 1) := by decide +kernel
theorem dX6_parent_2 : decode cX6_parent 2 = .ok (.invokevirtual 101, 3) := by decide +kernel
theorem dX6_parent_5 : decode cX6_parent 5 = .ok (.istore_n 2, 1) := by decide +kernel
theorem dX6_parent_6 : decode cX6_parent 6 = .ok (.iload_n 2, 1) := by decide +kernel
theorem dX6_parent_7 : decode cX6_parent 7 = .ok (.ifCond .eq 5, 3) := by decide +kernel
theorem dX6_parent_10 : decode cX6_parent 10 = .ok (.iload_n 2, 1) := by decide +kernel
theorem dX6_parent_11 : decode cX6_parent 11 = .ok (.ireturn, 1) := by decide +kernel
theorem dX6_parent_12 : decode cX6_parent 12 = .ok (.aload_n 0, 1) := by decide +kernel
theorem dX6_parent_13 : decode cX6_parent 13 = .ok (.getfield 26, 3) := by decide +kernel
theorem dX6_parent_16 : decode cX6_parent 16 = .ok (.iload_n 1, 1) := by decide +kernel
theorem dX6_parent_17 : decode cX6_parent 17 = .ok (.invokevirtual 176, 3) := by decide +kernel
theorem dX6_parent_20 : decode cX6_parent 20 = .ok (.ireturn, 1) := by decide +kernel
theorem dX6_depth_0 : decode cX6_depth 0 = .ok (.aload_n 0, 1) := by decide +kernel
theorem dX6_depth_1 : decode cX6_depth 1 = .ok (.iload_n 1, 1) := by decide +kernel
theorem dX6_depth_2 : decode cX6_depth 2 = .ok (.invokevirtual 101, 3) := by decide +kernel
theorem dX6_depth_5 : decode cX6_depth 5 = .ok (.istore_n 2, 1) := by decide +kernel
theorem dX6_depth_6 : decode cX6_depth 6 = .ok (.iload_n 2, 1) := by decide +kernel
theorem dX6_depth_7 : decode cX6_depth 7 = .ok (.ifCond .eq 5, 3) := by decide +kernel
theorem dX6_depth_10 : decode cX6_depth 10 = .ok (.iload_n 2, 1) := by decide +kernel
theorem dX6_depth_11 : decode cX6_depth 11 = .ok (.ireturn, 1) := by decide +kernel
theorem dX6_depth_12 : decode cX6_depth 12 = .ok (.aload_n 0, 1) := by decide +kernel
theorem dX6_depth_13 : decode cX6_depth 13 = .ok (.getfield 26, 3) := by decide +kernel
theorem dX6_depth_16 : decode cX6_depth 16 = .ok (.iload_n 1, 1) := by decide +kernel
theorem dX6_depth_17 : decode cX6_depth 17 = .ok (.invokevirtual 179, 3) := by decide +kernel
theorem dX6_depth_20 : decode cX6_depth 20 = .ok (.ireturn, 1) := by decide +kernel
theorem dX6_size_0 : decode cX6_size 0 = .ok (.aload_n 0, 1) := by decide +kernel
theorem dX6_size_1 : decode cX6_size 1 = .ok (.iload_n 1, 1) := by decide +kernel
theorem dX6_size_2 : decode cX6_size 2 = .ok (.invokevirtual 101, 3) := by decide +kernel
theorem dX6_size_5 : decode cX6_size 5 = .ok (.istore_n 2, 1) := by decide +kernel
theorem dX6_size_6 : decode cX6_size 6 = .ok (.iload_n 2, 1) := by decide +kernel
theorem dX6_size_7 : decode cX6_size 7 = .ok (.ifCond .eq 5, 3) := by decide +kernel
theorem dX6_size_10 : decode cX6_size 10 = .ok (.iload_n 2, 1) := by decide +kernel
theorem dX6_size_11 : decode cX6_size 11 = .ok (.ireturn, 1) := by decide +kernel
theorem dX6_size_12 : decode cX6_size 12 = .ok (.aload_n 0, 1) := by decide +kernel
theorem dX6_size_13 : decode cX6_size 13 = .ok (.getfield 26, 3) := by decide +kernel
theorem dX6_size_16 : decode cX6_size 16 = .ok (.iload_n 1, 1) := by decide +kernel
theorem dX6_size_17 : decode cX6_size 17 = .ok (.invokevirtual 170, 3) := by decide +kernel
theorem dX6_size_20 : decode cX6_size 20 = .ok (.aload_n 0, 1) := by decide +kernel
theorem dX6_size_21 : decode cX6_size 21 = .ok (.getfield 26, 3) := by decide +kernel
theorem dX6_size_24 : decode cX6_size 24 = .ok (.iload_n 1, 1) := by decide +kernel
theorem dX6_size_25 : decode cX6_size 25 = .ok (.invokevirtual 167, 3) := by decide +kernel
theorem dX6_size_28 : decode cX6_size 28 = .ok (.isub, 1) := by decide +kernel
theorem dX6_size_29 : decode cX6_size 29 = .ok (.iconst 1, 1) := by decide +kernel
theorem dX6_size_30 : decode cX6_size 30 = .ok (.isub, 1) := by decide +kernel
theorem dX6_size_31 : decode cX6_size 31 = .ok (.ireturn, 1) := by decide +kernel
theorem dX6_above_0 : decode cX6_above 0 = .ok (.aload_n 0, 1) := by decide +kernel
theorem dX6_above_1 : decode cX6_above 1 = .ok (.iload_n 1, 1) := by decide +kernel
theorem dX6_above_2 : decode cX6_above 2 = .ok (.invokevirtual 101, 3) := by decide +kernel
theorem dX6_above_5 : decode cX6_above 5 = .ok (.istore_n 3, 1) := by decide +kernel
theorem dX6_above_6 : decode cX6_above 6 = .ok (.iload_n 3, 1) := by decide +kernel
theorem dX6_above_7 : decode cX6_above 7 = .ok (.ifCond .eq 5, 3) := by decide +kernel
theorem dX6_above_10 : decode cX6_above 10 = .ok (.iload_n 3, 1) := by decide +kernel
theorem dX6_above_11 : decode cX6_above 11 = .ok (.ireturn, 1) := by decide +kernel
theorem dX6_above_12 : decode cX6_above 12 = .ok (.iload_n 2, 1) := by decide +kernel
theorem dX6_above_13 : decode cX6_above 13 = .ok (.ifCond .ge 9, 3) := by decide +kernel
theorem dX6_above_16 : decode cX6_above 16 = .ok (.aload_n 0, 1) := by decide +kernel
theorem dX6_above_17 : decode cX6_above 17 = .ok (.iconst 2, 1) := by decide +kernel
theorem dX6_above_18 : decode cX6_above 18 = .ok (.invokevirtual 59, 3) := by decide +kernel
theorem dX6_above_21 : decode cX6_above 21 = .ok (.ireturn, 1) := by decide +kernel
theorem dX6_above_22 : decode cX6_above 22 = .ok (.aload_n 0, 1) := by decide +kernel
theorem dX6_above_23 : decode cX6_above 23 = .ok (.getfield 26, 3) := by decide +kernel
theorem dX6_above_26 : decode cX6_above 26 = .ok (.iload_n 1, 1) := by decide +kernel
theorem dX6_above_27 : decode cX6_above 27 = .ok (.iload_n 2, 1) := by decide +kernel
theorem dX6_above_28 : decode cX6_above 28 = .ok (.invokevirtual 182, 3) := by decide +kernel
theorem dX6_above_31 : decode cX6_above 31 = .ok (.ireturn, 1) := by decide +kernel
theorem dX6_alike_0 : decode cX6_alike 0 = .ok (.aload_n 0, 1) := by decide +kernel
theorem dX6_alike_1 : decode cX6_alike 1 = .ok (.getfield 26, 3) := by decide +kernel
theorem dX6_alike_4 : decode cX6_alike 4 = .ok (.invokevirtual 125, 3) := by decide +kernel
theorem dX6_alike_7 : decode cX6_alike 7 = .ok (.ifCond .eq 6, 3) := by decide +kernel
theorem dX6_alike_10 : decode cX6_alike 10 = .ok (.bipush (-2), 2) := by decide +kernel
theorem dX6_alike_12 : decode cX6_alike 12 = .ok (.ireturn, 1) := by decide +kernel
theorem dX6_alike_13 : decode cX6_alike 13 = .ok (.aload_n 0, 1) := by decide +kernel
theorem dX6_alike_14 : decode cX6_alike 14 = .ok (.getfield 26, 3) := by decide +kernel
theorem dX6_alike_17 : decode cX6_alike 17 = .ok (.getfield 104, 3) := by decide +kernel
theorem dX6_alike_20 : decode cX6_alike 20 = .ok (.iload_n 1, 1) := by decide +kernel
theorem dX6_alike_21 : decode cX6_alike 21 = .ok (.iload_n 3, 1) := by decide +kernel
theorem dX6_alike_22 : decode cX6_alike 22 = .ok (.invokevirtual 81, 3) := by decide +kernel
theorem dX6_alike_25 : decode cX6_alike 25 = .ok (.ifCond .ne 18, 3) := by decide +kernel
theorem dX6_alike_28 : decode cX6_alike 28 = .ok (.aload_n 0, 1) := by decide +kernel
theorem dX6_alike_29 : decode cX6_alike 29 = .ok (.getfield 26, 3) := by decide +kernel
theorem dX6_alike_32 : decode cX6_alike 32 = .ok (.getfield 104, 3) := by decide +kernel
theorem dX6_alike_35 : decode cX6_alike 35 = .ok (.iload_n 2, 1) := by decide +kernel
theorem dX6_alike_36 : decode cX6_alike 36 = .ok (.iload_n 3, 1) := by decide +kernel
theorem dX6_alike_37 : decode cX6_alike 37 = .ok (.invokevirtual 81, 3) := by decide +kernel
theorem dX6_alike_40 : decode cX6_alike 40 = .ok (.ifCond .eq 9, 3) := by decide +kernel
theorem dX6_alike_43 : decode cX6_alike 43 = .ok (.aload_n 0, 1) := by decide +kernel
theorem dX6_alike_44 : decode cX6_alike 44 = .ok (.iconst 2, 1) := by decide +kernel
theorem dX6_alike_45 : decode cX6_alike 45 = .ok (.invokevirtual 59, 3) := by decide +kernel
theorem dX6_alike_48 : decode cX6_alike 48 = .ok (.ireturn, 1) := by decide +kernel
theorem dX6_alike_49 : decode cX6_alike 49 = .ok (.aload_n 0, 1) := by decide +kernel
theorem dX6_alike_50 : decode cX6_alike 50 = .ok (.getfield 26, 3) := by decide +kernel
theorem dX6_alike_53 : decode cX6_alike 53 = .ok (.iload_n 1, 1) := by decide +kernel
theorem dX6_alike_54 : decode cX6_alike 54 = .ok (.iload_n 2, 1) := by decide +kernel
theorem dX6_alike_55 : decode cX6_alike 55 = .ok (.iload_n 3, 1) := by decide +kernel
theorem dX6_alike_56 : decode cX6_alike 56 = .ok (.invokevirtual 185, 3) := by decide +kernel
theorem dX6_alike_59 : decode cX6_alike 59 = .ok (.ifCond .eq 7, 3) := by decide +kernel
theorem dX6_alike_62 : decode cX6_alike 62 = .ok (.iconst 1, 1) := by decide +kernel
theorem dX6_alike_63 : decode cX6_alike 63 = .ok (.goto 4, 3) := by decide +kernel
theorem dX6_alike_66 : decode cX6_alike 66 = .ok (.iconst 0, 1) := by decide +kernel
theorem dX6_alike_67 : decode cX6_alike 67 = .ok (.ireturn, 1) := by decide +kernel
theorem dX6_tree_0 : decode cX6_tree 0 = .ok (.iload_n 1, 1) := by decide +kernel
theorem dX6_tree_1 : decode cX6_tree 1 = .ok (.invokestatic 55, 3) := by decide +kernel
theorem dX6_tree_4 : decode cX6_tree 4 = .ok (.ifCond .eq 5, 3) := by decide +kernel
theorem dX6_tree_7 : decode cX6_tree 7 = .ok (.iconst (-1), 1) := by decide +kernel
theorem dX6_tree_8 : decode cX6_tree 8 = .ok (.ireturn, 1) := by decide +kernel
theorem dX6_tree_9 : decode cX6_tree 9 = .ok (.aload_n 0, 1) := by decide +kernel
theorem dX6_tree_10 : decode cX6_tree 10 = .ok (.getfield 11, 3) := by decide +kernel
theorem dX6_tree_13 : decode cX6_tree 13 = .ok (.iload_n 1, 1) := by decide +kernel
theorem dX6_tree_14 : decode cX6_tree 14 = .ok (.aaload, 1) := by decide +kernel
theorem dX6_tree_15 : decode cX6_tree 15 = .ok (.invokevirtual 74, 3) := by decide +kernel
theorem dX6_tree_18 : decode cX6_tree 18 = .ok (.ifCond .eq 9, 3) := by decide +kernel
theorem dX6_tree_21 : decode cX6_tree 21 = .ok (.aload_n 0, 1) := by decide +kernel
theorem dX6_tree_22 : decode cX6_tree 22 = .ok (.iconst 1, 1) := by decide +kernel
theorem dX6_tree_23 : decode cX6_tree 23 = .ok (.invokevirtual 59, 3) := by decide +kernel
theorem dX6_tree_26 : decode cX6_tree 26 = .ok (.ireturn, 1) := by decide +kernel
theorem dX6_tree_27 : decode cX6_tree 27 = .ok (.aload_n 0, 1) := by decide +kernel
theorem dX6_tree_28 : decode cX6_tree 28 = .ok (.getfield 11, 3) := by decide +kernel
theorem dX6_tree_31 : decode cX6_tree 31 = .ok (.iload_n 1, 1) := by decide +kernel
theorem dX6_tree_32 : decode cX6_tree 32 = .ok (.aaload, 1) := by decide +kernel
theorem dX6_tree_33 : decode cX6_tree 33 = .ok (.getfield 78, 3) := by decide +kernel
theorem dX6_tree_36 : decode cX6_tree 36 = .ok (.iconst 1, 1) := by decide +kernel
theorem dX6_tree_37 : decode cX6_tree 37 = .ok (.if_icmp .lt 17, 3) := by decide +kernel
theorem dX6_tree_40 : decode cX6_tree 40 = .ok (.aload_n 0, 1) := by decide +kernel
theorem dX6_tree_41 : decode cX6_tree 41 = .ok (.getfield 11, 3) := by decide +kernel
theorem dX6_tree_44 : decode cX6_tree 44 = .ok (.iload_n 1, 1) := by decide +kernel
theorem dX6_tree_45 : decode cX6_tree 45 = .ok (.aaload, 1) := by decide +kernel
theorem dX6_tree_46 : decode cX6_tree 46 = .ok (.getfield 78, 3) := by decide +kernel
theorem dX6_tree_49 : decode cX6_tree 49 = .ok (.bipush 24, 2) := by decide +kernel
theorem dX6_tree_51 : decode cX6_tree 51 = .ok (.if_icmp .le 9, 3) := by decide +kernel
theorem dX6_tree_54 : decode cX6_tree 54 = .ok (.aload_n 0, 1) := by decide +kernel
theorem dX6_tree_55 : decode cX6_tree 55 = .ok (.iconst 3, 1) := by decide +kernel
theorem dX6_tree_56 : decode cX6_tree 56 = .ok (.invokevirtual 59, 3) := by decide +kernel
theorem dX6_tree_59 : decode cX6_tree 59 = .ok (.ireturn, 1) := by decide +kernel
theorem dX6_tree_60 : decode cX6_tree 60 = .ok (.aload_n 0, 1) := by decide +kernel
theorem dX6_tree_61 : decode cX6_tree 61 = .ok (.getfield 11, 3) := by decide +kernel
theorem dX6_tree_64 : decode cX6_tree 64 = .ok (.iload_n 1, 1) := by decide +kernel
theorem dX6_tree_65 : decode cX6_tree 65 = .ok (.aaload, 1) := by decide +kernel
theorem dX6_tree_66 : decode cX6_tree 66 = .ok (.invokestatic 189, 3) := by decide +kernel
theorem dX6_tree_69 : decode cX6_tree 69 = .ok (.ifCond .ne 9, 3) := by decide +kernel
theorem dX6_tree_72 : decode cX6_tree 72 = .ok (.aload_n 0, 1) := by decide +kernel
theorem dX6_tree_73 : decode cX6_tree 73 = .ok (.iconst 4, 1) := by decide +kernel
theorem dX6_tree_74 : decode cX6_tree 74 = .ok (.invokevirtual 59, 3) := by decide +kernel
theorem dX6_tree_77 : decode cX6_tree 77 = .ok (.ireturn, 1) := by decide +kernel
theorem dX6_tree_78 : decode cX6_tree 78 = .ok (.aload_n 0, 1) := by decide +kernel
theorem dX6_tree_79 : decode cX6_tree 79 = .ok (.getfield 40, 3) := by decide +kernel
theorem dX6_tree_82 : decode cX6_tree 82 = .ok (.aload_n 0, 1) := by decide +kernel
theorem dX6_tree_83 : decode cX6_tree 83 = .ok (.getfield 11, 3) := by decide +kernel
theorem dX6_tree_86 : decode cX6_tree 86 = .ok (.iload_n 1, 1) := by decide +kernel
theorem dX6_tree_87 : decode cX6_tree 87 = .ok (.aaload, 1) := by decide +kernel
theorem dX6_tree_88 : decode cX6_tree 88 = .ok (.invokevirtual 193, 3) := by decide +kernel
theorem dX6_tree_91 : decode cX6_tree 91 = .ok (.aload_n 0, 1) := by decide +kernel
theorem dX6_tree_92 : decode cX6_tree 92 = .ok (.getfield 40, 3) := by decide +kernel
theorem dX6_tree_95 : decode cX6_tree 95 = .ok (.getfield 196, 3) := by decide +kernel
theorem dX6_tree_98 : decode cX6_tree 98 = .ok (.ireturn, 1) := by decide +kernel
theorem dX6_meet_0 : decode cX6_meet 0 = .ok (.aload_n 0, 1) := by decide +kernel
theorem dX6_meet_1 : decode cX6_meet 1 = .ok (.iload_n 1, 1) := by decide +kernel
theorem dX6_meet_2 : decode cX6_meet 2 = .ok (.iload_n 2, 1) := by decide +kernel
theorem dX6_meet_3 : decode cX6_meet 3 = .ok (.invokevirtual 199, 3) := by decide +kernel
theorem dX6_meet_6 : decode cX6_meet 6 = .ok (.istore_n 3, 1) := by decide +kernel
theorem dX6_meet_7 : decode cX6_meet 7 = .ok (.iload_n 3, 1) := by decide +kernel
theorem dX6_meet_8 : decode cX6_meet 8 = .ok (.ifCond .eq 5, 3) := by decide +kernel
theorem dX6_meet_11 : decode cX6_meet 11 = .ok (.iload_n 3, 1) := by decide +kernel
theorem dX6_meet_12 : decode cX6_meet 12 = .ok (.ireturn, 1) := by decide +kernel
theorem dX6_meet_13 : decode cX6_meet 13 = .ok (.aload_n 0, 1) := by decide +kernel
theorem dX6_meet_14 : decode cX6_meet 14 = .ok (.getfield 40, 3) := by decide +kernel
theorem dX6_meet_17 : decode cX6_meet 17 = .ok (.iload_n 1, 1) := by decide +kernel
theorem dX6_meet_18 : decode cX6_meet 18 = .ok (.iload_n 2, 1) := by decide +kernel
theorem dX6_meet_19 : decode cX6_meet 19 = .ok (.invokevirtual 202, 3) := by decide +kernel
theorem dX6_meet_22 : decode cX6_meet 22 = .ok (.ireturn, 1) := by decide +kernel
theorem dX6_apart_0 : decode cX6_apart 0 = .ok (.aload_n 0, 1) := by decide +kernel
theorem dX6_apart_1 : decode cX6_apart 1 = .ok (.iload_n 1, 1) := by decide +kernel
theorem dX6_apart_2 : decode cX6_apart 2 = .ok (.iload_n 2, 1) := by decide +kernel
theorem dX6_apart_3 : decode cX6_apart 3 = .ok (.invokevirtual 199, 3) := by decide +kernel
theorem dX6_apart_6 : decode cX6_apart 6 = .ok (.istore_n 3, 1) := by decide +kernel
theorem dX6_apart_7 : decode cX6_apart 7 = .ok (.iload_n 3, 1) := by decide +kernel
theorem dX6_apart_8 : decode cX6_apart 8 = .ok (.ifCond .eq 5, 3) := by decide +kernel
theorem dX6_apart_11 : decode cX6_apart 11 = .ok (.iload_n 3, 1) := by decide +kernel
theorem dX6_apart_12 : decode cX6_apart 12 = .ok (.ireturn, 1) := by decide +kernel
theorem dX6_apart_13 : decode cX6_apart 13 = .ok (.aload_n 0, 1) := by decide +kernel
theorem dX6_apart_14 : decode cX6_apart 14 = .ok (.getfield 40, 3) := by decide +kernel
theorem dX6_apart_17 : decode cX6_apart 17 = .ok (.iload_n 1, 1) := by decide +kernel
theorem dX6_apart_18 : decode cX6_apart 18 = .ok (.iload_n 2, 1) := by decide +kernel
theorem dX6_apart_19 : decode cX6_apart 19 = .ok (.invokevirtual 202, 3) := by decide +kernel
theorem dX6_apart_22 : decode cX6_apart 22 = .ok (.istore 4, 2) := by decide +kernel
theorem dX6_apart_24 : decode cX6_apart 24 = .ok (.aload_n 0, 1) := by decide +kernel
theorem dX6_apart_25 : decode cX6_apart 25 = .ok (.getfield 40, 3) := by decide +kernel
theorem dX6_apart_28 : decode cX6_apart 28 = .ok (.getfield 205, 3) := by decide +kernel
theorem dX6_apart_31 : decode cX6_apart 31 = .ok (.iload_n 1, 1) := by decide +kernel
theorem dX6_apart_32 : decode cX6_apart 32 = .ok (.iaload, 1) := by decide +kernel
theorem dX6_apart_33 : decode cX6_apart 33 = .ok (.aload_n 0, 1) := by decide +kernel
theorem dX6_apart_34 : decode cX6_apart 34 = .ok (.getfield 40, 3) := by decide +kernel
theorem dX6_apart_37 : decode cX6_apart 37 = .ok (.getfield 205, 3) := by decide +kernel
theorem dX6_apart_40 : decode cX6_apart 40 = .ok (.iload_n 2, 1) := by decide +kernel
theorem dX6_apart_41 : decode cX6_apart 41 = .ok (.iaload, 1) := by decide +kernel
theorem dX6_apart_42 : decode cX6_apart 42 = .ok (.iadd, 1) := by decide +kernel
theorem dX6_apart_43 : decode cX6_apart 43 = .ok (.iconst 2, 1) := by decide +kernel
theorem dX6_apart_44 : decode cX6_apart 44 = .ok (.aload_n 0, 1) := by decide +kernel
theorem dX6_apart_45 : decode cX6_apart 45 = .ok (.getfield 40, 3) := by decide +kernel
theorem dX6_apart_48 : decode cX6_apart 48 = .ok (.getfield 205, 3) := by decide +kernel
theorem dX6_apart_51 : decode cX6_apart 51 = .ok (.iload 4, 2) := by decide +kernel
theorem dX6_apart_53 : decode cX6_apart 53 = .ok (.iaload, 1) := by decide +kernel
theorem dX6_apart_54 : decode cX6_apart 54 = .ok (.imul, 1) := by decide +kernel
theorem dX6_apart_55 : decode cX6_apart 55 = .ok (.isub, 1) := by decide +kernel
theorem dX6_apart_56 : decode cX6_apart 56 = .ok (.ireturn, 1) := by decide +kernel
theorem dX6_up_0 : decode cX6_up 0 = .ok (.aload_n 0, 1) := by decide +kernel
theorem dX6_up_1 : decode cX6_up 1 = .ok (.iload_n 1, 1) := by decide +kernel
theorem dX6_up_2 : decode cX6_up 2 = .ok (.iload_n 1, 1) := by decide +kernel
theorem dX6_up_3 : decode cX6_up 3 = .ok (.invokevirtual 199, 3) := by decide +kernel
theorem dX6_up_6 : decode cX6_up 6 = .ok (.istore_n 3, 1) := by decide +kernel
theorem dX6_up_7 : decode cX6_up 7 = .ok (.iload_n 3, 1) := by decide +kernel
theorem dX6_up_8 : decode cX6_up 8 = .ok (.ifCond .eq 5, 3) := by decide +kernel
theorem dX6_up_11 : decode cX6_up 11 = .ok (.iload_n 3, 1) := by decide +kernel
theorem dX6_up_12 : decode cX6_up 12 = .ok (.ireturn, 1) := by decide +kernel
theorem dX6_up_13 : decode cX6_up 13 = .ok (.iload_n 2, 1) := by decide +kernel
theorem dX6_up_14 : decode cX6_up 14 = .ok (.ifCond .ge 9, 3) := by decide +kernel
theorem dX6_up_17 : decode cX6_up 17 = .ok (.aload_n 0, 1) := by decide +kernel
theorem dX6_up_18 : decode cX6_up 18 = .ok (.iconst 2, 1) := by decide +kernel
theorem dX6_up_19 : decode cX6_up 19 = .ok (.invokevirtual 59, 3) := by decide +kernel
theorem dX6_up_22 : decode cX6_up 22 = .ok (.ireturn, 1) := by decide +kernel
theorem dX6_up_23 : decode cX6_up 23 = .ok (.aload_n 0, 1) := by decide +kernel
theorem dX6_up_24 : decode cX6_up 24 = .ok (.getfield 40, 3) := by decide +kernel
theorem dX6_up_27 : decode cX6_up 27 = .ok (.iload_n 1, 1) := by decide +kernel
theorem dX6_up_28 : decode cX6_up 28 = .ok (.iload_n 2, 1) := by decide +kernel
theorem dX6_up_29 : decode cX6_up 29 = .ok (.invokevirtual 208, 3) := by decide +kernel
theorem dX6_up_32 : decode cX6_up 32 = .ok (.ireturn, 1) := by decide +kernel
theorem dX6_node_0 : decode cX6_node 0 = .ok (.aload_n 0, 1) := by decide +kernel
theorem dX6_node_1 : decode cX6_node 1 = .ok (.getfield 40, 3) := by decide +kernel
theorem dX6_node_4 : decode cX6_node 4 = .ok (.getfield 196, 3) := by decide +kernel
theorem dX6_node_7 : decode cX6_node 7 = .ok (.ifCond .ne 6, 3) := by decide +kernel
theorem dX6_node_10 : decode cX6_node 10 = .ok (.bipush (-2), 2) := by decide +kernel
theorem dX6_node_12 : decode cX6_node 12 = .ok (.ireturn, 1) := by decide +kernel
theorem dX6_node_13 : decode cX6_node 13 = .ok (.iload_n 2, 1) := by decide +kernel
theorem dX6_node_14 : decode cX6_node 14 = .ok (.ifCond .lt 8, 3) := by decide +kernel
theorem dX6_node_17 : decode cX6_node 17 = .ok (.iload_n 2, 1) := by decide +kernel
theorem dX6_node_18 : decode cX6_node 18 = .ok (.iconst 2, 1) := by decide +kernel
theorem dX6_node_19 : decode cX6_node 19 = .ok (.if_icmp .le 5, 3) := by decide +kernel
theorem dX6_node_22 : decode cX6_node 22 = .ok (.iconst (-1), 1) := by decide +kernel
theorem dX6_node_23 : decode cX6_node 23 = .ok (.ireturn, 1) := by decide +kernel
theorem dX6_node_24 : decode cX6_node 24 = .ok (.aload_n 0, 1) := by decide +kernel
theorem dX6_node_25 : decode cX6_node 25 = .ok (.getfield 40, 3) := by decide +kernel
theorem dX6_node_28 : decode cX6_node 28 = .ok (.iload_n 1, 1) := by decide +kernel
theorem dX6_node_29 : decode cX6_node 29 = .ok (.invokevirtual 211, 3) := by decide +kernel
theorem dX6_node_32 : decode cX6_node 32 = .ok (.ifCond .eq 9, 3) := by decide +kernel
theorem dX6_node_35 : decode cX6_node 35 = .ok (.aload_n 0, 1) := by decide +kernel
theorem dX6_node_36 : decode cX6_node 36 = .ok (.iconst 2, 1) := by decide +kernel
theorem dX6_node_37 : decode cX6_node 37 = .ok (.invokevirtual 59, 3) := by decide +kernel
theorem dX6_node_40 : decode cX6_node 40 = .ok (.ireturn, 1) := by decide +kernel
theorem dX6_node_41 : decode cX6_node 41 = .ok (.iload_n 2, 1) := by decide +kernel
theorem dX6_node_42 : decode cX6_node 42 = .ok (.ifCond .ne 13, 3) := by decide +kernel
theorem dX6_node_45 : decode cX6_node 45 = .ok (.aload_n 0, 1) := by decide +kernel
theorem dX6_node_46 : decode cX6_node 46 = .ok (.getfield 40, 3) := by decide +kernel
theorem dX6_node_49 : decode cX6_node 49 = .ok (.getfield 205, 3) := by decide +kernel
theorem dX6_node_52 : decode cX6_node 52 = .ok (.iload_n 1, 1) := by decide +kernel
theorem dX6_node_53 : decode cX6_node 53 = .ok (.iaload, 1) := by decide +kernel
theorem dX6_node_54 : decode cX6_node 54 = .ok (.ireturn, 1) := by decide +kernel
theorem dX6_node_55 : decode cX6_node 55 = .ok (.iload_n 2, 1) := by decide +kernel
theorem dX6_node_56 : decode cX6_node 56 = .ok (.iconst 1, 1) := by decide +kernel
theorem dX6_node_57 : decode cX6_node 57 = .ok (.if_icmp .ne 15, 3) := by decide +kernel
theorem dX6_node_60 : decode cX6_node 60 = .ok (.aload_n 0, 1) := by decide +kernel
theorem dX6_node_61 : decode cX6_node 61 = .ok (.getfield 40, 3) := by decide +kernel
theorem dX6_node_64 : decode cX6_node 64 = .ok (.getfield 214, 3) := by decide +kernel
theorem dX6_node_67 : decode cX6_node 67 = .ok (.iload_n 1, 1) := by decide +kernel
theorem dX6_node_68 : decode cX6_node 68 = .ok (.iaload, 1) := by decide +kernel
theorem dX6_node_69 : decode cX6_node 69 = .ok (.goto 12, 3) := by decide +kernel
theorem dX6_node_72 : decode cX6_node 72 = .ok (.aload_n 0, 1) := by decide +kernel
theorem dX6_node_73 : decode cX6_node 73 = .ok (.getfield 40, 3) := by decide +kernel
theorem dX6_node_76 : decode cX6_node 76 = .ok (.getfield 217, 3) := by decide +kernel
theorem dX6_node_79 : decode cX6_node 79 = .ok (.iload_n 1, 1) := by decide +kernel
theorem dX6_node_80 : decode cX6_node 80 = .ok (.iaload, 1) := by decide +kernel
theorem dX6_node_81 : decode cX6_node 81 = .ok (.ireturn, 1) := by decide +kernel
theorem dX6_asked_0 : decode cX6_asked 0 = .ok (.aload_n 0, 1) := by decide +kernel
theorem dX6_asked_1 : decode cX6_asked 1 = .ok (.getfield 52, 3) := by decide +kernel
theorem dX6_asked_4 : decode cX6_asked 4 = .ok (.ireturn, 1) := by decide +kernel
theorem dX6_count_0 : decode cX6_count 0 = .ok (.iload_n 1, 1) := by decide +kernel
theorem dX6_count_1 : decode cX6_count 1 = .ok (.tableswitch 152 0 9 #[55, 80, 88, 96, 104, 112, 123, 131, 139, 144], 55) := by decide +kernel
theorem dX6_count_56 : decode cX6_count 56 = .ok (.aload_n 0, 1) := by decide +kernel
theorem dX6_count_57 : decode cX6_count 57 = .ok (.getfield 26, 3) := by decide +kernel
theorem dX6_count_60 : decode cX6_count 60 = .ok (.invokevirtual 125, 3) := by decide +kernel
theorem dX6_count_63 : decode cX6_count 63 = .ok (.ifCond .eq 7, 3) := by decide +kernel
theorem dX6_count_66 : decode cX6_count 66 = .ok (.iconst 0, 1) := by decide +kernel
theorem dX6_count_67 : decode cX6_count 67 = .ok (.goto 13, 3) := by decide +kernel
theorem dX6_count_70 : decode cX6_count 70 = .ok (.aload_n 0, 1) := by decide +kernel
theorem dX6_count_71 : decode cX6_count 71 = .ok (.getfield 26, 3) := by decide +kernel
theorem dX6_count_74 : decode cX6_count 74 = .ok (.getfield 104, 3) := by decide +kernel
theorem dX6_count_77 : decode cX6_count 77 = .ok (.getfield 78, 3) := by decide +kernel
theorem dX6_count_80 : decode cX6_count 80 = .ok (.ireturn, 1) := by decide +kernel
theorem dX6_count_81 : decode cX6_count 81 = .ok (.aload_n 0, 1) := by decide +kernel
theorem dX6_count_82 : decode cX6_count 82 = .ok (.getfield 26, 3) := by decide +kernel
theorem dX6_count_85 : decode cX6_count 85 = .ok (.getfield 133, 3) := by decide +kernel
theorem dX6_count_88 : decode cX6_count 88 = .ok (.ireturn, 1) := by decide +kernel
theorem dX6_count_89 : decode cX6_count 89 = .ok (.aload_n 0, 1) := by decide +kernel
theorem dX6_count_90 : decode cX6_count 90 = .ok (.getfield 26, 3) := by decide +kernel
theorem dX6_count_93 : decode cX6_count 93 = .ok (.getfield 98, 3) := by decide +kernel
theorem dX6_count_96 : decode cX6_count 96 = .ok (.ireturn, 1) := by decide +kernel
theorem dX6_count_97 : decode cX6_count 97 = .ok (.aload_n 0, 1) := by decide +kernel
theorem dX6_count_98 : decode cX6_count 98 = .ok (.getfield 26, 3) := by decide +kernel
theorem dX6_count_101 : decode cX6_count 101 = .ok (.invokevirtual 220, 3) := by decide +kernel
theorem dX6_count_104 : decode cX6_count 104 = .ok (.ireturn, 1) := by decide +kernel
theorem dX6_count_105 : decode cX6_count 105 = .ok (.aload_n 0, 1) := by decide +kernel
theorem dX6_count_106 : decode cX6_count 106 = .ok (.getfield 26, 3) := by decide +kernel
theorem dX6_count_109 : decode cX6_count 109 = .ok (.invokevirtual 224, 3) := by decide +kernel
theorem dX6_count_112 : decode cX6_count 112 = .ok (.ireturn, 1) := by decide +kernel
theorem dX6_count_113 : decode cX6_count 113 = .ok (.aload_n 0, 1) := by decide +kernel
theorem dX6_count_114 : decode cX6_count 114 = .ok (.getfield 26, 3) := by decide +kernel
theorem dX6_count_117 : decode cX6_count 117 = .ok (.getfield 140, 3) := by decide +kernel
theorem dX6_count_120 : decode cX6_count 120 = .ok (.getfield 227, 3) := by decide +kernel
theorem dX6_count_123 : decode cX6_count 123 = .ok (.ireturn, 1) := by decide +kernel
theorem dX6_count_124 : decode cX6_count 124 = .ok (.aload_n 0, 1) := by decide +kernel
theorem dX6_count_125 : decode cX6_count 125 = .ok (.getfield 26, 3) := by decide +kernel
theorem dX6_count_128 : decode cX6_count 128 = .ok (.invokevirtual 228, 3) := by decide +kernel
theorem dX6_count_131 : decode cX6_count 131 = .ok (.ireturn, 1) := by decide +kernel
theorem dX6_count_132 : decode cX6_count 132 = .ok (.aload_n 0, 1) := by decide +kernel
theorem dX6_count_133 : decode cX6_count 133 = .ok (.getfield 33, 3) := by decide +kernel
theorem dX6_count_136 : decode cX6_count 136 = .ok (.getfield 115, 3) := by decide +kernel
theorem dX6_count_139 : decode cX6_count 139 = .ok (.ireturn, 1) := by decide +kernel
theorem dX6_count_140 : decode cX6_count 140 = .ok (.aload_n 0, 1) := by decide +kernel
theorem dX6_count_141 : decode cX6_count 141 = .ok (.invokevirtual 231, 3) := by decide +kernel
theorem dX6_count_144 : decode cX6_count 144 = .ok (.ireturn, 1) := by decide +kernel
theorem dX6_count_145 : decode cX6_count 145 = .ok (.aload_n 0, 1) := by decide +kernel
theorem dX6_count_146 : decode cX6_count 146 = .ok (.getfield 40, 3) := by decide +kernel
theorem dX6_count_149 : decode cX6_count 149 = .ok (.getfield 196, 3) := by decide +kernel
theorem dX6_count_152 : decode cX6_count 152 = .ok (.ireturn, 1) := by decide +kernel
theorem dX6_count_153 : decode cX6_count 153 = .ok (.iconst (-1), 1) := by decide +kernel
theorem dX6_count_154 : decode cX6_count 154 = .ok (.ireturn, 1) := by decide +kernel
theorem dX6_finding_0 : decode cX6_finding 0 = .ok (.aload_n 0, 1) := by decide +kernel
theorem dX6_finding_1 : decode cX6_finding 1 = .ok (.getfield 48, 3) := by decide +kernel
theorem dX6_finding_4 : decode cX6_finding 4 = .ok (.ireturn, 1) := by decide +kernel
theorem dX6_findings_0 : decode cX6_findings 0 = .ok (.iload_n 1, 1) := by decide +kernel
theorem dX6_findings_1 : decode cX6_findings 1 = .ok (.iconst 1, 1) := by decide +kernel
theorem dX6_findings_2 : decode cX6_findings 2 = .ok (.if_icmp .lt 8, 3) := by decide +kernel
theorem dX6_findings_5 : decode cX6_findings 5 = .ok (.iload_n 1, 1) := by decide +kernel
theorem dX6_findings_6 : decode cX6_findings 6 = .ok (.iconst 4, 1) := by decide +kernel
theorem dX6_findings_7 : decode cX6_findings 7 = .ok (.if_icmp .le 7, 3) := by decide +kernel
theorem dX6_findings_10 : decode cX6_findings 10 = .ok (.iconst (-1), 1) := by decide +kernel
theorem dX6_findings_11 : decode cX6_findings 11 = .ok (.goto 9, 3) := by decide +kernel
theorem dX6_findings_14 : decode cX6_findings 14 = .ok (.aload_n 0, 1) := by decide +kernel
theorem dX6_findings_15 : decode cX6_findings 15 = .ok (.getfield 44, 3) := by decide +kernel
theorem dX6_findings_18 : decode cX6_findings 18 = .ok (.iload_n 1, 1) := by decide +kernel
theorem dX6_findings_19 : decode cX6_findings 19 = .ok (.iaload, 1) := by decide +kernel
theorem dX6_findings_20 : decode cX6_findings 20 = .ok (.ireturn, 1) := by decide +kernel
theorem dX6_digest_0 : decode cX6_digest 0 = .ok (.ldc2_w 234, 3) := by decide +kernel
theorem dX6_digest_3 : decode cX6_digest 3 = .ok (.lstore_n 1, 1) := by decide +kernel
theorem dX6_digest_4 : decode cX6_digest 4 = .ok (.iconst 0, 1) := by decide +kernel
theorem dX6_digest_5 : decode cX6_digest 5 = .ok (.istore_n 3, 1) := by decide +kernel
theorem dX6_digest_6 : decode cX6_digest 6 = .ok (.iload_n 3, 1) := by decide +kernel
theorem dX6_digest_7 : decode cX6_digest 7 = .ok (.bipush 10, 2) := by decide +kernel
theorem dX6_digest_9 : decode cX6_digest 9 = .ok (.if_icmp .ge 22, 3) := by decide +kernel
theorem dX6_digest_12 : decode cX6_digest 12 = .ok (.ldc2_w 236, 3) := by decide +kernel
theorem dX6_digest_15 : decode cX6_digest 15 = .ok (.lload_n 1, 1) := by decide +kernel
theorem dX6_digest_16 : decode cX6_digest 16 = .ok (.lmul, 1) := by decide +kernel
theorem dX6_digest_17 : decode cX6_digest 17 = .ok (.aload_n 0, 1) := by decide +kernel
theorem dX6_digest_18 : decode cX6_digest 18 = .ok (.iload_n 3, 1) := by decide +kernel
theorem dX6_digest_19 : decode cX6_digest 19 = .ok (.invokevirtual 238, 3) := by decide +kernel
theorem dX6_digest_22 : decode cX6_digest 22 = .ok (.i2l, 1) := by decide +kernel
theorem dX6_digest_23 : decode cX6_digest 23 = .ok (.ladd, 1) := by decide +kernel
theorem dX6_digest_24 : decode cX6_digest 24 = .ok (.lstore_n 1, 1) := by decide +kernel
theorem dX6_digest_25 : decode cX6_digest 25 = .ok (.iinc 3 1, 3) := by decide +kernel
theorem dX6_digest_28 : decode cX6_digest 28 = .ok (.goto (-22), 3) := by decide +kernel
theorem dX6_digest_31 : decode cX6_digest 31 = .ok (.aload_n 0, 1) := by decide +kernel
theorem dX6_digest_32 : decode cX6_digest 32 = .ok (.getfield 26, 3) := by decide +kernel
theorem dX6_digest_35 : decode cX6_digest 35 = .ok (.getfield 104, 3) := by decide +kernel
theorem dX6_digest_38 : decode cX6_digest 38 = .ok (.lload_n 1, 1) := by decide +kernel
theorem dX6_digest_39 : decode cX6_digest 39 = .ok (.invokevirtual 241, 3) := by decide +kernel
theorem dX6_digest_42 : decode cX6_digest 42 = .ok (.lstore_n 1, 1) := by decide +kernel
theorem dX6_digest_43 : decode cX6_digest 43 = .ok (.iconst 0, 1) := by decide +kernel
theorem dX6_digest_44 : decode cX6_digest 44 = .ok (.istore_n 3, 1) := by decide +kernel
theorem dX6_digest_45 : decode cX6_digest 45 = .ok (.iload_n 3, 1) := by decide +kernel
theorem dX6_digest_46 : decode cX6_digest 46 = .ok (.aload_n 0, 1) := by decide +kernel
theorem dX6_digest_47 : decode cX6_digest 47 = .ok (.getfield 26, 3) := by decide +kernel
theorem dX6_digest_50 : decode cX6_digest 50 = .ok (.getfield 98, 3) := by decide +kernel
theorem dX6_digest_53 : decode cX6_digest 53 = .ok (.if_icmp .ge 26, 3) := by decide +kernel
theorem dX6_digest_56 : decode cX6_digest 56 = .ok (.ldc2_w 236, 3) := by decide +kernel
theorem dX6_digest_59 : decode cX6_digest 59 = .ok (.lload_n 1, 1) := by decide +kernel
theorem dX6_digest_60 : decode cX6_digest 60 = .ok (.lmul, 1) := by decide +kernel
theorem dX6_digest_61 : decode cX6_digest 61 = .ok (.aload_n 0, 1) := by decide +kernel
theorem dX6_digest_62 : decode cX6_digest 62 = .ok (.getfield 26, 3) := by decide +kernel
theorem dX6_digest_65 : decode cX6_digest 65 = .ok (.getfield 137, 3) := by decide +kernel
theorem dX6_digest_68 : decode cX6_digest 68 = .ok (.iload_n 3, 1) := by decide +kernel
theorem dX6_digest_69 : decode cX6_digest 69 = .ok (.iaload, 1) := by decide +kernel
theorem dX6_digest_70 : decode cX6_digest 70 = .ok (.i2l, 1) := by decide +kernel
theorem dX6_digest_71 : decode cX6_digest 71 = .ok (.ladd, 1) := by decide +kernel
theorem dX6_digest_72 : decode cX6_digest 72 = .ok (.lstore_n 1, 1) := by decide +kernel
theorem dX6_digest_73 : decode cX6_digest 73 = .ok (.iinc 3 1, 3) := by decide +kernel
theorem dX6_digest_76 : decode cX6_digest 76 = .ok (.goto (-31), 3) := by decide +kernel
theorem dX6_digest_79 : decode cX6_digest 79 = .ok (.iconst 0, 1) := by decide +kernel
theorem dX6_digest_80 : decode cX6_digest 80 = .ok (.istore_n 3, 1) := by decide +kernel
theorem dX6_digest_81 : decode cX6_digest 81 = .ok (.iload_n 3, 1) := by decide +kernel
theorem dX6_digest_82 : decode cX6_digest 82 = .ok (.iconst 4, 1) := by decide +kernel
theorem dX6_digest_83 : decode cX6_digest 83 = .ok (.if_icmp .ge 37, 3) := by decide +kernel
theorem dX6_digest_86 : decode cX6_digest 86 = .ok (.ldc2_w 236, 3) := by decide +kernel
theorem dX6_digest_89 : decode cX6_digest 89 = .ok (.lload_n 1, 1) := by decide +kernel
theorem dX6_digest_90 : decode cX6_digest 90 = .ok (.lmul, 1) := by decide +kernel
theorem dX6_digest_91 : decode cX6_digest 91 = .ok (.aload_n 0, 1) := by decide +kernel
theorem dX6_digest_92 : decode cX6_digest 92 = .ok (.getfield 11, 3) := by decide +kernel
theorem dX6_digest_95 : decode cX6_digest 95 = .ok (.iload_n 3, 1) := by decide +kernel
theorem dX6_digest_96 : decode cX6_digest 96 = .ok (.aaload, 1) := by decide +kernel
theorem dX6_digest_97 : decode cX6_digest 97 = .ok (.getfield 78, 3) := by decide +kernel
theorem dX6_digest_100 : decode cX6_digest 100 = .ok (.i2l, 1) := by decide +kernel
theorem dX6_digest_101 : decode cX6_digest 101 = .ok (.ladd, 1) := by decide +kernel
theorem dX6_digest_102 : decode cX6_digest 102 = .ok (.lstore_n 1, 1) := by decide +kernel
theorem dX6_digest_103 : decode cX6_digest 103 = .ok (.aload_n 0, 1) := by decide +kernel
theorem dX6_digest_104 : decode cX6_digest 104 = .ok (.getfield 11, 3) := by decide +kernel
theorem dX6_digest_107 : decode cX6_digest 107 = .ok (.iload_n 3, 1) := by decide +kernel
theorem dX6_digest_108 : decode cX6_digest 108 = .ok (.aaload, 1) := by decide +kernel
theorem dX6_digest_109 : decode cX6_digest 109 = .ok (.lload_n 1, 1) := by decide +kernel
theorem dX6_digest_110 : decode cX6_digest 110 = .ok (.invokevirtual 241, 3) := by decide +kernel
theorem dX6_digest_113 : decode cX6_digest 113 = .ok (.lstore_n 1, 1) := by decide +kernel
theorem dX6_digest_114 : decode cX6_digest 114 = .ok (.iinc 3 1, 3) := by decide +kernel
theorem dX6_digest_117 : decode cX6_digest 117 = .ok (.goto (-36), 3) := by decide +kernel
theorem dX6_digest_120 : decode cX6_digest 120 = .ok (.lload_n 1, 1) := by decide +kernel
theorem dX6_digest_121 : decode cX6_digest 121 = .ok (.lreturn, 1) := by decide +kernel
theorem dX6_refuse_0 : decode cX6_refuse 0 = .ok (.aload_n 0, 1) := by decide +kernel
theorem dX6_refuse_1 : decode cX6_refuse 1 = .ok (.iload_n 1, 1) := by decide +kernel
theorem dX6_refuse_2 : decode cX6_refuse 2 = .ok (.putfield 48, 3) := by decide +kernel
theorem dX6_refuse_5 : decode cX6_refuse 5 = .ok (.aload_n 0, 1) := by decide +kernel
theorem dX6_refuse_6 : decode cX6_refuse 6 = .ok (.getfield 44, 3) := by decide +kernel
theorem dX6_refuse_9 : decode cX6_refuse 9 = .ok (.iload_n 1, 1) := by decide +kernel
theorem dX6_refuse_10 : decode cX6_refuse 10 = .ok (.dup2, 1) := by decide +kernel
theorem dX6_refuse_11 : decode cX6_refuse 11 = .ok (.iaload, 1) := by decide +kernel
theorem dX6_refuse_12 : decode cX6_refuse 12 = .ok (.iconst 1, 1) := by decide +kernel
theorem dX6_refuse_13 : decode cX6_refuse 13 = .ok (.iadd, 1) := by decide +kernel
theorem dX6_refuse_14 : decode cX6_refuse 14 = .ok (.iastore, 1) := by decide +kernel
theorem dX6_refuse_15 : decode cX6_refuse 15 = .ok (.bipush (-3), 2) := by decide +kernel
theorem dX6_refuse_17 : decode cX6_refuse 17 = .ok (.ireturn, 1) := by decide +kernel
theorem dX6_isNoRow_0 : decode cX6_isNoRow 0 = .ok (.iload_n 0, 1) := by decide +kernel
theorem dX6_isNoRow_1 : decode cX6_isNoRow 1 = .ok (.ifCond .lt 8, 3) := by decide +kernel
theorem dX6_isNoRow_4 : decode cX6_isNoRow 4 = .ok (.iload_n 0, 1) := by decide +kernel
theorem dX6_isNoRow_5 : decode cX6_isNoRow 5 = .ok (.iconst 4, 1) := by decide +kernel
theorem dX6_isNoRow_6 : decode cX6_isNoRow 6 = .ok (.if_icmp .lt 7, 3) := by decide +kernel
theorem dX6_isNoRow_9 : decode cX6_isNoRow 9 = .ok (.iconst 1, 1) := by decide +kernel
theorem dX6_isNoRow_10 : decode cX6_isNoRow 10 = .ok (.goto 4, 3) := by decide +kernel
theorem dX6_isNoRow_13 : decode cX6_isNoRow 13 = .ok (.iconst 0, 1) := by decide +kernel
theorem dX6_isNoRow_14 : decode cX6_isNoRow 14 = .ok (.ireturn, 1) := by decide +kernel
theorem dX6_isNoImage_0 : decode cX6_isNoImage 0 = .ok (.iload_n 0, 1) := by decide +kernel
theorem dX6_isNoImage_1 : decode cX6_isNoImage 1 = .ok (.ifCond .lt 8, 3) := by decide +kernel
theorem dX6_isNoImage_4 : decode cX6_isNoImage 4 = .ok (.iload_n 0, 1) := by decide +kernel
theorem dX6_isNoImage_5 : decode cX6_isNoImage 5 = .ok (.iconst 2, 1) := by decide +kernel
theorem dX6_isNoImage_6 : decode cX6_isNoImage 6 = .ok (.if_icmp .lt 7, 3) := by decide +kernel
theorem dX6_isNoImage_9 : decode cX6_isNoImage 9 = .ok (.iconst 1, 1) := by decide +kernel
theorem dX6_isNoImage_10 : decode cX6_isNoImage 10 = .ok (.goto 4, 3) := by decide +kernel
theorem dX6_isNoImage_13 : decode cX6_isNoImage 13 = .ok (.iconst 0, 1) := by decide +kernel
theorem dX6_isNoImage_14 : decode cX6_isNoImage 14 = .ok (.ireturn, 1) := by decide +kernel
theorem dX6_refusalOfPlace_0 : decode cX6_refusalOfPlace 0 = .ok (.iload_n 1, 1) := by decide +kernel
theorem dX6_refusalOfPlace_1 : decode cX6_refusalOfPlace 1 = .ok (.invokestatic 55, 3) := by decide +kernel
theorem dX6_refusalOfPlace_4 : decode cX6_refusalOfPlace 4 = .ok (.ifCond .eq 5, 3) := by decide +kernel
theorem dX6_refusalOfPlace_7 : decode cX6_refusalOfPlace 7 = .ok (.iconst (-1), 1) := by decide +kernel
theorem dX6_refusalOfPlace_8 : decode cX6_refusalOfPlace 8 = .ok (.ireturn, 1) := by decide +kernel
theorem dX6_refusalOfPlace_9 : decode cX6_refusalOfPlace 9 = .ok (.aload_n 0, 1) := by decide +kernel
theorem dX6_refusalOfPlace_10 : decode cX6_refusalOfPlace 10 = .ok (.getfield 11, 3) := by decide +kernel
theorem dX6_refusalOfPlace_13 : decode cX6_refusalOfPlace 13 = .ok (.iload_n 1, 1) := by decide +kernel
theorem dX6_refusalOfPlace_14 : decode cX6_refusalOfPlace 14 = .ok (.aaload, 1) := by decide +kernel
theorem dX6_refusalOfPlace_15 : decode cX6_refusalOfPlace 15 = .ok (.invokevirtual 74, 3) := by decide +kernel
theorem dX6_refusalOfPlace_18 : decode cX6_refusalOfPlace 18 = .ok (.ifCond .eq 9, 3) := by decide +kernel
theorem dX6_refusalOfPlace_21 : decode cX6_refusalOfPlace 21 = .ok (.aload_n 0, 1) := by decide +kernel
theorem dX6_refusalOfPlace_22 : decode cX6_refusalOfPlace 22 = .ok (.iconst 1, 1) := by decide +kernel
theorem dX6_refusalOfPlace_23 : decode cX6_refusalOfPlace 23 = .ok (.invokevirtual 59, 3) := by decide +kernel
theorem dX6_refusalOfPlace_26 : decode cX6_refusalOfPlace 26 = .ok (.ireturn, 1) := by decide +kernel
theorem dX6_refusalOfPlace_27 : decode cX6_refusalOfPlace 27 = .ok (.aload_n 0, 1) := by decide +kernel
theorem dX6_refusalOfPlace_28 : decode cX6_refusalOfPlace 28 = .ok (.getfield 11, 3) := by decide +kernel
theorem dX6_refusalOfPlace_31 : decode cX6_refusalOfPlace 31 = .ok (.iload_n 1, 1) := by decide +kernel
theorem dX6_refusalOfPlace_32 : decode cX6_refusalOfPlace 32 = .ok (.aaload, 1) := by decide +kernel
theorem dX6_refusalOfPlace_33 : decode cX6_refusalOfPlace 33 = .ok (.iload_n 2, 1) := by decide +kernel
theorem dX6_refusalOfPlace_34 : decode cX6_refusalOfPlace 34 = .ok (.invokevirtual 245, 3) := by decide +kernel
theorem dX6_refusalOfPlace_37 : decode cX6_refusalOfPlace 37 = .ok (.ifCond .eq 11, 3) := by decide +kernel
theorem dX6_refusalOfPlace_40 : decode cX6_refusalOfPlace 40 = .ok (.aload_n 0, 1) := by decide +kernel
theorem dX6_refusalOfPlace_41 : decode cX6_refusalOfPlace 41 = .ok (.iconst 2, 1) := by decide +kernel
theorem dX6_refusalOfPlace_42 : decode cX6_refusalOfPlace 42 = .ok (.invokevirtual 59, 3) := by decide +kernel
theorem dX6_refusalOfPlace_45 : decode cX6_refusalOfPlace 45 = .ok (.goto 4, 3) := by decide +kernel
theorem dX6_refusalOfPlace_48 : decode cX6_refusalOfPlace 48 = .ok (.iconst 0, 1) := by decide +kernel
theorem dX6_refusalOfPlace_49 : decode cX6_refusalOfPlace 49 = .ok (.ireturn, 1) := by decide +kernel
theorem dX6_refusalOfItem_0 : decode cX6_refusalOfItem 0 = .ok (.aload_n 0, 1) := by decide +kernel
theorem dX6_refusalOfItem_1 : decode cX6_refusalOfItem 1 = .ok (.iload_n 1, 1) := by decide +kernel
theorem dX6_refusalOfItem_2 : decode cX6_refusalOfItem 2 = .ok (.iload_n 1, 1) := by decide +kernel
theorem dX6_refusalOfItem_3 : decode cX6_refusalOfItem 3 = .ok (.invokevirtual 158, 3) := by decide +kernel
theorem dX6_refusalOfItem_6 : decode cX6_refusalOfItem 6 = .ok (.ireturn, 1) := by decide +kernel
theorem dX6_refusalOfRun_0 : decode cX6_refusalOfRun 0 = .ok (.aload_n 0, 1) := by decide +kernel
theorem dX6_refusalOfRun_1 : decode cX6_refusalOfRun 1 = .ok (.getfield 26, 3) := by decide +kernel
theorem dX6_refusalOfRun_4 : decode cX6_refusalOfRun 4 = .ok (.invokevirtual 125, 3) := by decide +kernel
theorem dX6_refusalOfRun_7 : decode cX6_refusalOfRun 7 = .ok (.ifCond .eq 6, 3) := by decide +kernel
theorem dX6_refusalOfRun_10 : decode cX6_refusalOfRun 10 = .ok (.bipush (-2), 2) := by decide +kernel
theorem dX6_refusalOfRun_12 : decode cX6_refusalOfRun 12 = .ok (.ireturn, 1) := by decide +kernel
theorem dX6_refusalOfRun_13 : decode cX6_refusalOfRun 13 = .ok (.aload_n 0, 1) := by decide +kernel
theorem dX6_refusalOfRun_14 : decode cX6_refusalOfRun 14 = .ok (.getfield 26, 3) := by decide +kernel
theorem dX6_refusalOfRun_17 : decode cX6_refusalOfRun 17 = .ok (.getfield 104, 3) := by decide +kernel
theorem dX6_refusalOfRun_20 : decode cX6_refusalOfRun 20 = .ok (.iload_n 1, 1) := by decide +kernel
theorem dX6_refusalOfRun_21 : decode cX6_refusalOfRun 21 = .ok (.invokevirtual 245, 3) := by decide +kernel
theorem dX6_refusalOfRun_24 : decode cX6_refusalOfRun 24 = .ok (.ifCond .ne 22, 3) := by decide +kernel
theorem dX6_refusalOfRun_27 : decode cX6_refusalOfRun 27 = .ok (.aload_n 0, 1) := by decide +kernel
theorem dX6_refusalOfRun_28 : decode cX6_refusalOfRun 28 = .ok (.getfield 26, 3) := by decide +kernel
theorem dX6_refusalOfRun_31 : decode cX6_refusalOfRun 31 = .ok (.getfield 104, 3) := by decide +kernel
theorem dX6_refusalOfRun_34 : decode cX6_refusalOfRun 34 = .ok (.iload_n 2, 1) := by decide +kernel
theorem dX6_refusalOfRun_35 : decode cX6_refusalOfRun 35 = .ok (.invokevirtual 245, 3) := by decide +kernel
theorem dX6_refusalOfRun_38 : decode cX6_refusalOfRun 38 = .ok (.ifCond .ne 8, 3) := by decide +kernel
theorem dX6_refusalOfRun_41 : decode cX6_refusalOfRun 41 = .ok (.iload_n 2, 1) := by decide +kernel
theorem dX6_refusalOfRun_42 : decode cX6_refusalOfRun 42 = .ok (.iload_n 1, 1) := by decide +kernel
theorem dX6_refusalOfRun_43 : decode cX6_refusalOfRun 43 = .ok (.if_icmp .ge 11, 3) := by decide +kernel
theorem dX6_refusalOfRun_46 : decode cX6_refusalOfRun 46 = .ok (.aload_n 0, 1) := by decide +kernel
theorem dX6_refusalOfRun_47 : decode cX6_refusalOfRun 47 = .ok (.iconst 2, 1) := by decide +kernel
theorem dX6_refusalOfRun_48 : decode cX6_refusalOfRun 48 = .ok (.invokevirtual 59, 3) := by decide +kernel
theorem dX6_refusalOfRun_51 : decode cX6_refusalOfRun 51 = .ok (.goto 4, 3) := by decide +kernel
theorem dX6_refusalOfRun_54 : decode cX6_refusalOfRun 54 = .ok (.iconst 0, 1) := by decide +kernel
theorem dX6_refusalOfRun_55 : decode cX6_refusalOfRun 55 = .ok (.ireturn, 1) := by decide +kernel
theorem dX6_refusalOfNodes_0 : decode cX6_refusalOfNodes 0 = .ok (.aload_n 0, 1) := by decide +kernel
theorem dX6_refusalOfNodes_1 : decode cX6_refusalOfNodes 1 = .ok (.getfield 40, 3) := by decide +kernel
theorem dX6_refusalOfNodes_4 : decode cX6_refusalOfNodes 4 = .ok (.getfield 196, 3) := by decide +kernel
theorem dX6_refusalOfNodes_7 : decode cX6_refusalOfNodes 7 = .ok (.ifCond .ne 6, 3) := by decide +kernel
theorem dX6_refusalOfNodes_10 : decode cX6_refusalOfNodes 10 = .ok (.bipush (-2), 2) := by decide +kernel
theorem dX6_refusalOfNodes_12 : decode cX6_refusalOfNodes 12 = .ok (.ireturn, 1) := by decide +kernel
theorem dX6_refusalOfNodes_13 : decode cX6_refusalOfNodes 13 = .ok (.aload_n 0, 1) := by decide +kernel
theorem dX6_refusalOfNodes_14 : decode cX6_refusalOfNodes 14 = .ok (.getfield 40, 3) := by decide +kernel
theorem dX6_refusalOfNodes_17 : decode cX6_refusalOfNodes 17 = .ok (.iload_n 1, 1) := by decide +kernel
theorem dX6_refusalOfNodes_18 : decode cX6_refusalOfNodes 18 = .ok (.invokevirtual 211, 3) := by decide +kernel
theorem dX6_refusalOfNodes_21 : decode cX6_refusalOfNodes 21 = .ok (.ifCond .ne 14, 3) := by decide +kernel
theorem dX6_refusalOfNodes_24 : decode cX6_refusalOfNodes 24 = .ok (.aload_n 0, 1) := by decide +kernel
theorem dX6_refusalOfNodes_25 : decode cX6_refusalOfNodes 25 = .ok (.getfield 40, 3) := by decide +kernel
theorem dX6_refusalOfNodes_28 : decode cX6_refusalOfNodes 28 = .ok (.iload_n 2, 1) := by decide +kernel
theorem dX6_refusalOfNodes_29 : decode cX6_refusalOfNodes 29 = .ok (.invokevirtual 211, 3) := by decide +kernel
theorem dX6_refusalOfNodes_32 : decode cX6_refusalOfNodes 32 = .ok (.ifCond .eq 11, 3) := by decide +kernel
theorem dX6_refusalOfNodes_35 : decode cX6_refusalOfNodes 35 = .ok (.aload_n 0, 1) := by decide +kernel
theorem dX6_refusalOfNodes_36 : decode cX6_refusalOfNodes 36 = .ok (.iconst 2, 1) := by decide +kernel
theorem dX6_refusalOfNodes_37 : decode cX6_refusalOfNodes 37 = .ok (.invokevirtual 59, 3) := by decide +kernel
theorem dX6_refusalOfNodes_40 : decode cX6_refusalOfNodes 40 = .ok (.goto 4, 3) := by decide +kernel
theorem dX6_refusalOfNodes_43 : decode cX6_refusalOfNodes 43 = .ok (.iconst 0, 1) := by decide +kernel
theorem dX6_refusalOfNodes_44 : decode cX6_refusalOfNodes 44 = .ok (.ireturn, 1) := by decide +kernel
theorem dX6_rowsThere_0 : decode cX6_rowsThere 0 = .ok (.iconst 0, 1) := by decide +kernel
theorem dX6_rowsThere_1 : decode cX6_rowsThere 1 = .ok (.istore_n 1, 1) := by decide +kernel
theorem dX6_rowsThere_2 : decode cX6_rowsThere 2 = .ok (.iconst 0, 1) := by decide +kernel
theorem dX6_rowsThere_3 : decode cX6_rowsThere 3 = .ok (.istore_n 2, 1) := by decide +kernel
theorem dX6_rowsThere_4 : decode cX6_rowsThere 4 = .ok (.iload_n 2, 1) := by decide +kernel
theorem dX6_rowsThere_5 : decode cX6_rowsThere 5 = .ok (.iconst 4, 1) := by decide +kernel
theorem dX6_rowsThere_6 : decode cX6_rowsThere 6 = .ok (.if_icmp .ge 24, 3) := by decide +kernel
theorem dX6_rowsThere_9 : decode cX6_rowsThere 9 = .ok (.aload_n 0, 1) := by decide +kernel
theorem dX6_rowsThere_10 : decode cX6_rowsThere 10 = .ok (.getfield 11, 3) := by decide +kernel
theorem dX6_rowsThere_13 : decode cX6_rowsThere 13 = .ok (.iload_n 2, 1) := by decide +kernel
theorem dX6_rowsThere_14 : decode cX6_rowsThere 14 = .ok (.aaload, 1) := by decide +kernel
theorem dX6_rowsThere_15 : decode cX6_rowsThere 15 = .ok (.invokevirtual 74, 3) := by decide +kernel
theorem dX6_rowsThere_18 : decode cX6_rowsThere 18 = .ok (.ifCond .ne 6, 3) := by decide +kernel
theorem dX6_rowsThere_21 : decode cX6_rowsThere 21 = .ok (.iinc 1 1, 3) := by decide +kernel
theorem dX6_rowsThere_24 : decode cX6_rowsThere 24 = .ok (.iinc 2 1, 3) := by decide +kernel
theorem dX6_rowsThere_27 : decode cX6_rowsThere 27 = .ok (.goto (-23), 3) := by decide +kernel
theorem dX6_rowsThere_30 : decode cX6_rowsThere 30 = .ok (.iload_n 1, 1) := by decide +kernel
theorem dX6_rowsThere_31 : decode cX6_rowsThere 31 = .ok (.ireturn, 1) := by decide +kernel
theorem dX7_init_0 : decode cX7_init 0 = .ok (.aload_n 0, 1) := by decide +kernel
theorem dX7_init_1 : decode cX7_init 1 = .ok (.invokespecial 1, 3) := by decide +kernel
theorem dX7_init_4 : decode cX7_init 4 = .ok (.aload_n 0, 1) := by decide +kernel
theorem dX7_init_5 : decode cX7_init 5 = .ok (.iconst 5, 1) := by decide +kernel
theorem dX7_init_6 : decode cX7_init 6 = .ok (.newarray .int, 2) := by decide +kernel
theorem dX7_init_8 : decode cX7_init 8 = .ok (.putfield 7, 3) := by decide +kernel
theorem dX7_init_11 : decode cX7_init 11 = .ok (.aload_n 0, 1) := by decide +kernel
theorem dX7_init_12 : decode cX7_init 12 = .ok (.sipush 192, 3) := by decide +kernel
theorem dX7_init_15 : decode cX7_init 15 = .ok (.newarray .int, 2) := by decide +kernel
theorem dX7_init_17 : decode cX7_init 17 = .ok (.putfield 13, 3) := by decide +kernel
theorem dX7_init_20 : decode cX7_init 20 = .ok (.aload_n 0, 1) := by decide +kernel
theorem dX7_init_21 : decode cX7_init 21 = .ok (.iconst 4, 1) := by decide +kernel
theorem dX7_init_22 : decode cX7_init 22 = .ok (.newarray .int, 2) := by decide +kernel
theorem dX7_init_24 : decode cX7_init 24 = .ok (.putfield 16, 3) := by decide +kernel
theorem dX7_init_27 : decode cX7_init 27 = .ok (.aload_n 0, 1) := by decide +kernel
theorem dX7_init_28 : decode cX7_init 28 = .ok (.bipush 48, 2) := by decide +kernel
theorem dX7_init_30 : decode cX7_init 30 = .ok (.newarray .int, 2) := by decide +kernel
theorem dX7_init_32 : decode cX7_init 32 = .ok (.putfield 19, 3) := by decide +kernel
theorem dX7_init_35 : decode cX7_init 35 = .ok (.aload_n 0, 1) := by decide +kernel
theorem dX7_init_36 : decode cX7_init 36 = .ok (.sipush 256, 3) := by decide +kernel
theorem dX7_init_39 : decode cX7_init 39 = .ok (.newarray .int, 2) := by decide +kernel
theorem dX7_init_41 : decode cX7_init 41 = .ok (.putfield 22, 3) := by decide +kernel
theorem dX7_init_44 : decode cX7_init 44 = .ok (.aload_n 0, 1) := by decide +kernel
theorem dX7_init_45 : decode cX7_init 45 = .ok (.bipush 10, 2) := by decide +kernel
theorem dX7_init_47 : decode cX7_init 47 = .ok (.newarray .int, 2) := by decide +kernel
theorem dX7_init_49 : decode cX7_init 49 = .ok (.putfield 25, 3) := by decide +kernel
theorem dX7_init_52 : decode cX7_init 52 = .ok (.aload_n 0, 1) := by decide +kernel
theorem dX7_init_53 : decode cX7_init 53 = .ok (.bipush 10, 2) := by decide +kernel
theorem dX7_init_55 : decode cX7_init 55 = .ok (.newarray .int, 2) := by decide +kernel
theorem dX7_init_57 : decode cX7_init 57 = .ok (.putfield 28, 3) := by decide +kernel
theorem dX7_init_60 : decode cX7_init 60 = .ok (.aload_n 0, 1) := by decide +kernel
theorem dX7_init_61 : decode cX7_init 61 = .ok (.bipush 96, 2) := by decide +kernel
theorem dX7_init_63 : decode cX7_init 63 = .ok (.newarray .int, 2) := by decide +kernel
theorem dX7_init_65 : decode cX7_init 65 = .ok (.putfield 31, 3) := by decide +kernel
theorem dX7_init_68 : decode cX7_init 68 = .ok (.aload_n 0, 1) := by decide +kernel
theorem dX7_init_69 : decode cX7_init 69 = .ok (.iconst 2, 1) := by decide +kernel
theorem dX7_init_70 : decode cX7_init 70 = .ok (.newarray .int, 2) := by decide +kernel
theorem dX7_init_72 : decode cX7_init 72 = .ok (.putfield 34, 3) := by decide +kernel
theorem dX7_init_75 : decode cX7_init 75 = .ok (.aload_n 0, 1) := by decide +kernel
theorem dX7_init_76 : decode cX7_init 76 = .ok (.iconst 2, 1) := by decide +kernel
theorem dX7_init_77 : decode cX7_init 77 = .ok (.newarray .int, 2) := by decide +kernel
theorem dX7_init_79 : decode cX7_init 79 = .ok (.putfield 37, 3) := by decide +kernel
theorem dX7_init_82 : decode cX7_init 82 = .ok (.aload_n 0, 1) := by decide +kernel
theorem dX7_init_83 : decode cX7_init 83 = .ok (.bipush 48, 2) := by decide +kernel
theorem dX7_init_85 : decode cX7_init 85 = .ok (.newarray .int, 2) := by decide +kernel
theorem dX7_init_87 : decode cX7_init 87 = .ok (.putfield 40, 3) := by decide +kernel
theorem dX7_init_90 : decode cX7_init 90 = .ok (.aload_n 0, 1) := by decide +kernel
theorem dX7_init_91 : decode cX7_init 91 = .ok (.bipush 24, 2) := by decide +kernel
theorem dX7_init_93 : decode cX7_init 93 = .ok (.newarray .int, 2) := by decide +kernel
theorem dX7_init_95 : decode cX7_init 95 = .ok (.putfield 43, 3) := by decide +kernel
theorem dX7_init_98 : decode cX7_init 98 = .ok (.iconst 0, 1) := by decide +kernel
theorem dX7_init_99 : decode cX7_init 99 = .ok (.istore_n 1, 1) := by decide +kernel
theorem dX7_init_100 : decode cX7_init 100 = .ok (.iload_n 1, 1) := by decide +kernel
theorem dX7_init_101 : decode cX7_init 101 = .ok (.iconst 4, 1) := by decide +kernel
theorem dX7_init_102 : decode cX7_init 102 = .ok (.if_icmp .ge 16, 3) := by decide +kernel
theorem dX7_init_105 : decode cX7_init 105 = .ok (.aload_n 0, 1) := by decide +kernel
theorem dX7_init_106 : decode cX7_init 106 = .ok (.getfield 16, 3) := by decide +kernel
theorem dX7_init_109 : decode cX7_init 109 = .ok (.iload_n 1, 1) := by decide +kernel
theorem dX7_init_110 : decode cX7_init 110 = .ok (.iconst (-1), 1) := by decide +kernel
theorem dX7_init_111 : decode cX7_init 111 = .ok (.iastore, 1) := by decide +kernel
theorem dX7_init_112 : decode cX7_init 112 = .ok (.iinc 1 1, 3) := by decide +kernel
theorem dX7_init_115 : decode cX7_init 115 = .ok (.goto (-15), 3) := by decide +kernel
theorem dX7_init_118 : decode cX7_init 118 = .ok (.return_, 1) := by decide +kernel
theorem dX7_in_0 : decode cX7_in 0 = .ok (.iload_n 0, 1) := by decide +kernel
theorem dX7_in_1 : decode cX7_in 1 = .ok (.iload_n 1, 1) := by decide +kernel
theorem dX7_in_2 : decode cX7_in 2 = .ok (.if_icmp .lt 12, 3) := by decide +kernel
theorem dX7_in_5 : decode cX7_in 5 = .ok (.iload_n 0, 1) := by decide +kernel
theorem dX7_in_6 : decode cX7_in 6 = .ok (.iload_n 2, 1) := by decide +kernel
theorem dX7_in_7 : decode cX7_in 7 = .ok (.if_icmp .gt 7, 3) := by decide +kernel
theorem dX7_in_10 : decode cX7_in 10 = .ok (.iconst 1, 1) := by decide +kernel
theorem dX7_in_11 : decode cX7_in 11 = .ok (.goto 4, 3) := by decide +kernel
theorem dX7_in_14 : decode cX7_in 14 = .ok (.iconst 0, 1) := by decide +kernel
theorem dX7_in_15 : decode cX7_in 15 = .ok (.ireturn, 1) := by decide +kernel
theorem dX7_found_0 : decode cX7_found 0 = .ok (.aload_n 0, 1) := by decide +kernel
theorem dX7_found_1 : decode cX7_found 1 = .ok (.iload_n 1, 1) := by decide +kernel
theorem dX7_found_2 : decode cX7_found 2 = .ok (.putfield 50, 3) := by decide +kernel
theorem dX7_found_5 : decode cX7_found 5 = .ok (.aload_n 0, 1) := by decide +kernel
theorem dX7_found_6 : decode cX7_found 6 = .ok (.getfield 7, 3) := by decide +kernel
theorem dX7_found_9 : decode cX7_found 9 = .ok (.iload_n 1, 1) := by decide +kernel
theorem dX7_found_10 : decode cX7_found 10 = .ok (.dup2, 1) := by decide +kernel
theorem dX7_found_11 : decode cX7_found 11 = .ok (.iaload, 1) := by decide +kernel
theorem dX7_found_12 : decode cX7_found 12 = .ok (.iconst 1, 1) := by decide +kernel
theorem dX7_found_13 : decode cX7_found 13 = .ok (.iadd, 1) := by decide +kernel
theorem dX7_found_14 : decode cX7_found 14 = .ok (.iastore, 1) := by decide +kernel
theorem dX7_found_15 : decode cX7_found 15 = .ok (.bipush (-3), 2) := by decide +kernel
theorem dX7_found_17 : decode cX7_found 17 = .ok (.ireturn, 1) := by decide +kernel
theorem dX7_tells_0 : decode cX7_tells 0 = .ok (.aload_n 0, 1) := by decide +kernel
theorem dX7_tells_1 : decode cX7_tells 1 = .ok (.iload_n 2, 1) := by decide +kernel
theorem dX7_tells_2 : decode cX7_tells 2 = .ok (.putfield 53, 3) := by decide +kernel
theorem dX7_tells_5 : decode cX7_tells 5 = .ok (.iload_n 1, 1) := by decide +kernel
theorem dX7_tells_6 : decode cX7_tells 6 = .ok (.ireturn, 1) := by decide +kernel
theorem dX7_isRow_0 : decode cX7_isRow 0 = .ok (.iload_n 0, 1) := by decide +kernel
theorem dX7_isRow_1 : decode cX7_isRow 1 = .ok (.iconst 0, 1) := by decide +kernel
theorem dX7_isRow_2 : decode cX7_isRow 2 = .ok (.iconst 3, 1) := by decide +kernel
theorem dX7_isRow_3 : decode cX7_isRow 3 = .ok (.invokestatic 56, 3) := by decide +kernel
theorem dX7_isRow_6 : decode cX7_isRow 6 = .ok (.ireturn, 1) := by decide +kernel
theorem dX7_row_0 : decode cX7_row 0 = .ok (.aload_n 0, 1) := by decide +kernel
theorem dX7_row_1 : decode cX7_row 1 = .ok (.iconst 0, 1) := by decide +kernel
theorem dX7_row_2 : decode cX7_row 2 = .ok (.putfield 46, 3) := by decide +kernel
theorem dX7_row_5 : decode cX7_row 5 = .ok (.iload_n 1, 1) := by decide +kernel
theorem dX7_row_6 : decode cX7_row 6 = .ok (.invokestatic 60, 3) := by decide +kernel
theorem dX7_row_9 : decode cX7_row 9 = .ok (.ifCond .eq 9, 3) := by decide +kernel
theorem dX7_row_12 : decode cX7_row 12 = .ok (.iload_n 2, 1) := by decide +kernel
theorem dX7_row_13 : decode cX7_row 13 = .ok (.bipush 48, 2) := by decide +kernel
theorem dX7_row_15 : decode cX7_row 15 = .ok (.if_icmp .le 5, 3) := by decide +kernel
theorem dX7_row_18 : decode cX7_row 18 = .ok (.iconst (-1), 1) := by decide +kernel
theorem dX7_row_19 : decode cX7_row 19 = .ok (.ireturn, 1) := by decide +kernel
theorem dX7_row_20 : decode cX7_row 20 = .ok (.iload_n 2, 1) := by decide +kernel
theorem dX7_row_21 : decode cX7_row 21 = .ok (.ifCond .ge 9, 3) := by decide +kernel
theorem dX7_row_24 : decode cX7_row 24 = .ok (.aload_n 0, 1) := by decide +kernel
theorem dX7_row_25 : decode cX7_row 25 = .ok (.iconst 3, 1) := by decide +kernel
theorem dX7_row_26 : decode cX7_row 26 = .ok (.invokevirtual 64, 3) := by decide +kernel
theorem dX7_row_29 : decode cX7_row 29 = .ok (.ireturn, 1) := by decide +kernel
theorem dX7_row_30 : decode cX7_row 30 = .ok (.aload_n 0, 1) := by decide +kernel
theorem dX7_row_31 : decode cX7_row 31 = .ok (.getfield 16, 3) := by decide +kernel
theorem dX7_row_34 : decode cX7_row 34 = .ok (.iload_n 1, 1) := by decide +kernel
theorem dX7_row_35 : decode cX7_row 35 = .ok (.iload_n 2, 1) := by decide +kernel
theorem dX7_row_36 : decode cX7_row 36 = .ok (.iastore, 1) := by decide +kernel
theorem dX7_row_37 : decode cX7_row 37 = .ok (.iconst 0, 1) := by decide +kernel
theorem dX7_row_38 : decode cX7_row 38 = .ok (.istore_n 3, 1) := by decide +kernel
theorem dX7_row_39 : decode cX7_row 39 = .ok (.iload_n 3, 1) := by decide +kernel
theorem dX7_row_40 : decode cX7_row 40 = .ok (.iload_n 2, 1) := by decide +kernel
theorem dX7_row_41 : decode cX7_row 41 = .ok (.if_icmp .ge 21, 3) := by decide +kernel
theorem dX7_row_44 : decode cX7_row 44 = .ok (.aload_n 0, 1) := by decide +kernel
theorem dX7_row_45 : decode cX7_row 45 = .ok (.getfield 13, 3) := by decide +kernel
theorem dX7_row_48 : decode cX7_row 48 = .ok (.bipush 48, 2) := by decide +kernel
theorem dX7_row_50 : decode cX7_row 50 = .ok (.iload_n 1, 1) := by decide +kernel
theorem dX7_row_51 : decode cX7_row 51 = .ok (.imul, 1) := by decide +kernel
theorem dX7_row_52 : decode cX7_row 52 = .ok (.iload_n 3, 1) := by decide +kernel
theorem dX7_row_53 : decode cX7_row 53 = .ok (.iadd, 1) := by decide +kernel
theorem dX7_row_54 : decode cX7_row 54 = .ok (.iconst 0, 1) := by decide +kernel
theorem dX7_row_55 : decode cX7_row 55 = .ok (.iastore, 1) := by decide +kernel
theorem dX7_row_56 : decode cX7_row 56 = .ok (.iinc 3 1, 3) := by decide +kernel
theorem dX7_row_59 : decode cX7_row 59 = .ok (.goto (-20), 3) := by decide +kernel
theorem dX7_row_62 : decode cX7_row 62 = .ok (.iload_n 2, 1) := by decide +kernel
theorem dX7_row_63 : decode cX7_row 63 = .ok (.ireturn, 1) := by decide +kernel
theorem dX7_against_0 : decode cX7_against 0 = .ok (.iload_n 1, 1) := by decide +kernel
theorem dX7_against_1 : decode cX7_against 1 = .ok (.invokestatic 60, 3) := by decide +kernel
theorem dX7_against_4 : decode cX7_against 4 = .ok (.ifCond .ne 7, 3) := by decide +kernel
theorem dX7_against_7 : decode cX7_against 7 = .ok (.iconst (-1), 1) := by decide +kernel
theorem dX7_against_8 : decode cX7_against 8 = .ok (.goto 45, 3) := by decide +kernel
theorem dX7_against_11 : decode cX7_against 11 = .ok (.aload_n 0, 1) := by decide +kernel
theorem dX7_against_12 : decode cX7_against 12 = .ok (.getfield 16, 3) := by decide +kernel
theorem dX7_against_15 : decode cX7_against 15 = .ok (.iload_n 1, 1) := by decide +kernel
theorem dX7_against_16 : decode cX7_against 16 = .ok (.iaload, 1) := by decide +kernel
theorem dX7_against_17 : decode cX7_against 17 = .ok (.ifCond .ge 11, 3) := by decide +kernel
theorem dX7_against_20 : decode cX7_against 20 = .ok (.aload_n 0, 1) := by decide +kernel
theorem dX7_against_21 : decode cX7_against 21 = .ok (.iconst 1, 1) := by decide +kernel
theorem dX7_against_22 : decode cX7_against 22 = .ok (.invokevirtual 64, 3) := by decide +kernel
theorem dX7_against_25 : decode cX7_against 25 = .ok (.goto 28, 3) := by decide +kernel
theorem dX7_against_28 : decode cX7_against 28 = .ok (.iload_n 2, 1) := by decide +kernel
theorem dX7_against_29 : decode cX7_against 29 = .ok (.iconst 0, 1) := by decide +kernel
theorem dX7_against_30 : decode cX7_against 30 = .ok (.aload_n 0, 1) := by decide +kernel
theorem dX7_against_31 : decode cX7_against 31 = .ok (.getfield 16, 3) := by decide +kernel
theorem dX7_against_34 : decode cX7_against 34 = .ok (.iload_n 1, 1) := by decide +kernel
theorem dX7_against_35 : decode cX7_against 35 = .ok (.iaload, 1) := by decide +kernel
theorem dX7_against_36 : decode cX7_against 36 = .ok (.iconst 1, 1) := by decide +kernel
theorem dX7_against_37 : decode cX7_against 37 = .ok (.isub, 1) := by decide +kernel
theorem dX7_against_38 : decode cX7_against 38 = .ok (.invokestatic 56, 3) := by decide +kernel
theorem dX7_against_41 : decode cX7_against 41 = .ok (.ifCond .ne 11, 3) := by decide +kernel
theorem dX7_against_44 : decode cX7_against 44 = .ok (.aload_n 0, 1) := by decide +kernel
theorem dX7_against_45 : decode cX7_against 45 = .ok (.iconst 2, 1) := by decide +kernel
theorem dX7_against_46 : decode cX7_against 46 = .ok (.invokevirtual 64, 3) := by decide +kernel
theorem dX7_against_49 : decode cX7_against 49 = .ok (.goto 4, 3) := by decide +kernel
theorem dX7_against_52 : decode cX7_against 52 = .ok (.iconst 0, 1) := by decide +kernel
theorem dX7_against_53 : decode cX7_against 53 = .ok (.ireturn, 1) := by decide +kernel
theorem dX7_lay_0 : decode cX7_lay 0 = .ok (.aload_n 0, 1) := by decide +kernel
theorem dX7_lay_1 : decode cX7_lay 1 = .ok (.iconst 0, 1) := by decide +kernel
theorem dX7_lay_2 : decode cX7_lay 2 = .ok (.putfield 46, 3) := by decide +kernel
theorem dX7_lay_5 : decode cX7_lay 5 = .ok (.aload_n 0, 1) := by decide +kernel
theorem dX7_lay_6 : decode cX7_lay 6 = .ok (.iload_n 1, 1) := by decide +kernel
theorem dX7_lay_7 : decode cX7_lay 7 = .ok (.iload_n 2, 1) := by decide +kernel
theorem dX7_lay_8 : decode cX7_lay 8 = .ok (.invokevirtual 68, 3) := by decide +kernel
theorem dX7_lay_11 : decode cX7_lay 11 = .ok (.istore 4, 2) := by decide +kernel
theorem dX7_lay_13 : decode cX7_lay 13 = .ok (.iload 4, 2) := by decide +kernel
theorem dX7_lay_15 : decode cX7_lay 15 = .ok (.ifCond .eq 6, 3) := by decide +kernel
theorem dX7_lay_18 : decode cX7_lay 18 = .ok (.iload 4, 2) := by decide +kernel
theorem dX7_lay_20 : decode cX7_lay 20 = .ok (.ireturn, 1) := by decide +kernel
theorem dX7_lay_21 : decode cX7_lay 21 = .ok (.aload_n 0, 1) := by decide +kernel
theorem dX7_lay_22 : decode cX7_lay 22 = .ok (.getfield 13, 3) := by decide +kernel
theorem dX7_lay_25 : decode cX7_lay 25 = .ok (.bipush 48, 2) := by decide +kernel
theorem dX7_lay_27 : decode cX7_lay 27 = .ok (.iload_n 1, 1) := by decide +kernel
theorem dX7_lay_28 : decode cX7_lay 28 = .ok (.imul, 1) := by decide +kernel
theorem dX7_lay_29 : decode cX7_lay 29 = .ok (.iload_n 2, 1) := by decide +kernel
theorem dX7_lay_30 : decode cX7_lay 30 = .ok (.iadd, 1) := by decide +kernel
theorem dX7_lay_31 : decode cX7_lay 31 = .ok (.iaload, 1) := by decide +kernel
theorem dX7_lay_32 : decode cX7_lay 32 = .ok (.istore 5, 2) := by decide +kernel
theorem dX7_lay_34 : decode cX7_lay 34 = .ok (.aload_n 0, 1) := by decide +kernel
theorem dX7_lay_35 : decode cX7_lay 35 = .ok (.getfield 13, 3) := by decide +kernel
theorem dX7_lay_38 : decode cX7_lay 38 = .ok (.bipush 48, 2) := by decide +kernel
theorem dX7_lay_40 : decode cX7_lay 40 = .ok (.iload_n 1, 1) := by decide +kernel
theorem dX7_lay_41 : decode cX7_lay 41 = .ok (.imul, 1) := by decide +kernel
theorem dX7_lay_42 : decode cX7_lay 42 = .ok (.iload_n 2, 1) := by decide +kernel
theorem dX7_lay_43 : decode cX7_lay 43 = .ok (.iadd, 1) := by decide +kernel
theorem dX7_lay_44 : decode cX7_lay 44 = .ok (.iload_n 3, 1) := by decide +kernel
theorem dX7_lay_45 : decode cX7_lay 45 = .ok (.iastore, 1) := by decide +kernel
theorem dX7_lay_46 : decode cX7_lay 46 = .ok (.aload_n 0, 1) := by decide +kernel
theorem dX7_lay_47 : decode cX7_lay 47 = .ok (.iconst 1, 1) := by decide +kernel
theorem dX7_lay_48 : decode cX7_lay 48 = .ok (.iload 5, 2) := by decide +kernel
theorem dX7_lay_50 : decode cX7_lay 50 = .ok (.invokevirtual 72, 3) := by decide +kernel
theorem dX7_lay_53 : decode cX7_lay 53 = .ok (.ireturn, 1) := by decide +kernel
theorem dX7_at_0 : decode cX7_at 0 = .ok (.aload_n 0, 1) := by decide +kernel
theorem dX7_at_1 : decode cX7_at 1 = .ok (.iconst 0, 1) := by decide +kernel
theorem dX7_at_2 : decode cX7_at 2 = .ok (.putfield 46, 3) := by decide +kernel
theorem dX7_at_5 : decode cX7_at 5 = .ok (.aload_n 0, 1) := by decide +kernel
theorem dX7_at_6 : decode cX7_at 6 = .ok (.iload_n 1, 1) := by decide +kernel
theorem dX7_at_7 : decode cX7_at 7 = .ok (.iload_n 2, 1) := by decide +kernel
theorem dX7_at_8 : decode cX7_at 8 = .ok (.invokevirtual 68, 3) := by decide +kernel
theorem dX7_at_11 : decode cX7_at 11 = .ok (.istore_n 3, 1) := by decide +kernel
theorem dX7_at_12 : decode cX7_at 12 = .ok (.iload_n 3, 1) := by decide +kernel
theorem dX7_at_13 : decode cX7_at 13 = .ok (.ifCond .eq 7, 3) := by decide +kernel
theorem dX7_at_16 : decode cX7_at 16 = .ok (.iload_n 3, 1) := by decide +kernel
theorem dX7_at_17 : decode cX7_at 17 = .ok (.goto 19, 3) := by decide +kernel
theorem dX7_at_20 : decode cX7_at 20 = .ok (.aload_n 0, 1) := by decide +kernel
theorem dX7_at_21 : decode cX7_at 21 = .ok (.iconst 1, 1) := by decide +kernel
theorem dX7_at_22 : decode cX7_at 22 = .ok (.aload_n 0, 1) := by decide +kernel
theorem dX7_at_23 : decode cX7_at 23 = .ok (.getfield 13, 3) := by decide +kernel
theorem dX7_at_26 : decode cX7_at 26 = .ok (.bipush 48, 2) := by decide +kernel
theorem dX7_at_28 : decode cX7_at 28 = .ok (.iload_n 1, 1) := by decide +kernel
theorem dX7_at_29 : decode cX7_at 29 = .ok (.imul, 1) := by decide +kernel
theorem dX7_at_30 : decode cX7_at 30 = .ok (.iload_n 2, 1) := by decide +kernel
theorem dX7_at_31 : decode cX7_at 31 = .ok (.iadd, 1) := by decide +kernel
theorem dX7_at_32 : decode cX7_at 32 = .ok (.iaload, 1) := by decide +kernel
theorem dX7_at_33 : decode cX7_at 33 = .ok (.invokevirtual 72, 3) := by decide +kernel
theorem dX7_at_36 : decode cX7_at 36 = .ok (.ireturn, 1) := by decide +kernel
theorem dX7_tear_0 : decode cX7_tear 0 = .ok (.aload_n 0, 1) := by decide +kernel
theorem dX7_tear_1 : decode cX7_tear 1 = .ok (.iconst 0, 1) := by decide +kernel
theorem dX7_tear_2 : decode cX7_tear 2 = .ok (.putfield 46, 3) := by decide +kernel
theorem dX7_tear_5 : decode cX7_tear 5 = .ok (.iload_n 1, 1) := by decide +kernel
theorem dX7_tear_6 : decode cX7_tear 6 = .ok (.invokestatic 60, 3) := by decide +kernel
theorem dX7_tear_9 : decode cX7_tear 9 = .ok (.ifCond .ne 5, 3) := by decide +kernel
theorem dX7_tear_12 : decode cX7_tear 12 = .ok (.iconst (-1), 1) := by decide +kernel
theorem dX7_tear_13 : decode cX7_tear 13 = .ok (.ireturn, 1) := by decide +kernel
theorem dX7_tear_14 : decode cX7_tear 14 = .ok (.aload_n 0, 1) := by decide +kernel
theorem dX7_tear_15 : decode cX7_tear 15 = .ok (.getfield 16, 3) := by decide +kernel
theorem dX7_tear_18 : decode cX7_tear 18 = .ok (.iload_n 1, 1) := by decide +kernel
theorem dX7_tear_19 : decode cX7_tear 19 = .ok (.iaload, 1) := by decide +kernel
theorem dX7_tear_20 : decode cX7_tear 20 = .ok (.ifCond .ge 9, 3) := by decide +kernel
theorem dX7_tear_23 : decode cX7_tear 23 = .ok (.aload_n 0, 1) := by decide +kernel
theorem dX7_tear_24 : decode cX7_tear 24 = .ok (.iconst 1, 1) := by decide +kernel
theorem dX7_tear_25 : decode cX7_tear 25 = .ok (.invokevirtual 64, 3) := by decide +kernel
theorem dX7_tear_28 : decode cX7_tear 28 = .ok (.ireturn, 1) := by decide +kernel
theorem dX7_tear_29 : decode cX7_tear 29 = .ok (.aload_n 0, 1) := by decide +kernel
theorem dX7_tear_30 : decode cX7_tear 30 = .ok (.getfield 16, 3) := by decide +kernel
theorem dX7_tear_33 : decode cX7_tear 33 = .ok (.iload_n 1, 1) := by decide +kernel
theorem dX7_tear_34 : decode cX7_tear 34 = .ok (.iaload, 1) := by decide +kernel
theorem dX7_tear_35 : decode cX7_tear 35 = .ok (.istore_n 2, 1) := by decide +kernel
theorem dX7_tear_36 : decode cX7_tear 36 = .ok (.aload_n 0, 1) := by decide +kernel
theorem dX7_tear_37 : decode cX7_tear 37 = .ok (.getfield 16, 3) := by decide +kernel
theorem dX7_tear_40 : decode cX7_tear 40 = .ok (.iload_n 1, 1) := by decide +kernel
theorem dX7_tear_41 : decode cX7_tear 41 = .ok (.iconst (-1), 1) := by decide +kernel
theorem dX7_tear_42 : decode cX7_tear 42 = .ok (.iastore, 1) := by decide +kernel
theorem dX7_tear_43 : decode cX7_tear 43 = .ok (.iload_n 2, 1) := by decide +kernel
theorem dX7_tear_44 : decode cX7_tear 44 = .ok (.ireturn, 1) := by decide +kernel
theorem dX7_isPart_0 : decode cX7_isPart 0 = .ok (.iload_n 3, 1) := by decide +kernel
theorem dX7_isPart_1 : decode cX7_isPart 1 = .ok (.ifCond .lt 33, 3) := by decide +kernel
theorem dX7_isPart_4 : decode cX7_isPart 4 = .ok (.iload_n 2, 1) := by decide +kernel
theorem dX7_isPart_5 : decode cX7_isPart 5 = .ok (.iconst 0, 1) := by decide +kernel
theorem dX7_isPart_6 : decode cX7_isPart 6 = .ok (.aload_n 0, 1) := by decide +kernel
theorem dX7_isPart_7 : decode cX7_isPart 7 = .ok (.getfield 16, 3) := by decide +kernel
theorem dX7_isPart_10 : decode cX7_isPart 10 = .ok (.iload_n 1, 1) := by decide +kernel
theorem dX7_isPart_11 : decode cX7_isPart 11 = .ok (.iaload, 1) := by decide +kernel
theorem dX7_isPart_12 : decode cX7_isPart 12 = .ok (.invokestatic 56, 3) := by decide +kernel
theorem dX7_isPart_15 : decode cX7_isPart 15 = .ok (.ifCond .eq 19, 3) := by decide +kernel
theorem dX7_isPart_18 : decode cX7_isPart 18 = .ok (.iload_n 3, 1) := by decide +kernel
theorem dX7_isPart_19 : decode cX7_isPart 19 = .ok (.aload_n 0, 1) := by decide +kernel
theorem dX7_isPart_20 : decode cX7_isPart 20 = .ok (.getfield 16, 3) := by decide +kernel
theorem dX7_isPart_23 : decode cX7_isPart 23 = .ok (.iload_n 1, 1) := by decide +kernel
theorem dX7_isPart_24 : decode cX7_isPart 24 = .ok (.iaload, 1) := by decide +kernel
theorem dX7_isPart_25 : decode cX7_isPart 25 = .ok (.iload_n 2, 1) := by decide +kernel
theorem dX7_isPart_26 : decode cX7_isPart 26 = .ok (.isub, 1) := by decide +kernel
theorem dX7_isPart_27 : decode cX7_isPart 27 = .ok (.if_icmp .gt 7, 3) := by decide +kernel
theorem dX7_isPart_30 : decode cX7_isPart 30 = .ok (.iconst 1, 1) := by decide +kernel
theorem dX7_isPart_31 : decode cX7_isPart 31 = .ok (.goto 4, 3) := by decide +kernel
theorem dX7_isPart_34 : decode cX7_isPart 34 = .ok (.iconst 0, 1) := by decide +kernel
theorem dX7_isPart_35 : decode cX7_isPart 35 = .ok (.ireturn, 1) := by decide +kernel
theorem dX7_copy_0 : decode cX7_copy 0 = .ok (.aload_n 0, 1) := by decide +kernel
theorem dX7_copy_1 : decode cX7_copy 1 = .ok (.iconst 0, 1) := by decide +kernel
theorem dX7_copy_2 : decode cX7_copy 2 = .ok (.putfield 46, 3) := by decide +kernel
theorem dX7_copy_5 : decode cX7_copy 5 = .ok (.iload_n 1, 1) := by decide +kernel
theorem dX7_copy_6 : decode cX7_copy 6 = .ok (.invokestatic 60, 3) := by decide +kernel
theorem dX7_copy_9 : decode cX7_copy 9 = .ok (.ifCond .eq 10, 3) := by decide +kernel
theorem dX7_copy_12 : decode cX7_copy 12 = .ok (.iload_n 3, 1) := by decide +kernel
theorem dX7_copy_13 : decode cX7_copy 13 = .ok (.invokestatic 60, 3) := by decide +kernel
theorem dX7_copy_16 : decode cX7_copy 16 = .ok (.ifCond .ne 5, 3) := by decide +kernel
theorem dX7_copy_19 : decode cX7_copy 19 = .ok (.iconst (-1), 1) := by decide +kernel
theorem dX7_copy_20 : decode cX7_copy 20 = .ok (.ireturn, 1) := by decide +kernel
theorem dX7_copy_21 : decode cX7_copy 21 = .ok (.aload_n 0, 1) := by decide +kernel
theorem dX7_copy_22 : decode cX7_copy 22 = .ok (.getfield 16, 3) := by decide +kernel
theorem dX7_copy_25 : decode cX7_copy 25 = .ok (.iload_n 1, 1) := by decide +kernel
theorem dX7_copy_26 : decode cX7_copy 26 = .ok (.iaload, 1) := by decide +kernel
theorem dX7_copy_27 : decode cX7_copy 27 = .ok (.ifCond .lt 12, 3) := by decide +kernel
theorem dX7_copy_30 : decode cX7_copy 30 = .ok (.aload_n 0, 1) := by decide +kernel
theorem dX7_copy_31 : decode cX7_copy 31 = .ok (.getfield 16, 3) := by decide +kernel
theorem dX7_copy_34 : decode cX7_copy 34 = .ok (.iload_n 3, 1) := by decide +kernel
theorem dX7_copy_35 : decode cX7_copy 35 = .ok (.iaload, 1) := by decide +kernel
theorem dX7_copy_36 : decode cX7_copy 36 = .ok (.ifCond .ge 9, 3) := by decide +kernel
theorem dX7_copy_39 : decode cX7_copy 39 = .ok (.aload_n 0, 1) := by decide +kernel
theorem dX7_copy_40 : decode cX7_copy 40 = .ok (.iconst 1, 1) := by decide +kernel
theorem dX7_copy_41 : decode cX7_copy 41 = .ok (.invokevirtual 64, 3) := by decide +kernel
theorem dX7_copy_44 : decode cX7_copy 44 = .ok (.ireturn, 1) := by decide +kernel
theorem dX7_copy_45 : decode cX7_copy 45 = .ok (.aload_n 0, 1) := by decide +kernel
theorem dX7_copy_46 : decode cX7_copy 46 = .ok (.iload_n 1, 1) := by decide +kernel
theorem dX7_copy_47 : decode cX7_copy 47 = .ok (.iload_n 2, 1) := by decide +kernel
theorem dX7_copy_48 : decode cX7_copy 48 = .ok (.iload 5, 2) := by decide +kernel
theorem dX7_copy_50 : decode cX7_copy 50 = .ok (.invokevirtual 75, 3) := by decide +kernel
theorem dX7_copy_53 : decode cX7_copy 53 = .ok (.ifCond .eq 15, 3) := by decide +kernel
theorem dX7_copy_56 : decode cX7_copy 56 = .ok (.aload_n 0, 1) := by decide +kernel
theorem dX7_copy_57 : decode cX7_copy 57 = .ok (.iload_n 3, 1) := by decide +kernel
theorem dX7_copy_58 : decode cX7_copy 58 = .ok (.iload 4, 2) := by decide +kernel
theorem dX7_copy_60 : decode cX7_copy 60 = .ok (.iload 5, 2) := by decide +kernel
theorem dX7_copy_62 : decode cX7_copy 62 = .ok (.invokevirtual 75, 3) := by decide +kernel
theorem dX7_copy_65 : decode cX7_copy 65 = .ok (.ifCond .ne 9, 3) := by decide +kernel
theorem dX7_copy_68 : decode cX7_copy 68 = .ok (.aload_n 0, 1) := by decide +kernel
theorem dX7_copy_69 : decode cX7_copy 69 = .ok (.iconst 2, 1) := by decide +kernel
theorem dX7_copy_70 : decode cX7_copy 70 = .ok (.invokevirtual 64, 3) := by decide +kernel
theorem dX7_copy_73 : decode cX7_copy 73 = .ok (.ireturn, 1) := by decide +kernel
theorem dX7_copy_74 : decode cX7_copy 74 = .ok (.bipush 48, 2) := by decide +kernel
theorem dX7_copy_76 : decode cX7_copy 76 = .ok (.iload_n 1, 1) := by decide +kernel
theorem dX7_copy_77 : decode cX7_copy 77 = .ok (.imul, 1) := by decide +kernel
theorem dX7_copy_78 : decode cX7_copy 78 = .ok (.iload_n 2, 1) := by decide +kernel
theorem dX7_copy_79 : decode cX7_copy 79 = .ok (.iadd, 1) := by decide +kernel
theorem dX7_copy_80 : decode cX7_copy 80 = .ok (.istore 6, 2) := by decide +kernel
theorem dX7_copy_82 : decode cX7_copy 82 = .ok (.bipush 48, 2) := by decide +kernel
theorem dX7_copy_84 : decode cX7_copy 84 = .ok (.iload_n 3, 1) := by decide +kernel
theorem dX7_copy_85 : decode cX7_copy 85 = .ok (.imul, 1) := by decide +kernel
theorem dX7_copy_86 : decode cX7_copy 86 = .ok (.iload 4, 2) := by decide +kernel
theorem dX7_copy_88 : decode cX7_copy 88 = .ok (.iadd, 1) := by decide +kernel
theorem dX7_copy_89 : decode cX7_copy 89 = .ok (.istore 7, 2) := by decide +kernel
theorem dX7_copy_91 : decode cX7_copy 91 = .ok (.iconst 0, 1) := by decide +kernel
theorem dX7_copy_92 : decode cX7_copy 92 = .ok (.istore 8, 2) := by decide +kernel
theorem dX7_copy_94 : decode cX7_copy 94 = .ok (.iload 8, 2) := by decide +kernel
theorem dX7_copy_96 : decode cX7_copy 96 = .ok (.iload 5, 2) := by decide +kernel
theorem dX7_copy_98 : decode cX7_copy 98 = .ok (.if_icmp .ge 50, 3) := by decide +kernel
theorem dX7_copy_101 : decode cX7_copy 101 = .ok (.iload 7, 2) := by decide +kernel
theorem dX7_copy_103 : decode cX7_copy 103 = .ok (.iload 6, 2) := by decide +kernel
theorem dX7_copy_105 : decode cX7_copy 105 = .ok (.if_icmp .le 13, 3) := by decide +kernel
theorem dX7_copy_108 : decode cX7_copy 108 = .ok (.iload 5, 2) := by decide +kernel
theorem dX7_copy_110 : decode cX7_copy 110 = .ok (.iconst 1, 1) := by decide +kernel
theorem dX7_copy_111 : decode cX7_copy 111 = .ok (.isub, 1) := by decide +kernel
theorem dX7_copy_112 : decode cX7_copy 112 = .ok (.iload 8, 2) := by decide +kernel
theorem dX7_copy_114 : decode cX7_copy 114 = .ok (.isub, 1) := by decide +kernel
theorem dX7_copy_115 : decode cX7_copy 115 = .ok (.goto 5, 3) := by decide +kernel
theorem dX7_copy_118 : decode cX7_copy 118 = .ok (.iload 8, 2) := by decide +kernel
theorem dX7_copy_120 : decode cX7_copy 120 = .ok (.istore 9, 2) := by decide +kernel
theorem dX7_copy_122 : decode cX7_copy 122 = .ok (.aload_n 0, 1) := by decide +kernel
theorem dX7_copy_123 : decode cX7_copy 123 = .ok (.getfield 13, 3) := by decide +kernel
theorem dX7_copy_126 : decode cX7_copy 126 = .ok (.iload 7, 2) := by decide +kernel
theorem dX7_copy_128 : decode cX7_copy 128 = .ok (.iload 9, 2) := by decide +kernel
theorem dX7_copy_130 : decode cX7_copy 130 = .ok (.iadd, 1) := by decide +kernel
theorem dX7_copy_131 : decode cX7_copy 131 = .ok (.aload_n 0, 1) := by decide +kernel
theorem dX7_copy_132 : decode cX7_copy 132 = .ok (.getfield 13, 3) := by decide +kernel
theorem dX7_copy_135 : decode cX7_copy 135 = .ok (.iload 6, 2) := by decide +kernel
theorem dX7_copy_137 : decode cX7_copy 137 = .ok (.iload 9, 2) := by decide +kernel
theorem dX7_copy_139 : decode cX7_copy 139 = .ok (.iadd, 1) := by decide +kernel
theorem dX7_copy_140 : decode cX7_copy 140 = .ok (.iaload, 1) := by decide +kernel
theorem dX7_copy_141 : decode cX7_copy 141 = .ok (.iastore, 1) := by decide +kernel
theorem dX7_copy_142 : decode cX7_copy 142 = .ok (.iinc 8 1, 3) := by decide +kernel
theorem dX7_copy_145 : decode cX7_copy 145 = .ok (.goto (-51), 3) := by decide +kernel
theorem dX7_copy_148 : decode cX7_copy 148 = .ok (.iload 5, 2) := by decide +kernel
theorem dX7_copy_150 : decode cX7_copy 150 = .ok (.ireturn, 1) := by decide +kernel
theorem dX7_blocks_0 : decode cX7_blocks 0 = .ok (.aload_n 0, 1) := by decide +kernel
theorem dX7_blocks_1 : decode cX7_blocks 1 = .ok (.getfield 78, 3) := by decide +kernel
theorem dX7_blocks_4 : decode cX7_blocks 4 = .ok (.ifCond .ne 7, 3) := by decide +kernel
theorem dX7_blocks_7 : decode cX7_blocks 7 = .ok (.iconst 0, 1) := by decide +kernel
theorem dX7_blocks_8 : decode cX7_blocks 8 = .ok (.goto 19, 3) := by decide +kernel
theorem dX7_blocks_11 : decode cX7_blocks 11 = .ok (.aload_n 0, 1) := by decide +kernel
theorem dX7_blocks_12 : decode cX7_blocks 12 = .ok (.getfield 81, 3) := by decide +kernel
theorem dX7_blocks_15 : decode cX7_blocks 15 = .ok (.aload_n 0, 1) := by decide +kernel
theorem dX7_blocks_16 : decode cX7_blocks 16 = .ok (.getfield 78, 3) := by decide +kernel
theorem dX7_blocks_19 : decode cX7_blocks 19 = .ok (.iadd, 1) := by decide +kernel
theorem dX7_blocks_20 : decode cX7_blocks 20 = .ok (.iconst 1, 1) := by decide +kernel
theorem dX7_blocks_21 : decode cX7_blocks 21 = .ok (.isub, 1) := by decide +kernel
theorem dX7_blocks_22 : decode cX7_blocks 22 = .ok (.aload_n 0, 1) := by decide +kernel
theorem dX7_blocks_23 : decode cX7_blocks 23 = .ok (.getfield 78, 3) := by decide +kernel
theorem dX7_blocks_26 : decode cX7_blocks 26 = .ok (.idiv, 1) := by decide +kernel
theorem dX7_blocks_27 : decode cX7_blocks 27 = .ok (.ireturn, 1) := by decide +kernel
theorem dX7_shapeOf_0 : decode cX7_shapeOf 0 = .ok (.iconst 1, 1) := by decide +kernel
theorem dX7_shapeOf_1 : decode cX7_shapeOf 1 = .ok (.istore_n 3, 1) := by decide +kernel
theorem dX7_shapeOf_2 : decode cX7_shapeOf 2 = .ok (.aload_n 0, 1) := by decide +kernel
theorem dX7_shapeOf_3 : decode cX7_shapeOf 3 = .ok (.iconst 0, 1) := by decide +kernel
theorem dX7_shapeOf_4 : decode cX7_shapeOf 4 = .ok (.putfield 84, 3) := by decide +kernel
theorem dX7_shapeOf_7 : decode cX7_shapeOf 7 = .ok (.iload_n 1, 1) := by decide +kernel
theorem dX7_shapeOf_8 : decode cX7_shapeOf 8 = .ok (.istore 4, 2) := by decide +kernel
theorem dX7_shapeOf_10 : decode cX7_shapeOf 10 = .ok (.iload 4, 2) := by decide +kernel
theorem dX7_shapeOf_12 : decode cX7_shapeOf 12 = .ok (.iload_n 2, 1) := by decide +kernel
theorem dX7_shapeOf_13 : decode cX7_shapeOf 13 = .ok (.if_icmp .ge 86, 3) := by decide +kernel
theorem dX7_shapeOf_16 : decode cX7_shapeOf 16 = .ok (.aload_n 0, 1) := by decide +kernel
theorem dX7_shapeOf_17 : decode cX7_shapeOf 17 = .ok (.getfield 84, 3) := by decide +kernel
theorem dX7_shapeOf_20 : decode cX7_shapeOf 20 = .ok (.ifCond .le 41, 3) := by decide +kernel
theorem dX7_shapeOf_23 : decode cX7_shapeOf 23 = .ok (.aload_n 0, 1) := by decide +kernel
theorem dX7_shapeOf_24 : decode cX7_shapeOf 24 = .ok (.getfield 40, 3) := by decide +kernel
theorem dX7_shapeOf_27 : decode cX7_shapeOf 27 = .ok (.aload_n 0, 1) := by decide +kernel
theorem dX7_shapeOf_28 : decode cX7_shapeOf 28 = .ok (.getfield 84, 3) := by decide +kernel
theorem dX7_shapeOf_31 : decode cX7_shapeOf 31 = .ok (.iconst 1, 1) := by decide +kernel
theorem dX7_shapeOf_32 : decode cX7_shapeOf 32 = .ok (.isub, 1) := by decide +kernel
theorem dX7_shapeOf_33 : decode cX7_shapeOf 33 = .ok (.iaload, 1) := by decide +kernel
theorem dX7_shapeOf_34 : decode cX7_shapeOf 34 = .ok (.aload_n 0, 1) := by decide +kernel
theorem dX7_shapeOf_35 : decode cX7_shapeOf 35 = .ok (.getfield 19, 3) := by decide +kernel
theorem dX7_shapeOf_38 : decode cX7_shapeOf 38 = .ok (.iload 4, 2) := by decide +kernel
theorem dX7_shapeOf_40 : decode cX7_shapeOf 40 = .ok (.iaload, 1) := by decide +kernel
theorem dX7_shapeOf_41 : decode cX7_shapeOf 41 = .ok (.if_icmp .le 20, 3) := by decide +kernel
theorem dX7_shapeOf_44 : decode cX7_shapeOf 44 = .ok (.aload_n 0, 1) := by decide +kernel
theorem dX7_shapeOf_45 : decode cX7_shapeOf 45 = .ok (.dup, 1) := by decide +kernel
theorem dX7_shapeOf_46 : decode cX7_shapeOf 46 = .ok (.getfield 84, 3) := by decide +kernel
theorem dX7_shapeOf_49 : decode cX7_shapeOf 49 = .ok (.iconst 1, 1) := by decide +kernel
theorem dX7_shapeOf_50 : decode cX7_shapeOf 50 = .ok (.isub, 1) := by decide +kernel
theorem dX7_shapeOf_51 : decode cX7_shapeOf 51 = .ok (.putfield 84, 3) := by decide +kernel
theorem dX7_shapeOf_54 : decode cX7_shapeOf 54 = .ok (.iload_n 3, 1) := by decide +kernel
theorem dX7_shapeOf_55 : decode cX7_shapeOf 55 = .ok (.iconst 2, 1) := by decide +kernel
theorem dX7_shapeOf_56 : decode cX7_shapeOf 56 = .ok (.imul, 1) := by decide +kernel
theorem dX7_shapeOf_57 : decode cX7_shapeOf 57 = .ok (.istore_n 3, 1) := by decide +kernel
theorem dX7_shapeOf_58 : decode cX7_shapeOf 58 = .ok (.goto (-42), 3) := by decide +kernel
theorem dX7_shapeOf_61 : decode cX7_shapeOf 61 = .ok (.aload_n 0, 1) := by decide +kernel
theorem dX7_shapeOf_62 : decode cX7_shapeOf 62 = .ok (.getfield 40, 3) := by decide +kernel
theorem dX7_shapeOf_65 : decode cX7_shapeOf 65 = .ok (.aload_n 0, 1) := by decide +kernel
theorem dX7_shapeOf_66 : decode cX7_shapeOf 66 = .ok (.getfield 84, 3) := by decide +kernel
theorem dX7_shapeOf_69 : decode cX7_shapeOf 69 = .ok (.aload_n 0, 1) := by decide +kernel
theorem dX7_shapeOf_70 : decode cX7_shapeOf 70 = .ok (.getfield 19, 3) := by decide +kernel
theorem dX7_shapeOf_73 : decode cX7_shapeOf 73 = .ok (.iload 4, 2) := by decide +kernel
theorem dX7_shapeOf_75 : decode cX7_shapeOf 75 = .ok (.iaload, 1) := by decide +kernel
theorem dX7_shapeOf_76 : decode cX7_shapeOf 76 = .ok (.iastore, 1) := by decide +kernel
theorem dX7_shapeOf_77 : decode cX7_shapeOf 77 = .ok (.aload_n 0, 1) := by decide +kernel
theorem dX7_shapeOf_78 : decode cX7_shapeOf 78 = .ok (.dup, 1) := by decide +kernel
theorem dX7_shapeOf_79 : decode cX7_shapeOf 79 = .ok (.getfield 84, 3) := by decide +kernel
theorem dX7_shapeOf_82 : decode cX7_shapeOf 82 = .ok (.iconst 1, 1) := by decide +kernel
theorem dX7_shapeOf_83 : decode cX7_shapeOf 83 = .ok (.iadd, 1) := by decide +kernel
theorem dX7_shapeOf_84 : decode cX7_shapeOf 84 = .ok (.putfield 84, 3) := by decide +kernel
theorem dX7_shapeOf_87 : decode cX7_shapeOf 87 = .ok (.iconst 2, 1) := by decide +kernel
theorem dX7_shapeOf_88 : decode cX7_shapeOf 88 = .ok (.iload_n 3, 1) := by decide +kernel
theorem dX7_shapeOf_89 : decode cX7_shapeOf 89 = .ok (.imul, 1) := by decide +kernel
theorem dX7_shapeOf_90 : decode cX7_shapeOf 90 = .ok (.iconst 1, 1) := by decide +kernel
theorem dX7_shapeOf_91 : decode cX7_shapeOf 91 = .ok (.iadd, 1) := by decide +kernel
theorem dX7_shapeOf_92 : decode cX7_shapeOf 92 = .ok (.istore_n 3, 1) := by decide +kernel
theorem dX7_shapeOf_93 : decode cX7_shapeOf 93 = .ok (.iinc 4 1, 3) := by decide +kernel
theorem dX7_shapeOf_96 : decode cX7_shapeOf 96 = .ok (.goto (-86), 3) := by decide +kernel
theorem dX7_shapeOf_99 : decode cX7_shapeOf 99 = .ok (.iload_n 3, 1) := by decide +kernel
theorem dX7_shapeOf_100 : decode cX7_shapeOf 100 = .ok (.ireturn, 1) := by decide +kernel
theorem dX7_shapeOfBlock_0 : decode cX7_shapeOfBlock 0 = .ok (.iload_n 1, 1) := by decide +kernel
theorem dX7_shapeOfBlock_1 : decode cX7_shapeOfBlock 1 = .ok (.aload_n 0, 1) := by decide +kernel
theorem dX7_shapeOfBlock_2 : decode cX7_shapeOfBlock 2 = .ok (.getfield 78, 3) := by decide +kernel
theorem dX7_shapeOfBlock_5 : decode cX7_shapeOfBlock 5 = .ok (.imul, 1) := by decide +kernel
theorem dX7_shapeOfBlock_6 : decode cX7_shapeOfBlock 6 = .ok (.istore_n 2, 1) := by decide +kernel
theorem dX7_shapeOfBlock_7 : decode cX7_shapeOfBlock 7 = .ok (.iload_n 2, 1) := by decide +kernel
theorem dX7_shapeOfBlock_8 : decode cX7_shapeOfBlock 8 = .ok (.aload_n 0, 1) := by decide +kernel
theorem dX7_shapeOfBlock_9 : decode cX7_shapeOfBlock 9 = .ok (.getfield 78, 3) := by decide +kernel
theorem dX7_shapeOfBlock_12 : decode cX7_shapeOfBlock 12 = .ok (.iadd, 1) := by decide +kernel
theorem dX7_shapeOfBlock_13 : decode cX7_shapeOfBlock 13 = .ok (.aload_n 0, 1) := by decide +kernel
theorem dX7_shapeOfBlock_14 : decode cX7_shapeOfBlock 14 = .ok (.getfield 81, 3) := by decide +kernel
theorem dX7_shapeOfBlock_17 : decode cX7_shapeOfBlock 17 = .ok (.if_icmp .ge 12, 3) := by decide +kernel
theorem dX7_shapeOfBlock_20 : decode cX7_shapeOfBlock 20 = .ok (.iload_n 2, 1) := by decide +kernel
theorem dX7_shapeOfBlock_21 : decode cX7_shapeOfBlock 21 = .ok (.aload_n 0, 1) := by decide +kernel
theorem dX7_shapeOfBlock_22 : decode cX7_shapeOfBlock 22 = .ok (.getfield 78, 3) := by decide +kernel
theorem dX7_shapeOfBlock_25 : decode cX7_shapeOfBlock 25 = .ok (.iadd, 1) := by decide +kernel
theorem dX7_shapeOfBlock_26 : decode cX7_shapeOfBlock 26 = .ok (.goto 7, 3) := by decide +kernel
theorem dX7_shapeOfBlock_29 : decode cX7_shapeOfBlock 29 = .ok (.aload_n 0, 1) := by decide +kernel
theorem dX7_shapeOfBlock_30 : decode cX7_shapeOfBlock 30 = .ok (.getfield 81, 3) := by decide +kernel
theorem dX7_shapeOfBlock_33 : decode cX7_shapeOfBlock 33 = .ok (.istore_n 3, 1) := by decide +kernel
theorem dX7_shapeOfBlock_34 : decode cX7_shapeOfBlock 34 = .ok (.aload_n 0, 1) := by decide +kernel
theorem dX7_shapeOfBlock_35 : decode cX7_shapeOfBlock 35 = .ok (.iload_n 2, 1) := by decide +kernel
theorem dX7_shapeOfBlock_36 : decode cX7_shapeOfBlock 36 = .ok (.iload_n 3, 1) := by decide +kernel
theorem dX7_shapeOfBlock_37 : decode cX7_shapeOfBlock 37 = .ok (.invokevirtual 87, 3) := by decide +kernel
theorem dX7_shapeOfBlock_40 : decode cX7_shapeOfBlock 40 = .ok (.ireturn, 1) := by decide +kernel
theorem dX7_isMade_0 : decode cX7_isMade 0 = .ok (.iload_n 1, 1) := by decide +kernel
theorem dX7_isMade_1 : decode cX7_isMade 1 = .ok (.iconst 0, 1) := by decide +kernel
theorem dX7_isMade_2 : decode cX7_isMade 2 = .ok (.sipush 8191, 3) := by decide +kernel
theorem dX7_isMade_5 : decode cX7_isMade 5 = .ok (.invokestatic 56, 3) := by decide +kernel
theorem dX7_isMade_8 : decode cX7_isMade 8 = .ok (.ifCond .eq 27, 3) := by decide +kernel
theorem dX7_isMade_11 : decode cX7_isMade 11 = .ok (.aload_n 0, 1) := by decide +kernel
theorem dX7_isMade_12 : decode cX7_isMade 12 = .ok (.getfield 22, 3) := by decide +kernel
theorem dX7_isMade_15 : decode cX7_isMade 15 = .ok (.iload_n 1, 1) := by decide +kernel
theorem dX7_isMade_16 : decode cX7_isMade 16 = .ok (.bipush 32, 2) := by decide +kernel
theorem dX7_isMade_18 : decode cX7_isMade 18 = .ok (.idiv, 1) := by decide +kernel
theorem dX7_isMade_19 : decode cX7_isMade 19 = .ok (.iaload, 1) := by decide +kernel
theorem dX7_isMade_20 : decode cX7_isMade 20 = .ok (.iload_n 1, 1) := by decide +kernel
theorem dX7_isMade_21 : decode cX7_isMade 21 = .ok (.bipush 32, 2) := by decide +kernel
theorem dX7_isMade_23 : decode cX7_isMade 23 = .ok (.irem, 1) := by decide +kernel
theorem dX7_isMade_24 : decode cX7_isMade 24 = .ok (.ishr, 1) := by decide +kernel
theorem dX7_isMade_25 : decode cX7_isMade 25 = .ok (.iconst 1, 1) := by decide +kernel
theorem dX7_isMade_26 : decode cX7_isMade 26 = .ok (.iand, 1) := by decide +kernel
theorem dX7_isMade_27 : decode cX7_isMade 27 = .ok (.iconst 1, 1) := by decide +kernel
theorem dX7_isMade_28 : decode cX7_isMade 28 = .ok (.if_icmp .ne 7, 3) := by decide +kernel
theorem dX7_isMade_31 : decode cX7_isMade 31 = .ok (.iconst 1, 1) := by decide +kernel
theorem dX7_isMade_32 : decode cX7_isMade 32 = .ok (.goto 4, 3) := by decide +kernel
theorem dX7_isMade_35 : decode cX7_isMade 35 = .ok (.iconst 0, 1) := by decide +kernel
theorem dX7_isMade_36 : decode cX7_isMade 36 = .ok (.ireturn, 1) := by decide +kernel
theorem dX7_makes_0 : decode cX7_makes 0 = .ok (.aload_n 0, 1) := by decide +kernel
theorem dX7_makes_1 : decode cX7_makes 1 = .ok (.iload_n 1, 1) := by decide +kernel
theorem dX7_makes_2 : decode cX7_makes 2 = .ok (.invokevirtual 90, 3) := by decide +kernel
theorem dX7_makes_5 : decode cX7_makes 5 = .ok (.ifCond .ne 31, 3) := by decide +kernel
theorem dX7_makes_8 : decode cX7_makes 8 = .ok (.aload_n 0, 1) := by decide +kernel
theorem dX7_makes_9 : decode cX7_makes 9 = .ok (.getfield 22, 3) := by decide +kernel
theorem dX7_makes_12 : decode cX7_makes 12 = .ok (.iload_n 1, 1) := by decide +kernel
theorem dX7_makes_13 : decode cX7_makes 13 = .ok (.bipush 32, 2) := by decide +kernel
theorem dX7_makes_15 : decode cX7_makes 15 = .ok (.idiv, 1) := by decide +kernel
theorem dX7_makes_16 : decode cX7_makes 16 = .ok (.dup2, 1) := by decide +kernel
theorem dX7_makes_17 : decode cX7_makes 17 = .ok (.iaload, 1) := by decide +kernel
theorem dX7_makes_18 : decode cX7_makes 18 = .ok (.iconst 1, 1) := by decide +kernel
theorem dX7_makes_19 : decode cX7_makes 19 = .ok (.iload_n 1, 1) := by decide +kernel
theorem dX7_makes_20 : decode cX7_makes 20 = .ok (.bipush 32, 2) := by decide +kernel
theorem dX7_makes_22 : decode cX7_makes 22 = .ok (.irem, 1) := by decide +kernel
theorem dX7_makes_23 : decode cX7_makes 23 = .ok (.ishl, 1) := by decide +kernel
theorem dX7_makes_24 : decode cX7_makes 24 = .ok (.ior, 1) := by decide +kernel
theorem dX7_makes_25 : decode cX7_makes 25 = .ok (.iastore, 1) := by decide +kernel
theorem dX7_makes_26 : decode cX7_makes 26 = .ok (.aload_n 0, 1) := by decide +kernel
theorem dX7_makes_27 : decode cX7_makes 27 = .ok (.dup, 1) := by decide +kernel
theorem dX7_makes_28 : decode cX7_makes 28 = .ok (.getfield 93, 3) := by decide +kernel
theorem dX7_makes_31 : decode cX7_makes 31 = .ok (.iconst 1, 1) := by decide +kernel
theorem dX7_makes_32 : decode cX7_makes 32 = .ok (.iadd, 1) := by decide +kernel
theorem dX7_makes_33 : decode cX7_makes 33 = .ok (.putfield 93, 3) := by decide +kernel
theorem dX7_makes_36 : decode cX7_makes 36 = .ok (.return_, 1) := by decide +kernel
theorem dX7_makesAll_0 : decode cX7_makesAll 0 = .ok (.iconst 0, 1) := by decide +kernel
theorem dX7_makesAll_1 : decode cX7_makesAll 1 = .ok (.istore_n 1, 1) := by decide +kernel
theorem dX7_makesAll_2 : decode cX7_makesAll 2 = .ok (.iload_n 1, 1) := by decide +kernel
theorem dX7_makesAll_3 : decode cX7_makesAll 3 = .ok (.sipush 256, 3) := by decide +kernel
theorem dX7_makesAll_6 : decode cX7_makesAll 6 = .ok (.if_icmp .ge 16, 3) := by decide +kernel
theorem dX7_makesAll_9 : decode cX7_makesAll 9 = .ok (.aload_n 0, 1) := by decide +kernel
theorem dX7_makesAll_10 : decode cX7_makesAll 10 = .ok (.getfield 22, 3) := by decide +kernel
theorem dX7_makesAll_13 : decode cX7_makesAll 13 = .ok (.iload_n 1, 1) := by decide +kernel
theorem dX7_makesAll_14 : decode cX7_makesAll 14 = .ok (.iconst 0, 1) := by decide +kernel
theorem dX7_makesAll_15 : decode cX7_makesAll 15 = .ok (.iastore, 1) := by decide +kernel
theorem dX7_makesAll_16 : decode cX7_makesAll 16 = .ok (.iinc 1 1, 3) := by decide +kernel
theorem dX7_makesAll_19 : decode cX7_makesAll 19 = .ok (.goto (-17), 3) := by decide +kernel
theorem dX7_makesAll_22 : decode cX7_makesAll 22 = .ok (.aload_n 0, 1) := by decide +kernel
theorem dX7_makesAll_23 : decode cX7_makesAll 23 = .ok (.iconst 0, 1) := by decide +kernel
theorem dX7_makesAll_24 : decode cX7_makesAll 24 = .ok (.putfield 93, 3) := by decide +kernel
theorem dX7_makesAll_27 : decode cX7_makesAll 27 = .ok (.aload_n 0, 1) := by decide +kernel
theorem dX7_makesAll_28 : decode cX7_makesAll 28 = .ok (.iconst 0, 1) := by decide +kernel
theorem dX7_makesAll_29 : decode cX7_makesAll 29 = .ok (.putfield 96, 3) := by decide +kernel
theorem dX7_makesAll_32 : decode cX7_makesAll 32 = .ok (.iconst 0, 1) := by decide +kernel
theorem dX7_makesAll_33 : decode cX7_makesAll 33 = .ok (.istore_n 1, 1) := by decide +kernel
theorem dX7_makesAll_34 : decode cX7_makesAll 34 = .ok (.iload_n 1, 1) := by decide +kernel
theorem dX7_makesAll_35 : decode cX7_makesAll 35 = .ok (.aload_n 0, 1) := by decide +kernel
theorem dX7_makesAll_36 : decode cX7_makesAll 36 = .ok (.invokevirtual 99, 3) := by decide +kernel
theorem dX7_makesAll_39 : decode cX7_makesAll 39 = .ok (.if_icmp .ge 18, 3) := by decide +kernel
theorem dX7_makesAll_42 : decode cX7_makesAll 42 = .ok (.aload_n 0, 1) := by decide +kernel
theorem dX7_makesAll_43 : decode cX7_makesAll 43 = .ok (.aload_n 0, 1) := by decide +kernel
theorem dX7_makesAll_44 : decode cX7_makesAll 44 = .ok (.iload_n 1, 1) := by decide +kernel
theorem dX7_makesAll_45 : decode cX7_makesAll 45 = .ok (.invokevirtual 103, 3) := by decide +kernel
theorem dX7_makesAll_48 : decode cX7_makesAll 48 = .ok (.invokevirtual 106, 3) := by decide +kernel
theorem dX7_makesAll_51 : decode cX7_makesAll 51 = .ok (.iinc 1 1, 3) := by decide +kernel
theorem dX7_makesAll_54 : decode cX7_makesAll 54 = .ok (.goto (-20), 3) := by decide +kernel
theorem dX7_makesAll_57 : decode cX7_makesAll 57 = .ok (.return_, 1) := by decide +kernel
theorem dX7_build_0 : decode cX7_build 0 = .ok (.aload_n 0, 1) := by decide +kernel
theorem dX7_build_1 : decode cX7_build 1 = .ok (.iconst 0, 1) := by decide +kernel
theorem dX7_build_2 : decode cX7_build 2 = .ok (.putfield 46, 3) := by decide +kernel
theorem dX7_build_5 : decode cX7_build 5 = .ok (.iload_n 1, 1) := by decide +kernel
theorem dX7_build_6 : decode cX7_build 6 = .ok (.invokestatic 60, 3) := by decide +kernel
theorem dX7_build_9 : decode cX7_build 9 = .ok (.ifCond .eq 13, 3) := by decide +kernel
theorem dX7_build_12 : decode cX7_build 12 = .ok (.iload_n 2, 1) := by decide +kernel
theorem dX7_build_13 : decode cX7_build 13 = .ok (.iconst 1, 1) := by decide +kernel
theorem dX7_build_14 : decode cX7_build 14 = .ok (.bipush 6, 2) := by decide +kernel
theorem dX7_build_16 : decode cX7_build 16 = .ok (.invokestatic 56, 3) := by decide +kernel
theorem dX7_build_19 : decode cX7_build 19 = .ok (.ifCond .ne 5, 3) := by decide +kernel
theorem dX7_build_22 : decode cX7_build 22 = .ok (.iconst (-1), 1) := by decide +kernel
theorem dX7_build_23 : decode cX7_build 23 = .ok (.ireturn, 1) := by decide +kernel
theorem dX7_build_24 : decode cX7_build 24 = .ok (.aload_n 0, 1) := by decide +kernel
theorem dX7_build_25 : decode cX7_build 25 = .ok (.getfield 16, 3) := by decide +kernel
theorem dX7_build_28 : decode cX7_build 28 = .ok (.iload_n 1, 1) := by decide +kernel
theorem dX7_build_29 : decode cX7_build 29 = .ok (.iaload, 1) := by decide +kernel
theorem dX7_build_30 : decode cX7_build 30 = .ok (.ifCond .ge 9, 3) := by decide +kernel
theorem dX7_build_33 : decode cX7_build 33 = .ok (.aload_n 0, 1) := by decide +kernel
theorem dX7_build_34 : decode cX7_build 34 = .ok (.iconst 1, 1) := by decide +kernel
theorem dX7_build_35 : decode cX7_build 35 = .ok (.invokevirtual 64, 3) := by decide +kernel
theorem dX7_build_38 : decode cX7_build 38 = .ok (.ireturn, 1) := by decide +kernel
theorem dX7_build_39 : decode cX7_build 39 = .ok (.aload_n 0, 1) := by decide +kernel
theorem dX7_build_40 : decode cX7_build 40 = .ok (.getfield 16, 3) := by decide +kernel
theorem dX7_build_43 : decode cX7_build 43 = .ok (.iload_n 1, 1) := by decide +kernel
theorem dX7_build_44 : decode cX7_build 44 = .ok (.iaload, 1) := by decide +kernel
theorem dX7_build_45 : decode cX7_build 45 = .ok (.ifCond .ne 9, 3) := by decide +kernel
theorem dX7_build_48 : decode cX7_build 48 = .ok (.aload_n 0, 1) := by decide +kernel
theorem dX7_build_49 : decode cX7_build 49 = .ok (.iconst 3, 1) := by decide +kernel
theorem dX7_build_50 : decode cX7_build 50 = .ok (.invokevirtual 64, 3) := by decide +kernel
theorem dX7_build_53 : decode cX7_build 53 = .ok (.ireturn, 1) := by decide +kernel
theorem dX7_build_54 : decode cX7_build 54 = .ok (.aload_n 0, 1) := by decide +kernel
theorem dX7_build_55 : decode cX7_build 55 = .ok (.aload_n 0, 1) := by decide +kernel
theorem dX7_build_56 : decode cX7_build 56 = .ok (.getfield 16, 3) := by decide +kernel
theorem dX7_build_59 : decode cX7_build 59 = .ok (.iload_n 1, 1) := by decide +kernel
theorem dX7_build_60 : decode cX7_build 60 = .ok (.iaload, 1) := by decide +kernel
theorem dX7_build_61 : decode cX7_build 61 = .ok (.putfield 81, 3) := by decide +kernel
theorem dX7_build_64 : decode cX7_build 64 = .ok (.aload_n 0, 1) := by decide +kernel
theorem dX7_build_65 : decode cX7_build 65 = .ok (.iload_n 2, 1) := by decide +kernel
theorem dX7_build_66 : decode cX7_build 66 = .ok (.putfield 78, 3) := by decide +kernel
theorem dX7_build_69 : decode cX7_build 69 = .ok (.iconst 0, 1) := by decide +kernel
theorem dX7_build_70 : decode cX7_build 70 = .ok (.istore_n 3, 1) := by decide +kernel
theorem dX7_build_71 : decode cX7_build 71 = .ok (.iload_n 3, 1) := by decide +kernel
end
section
theorem dX7_build_72 : decode cX7_build 72 = .ok (.aload_n 0, 1) := by decide +kernel
theorem dX7_build_73 : decode cX7_build 73 = .ok (.getfield 81, 3) := by decide +kernel
theorem dX7_build_76 : decode cX7_build 76 = .ok (.if_icmp .ge 26, 3) := by decide +kernel
theorem dX7_build_79 : decode cX7_build 79 = .ok (.aload_n 0, 1) := by decide +kernel
theorem dX7_build_80 : decode cX7_build 80 = .ok (.getfield 19, 3) := by decide +kernel
theorem dX7_build_83 : decode cX7_build 83 = .ok (.iload_n 3, 1) := by decide +kernel
theorem dX7_build_84 : decode cX7_build 84 = .ok (.aload_n 0, 1) := by decide +kernel
theorem dX7_build_85 : decode cX7_build 85 = .ok (.getfield 13, 3) := by decide +kernel
theorem dX7_build_88 : decode cX7_build 88 = .ok (.bipush 48, 2) := by decide +kernel
theorem dX7_build_90 : decode cX7_build 90 = .ok (.iload_n 1, 1) := by decide +kernel
theorem dX7_build_91 : decode cX7_build 91 = .ok (.imul, 1) := by decide +kernel
theorem dX7_build_92 : decode cX7_build 92 = .ok (.iload_n 3, 1) := by decide +kernel
theorem dX7_build_93 : decode cX7_build 93 = .ok (.iadd, 1) := by decide +kernel
theorem dX7_build_94 : decode cX7_build 94 = .ok (.iaload, 1) := by decide +kernel
theorem dX7_build_95 : decode cX7_build 95 = .ok (.iastore, 1) := by decide +kernel
theorem dX7_build_96 : decode cX7_build 96 = .ok (.iinc 3 1, 3) := by decide +kernel
theorem dX7_build_99 : decode cX7_build 99 = .ok (.goto (-28), 3) := by decide +kernel
theorem dX7_build_102 : decode cX7_build 102 = .ok (.aload_n 0, 1) := by decide +kernel
theorem dX7_build_103 : decode cX7_build 103 = .ok (.invokevirtual 110, 3) := by decide +kernel
theorem dX7_build_106 : decode cX7_build 106 = .ok (.aload_n 0, 1) := by decide +kernel
theorem dX7_build_107 : decode cX7_build 107 = .ok (.invokevirtual 99, 3) := by decide +kernel
theorem dX7_build_110 : decode cX7_build 110 = .ok (.ireturn, 1) := by decide +kernel
theorem dX7_againstRun_0 : decode cX7_againstRun 0 = .ok (.aload_n 0, 1) := by decide +kernel
theorem dX7_againstRun_1 : decode cX7_againstRun 1 = .ok (.getfield 81, 3) := by decide +kernel
theorem dX7_againstRun_4 : decode cX7_againstRun 4 = .ok (.ifCond .ne 6, 3) := by decide +kernel
theorem dX7_againstRun_7 : decode cX7_againstRun 7 = .ok (.bipush (-2), 2) := by decide +kernel
theorem dX7_againstRun_9 : decode cX7_againstRun 9 = .ok (.ireturn, 1) := by decide +kernel
theorem dX7_againstRun_10 : decode cX7_againstRun 10 = .ok (.iload_n 1, 1) := by decide +kernel
theorem dX7_againstRun_11 : decode cX7_againstRun 11 = .ok (.iconst 0, 1) := by decide +kernel
theorem dX7_againstRun_12 : decode cX7_againstRun 12 = .ok (.aload_n 0, 1) := by decide +kernel
theorem dX7_againstRun_13 : decode cX7_againstRun 13 = .ok (.getfield 81, 3) := by decide +kernel
theorem dX7_againstRun_16 : decode cX7_againstRun 16 = .ok (.iconst 1, 1) := by decide +kernel
theorem dX7_againstRun_17 : decode cX7_againstRun 17 = .ok (.isub, 1) := by decide +kernel
theorem dX7_againstRun_18 : decode cX7_againstRun 18 = .ok (.invokestatic 56, 3) := by decide +kernel
theorem dX7_againstRun_21 : decode cX7_againstRun 21 = .ok (.ifCond .eq 17, 3) := by decide +kernel
theorem dX7_againstRun_24 : decode cX7_againstRun 24 = .ok (.iload_n 2, 1) := by decide +kernel
theorem dX7_againstRun_25 : decode cX7_againstRun 25 = .ok (.iload_n 1, 1) := by decide +kernel
theorem dX7_againstRun_26 : decode cX7_againstRun 26 = .ok (.aload_n 0, 1) := by decide +kernel
theorem dX7_againstRun_27 : decode cX7_againstRun 27 = .ok (.getfield 81, 3) := by decide +kernel
theorem dX7_againstRun_30 : decode cX7_againstRun 30 = .ok (.iconst 1, 1) := by decide +kernel
theorem dX7_againstRun_31 : decode cX7_againstRun 31 = .ok (.isub, 1) := by decide +kernel
theorem dX7_againstRun_32 : decode cX7_againstRun 32 = .ok (.invokestatic 56, 3) := by decide +kernel
theorem dX7_againstRun_35 : decode cX7_againstRun 35 = .ok (.ifCond .ne 11, 3) := by decide +kernel
theorem dX7_againstRun_38 : decode cX7_againstRun 38 = .ok (.aload_n 0, 1) := by decide +kernel
theorem dX7_againstRun_39 : decode cX7_againstRun 39 = .ok (.iconst 2, 1) := by decide +kernel
theorem dX7_againstRun_40 : decode cX7_againstRun 40 = .ok (.invokevirtual 64, 3) := by decide +kernel
theorem dX7_againstRun_43 : decode cX7_againstRun 43 = .ok (.goto 4, 3) := by decide +kernel
theorem dX7_againstRun_46 : decode cX7_againstRun 46 = .ok (.iconst 0, 1) := by decide +kernel
theorem dX7_againstRun_47 : decode cX7_againstRun 47 = .ok (.ireturn, 1) := by decide +kernel
theorem dX7_put_0 : decode cX7_put 0 = .ok (.aload_n 0, 1) := by decide +kernel
theorem dX7_put_1 : decode cX7_put 1 = .ok (.iconst 0, 1) := by decide +kernel
theorem dX7_put_2 : decode cX7_put 2 = .ok (.putfield 46, 3) := by decide +kernel
theorem dX7_put_5 : decode cX7_put 5 = .ok (.aload_n 0, 1) := by decide +kernel
theorem dX7_put_6 : decode cX7_put 6 = .ok (.iload_n 1, 1) := by decide +kernel
theorem dX7_put_7 : decode cX7_put 7 = .ok (.iload_n 1, 1) := by decide +kernel
theorem dX7_put_8 : decode cX7_put 8 = .ok (.invokevirtual 113, 3) := by decide +kernel
theorem dX7_put_11 : decode cX7_put 11 = .ok (.istore_n 3, 1) := by decide +kernel
theorem dX7_put_12 : decode cX7_put 12 = .ok (.iload_n 3, 1) := by decide +kernel
theorem dX7_put_13 : decode cX7_put 13 = .ok (.ifCond .eq 5, 3) := by decide +kernel
theorem dX7_put_16 : decode cX7_put 16 = .ok (.iload_n 3, 1) := by decide +kernel
theorem dX7_put_17 : decode cX7_put 17 = .ok (.ireturn, 1) := by decide +kernel
theorem dX7_put_18 : decode cX7_put 18 = .ok (.aload_n 0, 1) := by decide +kernel
theorem dX7_put_19 : decode cX7_put 19 = .ok (.getfield 96, 3) := by decide +kernel
theorem dX7_put_22 : decode cX7_put 22 = .ok (.bipush 10, 2) := by decide +kernel
theorem dX7_put_24 : decode cX7_put 24 = .ok (.if_icmp .ne 57, 3) := by decide +kernel
theorem dX7_put_27 : decode cX7_put 27 = .ok (.iconst 0, 1) := by decide +kernel
theorem dX7_put_28 : decode cX7_put 28 = .ok (.istore 4, 2) := by decide +kernel
theorem dX7_put_30 : decode cX7_put 30 = .ok (.iload 4, 2) := by decide +kernel
theorem dX7_put_32 : decode cX7_put 32 = .ok (.bipush 9, 2) := by decide +kernel
theorem dX7_put_34 : decode cX7_put 34 = .ok (.if_icmp .ge 41, 3) := by decide +kernel
theorem dX7_put_37 : decode cX7_put 37 = .ok (.aload_n 0, 1) := by decide +kernel
theorem dX7_put_38 : decode cX7_put 38 = .ok (.getfield 25, 3) := by decide +kernel
theorem dX7_put_41 : decode cX7_put 41 = .ok (.iload 4, 2) := by decide +kernel
theorem dX7_put_43 : decode cX7_put 43 = .ok (.aload_n 0, 1) := by decide +kernel
theorem dX7_put_44 : decode cX7_put 44 = .ok (.getfield 25, 3) := by decide +kernel
theorem dX7_put_47 : decode cX7_put 47 = .ok (.iload 4, 2) := by decide +kernel
theorem dX7_put_49 : decode cX7_put 49 = .ok (.iconst 1, 1) := by decide +kernel
theorem dX7_put_50 : decode cX7_put 50 = .ok (.iadd, 1) := by decide +kernel
theorem dX7_put_51 : decode cX7_put 51 = .ok (.iaload, 1) := by decide +kernel
theorem dX7_put_52 : decode cX7_put 52 = .ok (.iastore, 1) := by decide +kernel
theorem dX7_put_53 : decode cX7_put 53 = .ok (.aload_n 0, 1) := by decide +kernel
theorem dX7_put_54 : decode cX7_put 54 = .ok (.getfield 28, 3) := by decide +kernel
theorem dX7_put_57 : decode cX7_put 57 = .ok (.iload 4, 2) := by decide +kernel
theorem dX7_put_59 : decode cX7_put 59 = .ok (.aload_n 0, 1) := by decide +kernel
theorem dX7_put_60 : decode cX7_put 60 = .ok (.getfield 28, 3) := by decide +kernel
theorem dX7_put_63 : decode cX7_put 63 = .ok (.iload 4, 2) := by decide +kernel
theorem dX7_put_65 : decode cX7_put 65 = .ok (.iconst 1, 1) := by decide +kernel
theorem dX7_put_66 : decode cX7_put 66 = .ok (.iadd, 1) := by decide +kernel
theorem dX7_put_67 : decode cX7_put 67 = .ok (.iaload, 1) := by decide +kernel
theorem dX7_put_68 : decode cX7_put 68 = .ok (.iastore, 1) := by decide +kernel
theorem dX7_put_69 : decode cX7_put 69 = .ok (.iinc 4 1, 3) := by decide +kernel
theorem dX7_put_72 : decode cX7_put 72 = .ok (.goto (-42), 3) := by decide +kernel
theorem dX7_put_75 : decode cX7_put 75 = .ok (.aload_n 0, 1) := by decide +kernel
theorem dX7_put_76 : decode cX7_put 76 = .ok (.bipush 9, 2) := by decide +kernel
theorem dX7_put_78 : decode cX7_put 78 = .ok (.putfield 96, 3) := by decide +kernel
theorem dX7_put_81 : decode cX7_put 81 = .ok (.aload_n 0, 1) := by decide +kernel
theorem dX7_put_82 : decode cX7_put 82 = .ok (.getfield 25, 3) := by decide +kernel
theorem dX7_put_85 : decode cX7_put 85 = .ok (.aload_n 0, 1) := by decide +kernel
theorem dX7_put_86 : decode cX7_put 86 = .ok (.getfield 96, 3) := by decide +kernel
theorem dX7_put_89 : decode cX7_put 89 = .ok (.iload_n 1, 1) := by decide +kernel
theorem dX7_put_90 : decode cX7_put 90 = .ok (.iastore, 1) := by decide +kernel
theorem dX7_put_91 : decode cX7_put 91 = .ok (.aload_n 0, 1) := by decide +kernel
theorem dX7_put_92 : decode cX7_put 92 = .ok (.getfield 28, 3) := by decide +kernel
theorem dX7_put_95 : decode cX7_put 95 = .ok (.aload_n 0, 1) := by decide +kernel
theorem dX7_put_96 : decode cX7_put 96 = .ok (.getfield 96, 3) := by decide +kernel
theorem dX7_put_99 : decode cX7_put 99 = .ok (.aload_n 0, 1) := by decide +kernel
theorem dX7_put_100 : decode cX7_put 100 = .ok (.getfield 19, 3) := by decide +kernel
theorem dX7_put_103 : decode cX7_put 103 = .ok (.iload_n 1, 1) := by decide +kernel
theorem dX7_put_104 : decode cX7_put 104 = .ok (.iaload, 1) := by decide +kernel
theorem dX7_put_105 : decode cX7_put 105 = .ok (.iastore, 1) := by decide +kernel
theorem dX7_put_106 : decode cX7_put 106 = .ok (.aload_n 0, 1) := by decide +kernel
theorem dX7_put_107 : decode cX7_put 107 = .ok (.dup, 1) := by decide +kernel
theorem dX7_put_108 : decode cX7_put 108 = .ok (.getfield 96, 3) := by decide +kernel
theorem dX7_put_111 : decode cX7_put 111 = .ok (.iconst 1, 1) := by decide +kernel
theorem dX7_put_112 : decode cX7_put 112 = .ok (.iadd, 1) := by decide +kernel
theorem dX7_put_113 : decode cX7_put 113 = .ok (.putfield 96, 3) := by decide +kernel
theorem dX7_put_116 : decode cX7_put 116 = .ok (.aload_n 0, 1) := by decide +kernel
theorem dX7_put_117 : decode cX7_put 117 = .ok (.getfield 19, 3) := by decide +kernel
theorem dX7_put_120 : decode cX7_put 120 = .ok (.iload_n 1, 1) := by decide +kernel
theorem dX7_put_121 : decode cX7_put 121 = .ok (.iaload, 1) := by decide +kernel
theorem dX7_put_122 : decode cX7_put 122 = .ok (.istore 4, 2) := by decide +kernel
theorem dX7_put_124 : decode cX7_put 124 = .ok (.aload_n 0, 1) := by decide +kernel
theorem dX7_put_125 : decode cX7_put 125 = .ok (.iload_n 1, 1) := by decide +kernel
theorem dX7_put_126 : decode cX7_put 126 = .ok (.aload_n 0, 1) := by decide +kernel
theorem dX7_put_127 : decode cX7_put 127 = .ok (.getfield 78, 3) := by decide +kernel
theorem dX7_put_130 : decode cX7_put 130 = .ok (.idiv, 1) := by decide +kernel
theorem dX7_put_131 : decode cX7_put 131 = .ok (.invokevirtual 103, 3) := by decide +kernel
theorem dX7_put_134 : decode cX7_put 134 = .ok (.istore 5, 2) := by decide +kernel
theorem dX7_put_136 : decode cX7_put 136 = .ok (.aload_n 0, 1) := by decide +kernel
theorem dX7_put_137 : decode cX7_put 137 = .ok (.getfield 19, 3) := by decide +kernel
theorem dX7_put_140 : decode cX7_put 140 = .ok (.iload_n 1, 1) := by decide +kernel
theorem dX7_put_141 : decode cX7_put 141 = .ok (.iload_n 2, 1) := by decide +kernel
theorem dX7_put_142 : decode cX7_put 142 = .ok (.iastore, 1) := by decide +kernel
theorem dX7_put_143 : decode cX7_put 143 = .ok (.aload_n 0, 1) := by decide +kernel
theorem dX7_put_144 : decode cX7_put 144 = .ok (.iload_n 1, 1) := by decide +kernel
theorem dX7_put_145 : decode cX7_put 145 = .ok (.aload_n 0, 1) := by decide +kernel
theorem dX7_put_146 : decode cX7_put 146 = .ok (.getfield 78, 3) := by decide +kernel
theorem dX7_put_149 : decode cX7_put 149 = .ok (.idiv, 1) := by decide +kernel
theorem dX7_put_150 : decode cX7_put 150 = .ok (.invokevirtual 103, 3) := by decide +kernel
theorem dX7_put_153 : decode cX7_put 153 = .ok (.istore 6, 2) := by decide +kernel
theorem dX7_put_155 : decode cX7_put 155 = .ok (.aload_n 0, 1) := by decide +kernel
theorem dX7_put_156 : decode cX7_put 156 = .ok (.iload 6, 2) := by decide +kernel
theorem dX7_put_158 : decode cX7_put 158 = .ok (.invokevirtual 106, 3) := by decide +kernel
theorem dX7_put_161 : decode cX7_put 161 = .ok (.aload_n 0, 1) := by decide +kernel
theorem dX7_put_162 : decode cX7_put 162 = .ok (.iload 5, 2) := by decide +kernel
theorem dX7_put_164 : decode cX7_put 164 = .ok (.iload 6, 2) := by decide +kernel
theorem dX7_put_166 : decode cX7_put 166 = .ok (.if_icmp .ne 7, 3) := by decide +kernel
theorem dX7_put_169 : decode cX7_put 169 = .ok (.iconst 0, 1) := by decide +kernel
theorem dX7_put_170 : decode cX7_put 170 = .ok (.goto 4, 3) := by decide +kernel
theorem dX7_put_173 : decode cX7_put 173 = .ok (.iconst 1, 1) := by decide +kernel
theorem dX7_put_174 : decode cX7_put 174 = .ok (.iload 4, 2) := by decide +kernel
theorem dX7_put_176 : decode cX7_put 176 = .ok (.invokevirtual 72, 3) := by decide +kernel
theorem dX7_put_179 : decode cX7_put 179 = .ok (.ireturn, 1) := by decide +kernel
theorem dX7_undo_0 : decode cX7_undo 0 = .ok (.aload_n 0, 1) := by decide +kernel
theorem dX7_undo_1 : decode cX7_undo 1 = .ok (.iconst 0, 1) := by decide +kernel
theorem dX7_undo_2 : decode cX7_undo 2 = .ok (.putfield 46, 3) := by decide +kernel
theorem dX7_undo_5 : decode cX7_undo 5 = .ok (.aload_n 0, 1) := by decide +kernel
theorem dX7_undo_6 : decode cX7_undo 6 = .ok (.getfield 96, 3) := by decide +kernel
theorem dX7_undo_9 : decode cX7_undo 9 = .ok (.ifCond .ne 6, 3) := by decide +kernel
theorem dX7_undo_12 : decode cX7_undo 12 = .ok (.bipush (-2), 2) := by decide +kernel
theorem dX7_undo_14 : decode cX7_undo 14 = .ok (.ireturn, 1) := by decide +kernel
theorem dX7_undo_15 : decode cX7_undo 15 = .ok (.aload_n 0, 1) := by decide +kernel
theorem dX7_undo_16 : decode cX7_undo 16 = .ok (.dup, 1) := by decide +kernel
theorem dX7_undo_17 : decode cX7_undo 17 = .ok (.getfield 96, 3) := by decide +kernel
theorem dX7_undo_20 : decode cX7_undo 20 = .ok (.iconst 1, 1) := by decide +kernel
theorem dX7_undo_21 : decode cX7_undo 21 = .ok (.isub, 1) := by decide +kernel
theorem dX7_undo_22 : decode cX7_undo 22 = .ok (.putfield 96, 3) := by decide +kernel
theorem dX7_undo_25 : decode cX7_undo 25 = .ok (.aload_n 0, 1) := by decide +kernel
theorem dX7_undo_26 : decode cX7_undo 26 = .ok (.getfield 19, 3) := by decide +kernel
theorem dX7_undo_29 : decode cX7_undo 29 = .ok (.aload_n 0, 1) := by decide +kernel
theorem dX7_undo_30 : decode cX7_undo 30 = .ok (.getfield 25, 3) := by decide +kernel
theorem dX7_undo_33 : decode cX7_undo 33 = .ok (.aload_n 0, 1) := by decide +kernel
theorem dX7_undo_34 : decode cX7_undo 34 = .ok (.getfield 96, 3) := by decide +kernel
theorem dX7_undo_37 : decode cX7_undo 37 = .ok (.iaload, 1) := by decide +kernel
theorem dX7_undo_38 : decode cX7_undo 38 = .ok (.aload_n 0, 1) := by decide +kernel
theorem dX7_undo_39 : decode cX7_undo 39 = .ok (.getfield 28, 3) := by decide +kernel
theorem dX7_undo_42 : decode cX7_undo 42 = .ok (.aload_n 0, 1) := by decide +kernel
theorem dX7_undo_43 : decode cX7_undo 43 = .ok (.getfield 96, 3) := by decide +kernel
theorem dX7_undo_46 : decode cX7_undo 46 = .ok (.iaload, 1) := by decide +kernel
theorem dX7_undo_47 : decode cX7_undo 47 = .ok (.iastore, 1) := by decide +kernel
theorem dX7_undo_48 : decode cX7_undo 48 = .ok (.aload_n 0, 1) := by decide +kernel
theorem dX7_undo_49 : decode cX7_undo 49 = .ok (.getfield 96, 3) := by decide +kernel
theorem dX7_undo_52 : decode cX7_undo 52 = .ok (.ireturn, 1) := by decide +kernel
theorem dX7_keep_0 : decode cX7_keep 0 = .ok (.aload_n 0, 1) := by decide +kernel
theorem dX7_keep_1 : decode cX7_keep 1 = .ok (.iconst 0, 1) := by decide +kernel
theorem dX7_keep_2 : decode cX7_keep 2 = .ok (.putfield 46, 3) := by decide +kernel
theorem dX7_keep_5 : decode cX7_keep 5 = .ok (.iload_n 1, 1) := by decide +kernel
theorem dX7_keep_6 : decode cX7_keep 6 = .ok (.iconst 0, 1) := by decide +kernel
theorem dX7_keep_7 : decode cX7_keep 7 = .ok (.iconst 1, 1) := by decide +kernel
theorem dX7_keep_8 : decode cX7_keep 8 = .ok (.invokestatic 56, 3) := by decide +kernel
theorem dX7_keep_11 : decode cX7_keep 11 = .ok (.ifCond .ne 5, 3) := by decide +kernel
theorem dX7_keep_14 : decode cX7_keep 14 = .ok (.iconst (-1), 1) := by decide +kernel
theorem dX7_keep_15 : decode cX7_keep 15 = .ok (.ireturn, 1) := by decide +kernel
theorem dX7_keep_16 : decode cX7_keep 16 = .ok (.aload_n 0, 1) := by decide +kernel
theorem dX7_keep_17 : decode cX7_keep 17 = .ok (.getfield 81, 3) := by decide +kernel
theorem dX7_keep_20 : decode cX7_keep 20 = .ok (.ifCond .ne 6, 3) := by decide +kernel
theorem dX7_keep_23 : decode cX7_keep 23 = .ok (.bipush (-2), 2) := by decide +kernel
theorem dX7_keep_25 : decode cX7_keep 25 = .ok (.ireturn, 1) := by decide +kernel
theorem dX7_keep_26 : decode cX7_keep 26 = .ok (.aload_n 0, 1) := by decide +kernel
theorem dX7_keep_27 : decode cX7_keep 27 = .ok (.getfield 34, 3) := by decide +kernel
theorem dX7_keep_30 : decode cX7_keep 30 = .ok (.iload_n 1, 1) := by decide +kernel
theorem dX7_keep_31 : decode cX7_keep 31 = .ok (.aload_n 0, 1) := by decide +kernel
theorem dX7_keep_32 : decode cX7_keep 32 = .ok (.getfield 81, 3) := by decide +kernel
theorem dX7_keep_35 : decode cX7_keep 35 = .ok (.iastore, 1) := by decide +kernel
theorem dX7_keep_36 : decode cX7_keep 36 = .ok (.aload_n 0, 1) := by decide +kernel
theorem dX7_keep_37 : decode cX7_keep 37 = .ok (.getfield 37, 3) := by decide +kernel
theorem dX7_keep_40 : decode cX7_keep 40 = .ok (.iload_n 1, 1) := by decide +kernel
theorem dX7_keep_41 : decode cX7_keep 41 = .ok (.aload_n 0, 1) := by decide +kernel
theorem dX7_keep_42 : decode cX7_keep 42 = .ok (.getfield 78, 3) := by decide +kernel
theorem dX7_keep_45 : decode cX7_keep 45 = .ok (.iastore, 1) := by decide +kernel
theorem dX7_keep_46 : decode cX7_keep 46 = .ok (.iconst 0, 1) := by decide +kernel
theorem dX7_keep_47 : decode cX7_keep 47 = .ok (.istore_n 2, 1) := by decide +kernel
theorem dX7_keep_48 : decode cX7_keep 48 = .ok (.iload_n 2, 1) := by decide +kernel
theorem dX7_keep_49 : decode cX7_keep 49 = .ok (.aload_n 0, 1) := by decide +kernel
theorem dX7_keep_50 : decode cX7_keep 50 = .ok (.getfield 81, 3) := by decide +kernel
theorem dX7_keep_53 : decode cX7_keep 53 = .ok (.if_icmp .ge 26, 3) := by decide +kernel
theorem dX7_keep_56 : decode cX7_keep 56 = .ok (.aload_n 0, 1) := by decide +kernel
theorem dX7_keep_57 : decode cX7_keep 57 = .ok (.getfield 31, 3) := by decide +kernel
theorem dX7_keep_60 : decode cX7_keep 60 = .ok (.bipush 48, 2) := by decide +kernel
theorem dX7_keep_62 : decode cX7_keep 62 = .ok (.iload_n 1, 1) := by decide +kernel
theorem dX7_keep_63 : decode cX7_keep 63 = .ok (.imul, 1) := by decide +kernel
theorem dX7_keep_64 : decode cX7_keep 64 = .ok (.iload_n 2, 1) := by decide +kernel
theorem dX7_keep_65 : decode cX7_keep 65 = .ok (.iadd, 1) := by decide +kernel
theorem dX7_keep_66 : decode cX7_keep 66 = .ok (.aload_n 0, 1) := by decide +kernel
theorem dX7_keep_67 : decode cX7_keep 67 = .ok (.getfield 19, 3) := by decide +kernel
theorem dX7_keep_70 : decode cX7_keep 70 = .ok (.iload_n 2, 1) := by decide +kernel
theorem dX7_keep_71 : decode cX7_keep 71 = .ok (.iaload, 1) := by decide +kernel
theorem dX7_keep_72 : decode cX7_keep 72 = .ok (.iastore, 1) := by decide +kernel
theorem dX7_keep_73 : decode cX7_keep 73 = .ok (.iinc 2 1, 3) := by decide +kernel
theorem dX7_keep_76 : decode cX7_keep 76 = .ok (.goto (-28), 3) := by decide +kernel
theorem dX7_keep_79 : decode cX7_keep 79 = .ok (.aload_n 0, 1) := by decide +kernel
theorem dX7_keep_80 : decode cX7_keep 80 = .ok (.getfield 81, 3) := by decide +kernel
theorem dX7_keep_83 : decode cX7_keep 83 = .ok (.ireturn, 1) := by decide +kernel
theorem dX7_on_0 : decode cX7_on 0 = .ok (.aload_n 0, 1) := by decide +kernel
theorem dX7_on_1 : decode cX7_on 1 = .ok (.iconst 0, 1) := by decide +kernel
theorem dX7_on_2 : decode cX7_on 2 = .ok (.putfield 46, 3) := by decide +kernel
theorem dX7_on_5 : decode cX7_on 5 = .ok (.iload_n 1, 1) := by decide +kernel
theorem dX7_on_6 : decode cX7_on 6 = .ok (.iconst 0, 1) := by decide +kernel
theorem dX7_on_7 : decode cX7_on 7 = .ok (.iconst 1, 1) := by decide +kernel
theorem dX7_on_8 : decode cX7_on 8 = .ok (.invokestatic 56, 3) := by decide +kernel
theorem dX7_on_11 : decode cX7_on 11 = .ok (.ifCond .ne 5, 3) := by decide +kernel
theorem dX7_on_14 : decode cX7_on 14 = .ok (.iconst (-1), 1) := by decide +kernel
theorem dX7_on_15 : decode cX7_on 15 = .ok (.ireturn, 1) := by decide +kernel
theorem dX7_on_16 : decode cX7_on 16 = .ok (.aload_n 0, 1) := by decide +kernel
theorem dX7_on_17 : decode cX7_on 17 = .ok (.getfield 34, 3) := by decide +kernel
theorem dX7_on_20 : decode cX7_on 20 = .ok (.iload_n 1, 1) := by decide +kernel
theorem dX7_on_21 : decode cX7_on 21 = .ok (.iaload, 1) := by decide +kernel
theorem dX7_on_22 : decode cX7_on 22 = .ok (.ifCond .ne 6, 3) := by decide +kernel
theorem dX7_on_25 : decode cX7_on 25 = .ok (.bipush (-2), 2) := by decide +kernel
theorem dX7_on_27 : decode cX7_on 27 = .ok (.ireturn, 1) := by decide +kernel
theorem dX7_on_28 : decode cX7_on 28 = .ok (.aload_n 0, 1) := by decide +kernel
theorem dX7_on_29 : decode cX7_on 29 = .ok (.aload_n 0, 1) := by decide +kernel
theorem dX7_on_30 : decode cX7_on 30 = .ok (.getfield 34, 3) := by decide +kernel
theorem dX7_on_33 : decode cX7_on 33 = .ok (.iload_n 1, 1) := by decide +kernel
theorem dX7_on_34 : decode cX7_on 34 = .ok (.iaload, 1) := by decide +kernel
theorem dX7_on_35 : decode cX7_on 35 = .ok (.putfield 81, 3) := by decide +kernel
theorem dX7_on_38 : decode cX7_on 38 = .ok (.aload_n 0, 1) := by decide +kernel
theorem dX7_on_39 : decode cX7_on 39 = .ok (.aload_n 0, 1) := by decide +kernel
theorem dX7_on_40 : decode cX7_on 40 = .ok (.getfield 37, 3) := by decide +kernel
theorem dX7_on_43 : decode cX7_on 43 = .ok (.iload_n 1, 1) := by decide +kernel
theorem dX7_on_44 : decode cX7_on 44 = .ok (.iaload, 1) := by decide +kernel
theorem dX7_on_45 : decode cX7_on 45 = .ok (.putfield 78, 3) := by decide +kernel
theorem dX7_on_48 : decode cX7_on 48 = .ok (.iconst 0, 1) := by decide +kernel
theorem dX7_on_49 : decode cX7_on 49 = .ok (.istore_n 2, 1) := by decide +kernel
theorem dX7_on_50 : decode cX7_on 50 = .ok (.iload_n 2, 1) := by decide +kernel
theorem dX7_on_51 : decode cX7_on 51 = .ok (.aload_n 0, 1) := by decide +kernel
theorem dX7_on_52 : decode cX7_on 52 = .ok (.getfield 81, 3) := by decide +kernel
theorem dX7_on_55 : decode cX7_on 55 = .ok (.if_icmp .ge 26, 3) := by decide +kernel
theorem dX7_on_58 : decode cX7_on 58 = .ok (.aload_n 0, 1) := by decide +kernel
theorem dX7_on_59 : decode cX7_on 59 = .ok (.getfield 19, 3) := by decide +kernel
theorem dX7_on_62 : decode cX7_on 62 = .ok (.iload_n 2, 1) := by decide +kernel
theorem dX7_on_63 : decode cX7_on 63 = .ok (.aload_n 0, 1) := by decide +kernel
theorem dX7_on_64 : decode cX7_on 64 = .ok (.getfield 31, 3) := by decide +kernel
theorem dX7_on_67 : decode cX7_on 67 = .ok (.bipush 48, 2) := by decide +kernel
theorem dX7_on_69 : decode cX7_on 69 = .ok (.iload_n 1, 1) := by decide +kernel
theorem dX7_on_70 : decode cX7_on 70 = .ok (.imul, 1) := by decide +kernel
theorem dX7_on_71 : decode cX7_on 71 = .ok (.iload_n 2, 1) := by decide +kernel
theorem dX7_on_72 : decode cX7_on 72 = .ok (.iadd, 1) := by decide +kernel
theorem dX7_on_73 : decode cX7_on 73 = .ok (.iaload, 1) := by decide +kernel
theorem dX7_on_74 : decode cX7_on 74 = .ok (.iastore, 1) := by decide +kernel
theorem dX7_on_75 : decode cX7_on 75 = .ok (.iinc 2 1, 3) := by decide +kernel
theorem dX7_on_78 : decode cX7_on 78 = .ok (.goto (-28), 3) := by decide +kernel
theorem dX7_on_81 : decode cX7_on 81 = .ok (.aload_n 0, 1) := by decide +kernel
theorem dX7_on_82 : decode cX7_on 82 = .ok (.invokevirtual 110, 3) := by decide +kernel
theorem dX7_on_85 : decode cX7_on 85 = .ok (.aload_n 0, 1) := by decide +kernel
theorem dX7_on_86 : decode cX7_on 86 = .ok (.getfield 81, 3) := by decide +kernel
theorem dX7_on_89 : decode cX7_on 89 = .ok (.ireturn, 1) := by decide +kernel
theorem dX7_item_0 : decode cX7_item 0 = .ok (.aload_n 0, 1) := by decide +kernel
theorem dX7_item_1 : decode cX7_item 1 = .ok (.iconst 0, 1) := by decide +kernel
theorem dX7_item_2 : decode cX7_item 2 = .ok (.putfield 46, 3) := by decide +kernel
theorem dX7_item_5 : decode cX7_item 5 = .ok (.aload_n 0, 1) := by decide +kernel
theorem dX7_item_6 : decode cX7_item 6 = .ok (.iload_n 1, 1) := by decide +kernel
theorem dX7_item_7 : decode cX7_item 7 = .ok (.iload_n 1, 1) := by decide +kernel
theorem dX7_item_8 : decode cX7_item 8 = .ok (.invokevirtual 113, 3) := by decide +kernel
theorem dX7_item_11 : decode cX7_item 11 = .ok (.istore_n 2, 1) := by decide +kernel
theorem dX7_item_12 : decode cX7_item 12 = .ok (.iload_n 2, 1) := by decide +kernel
theorem dX7_item_13 : decode cX7_item 13 = .ok (.ifCond .eq 7, 3) := by decide +kernel
theorem dX7_item_16 : decode cX7_item 16 = .ok (.iload_n 2, 1) := by decide +kernel
theorem dX7_item_17 : decode cX7_item 17 = .ok (.goto 14, 3) := by decide +kernel
theorem dX7_item_20 : decode cX7_item 20 = .ok (.aload_n 0, 1) := by decide +kernel
theorem dX7_item_21 : decode cX7_item 21 = .ok (.iconst 1, 1) := by decide +kernel
theorem dX7_item_22 : decode cX7_item 22 = .ok (.aload_n 0, 1) := by decide +kernel
theorem dX7_item_23 : decode cX7_item 23 = .ok (.getfield 19, 3) := by decide +kernel
theorem dX7_item_26 : decode cX7_item 26 = .ok (.iload_n 1, 1) := by decide +kernel
theorem dX7_item_27 : decode cX7_item 27 = .ok (.iaload, 1) := by decide +kernel
theorem dX7_item_28 : decode cX7_item 28 = .ok (.invokevirtual 72, 3) := by decide +kernel
theorem dX7_item_31 : decode cX7_item 31 = .ok (.ireturn, 1) := by decide +kernel
theorem dX7_shape_0 : decode cX7_shape 0 = .ok (.aload_n 0, 1) := by decide +kernel
theorem dX7_shape_1 : decode cX7_shape 1 = .ok (.iconst 0, 1) := by decide +kernel
theorem dX7_shape_2 : decode cX7_shape 2 = .ok (.putfield 46, 3) := by decide +kernel
theorem dX7_shape_5 : decode cX7_shape 5 = .ok (.aload_n 0, 1) := by decide +kernel
theorem dX7_shape_6 : decode cX7_shape 6 = .ok (.getfield 81, 3) := by decide +kernel
theorem dX7_shape_9 : decode cX7_shape 9 = .ok (.ifCond .ne 6, 3) := by decide +kernel
theorem dX7_shape_12 : decode cX7_shape 12 = .ok (.bipush (-2), 2) := by decide +kernel
theorem dX7_shape_14 : decode cX7_shape 14 = .ok (.ireturn, 1) := by decide +kernel
theorem dX7_shape_15 : decode cX7_shape 15 = .ok (.iload_n 1, 1) := by decide +kernel
theorem dX7_shape_16 : decode cX7_shape 16 = .ok (.iconst 0, 1) := by decide +kernel
theorem dX7_shape_17 : decode cX7_shape 17 = .ok (.aload_n 0, 1) := by decide +kernel
theorem dX7_shape_18 : decode cX7_shape 18 = .ok (.invokevirtual 99, 3) := by decide +kernel
theorem dX7_shape_21 : decode cX7_shape 21 = .ok (.iconst 1, 1) := by decide +kernel
theorem dX7_shape_22 : decode cX7_shape 22 = .ok (.isub, 1) := by decide +kernel
theorem dX7_shape_23 : decode cX7_shape 23 = .ok (.invokestatic 56, 3) := by decide +kernel
theorem dX7_shape_26 : decode cX7_shape 26 = .ok (.ifCond .eq 11, 3) := by decide +kernel
theorem dX7_shape_29 : decode cX7_shape 29 = .ok (.aload_n 0, 1) := by decide +kernel
theorem dX7_shape_30 : decode cX7_shape 30 = .ok (.iload_n 1, 1) := by decide +kernel
theorem dX7_shape_31 : decode cX7_shape 31 = .ok (.invokevirtual 103, 3) := by decide +kernel
theorem dX7_shape_34 : decode cX7_shape 34 = .ok (.goto 8, 3) := by decide +kernel
theorem dX7_shape_37 : decode cX7_shape 37 = .ok (.aload_n 0, 1) := by decide +kernel
theorem dX7_shape_38 : decode cX7_shape 38 = .ok (.iconst 2, 1) := by decide +kernel
theorem dX7_shape_39 : decode cX7_shape 39 = .ok (.invokevirtual 64, 3) := by decide +kernel
theorem dX7_shape_42 : decode cX7_shape 42 = .ok (.ireturn, 1) := by decide +kernel
theorem dX7_entry_0 : decode cX7_entry 0 = .ok (.aload_n 0, 1) := by decide +kernel
theorem dX7_entry_1 : decode cX7_entry 1 = .ok (.iconst 0, 1) := by decide +kernel
theorem dX7_entry_2 : decode cX7_entry 2 = .ok (.putfield 46, 3) := by decide +kernel
theorem dX7_entry_5 : decode cX7_entry 5 = .ok (.aload_n 0, 1) := by decide +kernel
theorem dX7_entry_6 : decode cX7_entry 6 = .ok (.getfield 81, 3) := by decide +kernel
theorem dX7_entry_9 : decode cX7_entry 9 = .ok (.ifCond .ne 6, 3) := by decide +kernel
theorem dX7_entry_12 : decode cX7_entry 12 = .ok (.bipush (-2), 2) := by decide +kernel
theorem dX7_entry_14 : decode cX7_entry 14 = .ok (.ireturn, 1) := by decide +kernel
theorem dX7_entry_15 : decode cX7_entry 15 = .ok (.aload_n 0, 1) := by decide +kernel
theorem dX7_entry_16 : decode cX7_entry 16 = .ok (.iload_n 1, 1) := by decide +kernel
theorem dX7_entry_17 : decode cX7_entry 17 = .ok (.invokevirtual 90, 3) := by decide +kernel
theorem dX7_entry_20 : decode cX7_entry 20 = .ok (.ifCond .ne 5, 3) := by decide +kernel
theorem dX7_entry_23 : decode cX7_entry 23 = .ok (.iconst (-1), 1) := by decide +kernel
theorem dX7_entry_24 : decode cX7_entry 24 = .ok (.ireturn, 1) := by decide +kernel
theorem dX7_entry_25 : decode cX7_entry 25 = .ok (.iconst 0, 1) := by decide +kernel
theorem dX7_entry_26 : decode cX7_entry 26 = .ok (.istore 4, 2) := by decide +kernel
theorem dX7_entry_28 : decode cX7_entry 28 = .ok (.iload_n 1, 1) := by decide +kernel
theorem dX7_entry_29 : decode cX7_entry 29 = .ok (.iload 4, 2) := by decide +kernel
theorem dX7_entry_31 : decode cX7_entry 31 = .ok (.iconst 1, 1) := by decide +kernel
theorem dX7_entry_32 : decode cX7_entry 32 = .ok (.iadd, 1) := by decide +kernel
theorem dX7_entry_33 : decode cX7_entry 33 = .ok (.ishr, 1) := by decide +kernel
theorem dX7_entry_34 : decode cX7_entry 34 = .ok (.ifCond .le 9, 3) := by decide +kernel
theorem dX7_entry_37 : decode cX7_entry 37 = .ok (.iinc 4 1, 3) := by decide +kernel
theorem dX7_entry_40 : decode cX7_entry 40 = .ok (.goto (-12), 3) := by decide +kernel
theorem dX7_entry_43 : decode cX7_entry 43 = .ok (.iconst 0, 1) := by decide +kernel
theorem dX7_entry_44 : decode cX7_entry 44 = .ok (.istore 5, 2) := by decide +kernel
theorem dX7_entry_46 : decode cX7_entry 46 = .ok (.bipush (-9), 2) := by decide +kernel
theorem dX7_entry_48 : decode cX7_entry 48 = .ok (.istore 6, 2) := by decide +kernel
theorem dX7_entry_50 : decode cX7_entry 50 = .ok (.aload_n 0, 1) := by decide +kernel
theorem dX7_entry_51 : decode cX7_entry 51 = .ok (.iconst 0, 1) := by decide +kernel
theorem dX7_entry_52 : decode cX7_entry 52 = .ok (.putfield 84, 3) := by decide +kernel
theorem dX7_entry_55 : decode cX7_entry 55 = .ok (.iload 4, 2) := by decide +kernel
theorem dX7_entry_57 : decode cX7_entry 57 = .ok (.iconst 1, 1) := by decide +kernel
theorem dX7_entry_58 : decode cX7_entry 58 = .ok (.isub, 1) := by decide +kernel
theorem dX7_entry_59 : decode cX7_entry 59 = .ok (.istore 7, 2) := by decide +kernel
theorem dX7_entry_61 : decode cX7_entry 61 = .ok (.iload 7, 2) := by decide +kernel
theorem dX7_entry_63 : decode cX7_entry 63 = .ok (.ifCond .lt 105, 3) := by decide +kernel
theorem dX7_entry_66 : decode cX7_entry 66 = .ok (.iload_n 1, 1) := by decide +kernel
theorem dX7_entry_67 : decode cX7_entry 67 = .ok (.iload 7, 2) := by decide +kernel
theorem dX7_entry_69 : decode cX7_entry 69 = .ok (.ishr, 1) := by decide +kernel
theorem dX7_entry_70 : decode cX7_entry 70 = .ok (.iconst 1, 1) := by decide +kernel
theorem dX7_entry_71 : decode cX7_entry 71 = .ok (.iand, 1) := by decide +kernel
theorem dX7_entry_72 : decode cX7_entry 72 = .ok (.ifCond .ne 16, 3) := by decide +kernel
theorem dX7_entry_75 : decode cX7_entry 75 = .ok (.aload_n 0, 1) := by decide +kernel
theorem dX7_entry_76 : decode cX7_entry 76 = .ok (.dup, 1) := by decide +kernel
theorem dX7_entry_77 : decode cX7_entry 77 = .ok (.getfield 84, 3) := by decide +kernel
theorem dX7_entry_80 : decode cX7_entry 80 = .ok (.iconst 1, 1) := by decide +kernel
theorem dX7_entry_81 : decode cX7_entry 81 = .ok (.isub, 1) := by decide +kernel
theorem dX7_entry_82 : decode cX7_entry 82 = .ok (.putfield 84, 3) := by decide +kernel
theorem dX7_entry_85 : decode cX7_entry 85 = .ok (.goto 77, 3) := by decide +kernel
theorem dX7_entry_88 : decode cX7_entry 88 = .ok (.aload_n 0, 1) := by decide +kernel
theorem dX7_entry_89 : decode cX7_entry 89 = .ok (.getfield 40, 3) := by decide +kernel
theorem dX7_entry_92 : decode cX7_entry 92 = .ok (.aload_n 0, 1) := by decide +kernel
theorem dX7_entry_93 : decode cX7_entry 93 = .ok (.getfield 84, 3) := by decide +kernel
theorem dX7_entry_96 : decode cX7_entry 96 = .ok (.iload 5, 2) := by decide +kernel
theorem dX7_entry_98 : decode cX7_entry 98 = .ok (.iastore, 1) := by decide +kernel
theorem dX7_entry_99 : decode cX7_entry 99 = .ok (.aload_n 0, 1) := by decide +kernel
theorem dX7_entry_100 : decode cX7_entry 100 = .ok (.dup, 1) := by decide +kernel
theorem dX7_entry_101 : decode cX7_entry 101 = .ok (.getfield 84, 3) := by decide +kernel
theorem dX7_entry_104 : decode cX7_entry 104 = .ok (.iconst 1, 1) := by decide +kernel
theorem dX7_entry_105 : decode cX7_entry 105 = .ok (.iadd, 1) := by decide +kernel
theorem dX7_entry_106 : decode cX7_entry 106 = .ok (.putfield 84, 3) := by decide +kernel
theorem dX7_entry_109 : decode cX7_entry 109 = .ok (.aload_n 0, 1) := by decide +kernel
theorem dX7_entry_110 : decode cX7_entry 110 = .ok (.getfield 84, 3) := by decide +kernel
theorem dX7_entry_113 : decode cX7_entry 113 = .ok (.iconst 1, 1) := by decide +kernel
theorem dX7_entry_114 : decode cX7_entry 114 = .ok (.isub, 1) := by decide +kernel
theorem dX7_entry_115 : decode cX7_entry 115 = .ok (.istore 8, 2) := by decide +kernel
theorem dX7_entry_117 : decode cX7_entry 117 = .ok (.iload 8, 2) := by decide +kernel
theorem dX7_entry_119 : decode cX7_entry 119 = .ok (.ifCond .lt 40, 3) := by decide +kernel
theorem dX7_entry_122 : decode cX7_entry 122 = .ok (.iload 5, 2) := by decide +kernel
theorem dX7_entry_124 : decode cX7_entry 124 = .ok (.iload_n 3, 1) := by decide +kernel
theorem dX7_entry_125 : decode cX7_entry 125 = .ok (.if_icmp .ne 34, 3) := by decide +kernel
theorem dX7_entry_128 : decode cX7_entry 128 = .ok (.aload_n 0, 1) := by decide +kernel
theorem dX7_entry_129 : decode cX7_entry 129 = .ok (.getfield 40, 3) := by decide +kernel
theorem dX7_entry_132 : decode cX7_entry 132 = .ok (.iload 8, 2) := by decide +kernel
theorem dX7_entry_134 : decode cX7_entry 134 = .ok (.iaload, 1) := by decide +kernel
theorem dX7_entry_135 : decode cX7_entry 135 = .ok (.iload_n 2, 1) := by decide +kernel
theorem dX7_entry_136 : decode cX7_entry 136 = .ok (.if_icmp .lt 13, 3) := by decide +kernel
theorem dX7_entry_139 : decode cX7_entry 139 = .ok (.aload_n 0, 1) := by decide +kernel
theorem dX7_entry_140 : decode cX7_entry 140 = .ok (.getfield 40, 3) := by decide +kernel
theorem dX7_entry_143 : decode cX7_entry 143 = .ok (.iload 8, 2) := by decide +kernel
theorem dX7_entry_145 : decode cX7_entry 145 = .ok (.iaload, 1) := by decide +kernel
theorem dX7_entry_146 : decode cX7_entry 146 = .ok (.goto 5, 3) := by decide +kernel
theorem dX7_entry_149 : decode cX7_entry 149 = .ok (.iload 6, 2) := by decide +kernel
theorem dX7_entry_151 : decode cX7_entry 151 = .ok (.istore 6, 2) := by decide +kernel
theorem dX7_entry_153 : decode cX7_entry 153 = .ok (.iinc 8 (-1), 3) := by decide +kernel
theorem dX7_entry_156 : decode cX7_entry 156 = .ok (.goto (-39), 3) := by decide +kernel
theorem dX7_entry_159 : decode cX7_entry 159 = .ok (.iinc 5 1, 3) := by decide +kernel
theorem dX7_entry_162 : decode cX7_entry 162 = .ok (.iinc 7 (-1), 3) := by decide +kernel
theorem dX7_entry_165 : decode cX7_entry 165 = .ok (.goto (-104), 3) := by decide +kernel
theorem dX7_entry_168 : decode cX7_entry 168 = .ok (.iload_n 2, 1) := by decide +kernel
theorem dX7_entry_169 : decode cX7_entry 169 = .ok (.iconst 0, 1) := by decide +kernel
theorem dX7_entry_170 : decode cX7_entry 170 = .ok (.iload 5, 2) := by decide +kernel
theorem dX7_entry_172 : decode cX7_entry 172 = .ok (.iconst 1, 1) := by decide +kernel
theorem dX7_entry_173 : decode cX7_entry 173 = .ok (.isub, 1) := by decide +kernel
theorem dX7_entry_174 : decode cX7_entry 174 = .ok (.invokestatic 56, 3) := by decide +kernel
theorem dX7_entry_177 : decode cX7_entry 177 = .ok (.ifCond .eq 20, 3) := by decide +kernel
theorem dX7_entry_180 : decode cX7_entry 180 = .ok (.iload_n 3, 1) := by decide +kernel
theorem dX7_entry_181 : decode cX7_entry 181 = .ok (.iload_n 2, 1) := by decide +kernel
theorem dX7_entry_182 : decode cX7_entry 182 = .ok (.iload 5, 2) := by decide +kernel
theorem dX7_entry_184 : decode cX7_entry 184 = .ok (.iconst 1, 1) := by decide +kernel
theorem dX7_entry_185 : decode cX7_entry 185 = .ok (.isub, 1) := by decide +kernel
theorem dX7_entry_186 : decode cX7_entry 186 = .ok (.invokestatic 56, 3) := by decide +kernel
theorem dX7_entry_189 : decode cX7_entry 189 = .ok (.ifCond .eq 8, 3) := by decide +kernel
theorem dX7_entry_192 : decode cX7_entry 192 = .ok (.iload 6, 2) := by decide +kernel
theorem dX7_entry_194 : decode cX7_entry 194 = .ok (.goto 8, 3) := by decide +kernel
theorem dX7_entry_197 : decode cX7_entry 197 = .ok (.aload_n 0, 1) := by decide +kernel
theorem dX7_entry_198 : decode cX7_entry 198 = .ok (.iconst 2, 1) := by decide +kernel
theorem dX7_entry_199 : decode cX7_entry 199 = .ok (.invokevirtual 64, 3) := by decide +kernel
theorem dX7_entry_202 : decode cX7_entry 202 = .ok (.ireturn, 1) := by decide +kernel
theorem dX7_leastOf_0 : decode cX7_leastOf 0 = .ok (.iload_n 1, 1) := by decide +kernel
theorem dX7_leastOf_1 : decode cX7_leastOf 1 = .ok (.istore_n 3, 1) := by decide +kernel
theorem dX7_leastOf_2 : decode cX7_leastOf 2 = .ok (.iload_n 1, 1) := by decide +kernel
theorem dX7_leastOf_3 : decode cX7_leastOf 3 = .ok (.iconst 1, 1) := by decide +kernel
theorem dX7_leastOf_4 : decode cX7_leastOf 4 = .ok (.iadd, 1) := by decide +kernel
theorem dX7_leastOf_5 : decode cX7_leastOf 5 = .ok (.istore 4, 2) := by decide +kernel
theorem dX7_leastOf_7 : decode cX7_leastOf 7 = .ok (.iload 4, 2) := by decide +kernel
theorem dX7_leastOf_9 : decode cX7_leastOf 9 = .ok (.iload_n 2, 1) := by decide +kernel
theorem dX7_leastOf_10 : decode cX7_leastOf 10 = .ok (.if_icmp .gt 32, 3) := by decide +kernel
theorem dX7_leastOf_13 : decode cX7_leastOf 13 = .ok (.aload_n 0, 1) := by decide +kernel
theorem dX7_leastOf_14 : decode cX7_leastOf 14 = .ok (.getfield 19, 3) := by decide +kernel
theorem dX7_leastOf_17 : decode cX7_leastOf 17 = .ok (.iload 4, 2) := by decide +kernel
theorem dX7_leastOf_19 : decode cX7_leastOf 19 = .ok (.iaload, 1) := by decide +kernel
theorem dX7_leastOf_20 : decode cX7_leastOf 20 = .ok (.aload_n 0, 1) := by decide +kernel
theorem dX7_leastOf_21 : decode cX7_leastOf 21 = .ok (.getfield 19, 3) := by decide +kernel
theorem dX7_leastOf_24 : decode cX7_leastOf 24 = .ok (.iload_n 3, 1) := by decide +kernel
theorem dX7_leastOf_25 : decode cX7_leastOf 25 = .ok (.iaload, 1) := by decide +kernel
theorem dX7_leastOf_26 : decode cX7_leastOf 26 = .ok (.if_icmp .ge 8, 3) := by decide +kernel
theorem dX7_leastOf_29 : decode cX7_leastOf 29 = .ok (.iload 4, 2) := by decide +kernel
theorem dX7_leastOf_31 : decode cX7_leastOf 31 = .ok (.goto 4, 3) := by decide +kernel
theorem dX7_leastOf_34 : decode cX7_leastOf 34 = .ok (.iload_n 3, 1) := by decide +kernel
theorem dX7_leastOf_35 : decode cX7_leastOf 35 = .ok (.istore_n 3, 1) := by decide +kernel
theorem dX7_leastOf_36 : decode cX7_leastOf 36 = .ok (.iinc 4 1, 3) := by decide +kernel
theorem dX7_leastOf_39 : decode cX7_leastOf 39 = .ok (.goto (-32), 3) := by decide +kernel
theorem dX7_leastOf_42 : decode cX7_leastOf 42 = .ok (.iload_n 3, 1) := by decide +kernel
theorem dX7_leastOf_43 : decode cX7_leastOf 43 = .ok (.ireturn, 1) := by decide +kernel
theorem dX7_least_0 : decode cX7_least 0 = .ok (.aload_n 0, 1) := by decide +kernel
theorem dX7_least_1 : decode cX7_least 1 = .ok (.iconst 0, 1) := by decide +kernel
theorem dX7_least_2 : decode cX7_least 2 = .ok (.putfield 46, 3) := by decide +kernel
theorem dX7_least_5 : decode cX7_least 5 = .ok (.aload_n 0, 1) := by decide +kernel
theorem dX7_least_6 : decode cX7_least 6 = .ok (.iload_n 1, 1) := by decide +kernel
theorem dX7_least_7 : decode cX7_least 7 = .ok (.iload_n 2, 1) := by decide +kernel
theorem dX7_least_8 : decode cX7_least 8 = .ok (.invokevirtual 113, 3) := by decide +kernel
theorem dX7_least_11 : decode cX7_least 11 = .ok (.istore_n 3, 1) := by decide +kernel
theorem dX7_least_12 : decode cX7_least 12 = .ok (.iload_n 3, 1) := by decide +kernel
theorem dX7_least_13 : decode cX7_least 13 = .ok (.ifCond .eq 5, 3) := by decide +kernel
theorem dX7_least_16 : decode cX7_least 16 = .ok (.iload_n 3, 1) := by decide +kernel
theorem dX7_least_17 : decode cX7_least 17 = .ok (.ireturn, 1) := by decide +kernel
theorem dX7_least_18 : decode cX7_least 18 = .ok (.aload_n 0, 1) := by decide +kernel
theorem dX7_least_19 : decode cX7_least 19 = .ok (.iload_n 1, 1) := by decide +kernel
theorem dX7_least_20 : decode cX7_least 20 = .ok (.iload_n 2, 1) := by decide +kernel
theorem dX7_least_21 : decode cX7_least 21 = .ok (.invokevirtual 116, 3) := by decide +kernel
theorem dX7_least_24 : decode cX7_least 24 = .ok (.istore 4, 2) := by decide +kernel
theorem dX7_least_26 : decode cX7_least 26 = .ok (.aload_n 0, 1) := by decide +kernel
theorem dX7_least_27 : decode cX7_least 27 = .ok (.iload 4, 2) := by decide +kernel
theorem dX7_least_29 : decode cX7_least 29 = .ok (.aload_n 0, 1) := by decide +kernel
theorem dX7_least_30 : decode cX7_least 30 = .ok (.getfield 19, 3) := by decide +kernel
theorem dX7_least_33 : decode cX7_least 33 = .ok (.iload 4, 2) := by decide +kernel
theorem dX7_least_35 : decode cX7_least 35 = .ok (.iaload, 1) := by decide +kernel
theorem dX7_least_36 : decode cX7_least 36 = .ok (.invokevirtual 72, 3) := by decide +kernel
theorem dX7_least_39 : decode cX7_least 39 = .ok (.ireturn, 1) := by decide +kernel
theorem dX7_kth_0 : decode cX7_kth 0 = .ok (.aload_n 0, 1) := by decide +kernel
theorem dX7_kth_1 : decode cX7_kth 1 = .ok (.iconst 0, 1) := by decide +kernel
theorem dX7_kth_2 : decode cX7_kth 2 = .ok (.putfield 46, 3) := by decide +kernel
theorem dX7_kth_5 : decode cX7_kth 5 = .ok (.aload_n 0, 1) := by decide +kernel
theorem dX7_kth_6 : decode cX7_kth 6 = .ok (.iload_n 1, 1) := by decide +kernel
theorem dX7_kth_7 : decode cX7_kth 7 = .ok (.iload_n 2, 1) := by decide +kernel
theorem dX7_kth_8 : decode cX7_kth 8 = .ok (.invokevirtual 113, 3) := by decide +kernel
theorem dX7_kth_11 : decode cX7_kth 11 = .ok (.istore 4, 2) := by decide +kernel
theorem dX7_kth_13 : decode cX7_kth 13 = .ok (.iload 4, 2) := by decide +kernel
theorem dX7_kth_15 : decode cX7_kth 15 = .ok (.ifCond .eq 6, 3) := by decide +kernel
theorem dX7_kth_18 : decode cX7_kth 18 = .ok (.iload 4, 2) := by decide +kernel
theorem dX7_kth_20 : decode cX7_kth 20 = .ok (.ireturn, 1) := by decide +kernel
theorem dX7_kth_21 : decode cX7_kth 21 = .ok (.iload_n 3, 1) := by decide +kernel
theorem dX7_kth_22 : decode cX7_kth 22 = .ok (.iconst 0, 1) := by decide +kernel
theorem dX7_kth_23 : decode cX7_kth 23 = .ok (.iload_n 2, 1) := by decide +kernel
theorem dX7_kth_24 : decode cX7_kth 24 = .ok (.iload_n 1, 1) := by decide +kernel
theorem dX7_kth_25 : decode cX7_kth 25 = .ok (.isub, 1) := by decide +kernel
theorem dX7_kth_26 : decode cX7_kth 26 = .ok (.invokestatic 56, 3) := by decide +kernel
theorem dX7_kth_29 : decode cX7_kth 29 = .ok (.ifCond .ne 9, 3) := by decide +kernel
theorem dX7_kth_32 : decode cX7_kth 32 = .ok (.aload_n 0, 1) := by decide +kernel
theorem dX7_kth_33 : decode cX7_kth 33 = .ok (.iconst 2, 1) := by decide +kernel
theorem dX7_kth_34 : decode cX7_kth 34 = .ok (.invokevirtual 64, 3) := by decide +kernel
theorem dX7_kth_37 : decode cX7_kth 37 = .ok (.ireturn, 1) := by decide +kernel
theorem dX7_kth_38 : decode cX7_kth 38 = .ok (.iload_n 1, 1) := by decide +kernel
theorem dX7_kth_39 : decode cX7_kth 39 = .ok (.istore 5, 2) := by decide +kernel
theorem dX7_kth_41 : decode cX7_kth 41 = .ok (.iload 5, 2) := by decide +kernel
theorem dX7_kth_43 : decode cX7_kth 43 = .ok (.iload_n 2, 1) := by decide +kernel
theorem dX7_kth_44 : decode cX7_kth 44 = .ok (.if_icmp .gt 98, 3) := by decide +kernel
theorem dX7_kth_47 : decode cX7_kth 47 = .ok (.iconst 0, 1) := by decide +kernel
theorem dX7_kth_48 : decode cX7_kth 48 = .ok (.istore 6, 2) := by decide +kernel
theorem dX7_kth_50 : decode cX7_kth 50 = .ok (.iload_n 1, 1) := by decide +kernel
theorem dX7_kth_51 : decode cX7_kth 51 = .ok (.istore 7, 2) := by decide +kernel
theorem dX7_kth_53 : decode cX7_kth 53 = .ok (.iload 7, 2) := by decide +kernel
theorem dX7_kth_55 : decode cX7_kth 55 = .ok (.iload_n 2, 1) := by decide +kernel
theorem dX7_kth_56 : decode cX7_kth 56 = .ok (.if_icmp .gt 60, 3) := by decide +kernel
theorem dX7_kth_59 : decode cX7_kth 59 = .ok (.iload 6, 2) := by decide +kernel
theorem dX7_kth_61 : decode cX7_kth 61 = .ok (.aload_n 0, 1) := by decide +kernel
theorem dX7_kth_62 : decode cX7_kth 62 = .ok (.getfield 19, 3) := by decide +kernel
theorem dX7_kth_65 : decode cX7_kth 65 = .ok (.iload 7, 2) := by decide +kernel
theorem dX7_kth_67 : decode cX7_kth 67 = .ok (.iaload, 1) := by decide +kernel
theorem dX7_kth_68 : decode cX7_kth 68 = .ok (.aload_n 0, 1) := by decide +kernel
theorem dX7_kth_69 : decode cX7_kth 69 = .ok (.getfield 19, 3) := by decide +kernel
theorem dX7_kth_72 : decode cX7_kth 72 = .ok (.iload 5, 2) := by decide +kernel
theorem dX7_kth_74 : decode cX7_kth 74 = .ok (.iaload, 1) := by decide +kernel
theorem dX7_kth_75 : decode cX7_kth 75 = .ok (.if_icmp .lt 27, 3) := by decide +kernel
theorem dX7_kth_78 : decode cX7_kth 78 = .ok (.aload_n 0, 1) := by decide +kernel
theorem dX7_kth_79 : decode cX7_kth 79 = .ok (.getfield 19, 3) := by decide +kernel
theorem dX7_kth_82 : decode cX7_kth 82 = .ok (.iload 7, 2) := by decide +kernel
theorem dX7_kth_84 : decode cX7_kth 84 = .ok (.iaload, 1) := by decide +kernel
theorem dX7_kth_85 : decode cX7_kth 85 = .ok (.aload_n 0, 1) := by decide +kernel
theorem dX7_kth_86 : decode cX7_kth 86 = .ok (.getfield 19, 3) := by decide +kernel
theorem dX7_kth_89 : decode cX7_kth 89 = .ok (.iload 5, 2) := by decide +kernel
theorem dX7_kth_91 : decode cX7_kth 91 = .ok (.iaload, 1) := by decide +kernel
theorem dX7_kth_92 : decode cX7_kth 92 = .ok (.if_icmp .ne 14, 3) := by decide +kernel
theorem dX7_kth_95 : decode cX7_kth 95 = .ok (.iload 7, 2) := by decide +kernel
theorem dX7_kth_97 : decode cX7_kth 97 = .ok (.iload 5, 2) := by decide +kernel
theorem dX7_kth_99 : decode cX7_kth 99 = .ok (.if_icmp .ge 7, 3) := by decide +kernel
theorem dX7_kth_102 : decode cX7_kth 102 = .ok (.iconst 1, 1) := by decide +kernel
theorem dX7_kth_103 : decode cX7_kth 103 = .ok (.goto 4, 3) := by decide +kernel
theorem dX7_kth_106 : decode cX7_kth 106 = .ok (.iconst 0, 1) := by decide +kernel
theorem dX7_kth_107 : decode cX7_kth 107 = .ok (.iadd, 1) := by decide +kernel
theorem dX7_kth_108 : decode cX7_kth 108 = .ok (.istore 6, 2) := by decide +kernel
theorem dX7_kth_110 : decode cX7_kth 110 = .ok (.iinc 7 1, 3) := by decide +kernel
theorem dX7_kth_113 : decode cX7_kth 113 = .ok (.goto (-60), 3) := by decide +kernel
theorem dX7_kth_116 : decode cX7_kth 116 = .ok (.iload 6, 2) := by decide +kernel
theorem dX7_kth_118 : decode cX7_kth 118 = .ok (.iload_n 3, 1) := by decide +kernel
theorem dX7_kth_119 : decode cX7_kth 119 = .ok (.if_icmp .ne 17, 3) := by decide +kernel
theorem dX7_kth_122 : decode cX7_kth 122 = .ok (.aload_n 0, 1) := by decide +kernel
theorem dX7_kth_123 : decode cX7_kth 123 = .ok (.iload 5, 2) := by decide +kernel
theorem dX7_kth_125 : decode cX7_kth 125 = .ok (.aload_n 0, 1) := by decide +kernel
theorem dX7_kth_126 : decode cX7_kth 126 = .ok (.getfield 19, 3) := by decide +kernel
theorem dX7_kth_129 : decode cX7_kth 129 = .ok (.iload 5, 2) := by decide +kernel
theorem dX7_kth_131 : decode cX7_kth 131 = .ok (.iaload, 1) := by decide +kernel
theorem dX7_kth_132 : decode cX7_kth 132 = .ok (.invokevirtual 72, 3) := by decide +kernel
theorem dX7_kth_135 : decode cX7_kth 135 = .ok (.ireturn, 1) := by decide +kernel
theorem dX7_kth_136 : decode cX7_kth 136 = .ok (.iinc 5 1, 3) := by decide +kernel
theorem dX7_kth_139 : decode cX7_kth 139 = .ok (.goto (-98), 3) := by decide +kernel
theorem dX7_kth_142 : decode cX7_kth 142 = .ok (.bipush (-9), 2) := by decide +kernel
theorem dX7_kth_144 : decode cX7_kth 144 = .ok (.ireturn, 1) := by decide +kernel
theorem dX7_leftOf_0 : decode cX7_leftOf 0 = .ok (.iload_n 1, 1) := by decide +kernel
theorem dX7_leftOf_1 : decode cX7_leftOf 1 = .ok (.iconst 1, 1) := by decide +kernel
theorem dX7_leftOf_2 : decode cX7_leftOf 2 = .ok (.isub, 1) := by decide +kernel
theorem dX7_leftOf_3 : decode cX7_leftOf 3 = .ok (.istore_n 2, 1) := by decide +kernel
theorem dX7_leftOf_4 : decode cX7_leftOf 4 = .ok (.iload_n 2, 1) := by decide +kernel
theorem dX7_leftOf_5 : decode cX7_leftOf 5 = .ok (.ifCond .lt 24, 3) := by decide +kernel
theorem dX7_leftOf_8 : decode cX7_leftOf 8 = .ok (.aload_n 0, 1) := by decide +kernel
theorem dX7_leftOf_9 : decode cX7_leftOf 9 = .ok (.getfield 19, 3) := by decide +kernel
theorem dX7_leftOf_12 : decode cX7_leftOf 12 = .ok (.iload_n 2, 1) := by decide +kernel
theorem dX7_leftOf_13 : decode cX7_leftOf 13 = .ok (.iaload, 1) := by decide +kernel
theorem dX7_leftOf_14 : decode cX7_leftOf 14 = .ok (.aload_n 0, 1) := by decide +kernel
theorem dX7_leftOf_15 : decode cX7_leftOf 15 = .ok (.getfield 19, 3) := by decide +kernel
theorem dX7_leftOf_18 : decode cX7_leftOf 18 = .ok (.iload_n 1, 1) := by decide +kernel
theorem dX7_leftOf_19 : decode cX7_leftOf 19 = .ok (.iaload, 1) := by decide +kernel
theorem dX7_leftOf_20 : decode cX7_leftOf 20 = .ok (.if_icmp .le 9, 3) := by decide +kernel
theorem dX7_leftOf_23 : decode cX7_leftOf 23 = .ok (.iinc 2 (-1), 3) := by decide +kernel
theorem dX7_leftOf_26 : decode cX7_leftOf 26 = .ok (.goto (-22), 3) := by decide +kernel
theorem dX7_leftOf_29 : decode cX7_leftOf 29 = .ok (.iload_n 2, 1) := by decide +kernel
theorem dX7_leftOf_30 : decode cX7_leftOf 30 = .ok (.ireturn, 1) := by decide +kernel
theorem dX7_rightOf_0 : decode cX7_rightOf 0 = .ok (.iload_n 1, 1) := by decide +kernel
theorem dX7_rightOf_1 : decode cX7_rightOf 1 = .ok (.iconst 1, 1) := by decide +kernel
theorem dX7_rightOf_2 : decode cX7_rightOf 2 = .ok (.iadd, 1) := by decide +kernel
theorem dX7_rightOf_3 : decode cX7_rightOf 3 = .ok (.istore_n 2, 1) := by decide +kernel
theorem dX7_rightOf_4 : decode cX7_rightOf 4 = .ok (.iload_n 2, 1) := by decide +kernel
theorem dX7_rightOf_5 : decode cX7_rightOf 5 = .ok (.aload_n 0, 1) := by decide +kernel
theorem dX7_rightOf_6 : decode cX7_rightOf 6 = .ok (.getfield 81, 3) := by decide +kernel
theorem dX7_rightOf_9 : decode cX7_rightOf 9 = .ok (.if_icmp .ge 24, 3) := by decide +kernel
theorem dX7_rightOf_12 : decode cX7_rightOf 12 = .ok (.aload_n 0, 1) := by decide +kernel
theorem dX7_rightOf_13 : decode cX7_rightOf 13 = .ok (.getfield 19, 3) := by decide +kernel
theorem dX7_rightOf_16 : decode cX7_rightOf 16 = .ok (.iload_n 2, 1) := by decide +kernel
theorem dX7_rightOf_17 : decode cX7_rightOf 17 = .ok (.iaload, 1) := by decide +kernel
theorem dX7_rightOf_18 : decode cX7_rightOf 18 = .ok (.aload_n 0, 1) := by decide +kernel
theorem dX7_rightOf_19 : decode cX7_rightOf 19 = .ok (.getfield 19, 3) := by decide +kernel
theorem dX7_rightOf_22 : decode cX7_rightOf 22 = .ok (.iload_n 1, 1) := by decide +kernel
theorem dX7_rightOf_23 : decode cX7_rightOf 23 = .ok (.iaload, 1) := by decide +kernel
theorem dX7_rightOf_24 : decode cX7_rightOf 24 = .ok (.if_icmp .lt 9, 3) := by decide +kernel
theorem dX7_rightOf_27 : decode cX7_rightOf 27 = .ok (.iinc 2 1, 3) := by decide +kernel
theorem dX7_rightOf_30 : decode cX7_rightOf 30 = .ok (.goto (-26), 3) := by decide +kernel
theorem dX7_rightOf_33 : decode cX7_rightOf 33 = .ok (.iload_n 2, 1) := by decide +kernel
theorem dX7_rightOf_34 : decode cX7_rightOf 34 = .ok (.ireturn, 1) := by decide +kernel
theorem dX7_left_0 : decode cX7_left 0 = .ok (.aload_n 0, 1) := by decide +kernel
theorem dX7_left_1 : decode cX7_left 1 = .ok (.iconst 0, 1) := by decide +kernel
theorem dX7_left_2 : decode cX7_left 2 = .ok (.putfield 46, 3) := by decide +kernel
theorem dX7_left_5 : decode cX7_left 5 = .ok (.aload_n 0, 1) := by decide +kernel
theorem dX7_left_6 : decode cX7_left 6 = .ok (.iload_n 1, 1) := by decide +kernel
theorem dX7_left_7 : decode cX7_left 7 = .ok (.iload_n 1, 1) := by decide +kernel
theorem dX7_left_8 : decode cX7_left 8 = .ok (.invokevirtual 113, 3) := by decide +kernel
theorem dX7_left_11 : decode cX7_left 11 = .ok (.istore_n 2, 1) := by decide +kernel
theorem dX7_left_12 : decode cX7_left 12 = .ok (.iload_n 2, 1) := by decide +kernel
theorem dX7_left_13 : decode cX7_left 13 = .ok (.ifCond .eq 5, 3) := by decide +kernel
theorem dX7_left_16 : decode cX7_left 16 = .ok (.iload_n 2, 1) := by decide +kernel
theorem dX7_left_17 : decode cX7_left 17 = .ok (.ireturn, 1) := by decide +kernel
theorem dX7_left_18 : decode cX7_left 18 = .ok (.aload_n 0, 1) := by decide +kernel
theorem dX7_left_19 : decode cX7_left 19 = .ok (.iload_n 1, 1) := by decide +kernel
theorem dX7_left_20 : decode cX7_left 20 = .ok (.invokevirtual 119, 3) := by decide +kernel
theorem dX7_left_23 : decode cX7_left 23 = .ok (.istore_n 3, 1) := by decide +kernel
theorem dX7_left_24 : decode cX7_left 24 = .ok (.iload_n 3, 1) := by decide +kernel
theorem dX7_left_25 : decode cX7_left 25 = .ok (.ifCond .ge 8, 3) := by decide +kernel
theorem dX7_left_28 : decode cX7_left 28 = .ok (.bipush (-9), 2) := by decide +kernel
theorem dX7_left_30 : decode cX7_left 30 = .ok (.goto 4, 3) := by decide +kernel
theorem dX7_left_33 : decode cX7_left 33 = .ok (.iload_n 3, 1) := by decide +kernel
theorem dX7_left_34 : decode cX7_left 34 = .ok (.ireturn, 1) := by decide +kernel
theorem dX7_right_0 : decode cX7_right 0 = .ok (.aload_n 0, 1) := by decide +kernel
theorem dX7_right_1 : decode cX7_right 1 = .ok (.iconst 0, 1) := by decide +kernel
theorem dX7_right_2 : decode cX7_right 2 = .ok (.putfield 46, 3) := by decide +kernel
theorem dX7_right_5 : decode cX7_right 5 = .ok (.aload_n 0, 1) := by decide +kernel
theorem dX7_right_6 : decode cX7_right 6 = .ok (.iload_n 1, 1) := by decide +kernel
theorem dX7_right_7 : decode cX7_right 7 = .ok (.iload_n 1, 1) := by decide +kernel
theorem dX7_right_8 : decode cX7_right 8 = .ok (.invokevirtual 113, 3) := by decide +kernel
theorem dX7_right_11 : decode cX7_right 11 = .ok (.istore_n 2, 1) := by decide +kernel
theorem dX7_right_12 : decode cX7_right 12 = .ok (.iload_n 2, 1) := by decide +kernel
theorem dX7_right_13 : decode cX7_right 13 = .ok (.ifCond .eq 5, 3) := by decide +kernel
theorem dX7_right_16 : decode cX7_right 16 = .ok (.iload_n 2, 1) := by decide +kernel
theorem dX7_right_17 : decode cX7_right 17 = .ok (.ireturn, 1) := by decide +kernel
theorem dX7_right_18 : decode cX7_right 18 = .ok (.aload_n 0, 1) := by decide +kernel
theorem dX7_right_19 : decode cX7_right 19 = .ok (.iload_n 1, 1) := by decide +kernel
theorem dX7_right_20 : decode cX7_right 20 = .ok (.invokevirtual 122, 3) := by decide +kernel
theorem dX7_right_23 : decode cX7_right 23 = .ok (.istore_n 3, 1) := by decide +kernel
theorem dX7_right_24 : decode cX7_right 24 = .ok (.iload_n 3, 1) := by decide +kernel
theorem dX7_right_25 : decode cX7_right 25 = .ok (.aload_n 0, 1) := by decide +kernel
theorem dX7_right_26 : decode cX7_right 26 = .ok (.getfield 81, 3) := by decide +kernel
theorem dX7_right_29 : decode cX7_right 29 = .ok (.if_icmp .ne 8, 3) := by decide +kernel
theorem dX7_right_32 : decode cX7_right 32 = .ok (.bipush (-9), 2) := by decide +kernel
theorem dX7_right_34 : decode cX7_right 34 = .ok (.goto 4, 3) := by decide +kernel
theorem dX7_right_37 : decode cX7_right 37 = .ok (.iload_n 3, 1) := by decide +kernel
theorem dX7_right_38 : decode cX7_right 38 = .ok (.ireturn, 1) := by decide +kernel
theorem dX7_ownsOf_0 : decode cX7_ownsOf 0 = .ok (.iload_n 1, 1) := by decide +kernel
theorem dX7_ownsOf_1 : decode cX7_ownsOf 1 = .ok (.aload_n 0, 1) := by decide +kernel
theorem dX7_ownsOf_2 : decode cX7_ownsOf 2 = .ok (.iload_n 1, 1) := by decide +kernel
theorem dX7_ownsOf_3 : decode cX7_ownsOf 3 = .ok (.invokevirtual 119, 3) := by decide +kernel
theorem dX7_ownsOf_6 : decode cX7_ownsOf 6 = .ok (.isub, 1) := by decide +kernel
theorem dX7_ownsOf_7 : decode cX7_ownsOf 7 = .ok (.aload_n 0, 1) := by decide +kernel
theorem dX7_ownsOf_8 : decode cX7_ownsOf 8 = .ok (.iload_n 1, 1) := by decide +kernel
theorem dX7_ownsOf_9 : decode cX7_ownsOf 9 = .ok (.invokevirtual 122, 3) := by decide +kernel
theorem dX7_ownsOf_12 : decode cX7_ownsOf 12 = .ok (.iload_n 1, 1) := by decide +kernel
theorem dX7_ownsOf_13 : decode cX7_ownsOf 13 = .ok (.isub, 1) := by decide +kernel
theorem dX7_ownsOf_14 : decode cX7_ownsOf 14 = .ok (.imul, 1) := by decide +kernel
theorem dX7_ownsOf_15 : decode cX7_ownsOf 15 = .ok (.ireturn, 1) := by decide +kernel
theorem dX7_owns_0 : decode cX7_owns 0 = .ok (.aload_n 0, 1) := by decide +kernel
theorem dX7_owns_1 : decode cX7_owns 1 = .ok (.iconst 0, 1) := by decide +kernel
theorem dX7_owns_2 : decode cX7_owns 2 = .ok (.putfield 46, 3) := by decide +kernel
theorem dX7_owns_5 : decode cX7_owns 5 = .ok (.aload_n 0, 1) := by decide +kernel
theorem dX7_owns_6 : decode cX7_owns 6 = .ok (.iload_n 1, 1) := by decide +kernel
theorem dX7_owns_7 : decode cX7_owns 7 = .ok (.iload_n 1, 1) := by decide +kernel
theorem dX7_owns_8 : decode cX7_owns 8 = .ok (.invokevirtual 113, 3) := by decide +kernel
theorem dX7_owns_11 : decode cX7_owns 11 = .ok (.istore_n 2, 1) := by decide +kernel
theorem dX7_owns_12 : decode cX7_owns 12 = .ok (.iload_n 2, 1) := by decide +kernel
theorem dX7_owns_13 : decode cX7_owns 13 = .ok (.ifCond .eq 7, 3) := by decide +kernel
theorem dX7_owns_16 : decode cX7_owns 16 = .ok (.iload_n 2, 1) := by decide +kernel
theorem dX7_owns_17 : decode cX7_owns 17 = .ok (.goto 8, 3) := by decide +kernel
theorem dX7_owns_20 : decode cX7_owns 20 = .ok (.aload_n 0, 1) := by decide +kernel
theorem dX7_owns_21 : decode cX7_owns 21 = .ok (.iload_n 1, 1) := by decide +kernel
theorem dX7_owns_22 : decode cX7_owns 22 = .ok (.invokevirtual 125, 3) := by decide +kernel
theorem dX7_owns_25 : decode cX7_owns 25 = .ok (.ireturn, 1) := by decide +kernel
theorem dX7_sum_0 : decode cX7_sum 0 = .ok (.aload_n 0, 1) := by decide +kernel
theorem dX7_sum_1 : decode cX7_sum 1 = .ok (.iconst 0, 1) := by decide +kernel
theorem dX7_sum_2 : decode cX7_sum 2 = .ok (.putfield 46, 3) := by decide +kernel
theorem dX7_sum_5 : decode cX7_sum 5 = .ok (.lconst 0, 1) := by decide +kernel
theorem dX7_sum_6 : decode cX7_sum 6 = .ok (.lstore_n 1, 1) := by decide +kernel
theorem dX7_sum_7 : decode cX7_sum 7 = .ok (.iconst 0, 1) := by decide +kernel
theorem dX7_sum_8 : decode cX7_sum 8 = .ok (.istore_n 3, 1) := by decide +kernel
theorem dX7_sum_9 : decode cX7_sum 9 = .ok (.iload_n 3, 1) := by decide +kernel
theorem dX7_sum_10 : decode cX7_sum 10 = .ok (.aload_n 0, 1) := by decide +kernel
theorem dX7_sum_11 : decode cX7_sum 11 = .ok (.getfield 81, 3) := by decide +kernel
theorem dX7_sum_14 : decode cX7_sum 14 = .ok (.if_icmp .ge 26, 3) := by decide +kernel
theorem dX7_sum_17 : decode cX7_sum 17 = .ok (.lload_n 1, 1) := by decide +kernel
theorem dX7_sum_18 : decode cX7_sum 18 = .ok (.aload_n 0, 1) := by decide +kernel
theorem dX7_sum_19 : decode cX7_sum 19 = .ok (.getfield 19, 3) := by decide +kernel
theorem dX7_sum_22 : decode cX7_sum 22 = .ok (.iload_n 3, 1) := by decide +kernel
theorem dX7_sum_23 : decode cX7_sum 23 = .ok (.iaload, 1) := by decide +kernel
theorem dX7_sum_24 : decode cX7_sum 24 = .ok (.i2l, 1) := by decide +kernel
theorem dX7_sum_25 : decode cX7_sum 25 = .ok (.aload_n 0, 1) := by decide +kernel
theorem dX7_sum_26 : decode cX7_sum 26 = .ok (.iload_n 3, 1) := by decide +kernel
theorem dX7_sum_27 : decode cX7_sum 27 = .ok (.invokevirtual 125, 3) := by decide +kernel
theorem dX7_sum_30 : decode cX7_sum 30 = .ok (.i2l, 1) := by decide +kernel
theorem dX7_sum_31 : decode cX7_sum 31 = .ok (.lmul, 1) := by decide +kernel
theorem dX7_sum_32 : decode cX7_sum 32 = .ok (.ladd, 1) := by decide +kernel
theorem dX7_sum_33 : decode cX7_sum 33 = .ok (.lstore_n 1, 1) := by decide +kernel
theorem dX7_sum_34 : decode cX7_sum 34 = .ok (.iinc 3 1, 3) := by decide +kernel
theorem dX7_sum_37 : decode cX7_sum 37 = .ok (.goto (-28), 3) := by decide +kernel
theorem dX7_sum_40 : decode cX7_sum 40 = .ok (.lload_n 1, 1) := by decide +kernel
theorem dX7_sum_41 : decode cX7_sum 41 = .ok (.lreturn, 1) := by decide +kernel
theorem dX7_depthOf_0 : decode cX7_depthOf 0 = .ok (.iconst 0, 1) := by decide +kernel
theorem dX7_depthOf_1 : decode cX7_depthOf 1 = .ok (.istore_n 2, 1) := by decide +kernel
theorem dX7_depthOf_2 : decode cX7_depthOf 2 = .ok (.aload_n 0, 1) := by decide +kernel
theorem dX7_depthOf_3 : decode cX7_depthOf 3 = .ok (.getfield 81, 3) := by decide +kernel
theorem dX7_depthOf_6 : decode cX7_depthOf 6 = .ok (.iconst 1, 1) := by decide +kernel
theorem dX7_depthOf_7 : decode cX7_depthOf 7 = .ok (.isub, 1) := by decide +kernel
theorem dX7_depthOf_8 : decode cX7_depthOf 8 = .ok (.istore_n 3, 1) := by decide +kernel
theorem dX7_depthOf_9 : decode cX7_depthOf 9 = .ok (.iconst 0, 1) := by decide +kernel
theorem dX7_depthOf_10 : decode cX7_depthOf 10 = .ok (.istore 4, 2) := by decide +kernel
theorem dX7_depthOf_12 : decode cX7_depthOf 12 = .ok (.aload_n 0, 1) := by decide +kernel
theorem dX7_depthOf_13 : decode cX7_depthOf 13 = .ok (.bipush (-9), 2) := by decide +kernel
theorem dX7_depthOf_15 : decode cX7_depthOf 15 = .ok (.putfield 128, 3) := by decide +kernel
theorem dX7_depthOf_18 : decode cX7_depthOf 18 = .ok (.aload_n 0, 1) := by decide +kernel
theorem dX7_depthOf_19 : decode cX7_depthOf 19 = .ok (.iload_n 2, 1) := by decide +kernel
theorem dX7_depthOf_20 : decode cX7_depthOf 20 = .ok (.iload_n 3, 1) := by decide +kernel
theorem dX7_depthOf_21 : decode cX7_depthOf 21 = .ok (.invokevirtual 116, 3) := by decide +kernel
theorem dX7_depthOf_24 : decode cX7_depthOf 24 = .ok (.istore 5, 2) := by decide +kernel
theorem dX7_depthOf_26 : decode cX7_depthOf 26 = .ok (.iload 5, 2) := by decide +kernel
theorem dX7_depthOf_28 : decode cX7_depthOf 28 = .ok (.iload_n 1, 1) := by decide +kernel
theorem dX7_depthOf_29 : decode cX7_depthOf 29 = .ok (.if_icmp .eq 42, 3) := by decide +kernel
theorem dX7_depthOf_32 : decode cX7_depthOf 32 = .ok (.aload_n 0, 1) := by decide +kernel
theorem dX7_depthOf_33 : decode cX7_depthOf 33 = .ok (.iload 5, 2) := by decide +kernel
theorem dX7_depthOf_35 : decode cX7_depthOf 35 = .ok (.putfield 128, 3) := by decide +kernel
theorem dX7_depthOf_38 : decode cX7_depthOf 38 = .ok (.iinc 4 1, 3) := by decide +kernel
theorem dX7_depthOf_41 : decode cX7_depthOf 41 = .ok (.iload_n 1, 1) := by decide +kernel
theorem dX7_depthOf_42 : decode cX7_depthOf 42 = .ok (.iload 5, 2) := by decide +kernel
theorem dX7_depthOf_44 : decode cX7_depthOf 44 = .ok (.if_icmp .ge 11, 3) := by decide +kernel
theorem dX7_depthOf_47 : decode cX7_depthOf 47 = .ok (.iload 5, 2) := by decide +kernel
theorem dX7_depthOf_49 : decode cX7_depthOf 49 = .ok (.iconst 1, 1) := by decide +kernel
theorem dX7_depthOf_50 : decode cX7_depthOf 50 = .ok (.isub, 1) := by decide +kernel
theorem dX7_depthOf_51 : decode cX7_depthOf 51 = .ok (.istore_n 3, 1) := by decide +kernel
theorem dX7_depthOf_52 : decode cX7_depthOf 52 = .ok (.goto 8, 3) := by decide +kernel
theorem dX7_depthOf_55 : decode cX7_depthOf 55 = .ok (.iload 5, 2) := by decide +kernel
theorem dX7_depthOf_57 : decode cX7_depthOf 57 = .ok (.iconst 1, 1) := by decide +kernel
theorem dX7_depthOf_58 : decode cX7_depthOf 58 = .ok (.iadd, 1) := by decide +kernel
theorem dX7_depthOf_59 : decode cX7_depthOf 59 = .ok (.istore_n 2, 1) := by decide +kernel
theorem dX7_depthOf_60 : decode cX7_depthOf 60 = .ok (.aload_n 0, 1) := by decide +kernel
theorem dX7_depthOf_61 : decode cX7_depthOf 61 = .ok (.iload_n 2, 1) := by decide +kernel
theorem dX7_depthOf_62 : decode cX7_depthOf 62 = .ok (.iload_n 3, 1) := by decide +kernel
theorem dX7_depthOf_63 : decode cX7_depthOf 63 = .ok (.invokevirtual 116, 3) := by decide +kernel
theorem dX7_depthOf_66 : decode cX7_depthOf 66 = .ok (.istore 5, 2) := by decide +kernel
theorem dX7_depthOf_68 : decode cX7_depthOf 68 = .ok (.goto (-42), 3) := by decide +kernel
theorem dX7_depthOf_71 : decode cX7_depthOf 71 = .ok (.iload 4, 2) := by decide +kernel
theorem dX7_depthOf_73 : decode cX7_depthOf 73 = .ok (.ireturn, 1) := by decide +kernel
theorem dX7_parent_0 : decode cX7_parent 0 = .ok (.aload_n 0, 1) := by decide +kernel
theorem dX7_parent_1 : decode cX7_parent 1 = .ok (.iconst 0, 1) := by decide +kernel
theorem dX7_parent_2 : decode cX7_parent 2 = .ok (.putfield 46, 3) := by decide +kernel
theorem dX7_parent_5 : decode cX7_parent 5 = .ok (.aload_n 0, 1) := by decide +kernel
theorem dX7_parent_6 : decode cX7_parent 6 = .ok (.iload_n 1, 1) := by decide +kernel
theorem dX7_parent_7 : decode cX7_parent 7 = .ok (.iload_n 1, 1) := by decide +kernel
theorem dX7_parent_8 : decode cX7_parent 8 = .ok (.invokevirtual 113, 3) := by decide +kernel
theorem dX7_parent_11 : decode cX7_parent 11 = .ok (.istore_n 2, 1) := by decide +kernel
theorem dX7_parent_12 : decode cX7_parent 12 = .ok (.iload_n 2, 1) := by decide +kernel
theorem dX7_parent_13 : decode cX7_parent 13 = .ok (.ifCond .eq 5, 3) := by decide +kernel
theorem dX7_parent_16 : decode cX7_parent 16 = .ok (.iload_n 2, 1) := by decide +kernel
theorem dX7_parent_17 : decode cX7_parent 17 = .ok (.ireturn, 1) := by decide +kernel
theorem dX7_parent_18 : decode cX7_parent 18 = .ok (.aload_n 0, 1) := by decide +kernel
theorem dX7_parent_19 : decode cX7_parent 19 = .ok (.iload_n 1, 1) := by decide +kernel
theorem dX7_parent_20 : decode cX7_parent 20 = .ok (.invokevirtual 131, 3) := by decide +kernel
theorem dX7_parent_23 : decode cX7_parent 23 = .ok (.pop, 1) := by decide +kernel
theorem dX7_parent_24 : decode cX7_parent 24 = .ok (.aload_n 0, 1) := by decide +kernel
theorem dX7_parent_25 : decode cX7_parent 25 = .ok (.getfield 128, 3) := by decide +kernel
theorem dX7_parent_28 : decode cX7_parent 28 = .ok (.ireturn, 1) := by decide +kernel
theorem dX7_depth_0 : decode cX7_depth 0 = .ok (.aload_n 0, 1) := by decide +kernel
theorem dX7_depth_1 : decode cX7_depth 1 = .ok (.iconst 0, 1) := by decide +kernel
theorem dX7_depth_2 : decode cX7_depth 2 = .ok (.putfield 46, 3) := by decide +kernel
theorem dX7_depth_5 : decode cX7_depth 5 = .ok (.aload_n 0, 1) := by decide +kernel
theorem dX7_depth_6 : decode cX7_depth 6 = .ok (.iload_n 1, 1) := by decide +kernel
theorem dX7_depth_7 : decode cX7_depth 7 = .ok (.iload_n 1, 1) := by decide +kernel
theorem dX7_depth_8 : decode cX7_depth 8 = .ok (.invokevirtual 113, 3) := by decide +kernel
theorem dX7_depth_11 : decode cX7_depth 11 = .ok (.istore_n 2, 1) := by decide +kernel
theorem dX7_depth_12 : decode cX7_depth 12 = .ok (.iload_n 2, 1) := by decide +kernel
theorem dX7_depth_13 : decode cX7_depth 13 = .ok (.ifCond .eq 7, 3) := by decide +kernel
theorem dX7_depth_16 : decode cX7_depth 16 = .ok (.iload_n 2, 1) := by decide +kernel
theorem dX7_depth_17 : decode cX7_depth 17 = .ok (.goto 8, 3) := by decide +kernel
theorem dX7_depth_20 : decode cX7_depth 20 = .ok (.aload_n 0, 1) := by decide +kernel
theorem dX7_depth_21 : decode cX7_depth 21 = .ok (.iload_n 1, 1) := by decide +kernel
theorem dX7_depth_22 : decode cX7_depth 22 = .ok (.invokevirtual 131, 3) := by decide +kernel
theorem dX7_depth_25 : decode cX7_depth 25 = .ok (.ireturn, 1) := by decide +kernel
theorem dX7_size_0 : decode cX7_size 0 = .ok (.aload_n 0, 1) := by decide +kernel
theorem dX7_size_1 : decode cX7_size 1 = .ok (.iconst 0, 1) := by decide +kernel
theorem dX7_size_2 : decode cX7_size 2 = .ok (.putfield 46, 3) := by decide +kernel
theorem dX7_size_5 : decode cX7_size 5 = .ok (.aload_n 0, 1) := by decide +kernel
theorem dX7_size_6 : decode cX7_size 6 = .ok (.iload_n 1, 1) := by decide +kernel
theorem dX7_size_7 : decode cX7_size 7 = .ok (.iload_n 1, 1) := by decide +kernel
theorem dX7_size_8 : decode cX7_size 8 = .ok (.invokevirtual 113, 3) := by decide +kernel
theorem dX7_size_11 : decode cX7_size 11 = .ok (.istore_n 2, 1) := by decide +kernel
theorem dX7_size_12 : decode cX7_size 12 = .ok (.iload_n 2, 1) := by decide +kernel
theorem dX7_size_13 : decode cX7_size 13 = .ok (.ifCond .eq 7, 3) := by decide +kernel
theorem dX7_size_16 : decode cX7_size 16 = .ok (.iload_n 2, 1) := by decide +kernel
theorem dX7_size_17 : decode cX7_size 17 = .ok (.goto 16, 3) := by decide +kernel
theorem dX7_size_20 : decode cX7_size 20 = .ok (.aload_n 0, 1) := by decide +kernel
theorem dX7_size_21 : decode cX7_size 21 = .ok (.iload_n 1, 1) := by decide +kernel
theorem dX7_size_22 : decode cX7_size 22 = .ok (.invokevirtual 122, 3) := by decide +kernel
theorem dX7_size_25 : decode cX7_size 25 = .ok (.aload_n 0, 1) := by decide +kernel
theorem dX7_size_26 : decode cX7_size 26 = .ok (.iload_n 1, 1) := by decide +kernel
theorem dX7_size_27 : decode cX7_size 27 = .ok (.invokevirtual 119, 3) := by decide +kernel
theorem dX7_size_30 : decode cX7_size 30 = .ok (.isub, 1) := by decide +kernel
theorem dX7_size_31 : decode cX7_size 31 = .ok (.iconst 1, 1) := by decide +kernel
theorem dX7_size_32 : decode cX7_size 32 = .ok (.isub, 1) := by decide +kernel
theorem dX7_size_33 : decode cX7_size 33 = .ok (.ireturn, 1) := by decide +kernel
theorem dX7_above_0 : decode cX7_above 0 = .ok (.aload_n 0, 1) := by decide +kernel
theorem dX7_above_1 : decode cX7_above 1 = .ok (.iconst 0, 1) := by decide +kernel
theorem dX7_above_2 : decode cX7_above 2 = .ok (.putfield 46, 3) := by decide +kernel
theorem dX7_above_5 : decode cX7_above 5 = .ok (.aload_n 0, 1) := by decide +kernel
theorem dX7_above_6 : decode cX7_above 6 = .ok (.iload_n 1, 1) := by decide +kernel
theorem dX7_above_7 : decode cX7_above 7 = .ok (.iload_n 1, 1) := by decide +kernel
theorem dX7_above_8 : decode cX7_above 8 = .ok (.invokevirtual 113, 3) := by decide +kernel
theorem dX7_above_11 : decode cX7_above 11 = .ok (.istore_n 3, 1) := by decide +kernel
theorem dX7_above_12 : decode cX7_above 12 = .ok (.iload_n 3, 1) := by decide +kernel
theorem dX7_above_13 : decode cX7_above 13 = .ok (.ifCond .eq 5, 3) := by decide +kernel
theorem dX7_above_16 : decode cX7_above 16 = .ok (.iload_n 3, 1) := by decide +kernel
theorem dX7_above_17 : decode cX7_above 17 = .ok (.ireturn, 1) := by decide +kernel
theorem dX7_above_18 : decode cX7_above 18 = .ok (.iload_n 2, 1) := by decide +kernel
theorem dX7_above_19 : decode cX7_above 19 = .ok (.ifCond .ge 9, 3) := by decide +kernel
theorem dX7_above_22 : decode cX7_above 22 = .ok (.aload_n 0, 1) := by decide +kernel
theorem dX7_above_23 : decode cX7_above 23 = .ok (.iconst 2, 1) := by decide +kernel
theorem dX7_above_24 : decode cX7_above 24 = .ok (.invokevirtual 64, 3) := by decide +kernel
theorem dX7_above_27 : decode cX7_above 27 = .ok (.ireturn, 1) := by decide +kernel
theorem dX7_above_28 : decode cX7_above 28 = .ok (.iload_n 1, 1) := by decide +kernel
theorem dX7_above_29 : decode cX7_above 29 = .ok (.istore 4, 2) := by decide +kernel
theorem dX7_above_31 : decode cX7_above 31 = .ok (.iconst 0, 1) := by decide +kernel
theorem dX7_above_32 : decode cX7_above 32 = .ok (.istore 5, 2) := by decide +kernel
theorem dX7_above_34 : decode cX7_above 34 = .ok (.iload 5, 2) := by decide +kernel
theorem dX7_above_36 : decode cX7_above 36 = .ok (.iload_n 2, 1) := by decide +kernel
theorem dX7_above_37 : decode cX7_above 37 = .ok (.if_icmp .ge 29, 3) := by decide +kernel
theorem dX7_above_40 : decode cX7_above 40 = .ok (.iload 4, 2) := by decide +kernel
theorem dX7_above_42 : decode cX7_above 42 = .ok (.bipush (-9), 2) := by decide +kernel
theorem dX7_above_44 : decode cX7_above 44 = .ok (.if_icmp .eq 22, 3) := by decide +kernel
theorem dX7_above_47 : decode cX7_above 47 = .ok (.aload_n 0, 1) := by decide +kernel
theorem dX7_above_48 : decode cX7_above 48 = .ok (.iload 4, 2) := by decide +kernel
theorem dX7_above_50 : decode cX7_above 50 = .ok (.invokevirtual 131, 3) := by decide +kernel
theorem dX7_above_53 : decode cX7_above 53 = .ok (.pop, 1) := by decide +kernel
theorem dX7_above_54 : decode cX7_above 54 = .ok (.aload_n 0, 1) := by decide +kernel
theorem dX7_above_55 : decode cX7_above 55 = .ok (.getfield 128, 3) := by decide +kernel
theorem dX7_above_58 : decode cX7_above 58 = .ok (.istore 4, 2) := by decide +kernel
theorem dX7_above_60 : decode cX7_above 60 = .ok (.iinc 5 1, 3) := by decide +kernel
theorem dX7_above_63 : decode cX7_above 63 = .ok (.goto (-29), 3) := by decide +kernel
theorem dX7_above_66 : decode cX7_above 66 = .ok (.iload 4, 2) := by decide +kernel
theorem dX7_above_68 : decode cX7_above 68 = .ok (.ireturn, 1) := by decide +kernel
theorem dX7_takenOff_0 : decode cX7_takenOff 0 = .ok (.aload_n 0, 1) := by decide +kernel
theorem dX7_takenOff_1 : decode cX7_takenOff 1 = .ok (.iconst 0, 1) := by decide +kernel
theorem dX7_takenOff_2 : decode cX7_takenOff 2 = .ok (.putfield 84, 3) := by decide +kernel
theorem dX7_takenOff_5 : decode cX7_takenOff 5 = .ok (.iconst 0, 1) := by decide +kernel
theorem dX7_takenOff_6 : decode cX7_takenOff 6 = .ok (.istore_n 3, 1) := by decide +kernel
theorem dX7_takenOff_7 : decode cX7_takenOff 7 = .ok (.iload_n 1, 1) := by decide +kernel
theorem dX7_takenOff_8 : decode cX7_takenOff 8 = .ok (.istore 4, 2) := by decide +kernel
theorem dX7_takenOff_10 : decode cX7_takenOff 10 = .ok (.iload 4, 2) := by decide +kernel
theorem dX7_takenOff_12 : decode cX7_takenOff 12 = .ok (.iload_n 1, 1) := by decide +kernel
theorem dX7_takenOff_13 : decode cX7_takenOff 13 = .ok (.iload_n 2, 1) := by decide +kernel
theorem dX7_takenOff_14 : decode cX7_takenOff 14 = .ok (.iadd, 1) := by decide +kernel
theorem dX7_takenOff_15 : decode cX7_takenOff 15 = .ok (.if_icmp .gt 81, 3) := by decide +kernel
theorem dX7_takenOff_18 : decode cX7_takenOff 18 = .ok (.iconst 0, 1) := by decide +kernel
theorem dX7_takenOff_19 : decode cX7_takenOff 19 = .ok (.istore_n 3, 1) := by decide +kernel
theorem dX7_takenOff_20 : decode cX7_takenOff 20 = .ok (.aload_n 0, 1) := by decide +kernel
theorem dX7_takenOff_21 : decode cX7_takenOff 21 = .ok (.getfield 84, 3) := by decide +kernel
theorem dX7_takenOff_24 : decode cX7_takenOff 24 = .ok (.ifCond .le 40, 3) := by decide +kernel
theorem dX7_takenOff_27 : decode cX7_takenOff 27 = .ok (.aload_n 0, 1) := by decide +kernel
theorem dX7_takenOff_28 : decode cX7_takenOff 28 = .ok (.getfield 40, 3) := by decide +kernel
theorem dX7_takenOff_31 : decode cX7_takenOff 31 = .ok (.aload_n 0, 1) := by decide +kernel
theorem dX7_takenOff_32 : decode cX7_takenOff 32 = .ok (.getfield 84, 3) := by decide +kernel
theorem dX7_takenOff_35 : decode cX7_takenOff 35 = .ok (.iconst 1, 1) := by decide +kernel
theorem dX7_takenOff_36 : decode cX7_takenOff 36 = .ok (.isub, 1) := by decide +kernel
theorem dX7_takenOff_37 : decode cX7_takenOff 37 = .ok (.iaload, 1) := by decide +kernel
theorem dX7_takenOff_38 : decode cX7_takenOff 38 = .ok (.aload_n 0, 1) := by decide +kernel
theorem dX7_takenOff_39 : decode cX7_takenOff 39 = .ok (.getfield 19, 3) := by decide +kernel
theorem dX7_takenOff_42 : decode cX7_takenOff 42 = .ok (.iload 4, 2) := by decide +kernel
theorem dX7_takenOff_44 : decode cX7_takenOff 44 = .ok (.iaload, 1) := by decide +kernel
theorem dX7_takenOff_45 : decode cX7_takenOff 45 = .ok (.if_icmp .le 19, 3) := by decide +kernel
theorem dX7_takenOff_48 : decode cX7_takenOff 48 = .ok (.aload_n 0, 1) := by decide +kernel
theorem dX7_takenOff_49 : decode cX7_takenOff 49 = .ok (.dup, 1) := by decide +kernel
theorem dX7_takenOff_50 : decode cX7_takenOff 50 = .ok (.getfield 84, 3) := by decide +kernel
theorem dX7_takenOff_53 : decode cX7_takenOff 53 = .ok (.iconst 1, 1) := by decide +kernel
theorem dX7_takenOff_54 : decode cX7_takenOff 54 = .ok (.isub, 1) := by decide +kernel
theorem dX7_takenOff_55 : decode cX7_takenOff 55 = .ok (.putfield 84, 3) := by decide +kernel
theorem dX7_takenOff_58 : decode cX7_takenOff 58 = .ok (.iinc 3 1, 3) := by decide +kernel
theorem dX7_takenOff_61 : decode cX7_takenOff 61 = .ok (.goto (-41), 3) := by decide +kernel
theorem dX7_takenOff_64 : decode cX7_takenOff 64 = .ok (.aload_n 0, 1) := by decide +kernel
theorem dX7_takenOff_65 : decode cX7_takenOff 65 = .ok (.getfield 40, 3) := by decide +kernel
theorem dX7_takenOff_68 : decode cX7_takenOff 68 = .ok (.aload_n 0, 1) := by decide +kernel
theorem dX7_takenOff_69 : decode cX7_takenOff 69 = .ok (.getfield 84, 3) := by decide +kernel
theorem dX7_takenOff_72 : decode cX7_takenOff 72 = .ok (.aload_n 0, 1) := by decide +kernel
theorem dX7_takenOff_73 : decode cX7_takenOff 73 = .ok (.getfield 19, 3) := by decide +kernel
theorem dX7_takenOff_76 : decode cX7_takenOff 76 = .ok (.iload 4, 2) := by decide +kernel
theorem dX7_takenOff_78 : decode cX7_takenOff 78 = .ok (.iaload, 1) := by decide +kernel
theorem dX7_takenOff_79 : decode cX7_takenOff 79 = .ok (.iastore, 1) := by decide +kernel
theorem dX7_takenOff_80 : decode cX7_takenOff 80 = .ok (.aload_n 0, 1) := by decide +kernel
theorem dX7_takenOff_81 : decode cX7_takenOff 81 = .ok (.dup, 1) := by decide +kernel
theorem dX7_takenOff_82 : decode cX7_takenOff 82 = .ok (.getfield 84, 3) := by decide +kernel
theorem dX7_takenOff_85 : decode cX7_takenOff 85 = .ok (.iconst 1, 1) := by decide +kernel
theorem dX7_takenOff_86 : decode cX7_takenOff 86 = .ok (.iadd, 1) := by decide +kernel
theorem dX7_takenOff_87 : decode cX7_takenOff 87 = .ok (.putfield 84, 3) := by decide +kernel
theorem dX7_takenOff_90 : decode cX7_takenOff 90 = .ok (.iinc 4 1, 3) := by decide +kernel
theorem dX7_takenOff_93 : decode cX7_takenOff 93 = .ok (.goto (-83), 3) := by decide +kernel
theorem dX7_takenOff_96 : decode cX7_takenOff 96 = .ok (.iload_n 3, 1) := by decide +kernel
theorem dX7_takenOff_97 : decode cX7_takenOff 97 = .ok (.ireturn, 1) := by decide +kernel
theorem dX7_alike_0 : decode cX7_alike 0 = .ok (.aload_n 0, 1) := by decide +kernel
theorem dX7_alike_1 : decode cX7_alike 1 = .ok (.iconst 0, 1) := by decide +kernel
theorem dX7_alike_2 : decode cX7_alike 2 = .ok (.putfield 46, 3) := by decide +kernel
theorem dX7_alike_5 : decode cX7_alike 5 = .ok (.aload_n 0, 1) := by decide +kernel
theorem dX7_alike_6 : decode cX7_alike 6 = .ok (.getfield 81, 3) := by decide +kernel
theorem dX7_alike_9 : decode cX7_alike 9 = .ok (.ifCond .ne 6, 3) := by decide +kernel
theorem dX7_alike_12 : decode cX7_alike 12 = .ok (.bipush (-2), 2) := by decide +kernel
theorem dX7_alike_14 : decode cX7_alike 14 = .ok (.ireturn, 1) := by decide +kernel
theorem dX7_alike_15 : decode cX7_alike 15 = .ok (.iload_n 3, 1) := by decide +kernel
theorem dX7_alike_16 : decode cX7_alike 16 = .ok (.ifCond .lt 47, 3) := by decide +kernel
theorem dX7_alike_19 : decode cX7_alike 19 = .ok (.iload_n 1, 1) := by decide +kernel
theorem dX7_alike_20 : decode cX7_alike 20 = .ok (.iconst 0, 1) := by decide +kernel
theorem dX7_alike_21 : decode cX7_alike 21 = .ok (.aload_n 0, 1) := by decide +kernel
theorem dX7_alike_22 : decode cX7_alike 22 = .ok (.getfield 81, 3) := by decide +kernel
theorem dX7_alike_25 : decode cX7_alike 25 = .ok (.invokestatic 56, 3) := by decide +kernel
theorem dX7_alike_28 : decode cX7_alike 28 = .ok (.ifCond .eq 35, 3) := by decide +kernel
theorem dX7_alike_31 : decode cX7_alike 31 = .ok (.iload_n 2, 1) := by decide +kernel
theorem dX7_alike_32 : decode cX7_alike 32 = .ok (.iconst 0, 1) := by decide +kernel
theorem dX7_alike_33 : decode cX7_alike 33 = .ok (.aload_n 0, 1) := by decide +kernel
theorem dX7_alike_34 : decode cX7_alike 34 = .ok (.getfield 81, 3) := by decide +kernel
theorem dX7_alike_37 : decode cX7_alike 37 = .ok (.invokestatic 56, 3) := by decide +kernel
theorem dX7_alike_40 : decode cX7_alike 40 = .ok (.ifCond .eq 23, 3) := by decide +kernel
theorem dX7_alike_43 : decode cX7_alike 43 = .ok (.iload_n 3, 1) := by decide +kernel
theorem dX7_alike_44 : decode cX7_alike 44 = .ok (.aload_n 0, 1) := by decide +kernel
theorem dX7_alike_45 : decode cX7_alike 45 = .ok (.getfield 81, 3) := by decide +kernel
theorem dX7_alike_48 : decode cX7_alike 48 = .ok (.iload_n 1, 1) := by decide +kernel
theorem dX7_alike_49 : decode cX7_alike 49 = .ok (.isub, 1) := by decide +kernel
theorem dX7_alike_50 : decode cX7_alike 50 = .ok (.if_icmp .gt 13, 3) := by decide +kernel
theorem dX7_alike_53 : decode cX7_alike 53 = .ok (.iload_n 3, 1) := by decide +kernel
theorem dX7_alike_54 : decode cX7_alike 54 = .ok (.aload_n 0, 1) := by decide +kernel
theorem dX7_alike_55 : decode cX7_alike 55 = .ok (.getfield 81, 3) := by decide +kernel
theorem dX7_alike_58 : decode cX7_alike 58 = .ok (.iload_n 2, 1) := by decide +kernel
theorem dX7_alike_59 : decode cX7_alike 59 = .ok (.isub, 1) := by decide +kernel
theorem dX7_alike_60 : decode cX7_alike 60 = .ok (.if_icmp .le 9, 3) := by decide +kernel
theorem dX7_alike_63 : decode cX7_alike 63 = .ok (.aload_n 0, 1) := by decide +kernel
theorem dX7_alike_64 : decode cX7_alike 64 = .ok (.iconst 2, 1) := by decide +kernel
theorem dX7_alike_65 : decode cX7_alike 65 = .ok (.invokevirtual 64, 3) := by decide +kernel
theorem dX7_alike_68 : decode cX7_alike 68 = .ok (.ireturn, 1) := by decide +kernel
theorem dX7_alike_69 : decode cX7_alike 69 = .ok (.iconst 0, 1) := by decide +kernel
theorem dX7_alike_70 : decode cX7_alike 70 = .ok (.istore 4, 2) := by decide +kernel
theorem dX7_alike_72 : decode cX7_alike 72 = .ok (.iload 4, 2) := by decide +kernel
theorem dX7_alike_74 : decode cX7_alike 74 = .ok (.iload_n 3, 1) := by decide +kernel
theorem dX7_alike_75 : decode cX7_alike 75 = .ok (.if_icmp .ge 28, 3) := by decide +kernel
theorem dX7_alike_78 : decode cX7_alike 78 = .ok (.aload_n 0, 1) := by decide +kernel
theorem dX7_alike_79 : decode cX7_alike 79 = .ok (.iload_n 1, 1) := by decide +kernel
theorem dX7_alike_80 : decode cX7_alike 80 = .ok (.iload 4, 2) := by decide +kernel
theorem dX7_alike_82 : decode cX7_alike 82 = .ok (.invokevirtual 134, 3) := by decide +kernel
theorem dX7_alike_85 : decode cX7_alike 85 = .ok (.aload_n 0, 1) := by decide +kernel
theorem dX7_alike_86 : decode cX7_alike 86 = .ok (.iload_n 2, 1) := by decide +kernel
theorem dX7_alike_87 : decode cX7_alike 87 = .ok (.iload 4, 2) := by decide +kernel
theorem dX7_alike_89 : decode cX7_alike 89 = .ok (.invokevirtual 134, 3) := by decide +kernel
theorem dX7_alike_92 : decode cX7_alike 92 = .ok (.if_icmp .eq 5, 3) := by decide +kernel
theorem dX7_alike_95 : decode cX7_alike 95 = .ok (.iconst 0, 1) := by decide +kernel
theorem dX7_alike_96 : decode cX7_alike 96 = .ok (.ireturn, 1) := by decide +kernel
theorem dX7_alike_97 : decode cX7_alike 97 = .ok (.iinc 4 1, 3) := by decide +kernel
theorem dX7_alike_100 : decode cX7_alike 100 = .ok (.goto (-28), 3) := by decide +kernel
theorem dX7_alike_103 : decode cX7_alike 103 = .ok (.iconst 1, 1) := by decide +kernel
theorem dX7_alike_104 : decode cX7_alike 104 = .ok (.ireturn, 1) := by decide +kernel
theorem dX7_isTree_0 : decode cX7_isTree 0 = .ok (.aload_n 0, 1) := by decide +kernel
theorem dX7_isTree_1 : decode cX7_isTree 1 = .ok (.getfield 16, 3) := by decide +kernel
theorem dX7_isTree_4 : decode cX7_isTree 4 = .ok (.iload_n 1, 1) := by decide +kernel
theorem dX7_isTree_5 : decode cX7_isTree 5 = .ok (.iaload, 1) := by decide +kernel
theorem dX7_isTree_6 : decode cX7_isTree 6 = .ok (.istore_n 2, 1) := by decide +kernel
theorem dX7_isTree_7 : decode cX7_isTree 7 = .ok (.iconst 0, 1) := by decide +kernel
theorem dX7_isTree_8 : decode cX7_isTree 8 = .ok (.istore_n 3, 1) := by decide +kernel
theorem dX7_isTree_9 : decode cX7_isTree 9 = .ok (.iconst 0, 1) := by decide +kernel
theorem dX7_isTree_10 : decode cX7_isTree 10 = .ok (.istore 4, 2) := by decide +kernel
theorem dX7_isTree_12 : decode cX7_isTree 12 = .ok (.iload 4, 2) := by decide +kernel
theorem dX7_isTree_14 : decode cX7_isTree 14 = .ok (.iload_n 2, 1) := by decide +kernel
theorem dX7_isTree_15 : decode cX7_isTree 15 = .ok (.if_icmp .ge 51, 3) := by decide +kernel
theorem dX7_isTree_18 : decode cX7_isTree 18 = .ok (.aload_n 0, 1) := by decide +kernel
theorem dX7_isTree_19 : decode cX7_isTree 19 = .ok (.getfield 13, 3) := by decide +kernel
theorem dX7_isTree_22 : decode cX7_isTree 22 = .ok (.bipush 48, 2) := by decide +kernel
theorem dX7_isTree_24 : decode cX7_isTree 24 = .ok (.iload_n 1, 1) := by decide +kernel
theorem dX7_isTree_25 : decode cX7_isTree 25 = .ok (.imul, 1) := by decide +kernel
theorem dX7_isTree_26 : decode cX7_isTree 26 = .ok (.iload 4, 2) := by decide +kernel
theorem dX7_isTree_28 : decode cX7_isTree 28 = .ok (.iadd, 1) := by decide +kernel
theorem dX7_isTree_29 : decode cX7_isTree 29 = .ok (.iaload, 1) := by decide +kernel
theorem dX7_isTree_30 : decode cX7_isTree 30 = .ok (.istore 5, 2) := by decide +kernel
theorem dX7_isTree_32 : decode cX7_isTree 32 = .ok (.iload_n 3, 1) := by decide +kernel
theorem dX7_isTree_33 : decode cX7_isTree 33 = .ok (.iload 5, 2) := by decide +kernel
theorem dX7_isTree_35 : decode cX7_isTree 35 = .ok (.iconst (-1), 1) := by decide +kernel
theorem dX7_isTree_36 : decode cX7_isTree 36 = .ok (.if_icmp .ne 7, 3) := by decide +kernel
theorem dX7_isTree_39 : decode cX7_isTree 39 = .ok (.iconst 1, 1) := by decide +kernel
theorem dX7_isTree_40 : decode cX7_isTree 40 = .ok (.goto 4, 3) := by decide +kernel
theorem dX7_isTree_43 : decode cX7_isTree 43 = .ok (.iconst 0, 1) := by decide +kernel
theorem dX7_isTree_44 : decode cX7_isTree 44 = .ok (.iadd, 1) := by decide +kernel
theorem dX7_isTree_45 : decode cX7_isTree 45 = .ok (.istore_n 3, 1) := by decide +kernel
theorem dX7_isTree_46 : decode cX7_isTree 46 = .ok (.iload 5, 2) := by decide +kernel
theorem dX7_isTree_48 : decode cX7_isTree 48 = .ok (.iconst (-1), 1) := by decide +kernel
theorem dX7_isTree_49 : decode cX7_isTree 49 = .ok (.iload_n 2, 1) := by decide +kernel
theorem dX7_isTree_50 : decode cX7_isTree 50 = .ok (.iconst 1, 1) := by decide +kernel
theorem dX7_isTree_51 : decode cX7_isTree 51 = .ok (.isub, 1) := by decide +kernel
theorem dX7_isTree_52 : decode cX7_isTree 52 = .ok (.invokestatic 56, 3) := by decide +kernel
theorem dX7_isTree_55 : decode cX7_isTree 55 = .ok (.ifCond .ne 5, 3) := by decide +kernel
theorem dX7_isTree_58 : decode cX7_isTree 58 = .ok (.iconst 0, 1) := by decide +kernel
theorem dX7_isTree_59 : decode cX7_isTree 59 = .ok (.ireturn, 1) := by decide +kernel
theorem dX7_isTree_60 : decode cX7_isTree 60 = .ok (.iinc 4 1, 3) := by decide +kernel
theorem dX7_isTree_63 : decode cX7_isTree 63 = .ok (.goto (-51), 3) := by decide +kernel
theorem dX7_isTree_66 : decode cX7_isTree 66 = .ok (.iload_n 3, 1) := by decide +kernel
theorem dX7_isTree_67 : decode cX7_isTree 67 = .ok (.iconst 1, 1) := by decide +kernel
theorem dX7_isTree_68 : decode cX7_isTree 68 = .ok (.if_icmp .ne 7, 3) := by decide +kernel
theorem dX7_isTree_71 : decode cX7_isTree 71 = .ok (.iconst 1, 1) := by decide +kernel
theorem dX7_isTree_72 : decode cX7_isTree 72 = .ok (.goto 4, 3) := by decide +kernel
theorem dX7_isTree_75 : decode cX7_isTree 75 = .ok (.iconst 0, 1) := by decide +kernel
theorem dX7_isTree_76 : decode cX7_isTree 76 = .ok (.istore 4, 2) := by decide +kernel
theorem dX7_isTree_78 : decode cX7_isTree 78 = .ok (.iconst 0, 1) := by decide +kernel
theorem dX7_isTree_79 : decode cX7_isTree 79 = .ok (.istore 5, 2) := by decide +kernel
theorem dX7_isTree_81 : decode cX7_isTree 81 = .ok (.iload 5, 2) := by decide +kernel
theorem dX7_isTree_83 : decode cX7_isTree 83 = .ok (.iload_n 2, 1) := by decide +kernel
theorem dX7_isTree_84 : decode cX7_isTree 84 = .ok (.if_icmp .ge 66, 3) := by decide +kernel
theorem dX7_isTree_87 : decode cX7_isTree 87 = .ok (.iload 4, 2) := by decide +kernel
theorem dX7_isTree_89 : decode cX7_isTree 89 = .ok (.ifCond .eq 61, 3) := by decide +kernel
theorem dX7_isTree_92 : decode cX7_isTree 92 = .ok (.iload 5, 2) := by decide +kernel
theorem dX7_isTree_94 : decode cX7_isTree 94 = .ok (.istore 6, 2) := by decide +kernel
theorem dX7_isTree_96 : decode cX7_isTree 96 = .ok (.iconst 0, 1) := by decide +kernel
theorem dX7_isTree_97 : decode cX7_isTree 97 = .ok (.istore 7, 2) := by decide +kernel
theorem dX7_isTree_99 : decode cX7_isTree 99 = .ok (.iload 7, 2) := by decide +kernel
theorem dX7_isTree_101 : decode cX7_isTree 101 = .ok (.iload_n 2, 1) := by decide +kernel
theorem dX7_isTree_102 : decode cX7_isTree 102 = .ok (.if_icmp .ge 29, 3) := by decide +kernel
theorem dX7_isTree_105 : decode cX7_isTree 105 = .ok (.iload 6, 2) := by decide +kernel
theorem dX7_isTree_107 : decode cX7_isTree 107 = .ok (.iconst (-1), 1) := by decide +kernel
theorem dX7_isTree_108 : decode cX7_isTree 108 = .ok (.if_icmp .eq 23, 3) := by decide +kernel
theorem dX7_isTree_111 : decode cX7_isTree 111 = .ok (.aload_n 0, 1) := by decide +kernel
theorem dX7_isTree_112 : decode cX7_isTree 112 = .ok (.getfield 13, 3) := by decide +kernel
theorem dX7_isTree_115 : decode cX7_isTree 115 = .ok (.bipush 48, 2) := by decide +kernel
theorem dX7_isTree_117 : decode cX7_isTree 117 = .ok (.iload_n 1, 1) := by decide +kernel
theorem dX7_isTree_118 : decode cX7_isTree 118 = .ok (.imul, 1) := by decide +kernel
theorem dX7_isTree_119 : decode cX7_isTree 119 = .ok (.iload 6, 2) := by decide +kernel
theorem dX7_isTree_121 : decode cX7_isTree 121 = .ok (.iadd, 1) := by decide +kernel
theorem dX7_isTree_122 : decode cX7_isTree 122 = .ok (.iaload, 1) := by decide +kernel
theorem dX7_isTree_123 : decode cX7_isTree 123 = .ok (.istore 6, 2) := by decide +kernel
theorem dX7_isTree_125 : decode cX7_isTree 125 = .ok (.iinc 7 1, 3) := by decide +kernel
theorem dX7_isTree_128 : decode cX7_isTree 128 = .ok (.goto (-29), 3) := by decide +kernel
theorem dX7_isTree_131 : decode cX7_isTree 131 = .ok (.iload 6, 2) := by decide +kernel
theorem dX7_isTree_133 : decode cX7_isTree 133 = .ok (.iconst (-1), 1) := by decide +kernel
theorem dX7_isTree_134 : decode cX7_isTree 134 = .ok (.if_icmp .ne 7, 3) := by decide +kernel
theorem dX7_isTree_137 : decode cX7_isTree 137 = .ok (.iconst 1, 1) := by decide +kernel
theorem dX7_isTree_138 : decode cX7_isTree 138 = .ok (.goto 4, 3) := by decide +kernel
theorem dX7_isTree_141 : decode cX7_isTree 141 = .ok (.iconst 0, 1) := by decide +kernel
theorem dX7_isTree_142 : decode cX7_isTree 142 = .ok (.istore 4, 2) := by decide +kernel
theorem dX7_isTree_144 : decode cX7_isTree 144 = .ok (.iinc 5 1, 3) := by decide +kernel
theorem dX7_isTree_147 : decode cX7_isTree 147 = .ok (.goto (-66), 3) := by decide +kernel
theorem dX7_isTree_150 : decode cX7_isTree 150 = .ok (.iload 4, 2) := by decide +kernel
theorem dX7_isTree_152 : decode cX7_isTree 152 = .ok (.ireturn, 1) := by decide +kernel
theorem dX7_tree_0 : decode cX7_tree 0 = .ok (.aload_n 0, 1) := by decide +kernel
theorem dX7_tree_1 : decode cX7_tree 1 = .ok (.iconst 0, 1) := by decide +kernel
theorem dX7_tree_2 : decode cX7_tree 2 = .ok (.putfield 46, 3) := by decide +kernel
theorem dX7_tree_5 : decode cX7_tree 5 = .ok (.iload_n 1, 1) := by decide +kernel
theorem dX7_tree_6 : decode cX7_tree 6 = .ok (.invokestatic 60, 3) := by decide +kernel
theorem dX7_tree_9 : decode cX7_tree 9 = .ok (.ifCond .ne 5, 3) := by decide +kernel
theorem dX7_tree_12 : decode cX7_tree 12 = .ok (.iconst (-1), 1) := by decide +kernel
theorem dX7_tree_13 : decode cX7_tree 13 = .ok (.ireturn, 1) := by decide +kernel
theorem dX7_tree_14 : decode cX7_tree 14 = .ok (.aload_n 0, 1) := by decide +kernel
theorem dX7_tree_15 : decode cX7_tree 15 = .ok (.getfield 16, 3) := by decide +kernel
theorem dX7_tree_18 : decode cX7_tree 18 = .ok (.iload_n 1, 1) := by decide +kernel
theorem dX7_tree_19 : decode cX7_tree 19 = .ok (.iaload, 1) := by decide +kernel
theorem dX7_tree_20 : decode cX7_tree 20 = .ok (.ifCond .ge 9, 3) := by decide +kernel
theorem dX7_tree_23 : decode cX7_tree 23 = .ok (.aload_n 0, 1) := by decide +kernel
theorem dX7_tree_24 : decode cX7_tree 24 = .ok (.iconst 1, 1) := by decide +kernel
theorem dX7_tree_25 : decode cX7_tree 25 = .ok (.invokevirtual 64, 3) := by decide +kernel
theorem dX7_tree_28 : decode cX7_tree 28 = .ok (.ireturn, 1) := by decide +kernel
theorem dX7_tree_29 : decode cX7_tree 29 = .ok (.aload_n 0, 1) := by decide +kernel
theorem dX7_tree_30 : decode cX7_tree 30 = .ok (.getfield 16, 3) := by decide +kernel
theorem dX7_tree_33 : decode cX7_tree 33 = .ok (.iload_n 1, 1) := by decide +kernel
theorem dX7_tree_34 : decode cX7_tree 34 = .ok (.iaload, 1) := by decide +kernel
theorem dX7_tree_35 : decode cX7_tree 35 = .ok (.iconst 1, 1) := by decide +kernel
theorem dX7_tree_36 : decode cX7_tree 36 = .ok (.bipush 24, 2) := by decide +kernel
theorem dX7_tree_38 : decode cX7_tree 38 = .ok (.invokestatic 56, 3) := by decide +kernel
theorem dX7_tree_41 : decode cX7_tree 41 = .ok (.ifCond .ne 9, 3) := by decide +kernel
theorem dX7_tree_44 : decode cX7_tree 44 = .ok (.aload_n 0, 1) := by decide +kernel
theorem dX7_tree_45 : decode cX7_tree 45 = .ok (.iconst 3, 1) := by decide +kernel
theorem dX7_tree_46 : decode cX7_tree 46 = .ok (.invokevirtual 64, 3) := by decide +kernel
theorem dX7_tree_49 : decode cX7_tree 49 = .ok (.ireturn, 1) := by decide +kernel
theorem dX7_tree_50 : decode cX7_tree 50 = .ok (.aload_n 0, 1) := by decide +kernel
theorem dX7_tree_51 : decode cX7_tree 51 = .ok (.iload_n 1, 1) := by decide +kernel
theorem dX7_tree_52 : decode cX7_tree 52 = .ok (.invokevirtual 137, 3) := by decide +kernel
theorem dX7_tree_55 : decode cX7_tree 55 = .ok (.ifCond .ne 9, 3) := by decide +kernel
theorem dX7_tree_58 : decode cX7_tree 58 = .ok (.aload_n 0, 1) := by decide +kernel
theorem dX7_tree_59 : decode cX7_tree 59 = .ok (.iconst 4, 1) := by decide +kernel
theorem dX7_tree_60 : decode cX7_tree 60 = .ok (.invokevirtual 64, 3) := by decide +kernel
theorem dX7_tree_63 : decode cX7_tree 63 = .ok (.ireturn, 1) := by decide +kernel
theorem dX7_tree_64 : decode cX7_tree 64 = .ok (.aload_n 0, 1) := by decide +kernel
theorem dX7_tree_65 : decode cX7_tree 65 = .ok (.aload_n 0, 1) := by decide +kernel
theorem dX7_tree_66 : decode cX7_tree 66 = .ok (.getfield 16, 3) := by decide +kernel
theorem dX7_tree_69 : decode cX7_tree 69 = .ok (.iload_n 1, 1) := by decide +kernel
theorem dX7_tree_70 : decode cX7_tree 70 = .ok (.iaload, 1) := by decide +kernel
theorem dX7_tree_71 : decode cX7_tree 71 = .ok (.putfield 140, 3) := by decide +kernel
theorem dX7_tree_74 : decode cX7_tree 74 = .ok (.iconst 0, 1) := by decide +kernel
theorem dX7_tree_75 : decode cX7_tree 75 = .ok (.istore_n 2, 1) := by decide +kernel
theorem dX7_tree_76 : decode cX7_tree 76 = .ok (.iload_n 2, 1) := by decide +kernel
theorem dX7_tree_77 : decode cX7_tree 77 = .ok (.aload_n 0, 1) := by decide +kernel
theorem dX7_tree_78 : decode cX7_tree 78 = .ok (.getfield 140, 3) := by decide +kernel
theorem dX7_tree_81 : decode cX7_tree 81 = .ok (.if_icmp .ge 26, 3) := by decide +kernel
theorem dX7_tree_84 : decode cX7_tree 84 = .ok (.aload_n 0, 1) := by decide +kernel
theorem dX7_tree_85 : decode cX7_tree 85 = .ok (.getfield 43, 3) := by decide +kernel
theorem dX7_tree_88 : decode cX7_tree 88 = .ok (.iload_n 2, 1) := by decide +kernel
theorem dX7_tree_89 : decode cX7_tree 89 = .ok (.aload_n 0, 1) := by decide +kernel
theorem dX7_tree_90 : decode cX7_tree 90 = .ok (.getfield 13, 3) := by decide +kernel
theorem dX7_tree_93 : decode cX7_tree 93 = .ok (.bipush 48, 2) := by decide +kernel
theorem dX7_tree_95 : decode cX7_tree 95 = .ok (.iload_n 1, 1) := by decide +kernel
theorem dX7_tree_96 : decode cX7_tree 96 = .ok (.imul, 1) := by decide +kernel
theorem dX7_tree_97 : decode cX7_tree 97 = .ok (.iload_n 2, 1) := by decide +kernel
theorem dX7_tree_98 : decode cX7_tree 98 = .ok (.iadd, 1) := by decide +kernel
theorem dX7_tree_99 : decode cX7_tree 99 = .ok (.iaload, 1) := by decide +kernel
theorem dX7_tree_100 : decode cX7_tree 100 = .ok (.iastore, 1) := by decide +kernel
theorem dX7_tree_101 : decode cX7_tree 101 = .ok (.iinc 2 1, 3) := by decide +kernel
theorem dX7_tree_104 : decode cX7_tree 104 = .ok (.goto (-28), 3) := by decide +kernel
theorem dX7_tree_107 : decode cX7_tree 107 = .ok (.aload_n 0, 1) := by decide +kernel
theorem dX7_tree_108 : decode cX7_tree 108 = .ok (.getfield 140, 3) := by decide +kernel
theorem dX7_tree_111 : decode cX7_tree 111 = .ok (.ireturn, 1) := by decide +kernel
theorem dX7_deepness_0 : decode cX7_deepness 0 = .ok (.iconst 0, 1) := by decide +kernel
theorem dX7_deepness_1 : decode cX7_deepness 1 = .ok (.istore_n 2, 1) := by decide +kernel
theorem dX7_deepness_2 : decode cX7_deepness 2 = .ok (.aload_n 0, 1) := by decide +kernel
theorem dX7_deepness_3 : decode cX7_deepness 3 = .ok (.getfield 43, 3) := by decide +kernel
theorem dX7_deepness_6 : decode cX7_deepness 6 = .ok (.iload_n 1, 1) := by decide +kernel
theorem dX7_deepness_7 : decode cX7_deepness 7 = .ok (.iaload, 1) := by decide +kernel
theorem dX7_deepness_8 : decode cX7_deepness 8 = .ok (.istore_n 3, 1) := by decide +kernel
theorem dX7_deepness_9 : decode cX7_deepness 9 = .ok (.iload_n 3, 1) := by decide +kernel
theorem dX7_deepness_10 : decode cX7_deepness 10 = .ok (.iconst (-1), 1) := by decide +kernel
theorem dX7_deepness_11 : decode cX7_deepness 11 = .ok (.if_icmp .eq 16, 3) := by decide +kernel
theorem dX7_deepness_14 : decode cX7_deepness 14 = .ok (.iinc 2 1, 3) := by decide +kernel
theorem dX7_deepness_17 : decode cX7_deepness 17 = .ok (.aload_n 0, 1) := by decide +kernel
theorem dX7_deepness_18 : decode cX7_deepness 18 = .ok (.getfield 43, 3) := by decide +kernel
theorem dX7_deepness_21 : decode cX7_deepness 21 = .ok (.iload_n 3, 1) := by decide +kernel
theorem dX7_deepness_22 : decode cX7_deepness 22 = .ok (.iaload, 1) := by decide +kernel
theorem dX7_deepness_23 : decode cX7_deepness 23 = .ok (.istore_n 3, 1) := by decide +kernel
theorem dX7_deepness_24 : decode cX7_deepness 24 = .ok (.goto (-15), 3) := by decide +kernel
theorem dX7_deepness_27 : decode cX7_deepness 27 = .ok (.iload_n 2, 1) := by decide +kernel
theorem dX7_deepness_28 : decode cX7_deepness 28 = .ok (.ireturn, 1) := by decide +kernel
theorem dX7_upTo_0 : decode cX7_upTo 0 = .ok (.iload_n 1, 1) := by decide +kernel
theorem dX7_upTo_1 : decode cX7_upTo 1 = .ok (.istore_n 3, 1) := by decide +kernel
theorem dX7_upTo_2 : decode cX7_upTo 2 = .ok (.aload_n 0, 1) := by decide +kernel
theorem dX7_upTo_3 : decode cX7_upTo 3 = .ok (.iload_n 1, 1) := by decide +kernel
theorem dX7_upTo_4 : decode cX7_upTo 4 = .ok (.invokevirtual 143, 3) := by decide +kernel
theorem dX7_upTo_7 : decode cX7_upTo 7 = .ok (.istore 4, 2) := by decide +kernel
theorem dX7_upTo_9 : decode cX7_upTo 9 = .ok (.iload 4, 2) := by decide +kernel
theorem dX7_upTo_11 : decode cX7_upTo 11 = .ok (.iload_n 2, 1) := by decide +kernel
theorem dX7_upTo_12 : decode cX7_upTo 12 = .ok (.if_icmp .le 16, 3) := by decide +kernel
theorem dX7_upTo_15 : decode cX7_upTo 15 = .ok (.aload_n 0, 1) := by decide +kernel
theorem dX7_upTo_16 : decode cX7_upTo 16 = .ok (.getfield 43, 3) := by decide +kernel
theorem dX7_upTo_19 : decode cX7_upTo 19 = .ok (.iload_n 3, 1) := by decide +kernel
theorem dX7_upTo_20 : decode cX7_upTo 20 = .ok (.iaload, 1) := by decide +kernel
theorem dX7_upTo_21 : decode cX7_upTo 21 = .ok (.istore_n 3, 1) := by decide +kernel
theorem dX7_upTo_22 : decode cX7_upTo 22 = .ok (.iinc 4 (-1), 3) := by decide +kernel
theorem dX7_upTo_25 : decode cX7_upTo 25 = .ok (.goto (-16), 3) := by decide +kernel
theorem dX7_upTo_28 : decode cX7_upTo 28 = .ok (.iload_n 3, 1) := by decide +kernel
theorem dX7_upTo_29 : decode cX7_upTo 29 = .ok (.ireturn, 1) := by decide +kernel
theorem dX7_isNode_0 : decode cX7_isNode 0 = .ok (.iload_n 1, 1) := by decide +kernel
theorem dX7_isNode_1 : decode cX7_isNode 1 = .ok (.iconst 0, 1) := by decide +kernel
theorem dX7_isNode_2 : decode cX7_isNode 2 = .ok (.aload_n 0, 1) := by decide +kernel
theorem dX7_isNode_3 : decode cX7_isNode 3 = .ok (.getfield 140, 3) := by decide +kernel
theorem dX7_isNode_6 : decode cX7_isNode 6 = .ok (.iconst 1, 1) := by decide +kernel
theorem dX7_isNode_7 : decode cX7_isNode 7 = .ok (.isub, 1) := by decide +kernel
theorem dX7_isNode_8 : decode cX7_isNode 8 = .ok (.invokestatic 56, 3) := by decide +kernel
theorem dX7_isNode_11 : decode cX7_isNode 11 = .ok (.ireturn, 1) := by decide +kernel
theorem dX7_meeting_0 : decode cX7_meeting 0 = .ok (.aload_n 0, 1) := by decide +kernel
theorem dX7_meeting_1 : decode cX7_meeting 1 = .ok (.iload_n 1, 1) := by decide +kernel
theorem dX7_meeting_2 : decode cX7_meeting 2 = .ok (.invokevirtual 143, 3) := by decide +kernel
theorem dX7_meeting_5 : decode cX7_meeting 5 = .ok (.istore_n 3, 1) := by decide +kernel
theorem dX7_meeting_6 : decode cX7_meeting 6 = .ok (.aload_n 0, 1) := by decide +kernel
theorem dX7_meeting_7 : decode cX7_meeting 7 = .ok (.iload_n 2, 1) := by decide +kernel
theorem dX7_meeting_8 : decode cX7_meeting 8 = .ok (.invokevirtual 143, 3) := by decide +kernel
theorem dX7_meeting_11 : decode cX7_meeting 11 = .ok (.istore 4, 2) := by decide +kernel
theorem dX7_meeting_13 : decode cX7_meeting 13 = .ok (.iload_n 3, 1) := by decide +kernel
theorem dX7_meeting_14 : decode cX7_meeting 14 = .ok (.iload 4, 2) := by decide +kernel
theorem dX7_meeting_16 : decode cX7_meeting 16 = .ok (.if_icmp .ge 7, 3) := by decide +kernel
theorem dX7_meeting_19 : decode cX7_meeting 19 = .ok (.iload_n 3, 1) := by decide +kernel
theorem dX7_meeting_20 : decode cX7_meeting 20 = .ok (.goto 5, 3) := by decide +kernel
theorem dX7_meeting_23 : decode cX7_meeting 23 = .ok (.iload 4, 2) := by decide +kernel
theorem dX7_meeting_25 : decode cX7_meeting 25 = .ok (.istore 5, 2) := by decide +kernel
theorem dX7_meeting_27 : decode cX7_meeting 27 = .ok (.aload_n 0, 1) := by decide +kernel
theorem dX7_meeting_28 : decode cX7_meeting 28 = .ok (.iload_n 1, 1) := by decide +kernel
theorem dX7_meeting_29 : decode cX7_meeting 29 = .ok (.iload 5, 2) := by decide +kernel
theorem dX7_meeting_31 : decode cX7_meeting 31 = .ok (.invokevirtual 146, 3) := by decide +kernel
theorem dX7_meeting_34 : decode cX7_meeting 34 = .ok (.aload_n 0, 1) := by decide +kernel
theorem dX7_meeting_35 : decode cX7_meeting 35 = .ok (.iload_n 2, 1) := by decide +kernel
theorem dX7_meeting_36 : decode cX7_meeting 36 = .ok (.iload 5, 2) := by decide +kernel
theorem dX7_meeting_38 : decode cX7_meeting 38 = .ok (.invokevirtual 146, 3) := by decide +kernel
theorem dX7_meeting_41 : decode cX7_meeting 41 = .ok (.if_icmp .eq 9, 3) := by decide +kernel
theorem dX7_meeting_44 : decode cX7_meeting 44 = .ok (.iinc 5 (-1), 3) := by decide +kernel
theorem dX7_meeting_47 : decode cX7_meeting 47 = .ok (.goto (-20), 3) := by decide +kernel
theorem dX7_meeting_50 : decode cX7_meeting 50 = .ok (.aload_n 0, 1) := by decide +kernel
theorem dX7_meeting_51 : decode cX7_meeting 51 = .ok (.iload_n 1, 1) := by decide +kernel
theorem dX7_meeting_52 : decode cX7_meeting 52 = .ok (.iload 5, 2) := by decide +kernel
theorem dX7_meeting_54 : decode cX7_meeting 54 = .ok (.invokevirtual 146, 3) := by decide +kernel
theorem dX7_meeting_57 : decode cX7_meeting 57 = .ok (.ireturn, 1) := by decide +kernel
theorem dX7_againstNodes_0 : decode cX7_againstNodes 0 = .ok (.aload_n 0, 1) := by decide +kernel
theorem dX7_againstNodes_1 : decode cX7_againstNodes 1 = .ok (.getfield 140, 3) := by decide +kernel
theorem dX7_againstNodes_4 : decode cX7_againstNodes 4 = .ok (.ifCond .ne 8, 3) := by decide +kernel
theorem dX7_againstNodes_7 : decode cX7_againstNodes 7 = .ok (.bipush (-2), 2) := by decide +kernel
theorem dX7_againstNodes_9 : decode cX7_againstNodes 9 = .ok (.goto 28, 3) := by decide +kernel
theorem dX7_againstNodes_12 : decode cX7_againstNodes 12 = .ok (.aload_n 0, 1) := by decide +kernel
theorem dX7_againstNodes_13 : decode cX7_againstNodes 13 = .ok (.iload_n 1, 1) := by decide +kernel
theorem dX7_againstNodes_14 : decode cX7_againstNodes 14 = .ok (.invokevirtual 149, 3) := by decide +kernel
theorem dX7_againstNodes_17 : decode cX7_againstNodes 17 = .ok (.ifCond .eq 11, 3) := by decide +kernel
theorem dX7_againstNodes_20 : decode cX7_againstNodes 20 = .ok (.aload_n 0, 1) := by decide +kernel
theorem dX7_againstNodes_21 : decode cX7_againstNodes 21 = .ok (.iload_n 2, 1) := by decide +kernel
theorem dX7_againstNodes_22 : decode cX7_againstNodes 22 = .ok (.invokevirtual 149, 3) := by decide +kernel
theorem dX7_againstNodes_25 : decode cX7_againstNodes 25 = .ok (.ifCond .ne 11, 3) := by decide +kernel
theorem dX7_againstNodes_28 : decode cX7_againstNodes 28 = .ok (.aload_n 0, 1) := by decide +kernel
theorem dX7_againstNodes_29 : decode cX7_againstNodes 29 = .ok (.iconst 2, 1) := by decide +kernel
theorem dX7_againstNodes_30 : decode cX7_againstNodes 30 = .ok (.invokevirtual 64, 3) := by decide +kernel
theorem dX7_againstNodes_33 : decode cX7_againstNodes 33 = .ok (.goto 4, 3) := by decide +kernel
theorem dX7_againstNodes_36 : decode cX7_againstNodes 36 = .ok (.iconst 0, 1) := by decide +kernel
theorem dX7_againstNodes_37 : decode cX7_againstNodes 37 = .ok (.ireturn, 1) := by decide +kernel
theorem dX7_meet_0 : decode cX7_meet 0 = .ok (.aload_n 0, 1) := by decide +kernel
theorem dX7_meet_1 : decode cX7_meet 1 = .ok (.iconst 0, 1) := by decide +kernel
theorem dX7_meet_2 : decode cX7_meet 2 = .ok (.putfield 46, 3) := by decide +kernel
theorem dX7_meet_5 : decode cX7_meet 5 = .ok (.aload_n 0, 1) := by decide +kernel
theorem dX7_meet_6 : decode cX7_meet 6 = .ok (.iload_n 1, 1) := by decide +kernel
theorem dX7_meet_7 : decode cX7_meet 7 = .ok (.iload_n 2, 1) := by decide +kernel
theorem dX7_meet_8 : decode cX7_meet 8 = .ok (.invokevirtual 152, 3) := by decide +kernel
theorem dX7_meet_11 : decode cX7_meet 11 = .ok (.istore_n 3, 1) := by decide +kernel
theorem dX7_meet_12 : decode cX7_meet 12 = .ok (.iload_n 3, 1) := by decide +kernel
theorem dX7_meet_13 : decode cX7_meet 13 = .ok (.ifCond .eq 7, 3) := by decide +kernel
theorem dX7_meet_16 : decode cX7_meet 16 = .ok (.iload_n 3, 1) := by decide +kernel
theorem dX7_meet_17 : decode cX7_meet 17 = .ok (.goto 9, 3) := by decide +kernel
theorem dX7_meet_20 : decode cX7_meet 20 = .ok (.aload_n 0, 1) := by decide +kernel
theorem dX7_meet_21 : decode cX7_meet 21 = .ok (.iload_n 1, 1) := by decide +kernel
theorem dX7_meet_22 : decode cX7_meet 22 = .ok (.iload_n 2, 1) := by decide +kernel
theorem dX7_meet_23 : decode cX7_meet 23 = .ok (.invokevirtual 155, 3) := by decide +kernel
theorem dX7_meet_26 : decode cX7_meet 26 = .ok (.ireturn, 1) := by decide +kernel
theorem dX7_apart_0 : decode cX7_apart 0 = .ok (.aload_n 0, 1) := by decide +kernel
theorem dX7_apart_1 : decode cX7_apart 1 = .ok (.iconst 0, 1) := by decide +kernel
theorem dX7_apart_2 : decode cX7_apart 2 = .ok (.putfield 46, 3) := by decide +kernel
theorem dX7_apart_5 : decode cX7_apart 5 = .ok (.aload_n 0, 1) := by decide +kernel
theorem dX7_apart_6 : decode cX7_apart 6 = .ok (.iload_n 1, 1) := by decide +kernel
theorem dX7_apart_7 : decode cX7_apart 7 = .ok (.iload_n 2, 1) := by decide +kernel
theorem dX7_apart_8 : decode cX7_apart 8 = .ok (.invokevirtual 152, 3) := by decide +kernel
theorem dX7_apart_11 : decode cX7_apart 11 = .ok (.istore_n 3, 1) := by decide +kernel
theorem dX7_apart_12 : decode cX7_apart 12 = .ok (.iload_n 3, 1) := by decide +kernel
theorem dX7_apart_13 : decode cX7_apart 13 = .ok (.ifCond .eq 7, 3) := by decide +kernel
theorem dX7_apart_16 : decode cX7_apart 16 = .ok (.iload_n 3, 1) := by decide +kernel
theorem dX7_apart_17 : decode cX7_apart 17 = .ok (.goto 27, 3) := by decide +kernel
theorem dX7_apart_20 : decode cX7_apart 20 = .ok (.aload_n 0, 1) := by decide +kernel
theorem dX7_apart_21 : decode cX7_apart 21 = .ok (.iload_n 1, 1) := by decide +kernel
theorem dX7_apart_22 : decode cX7_apart 22 = .ok (.invokevirtual 143, 3) := by decide +kernel
theorem dX7_apart_25 : decode cX7_apart 25 = .ok (.aload_n 0, 1) := by decide +kernel
theorem dX7_apart_26 : decode cX7_apart 26 = .ok (.iload_n 2, 1) := by decide +kernel
theorem dX7_apart_27 : decode cX7_apart 27 = .ok (.invokevirtual 143, 3) := by decide +kernel
theorem dX7_apart_30 : decode cX7_apart 30 = .ok (.iadd, 1) := by decide +kernel
theorem dX7_apart_31 : decode cX7_apart 31 = .ok (.iconst 2, 1) := by decide +kernel
theorem dX7_apart_32 : decode cX7_apart 32 = .ok (.aload_n 0, 1) := by decide +kernel
theorem dX7_apart_33 : decode cX7_apart 33 = .ok (.aload_n 0, 1) := by decide +kernel
theorem dX7_apart_34 : decode cX7_apart 34 = .ok (.iload_n 1, 1) := by decide +kernel
theorem dX7_apart_35 : decode cX7_apart 35 = .ok (.iload_n 2, 1) := by decide +kernel
theorem dX7_apart_36 : decode cX7_apart 36 = .ok (.invokevirtual 155, 3) := by decide +kernel
theorem dX7_apart_39 : decode cX7_apart 39 = .ok (.invokevirtual 143, 3) := by decide +kernel
theorem dX7_apart_42 : decode cX7_apart 42 = .ok (.imul, 1) := by decide +kernel
theorem dX7_apart_43 : decode cX7_apart 43 = .ok (.isub, 1) := by decide +kernel
theorem dX7_apart_44 : decode cX7_apart 44 = .ok (.ireturn, 1) := by decide +kernel
theorem dX7_up_0 : decode cX7_up 0 = .ok (.aload_n 0, 1) := by decide +kernel
theorem dX7_up_1 : decode cX7_up 1 = .ok (.iconst 0, 1) := by decide +kernel
theorem dX7_up_2 : decode cX7_up 2 = .ok (.putfield 46, 3) := by decide +kernel
theorem dX7_up_5 : decode cX7_up 5 = .ok (.aload_n 0, 1) := by decide +kernel
theorem dX7_up_6 : decode cX7_up 6 = .ok (.iload_n 1, 1) := by decide +kernel
theorem dX7_up_7 : decode cX7_up 7 = .ok (.iload_n 1, 1) := by decide +kernel
theorem dX7_up_8 : decode cX7_up 8 = .ok (.invokevirtual 152, 3) := by decide +kernel
theorem dX7_up_11 : decode cX7_up 11 = .ok (.istore_n 3, 1) := by decide +kernel
theorem dX7_up_12 : decode cX7_up 12 = .ok (.iload_n 3, 1) := by decide +kernel
theorem dX7_up_13 : decode cX7_up 13 = .ok (.ifCond .eq 5, 3) := by decide +kernel
theorem dX7_up_16 : decode cX7_up 16 = .ok (.iload_n 3, 1) := by decide +kernel
theorem dX7_up_17 : decode cX7_up 17 = .ok (.ireturn, 1) := by decide +kernel
theorem dX7_up_18 : decode cX7_up 18 = .ok (.iload_n 2, 1) := by decide +kernel
theorem dX7_up_19 : decode cX7_up 19 = .ok (.ifCond .ge 9, 3) := by decide +kernel
theorem dX7_up_22 : decode cX7_up 22 = .ok (.aload_n 0, 1) := by decide +kernel
theorem dX7_up_23 : decode cX7_up 23 = .ok (.iconst 2, 1) := by decide +kernel
theorem dX7_up_24 : decode cX7_up 24 = .ok (.invokevirtual 64, 3) := by decide +kernel
theorem dX7_up_27 : decode cX7_up 27 = .ok (.ireturn, 1) := by decide +kernel
theorem dX7_up_28 : decode cX7_up 28 = .ok (.aload_n 0, 1) := by decide +kernel
theorem dX7_up_29 : decode cX7_up 29 = .ok (.iload_n 1, 1) := by decide +kernel
theorem dX7_up_30 : decode cX7_up 30 = .ok (.invokevirtual 143, 3) := by decide +kernel
theorem dX7_up_33 : decode cX7_up 33 = .ok (.iload_n 2, 1) := by decide +kernel
theorem dX7_up_34 : decode cX7_up 34 = .ok (.if_icmp .ge 8, 3) := by decide +kernel
theorem dX7_up_37 : decode cX7_up 37 = .ok (.bipush (-9), 2) := by decide +kernel
theorem dX7_up_39 : decode cX7_up 39 = .ok (.goto 9, 3) := by decide +kernel
theorem dX7_up_42 : decode cX7_up 42 = .ok (.aload_n 0, 1) := by decide +kernel
theorem dX7_up_43 : decode cX7_up 43 = .ok (.iload_n 1, 1) := by decide +kernel
theorem dX7_up_44 : decode cX7_up 44 = .ok (.iload_n 2, 1) := by decide +kernel
theorem dX7_up_45 : decode cX7_up 45 = .ok (.invokevirtual 146, 3) := by decide +kernel
theorem dX7_up_48 : decode cX7_up 48 = .ok (.ireturn, 1) := by decide +kernel
theorem dX7_isBelow_0 : decode cX7_isBelow 0 = .ok (.aload_n 0, 1) := by decide +kernel
theorem dX7_isBelow_1 : decode cX7_isBelow 1 = .ok (.iload_n 1, 1) := by decide +kernel
theorem dX7_isBelow_2 : decode cX7_isBelow 2 = .ok (.invokevirtual 143, 3) := by decide +kernel
theorem dX7_isBelow_5 : decode cX7_isBelow 5 = .ok (.aload_n 0, 1) := by decide +kernel
theorem dX7_isBelow_6 : decode cX7_isBelow 6 = .ok (.iload_n 2, 1) := by decide +kernel
theorem dX7_isBelow_7 : decode cX7_isBelow 7 = .ok (.invokevirtual 143, 3) := by decide +kernel
theorem dX7_isBelow_10 : decode cX7_isBelow 10 = .ok (.if_icmp .lt 21, 3) := by decide +kernel
theorem dX7_isBelow_13 : decode cX7_isBelow 13 = .ok (.aload_n 0, 1) := by decide +kernel
theorem dX7_isBelow_14 : decode cX7_isBelow 14 = .ok (.iload_n 1, 1) := by decide +kernel
theorem dX7_isBelow_15 : decode cX7_isBelow 15 = .ok (.aload_n 0, 1) := by decide +kernel
theorem dX7_isBelow_16 : decode cX7_isBelow 16 = .ok (.iload_n 2, 1) := by decide +kernel
theorem dX7_isBelow_17 : decode cX7_isBelow 17 = .ok (.invokevirtual 143, 3) := by decide +kernel
theorem dX7_isBelow_20 : decode cX7_isBelow 20 = .ok (.invokevirtual 146, 3) := by decide +kernel
theorem dX7_isBelow_23 : decode cX7_isBelow 23 = .ok (.iload_n 2, 1) := by decide +kernel
theorem dX7_isBelow_24 : decode cX7_isBelow 24 = .ok (.if_icmp .ne 7, 3) := by decide +kernel
theorem dX7_isBelow_27 : decode cX7_isBelow 27 = .ok (.iconst 1, 1) := by decide +kernel
theorem dX7_isBelow_28 : decode cX7_isBelow 28 = .ok (.goto 4, 3) := by decide +kernel
theorem dX7_isBelow_31 : decode cX7_isBelow 31 = .ok (.iconst 0, 1) := by decide +kernel
theorem dX7_isBelow_32 : decode cX7_isBelow 32 = .ok (.ireturn, 1) := by decide +kernel
theorem dX7_below_0 : decode cX7_below 0 = .ok (.iconst 0, 1) := by decide +kernel
theorem dX7_below_1 : decode cX7_below 1 = .ok (.istore_n 2, 1) := by decide +kernel
theorem dX7_below_2 : decode cX7_below 2 = .ok (.iconst 0, 1) := by decide +kernel
theorem dX7_below_3 : decode cX7_below 3 = .ok (.istore_n 3, 1) := by decide +kernel
theorem dX7_below_4 : decode cX7_below 4 = .ok (.iload_n 3, 1) := by decide +kernel
theorem dX7_below_5 : decode cX7_below 5 = .ok (.aload_n 0, 1) := by decide +kernel
theorem dX7_below_6 : decode cX7_below 6 = .ok (.getfield 140, 3) := by decide +kernel
theorem dX7_below_9 : decode cX7_below 9 = .ok (.if_icmp .ge 26, 3) := by decide +kernel
theorem dX7_below_12 : decode cX7_below 12 = .ok (.iload_n 2, 1) := by decide +kernel
theorem dX7_below_13 : decode cX7_below 13 = .ok (.aload_n 0, 1) := by decide +kernel
theorem dX7_below_14 : decode cX7_below 14 = .ok (.iload_n 3, 1) := by decide +kernel
theorem dX7_below_15 : decode cX7_below 15 = .ok (.iload_n 1, 1) := by decide +kernel
theorem dX7_below_16 : decode cX7_below 16 = .ok (.invokevirtual 158, 3) := by decide +kernel
theorem dX7_below_19 : decode cX7_below 19 = .ok (.ifCond .eq 7, 3) := by decide +kernel
theorem dX7_below_22 : decode cX7_below 22 = .ok (.iconst 1, 1) := by decide +kernel
theorem dX7_below_23 : decode cX7_below 23 = .ok (.goto 4, 3) := by decide +kernel
theorem dX7_below_26 : decode cX7_below 26 = .ok (.iconst 0, 1) := by decide +kernel
theorem dX7_below_27 : decode cX7_below 27 = .ok (.iadd, 1) := by decide +kernel
theorem dX7_below_28 : decode cX7_below 28 = .ok (.istore_n 2, 1) := by decide +kernel
theorem dX7_below_29 : decode cX7_below 29 = .ok (.iinc 3 1, 3) := by decide +kernel
theorem dX7_below_32 : decode cX7_below 32 = .ok (.goto (-28), 3) := by decide +kernel
theorem dX7_below_35 : decode cX7_below 35 = .ok (.iload_n 2, 1) := by decide +kernel
theorem dX7_below_36 : decode cX7_below 36 = .ok (.ireturn, 1) := by decide +kernel
theorem dX7_firstMet_0 : decode cX7_firstMet 0 = .ok (.aload_n 0, 1) := by decide +kernel
theorem dX7_firstMet_1 : decode cX7_firstMet 1 = .ok (.iload_n 1, 1) := by decide +kernel
theorem dX7_firstMet_2 : decode cX7_firstMet 2 = .ok (.invokevirtual 143, 3) := by decide +kernel
theorem dX7_firstMet_5 : decode cX7_firstMet 5 = .ok (.istore_n 2, 1) := by decide +kernel
theorem dX7_firstMet_6 : decode cX7_firstMet 6 = .ok (.iload_n 1, 1) := by decide +kernel
theorem dX7_firstMet_7 : decode cX7_firstMet 7 = .ok (.istore_n 3, 1) := by decide +kernel
theorem dX7_firstMet_8 : decode cX7_firstMet 8 = .ok (.aload_n 0, 1) := by decide +kernel
theorem dX7_firstMet_9 : decode cX7_firstMet 9 = .ok (.getfield 43, 3) := by decide +kernel
theorem dX7_firstMet_12 : decode cX7_firstMet 12 = .ok (.iload_n 3, 1) := by decide +kernel
theorem dX7_firstMet_13 : decode cX7_firstMet 13 = .ok (.iaload, 1) := by decide +kernel
theorem dX7_firstMet_14 : decode cX7_firstMet 14 = .ok (.iconst (-1), 1) := by decide +kernel
theorem dX7_firstMet_15 : decode cX7_firstMet 15 = .ok (.if_icmp .eq 59, 3) := by decide +kernel
theorem dX7_firstMet_18 : decode cX7_firstMet 18 = .ok (.iconst 0, 1) := by decide +kernel
theorem dX7_firstMet_19 : decode cX7_firstMet 19 = .ok (.istore 4, 2) := by decide +kernel
theorem dX7_firstMet_21 : decode cX7_firstMet 21 = .ok (.iload 4, 2) := by decide +kernel
theorem dX7_firstMet_23 : decode cX7_firstMet 23 = .ok (.iload_n 3, 1) := by decide +kernel
theorem dX7_firstMet_24 : decode cX7_firstMet 24 = .ok (.if_icmp .ge 40, 3) := by decide +kernel
theorem dX7_firstMet_27 : decode cX7_firstMet 27 = .ok (.iload_n 2, 1) := by decide +kernel
theorem dX7_firstMet_28 : decode cX7_firstMet 28 = .ok (.aload_n 0, 1) := by decide +kernel
theorem dX7_firstMet_29 : decode cX7_firstMet 29 = .ok (.getfield 43, 3) := by decide +kernel
theorem dX7_firstMet_32 : decode cX7_firstMet 32 = .ok (.iload 4, 2) := by decide +kernel
theorem dX7_firstMet_34 : decode cX7_firstMet 34 = .ok (.iaload, 1) := by decide +kernel
theorem dX7_firstMet_35 : decode cX7_firstMet 35 = .ok (.aload_n 0, 1) := by decide +kernel
theorem dX7_firstMet_36 : decode cX7_firstMet 36 = .ok (.getfield 43, 3) := by decide +kernel
theorem dX7_firstMet_39 : decode cX7_firstMet 39 = .ok (.iload_n 3, 1) := by decide +kernel
theorem dX7_firstMet_40 : decode cX7_firstMet 40 = .ok (.iaload, 1) := by decide +kernel
theorem dX7_firstMet_41 : decode cX7_firstMet 41 = .ok (.if_icmp .ne 14, 3) := by decide +kernel
theorem dX7_firstMet_44 : decode cX7_firstMet 44 = .ok (.iconst 2, 1) := by decide +kernel
theorem dX7_firstMet_45 : decode cX7_firstMet 45 = .ok (.aload_n 0, 1) := by decide +kernel
theorem dX7_firstMet_46 : decode cX7_firstMet 46 = .ok (.iload 4, 2) := by decide +kernel
theorem dX7_firstMet_48 : decode cX7_firstMet 48 = .ok (.invokevirtual 162, 3) := by decide +kernel
theorem dX7_firstMet_51 : decode cX7_firstMet 51 = .ok (.imul, 1) := by decide +kernel
theorem dX7_firstMet_52 : decode cX7_firstMet 52 = .ok (.goto 4, 3) := by decide +kernel
theorem dX7_firstMet_55 : decode cX7_firstMet 55 = .ok (.iconst 0, 1) := by decide +kernel
theorem dX7_firstMet_56 : decode cX7_firstMet 56 = .ok (.iadd, 1) := by decide +kernel
theorem dX7_firstMet_57 : decode cX7_firstMet 57 = .ok (.istore_n 2, 1) := by decide +kernel
theorem dX7_firstMet_58 : decode cX7_firstMet 58 = .ok (.iinc 4 1, 3) := by decide +kernel
theorem dX7_firstMet_61 : decode cX7_firstMet 61 = .ok (.goto (-40), 3) := by decide +kernel
theorem dX7_firstMet_64 : decode cX7_firstMet 64 = .ok (.aload_n 0, 1) := by decide +kernel
theorem dX7_firstMet_65 : decode cX7_firstMet 65 = .ok (.getfield 43, 3) := by decide +kernel
theorem dX7_firstMet_68 : decode cX7_firstMet 68 = .ok (.iload_n 3, 1) := by decide +kernel
theorem dX7_firstMet_69 : decode cX7_firstMet 69 = .ok (.iaload, 1) := by decide +kernel
theorem dX7_firstMet_70 : decode cX7_firstMet 70 = .ok (.istore_n 3, 1) := by decide +kernel
theorem dX7_firstMet_71 : decode cX7_firstMet 71 = .ok (.goto (-63), 3) := by decide +kernel
theorem dX7_firstMet_74 : decode cX7_firstMet 74 = .ok (.iload_n 2, 1) := by decide +kernel
theorem dX7_firstMet_75 : decode cX7_firstMet 75 = .ok (.ireturn, 1) := by decide +kernel
theorem dX7_node_0 : decode cX7_node 0 = .ok (.aload_n 0, 1) := by decide +kernel
theorem dX7_node_1 : decode cX7_node 1 = .ok (.iconst 0, 1) := by decide +kernel
theorem dX7_node_2 : decode cX7_node 2 = .ok (.putfield 46, 3) := by decide +kernel
theorem dX7_node_5 : decode cX7_node 5 = .ok (.aload_n 0, 1) := by decide +kernel
theorem dX7_node_6 : decode cX7_node 6 = .ok (.getfield 140, 3) := by decide +kernel
theorem dX7_node_9 : decode cX7_node 9 = .ok (.ifCond .ne 6, 3) := by decide +kernel
theorem dX7_node_12 : decode cX7_node 12 = .ok (.bipush (-2), 2) := by decide +kernel
theorem dX7_node_14 : decode cX7_node 14 = .ok (.ireturn, 1) := by decide +kernel
theorem dX7_node_15 : decode cX7_node 15 = .ok (.iload_n 2, 1) := by decide +kernel
theorem dX7_node_16 : decode cX7_node 16 = .ok (.iconst 0, 1) := by decide +kernel
theorem dX7_node_17 : decode cX7_node 17 = .ok (.iconst 2, 1) := by decide +kernel
theorem dX7_node_18 : decode cX7_node 18 = .ok (.invokestatic 56, 3) := by decide +kernel
theorem dX7_node_21 : decode cX7_node 21 = .ok (.ifCond .ne 5, 3) := by decide +kernel
theorem dX7_node_24 : decode cX7_node 24 = .ok (.iconst (-1), 1) := by decide +kernel
theorem dX7_node_25 : decode cX7_node 25 = .ok (.ireturn, 1) := by decide +kernel
theorem dX7_node_26 : decode cX7_node 26 = .ok (.aload_n 0, 1) := by decide +kernel
theorem dX7_node_27 : decode cX7_node 27 = .ok (.iload_n 1, 1) := by decide +kernel
theorem dX7_node_28 : decode cX7_node 28 = .ok (.invokevirtual 149, 3) := by decide +kernel
theorem dX7_node_31 : decode cX7_node 31 = .ok (.ifCond .ne 9, 3) := by decide +kernel
theorem dX7_node_34 : decode cX7_node 34 = .ok (.aload_n 0, 1) := by decide +kernel
theorem dX7_node_35 : decode cX7_node 35 = .ok (.iconst 2, 1) := by decide +kernel
theorem dX7_node_36 : decode cX7_node 36 = .ok (.invokevirtual 64, 3) := by decide +kernel
theorem dX7_node_39 : decode cX7_node 39 = .ok (.ireturn, 1) := by decide +kernel
theorem dX7_node_40 : decode cX7_node 40 = .ok (.iload_n 2, 1) := by decide +kernel
theorem dX7_node_41 : decode cX7_node 41 = .ok (.ifCond .ne 11, 3) := by decide +kernel
theorem dX7_node_44 : decode cX7_node 44 = .ok (.aload_n 0, 1) := by decide +kernel
theorem dX7_node_45 : decode cX7_node 45 = .ok (.iload_n 1, 1) := by decide +kernel
theorem dX7_node_46 : decode cX7_node 46 = .ok (.invokevirtual 143, 3) := by decide +kernel
theorem dX7_node_49 : decode cX7_node 49 = .ok (.goto 21, 3) := by decide +kernel
theorem dX7_node_52 : decode cX7_node 52 = .ok (.iload_n 2, 1) := by decide +kernel
theorem dX7_node_53 : decode cX7_node 53 = .ok (.iconst 1, 1) := by decide +kernel
theorem dX7_node_54 : decode cX7_node 54 = .ok (.if_icmp .ne 11, 3) := by decide +kernel
theorem dX7_node_57 : decode cX7_node 57 = .ok (.aload_n 0, 1) := by decide +kernel
theorem dX7_node_58 : decode cX7_node 58 = .ok (.iload_n 1, 1) := by decide +kernel
theorem dX7_node_59 : decode cX7_node 59 = .ok (.invokevirtual 162, 3) := by decide +kernel
theorem dX7_node_62 : decode cX7_node 62 = .ok (.goto 8, 3) := by decide +kernel
theorem dX7_node_65 : decode cX7_node 65 = .ok (.aload_n 0, 1) := by decide +kernel
theorem dX7_node_66 : decode cX7_node 66 = .ok (.iload_n 1, 1) := by decide +kernel
theorem dX7_node_67 : decode cX7_node 67 = .ok (.invokevirtual 165, 3) := by decide +kernel
theorem dX7_node_70 : decode cX7_node 70 = .ok (.ireturn, 1) := by decide +kernel
theorem dX7_asked_0 : decode cX7_asked 0 = .ok (.aload_n 0, 1) := by decide +kernel
theorem dX7_asked_1 : decode cX7_asked 1 = .ok (.iconst 0, 1) := by decide +kernel
theorem dX7_asked_2 : decode cX7_asked 2 = .ok (.putfield 46, 3) := by decide +kernel
theorem dX7_asked_5 : decode cX7_asked 5 = .ok (.aload_n 0, 1) := by decide +kernel
theorem dX7_asked_6 : decode cX7_asked 6 = .ok (.getfield 53, 3) := by decide +kernel
theorem dX7_asked_9 : decode cX7_asked 9 = .ok (.ireturn, 1) := by decide +kernel
theorem dX7_shapesNow_0 : decode cX7_shapesNow 0 = .ok (.iconst 0, 1) := by decide +kernel
theorem dX7_shapesNow_1 : decode cX7_shapesNow 1 = .ok (.istore_n 1, 1) := by decide +kernel
theorem dX7_shapesNow_2 : decode cX7_shapesNow 2 = .ok (.iconst 0, 1) := by decide +kernel
theorem dX7_shapesNow_3 : decode cX7_shapesNow 3 = .ok (.istore_n 2, 1) := by decide +kernel
theorem dX7_shapesNow_4 : decode cX7_shapesNow 4 = .ok (.iload_n 2, 1) := by decide +kernel
theorem dX7_shapesNow_5 : decode cX7_shapesNow 5 = .ok (.aload_n 0, 1) := by decide +kernel
theorem dX7_shapesNow_6 : decode cX7_shapesNow 6 = .ok (.invokevirtual 99, 3) := by decide +kernel
theorem dX7_shapesNow_9 : decode cX7_shapesNow 9 = .ok (.if_icmp .ge 68, 3) := by decide +kernel
theorem dX7_shapesNow_12 : decode cX7_shapesNow 12 = .ok (.aload_n 0, 1) := by decide +kernel
theorem dX7_shapesNow_13 : decode cX7_shapesNow 13 = .ok (.iload_n 2, 1) := by decide +kernel
theorem dX7_shapesNow_14 : decode cX7_shapesNow 14 = .ok (.invokevirtual 103, 3) := by decide +kernel
theorem dX7_shapesNow_17 : decode cX7_shapesNow 17 = .ok (.istore_n 3, 1) := by decide +kernel
theorem dX7_shapesNow_18 : decode cX7_shapesNow 18 = .ok (.iconst 1, 1) := by decide +kernel
theorem dX7_shapesNow_19 : decode cX7_shapesNow 19 = .ok (.istore 4, 2) := by decide +kernel
theorem dX7_shapesNow_21 : decode cX7_shapesNow 21 = .ok (.iconst 0, 1) := by decide +kernel
theorem dX7_shapesNow_22 : decode cX7_shapesNow 22 = .ok (.istore 5, 2) := by decide +kernel
theorem dX7_shapesNow_24 : decode cX7_shapesNow 24 = .ok (.iload 5, 2) := by decide +kernel
theorem dX7_shapesNow_26 : decode cX7_shapesNow 26 = .ok (.iload_n 2, 1) := by decide +kernel
theorem dX7_shapesNow_27 : decode cX7_shapesNow 27 = .ok (.if_icmp .ge 31, 3) := by decide +kernel
theorem dX7_shapesNow_30 : decode cX7_shapesNow 30 = .ok (.iload 4, 2) := by decide +kernel
theorem dX7_shapesNow_32 : decode cX7_shapesNow 32 = .ok (.ifCond .eq 17, 3) := by decide +kernel
theorem dX7_shapesNow_35 : decode cX7_shapesNow 35 = .ok (.aload_n 0, 1) := by decide +kernel
theorem dX7_shapesNow_36 : decode cX7_shapesNow 36 = .ok (.iload 5, 2) := by decide +kernel
theorem dX7_shapesNow_38 : decode cX7_shapesNow 38 = .ok (.invokevirtual 103, 3) := by decide +kernel
theorem dX7_shapesNow_41 : decode cX7_shapesNow 41 = .ok (.iload_n 3, 1) := by decide +kernel
theorem dX7_shapesNow_42 : decode cX7_shapesNow 42 = .ok (.if_icmp .eq 7, 3) := by decide +kernel
theorem dX7_shapesNow_45 : decode cX7_shapesNow 45 = .ok (.iconst 1, 1) := by decide +kernel
theorem dX7_shapesNow_46 : decode cX7_shapesNow 46 = .ok (.goto 4, 3) := by decide +kernel
theorem dX7_shapesNow_49 : decode cX7_shapesNow 49 = .ok (.iconst 0, 1) := by decide +kernel
theorem dX7_shapesNow_50 : decode cX7_shapesNow 50 = .ok (.istore 4, 2) := by decide +kernel
theorem dX7_shapesNow_52 : decode cX7_shapesNow 52 = .ok (.iinc 5 1, 3) := by decide +kernel
theorem dX7_shapesNow_55 : decode cX7_shapesNow 55 = .ok (.goto (-31), 3) := by decide +kernel
theorem dX7_shapesNow_58 : decode cX7_shapesNow 58 = .ok (.iload_n 1, 1) := by decide +kernel
theorem dX7_shapesNow_59 : decode cX7_shapesNow 59 = .ok (.iload 4, 2) := by decide +kernel
theorem dX7_shapesNow_61 : decode cX7_shapesNow 61 = .ok (.ifCond .eq 7, 3) := by decide +kernel
theorem dX7_shapesNow_64 : decode cX7_shapesNow 64 = .ok (.iconst 1, 1) := by decide +kernel
theorem dX7_shapesNow_65 : decode cX7_shapesNow 65 = .ok (.goto 4, 3) := by decide +kernel
theorem dX7_shapesNow_68 : decode cX7_shapesNow 68 = .ok (.iconst 0, 1) := by decide +kernel
theorem dX7_shapesNow_69 : decode cX7_shapesNow 69 = .ok (.iadd, 1) := by decide +kernel
theorem dX7_shapesNow_70 : decode cX7_shapesNow 70 = .ok (.istore_n 1, 1) := by decide +kernel
theorem dX7_shapesNow_71 : decode cX7_shapesNow 71 = .ok (.iinc 2 1, 3) := by decide +kernel
theorem dX7_shapesNow_74 : decode cX7_shapesNow 74 = .ok (.goto (-70), 3) := by decide +kernel
theorem dX7_shapesNow_77 : decode cX7_shapesNow 77 = .ok (.iload_n 1, 1) := by decide +kernel
theorem dX7_shapesNow_78 : decode cX7_shapesNow 78 = .ok (.ireturn, 1) := by decide +kernel
theorem dX7_levels_0 : decode cX7_levels 0 = .ok (.iconst 0, 1) := by decide +kernel
theorem dX7_levels_1 : decode cX7_levels 1 = .ok (.istore_n 1, 1) := by decide +kernel
theorem dX7_levels_2 : decode cX7_levels 2 = .ok (.iconst 1, 1) := by decide +kernel
theorem dX7_levels_3 : decode cX7_levels 3 = .ok (.istore_n 2, 1) := by decide +kernel
theorem dX7_levels_4 : decode cX7_levels 4 = .ok (.iload_n 2, 1) := by decide +kernel
theorem dX7_levels_5 : decode cX7_levels 5 = .ok (.aload_n 0, 1) := by decide +kernel
theorem dX7_levels_6 : decode cX7_levels 6 = .ok (.invokevirtual 99, 3) := by decide +kernel
theorem dX7_levels_9 : decode cX7_levels 9 = .ok (.if_icmp .gt 13, 3) := by decide +kernel
theorem dX7_levels_12 : decode cX7_levels 12 = .ok (.iinc 1 1, 3) := by decide +kernel
theorem dX7_levels_15 : decode cX7_levels 15 = .ok (.iload_n 2, 1) := by decide +kernel
theorem dX7_levels_16 : decode cX7_levels 16 = .ok (.iconst 2, 1) := by decide +kernel
theorem dX7_levels_17 : decode cX7_levels 17 = .ok (.imul, 1) := by decide +kernel
theorem dX7_levels_18 : decode cX7_levels 18 = .ok (.istore_n 2, 1) := by decide +kernel
theorem dX7_levels_19 : decode cX7_levels 19 = .ok (.goto (-15), 3) := by decide +kernel
theorem dX7_levels_22 : decode cX7_levels 22 = .ok (.iload_n 1, 1) := by decide +kernel
theorem dX7_levels_23 : decode cX7_levels 23 = .ok (.ireturn, 1) := by decide +kernel
theorem dX7_bits_0 : decode cX7_bits 0 = .ok (.iconst 0, 1) := by decide +kernel
theorem dX7_bits_1 : decode cX7_bits 1 = .ok (.istore_n 1, 1) := by decide +kernel
theorem dX7_bits_2 : decode cX7_bits 2 = .ok (.iconst 1, 1) := by decide +kernel
theorem dX7_bits_3 : decode cX7_bits 3 = .ok (.istore_n 2, 1) := by decide +kernel
theorem dX7_bits_4 : decode cX7_bits 4 = .ok (.iload_n 2, 1) := by decide +kernel
theorem dX7_bits_5 : decode cX7_bits 5 = .ok (.aload_n 0, 1) := by decide +kernel
theorem dX7_bits_6 : decode cX7_bits 6 = .ok (.invokevirtual 99, 3) := by decide +kernel
theorem dX7_bits_9 : decode cX7_bits 9 = .ok (.if_icmp .gt 21, 3) := by decide +kernel
theorem dX7_bits_12 : decode cX7_bits 12 = .ok (.iload_n 1, 1) := by decide +kernel
theorem dX7_bits_13 : decode cX7_bits 13 = .ok (.aload_n 0, 1) := by decide +kernel
theorem dX7_bits_14 : decode cX7_bits 14 = .ok (.invokevirtual 99, 3) := by decide +kernel
theorem dX7_bits_17 : decode cX7_bits 17 = .ok (.iload_n 2, 1) := by decide +kernel
theorem dX7_bits_18 : decode cX7_bits 18 = .ok (.isub, 1) := by decide +kernel
theorem dX7_bits_19 : decode cX7_bits 19 = .ok (.iconst 1, 1) := by decide +kernel
theorem dX7_bits_20 : decode cX7_bits 20 = .ok (.iadd, 1) := by decide +kernel
end
section
theorem dX7_bits_21 : decode cX7_bits 21 = .ok (.iadd, 1) := by decide +kernel
theorem dX7_bits_22 : decode cX7_bits 22 = .ok (.istore_n 1, 1) := by decide +kernel
theorem dX7_bits_23 : decode cX7_bits 23 = .ok (.iload_n 2, 1) := by decide +kernel
theorem dX7_bits_24 : decode cX7_bits 24 = .ok (.iconst 2, 1) := by decide +kernel
theorem dX7_bits_25 : decode cX7_bits 25 = .ok (.imul, 1) := by decide +kernel
theorem dX7_bits_26 : decode cX7_bits 26 = .ok (.istore_n 2, 1) := by decide +kernel
theorem dX7_bits_27 : decode cX7_bits 27 = .ok (.goto (-23), 3) := by decide +kernel
theorem dX7_bits_30 : decode cX7_bits 30 = .ok (.iconst 2, 1) := by decide +kernel
theorem dX7_bits_31 : decode cX7_bits 31 = .ok (.aload_n 0, 1) := by decide +kernel
theorem dX7_bits_32 : decode cX7_bits 32 = .ok (.getfield 78, 3) := by decide +kernel
theorem dX7_bits_35 : decode cX7_bits 35 = .ok (.imul, 1) := by decide +kernel
theorem dX7_bits_36 : decode cX7_bits 36 = .ok (.aload_n 0, 1) := by decide +kernel
theorem dX7_bits_37 : decode cX7_bits 37 = .ok (.invokevirtual 99, 3) := by decide +kernel
theorem dX7_bits_40 : decode cX7_bits 40 = .ok (.imul, 1) := by decide +kernel
theorem dX7_bits_41 : decode cX7_bits 41 = .ok (.bipush 6, 2) := by decide +kernel
theorem dX7_bits_43 : decode cX7_bits 43 = .ok (.iload_n 1, 1) := by decide +kernel
theorem dX7_bits_44 : decode cX7_bits 44 = .ok (.imul, 1) := by decide +kernel
theorem dX7_bits_45 : decode cX7_bits 45 = .ok (.iadd, 1) := by decide +kernel
theorem dX7_bits_46 : decode cX7_bits 46 = .ok (.iconst 3, 1) := by decide +kernel
theorem dX7_bits_47 : decode cX7_bits 47 = .ok (.aload_n 0, 1) := by decide +kernel
theorem dX7_bits_48 : decode cX7_bits 48 = .ok (.getfield 78, 3) := by decide +kernel
theorem dX7_bits_51 : decode cX7_bits 51 = .ok (.imul, 1) := by decide +kernel
theorem dX7_bits_52 : decode cX7_bits 52 = .ok (.aload_n 0, 1) := by decide +kernel
theorem dX7_bits_53 : decode cX7_bits 53 = .ok (.getfield 78, 3) := by decide +kernel
theorem dX7_bits_56 : decode cX7_bits 56 = .ok (.imul, 1) := by decide +kernel
theorem dX7_bits_57 : decode cX7_bits 57 = .ok (.aload_n 0, 1) := by decide +kernel
theorem dX7_bits_58 : decode cX7_bits 58 = .ok (.invokevirtual 168, 3) := by decide +kernel
theorem dX7_bits_61 : decode cX7_bits 61 = .ok (.imul, 1) := by decide +kernel
theorem dX7_bits_62 : decode cX7_bits 62 = .ok (.iadd, 1) := by decide +kernel
theorem dX7_bits_63 : decode cX7_bits 63 = .ok (.ireturn, 1) := by decide +kernel
theorem dX7_rowsThere_0 : decode cX7_rowsThere 0 = .ok (.iconst 0, 1) := by decide +kernel
theorem dX7_rowsThere_1 : decode cX7_rowsThere 1 = .ok (.istore_n 1, 1) := by decide +kernel
theorem dX7_rowsThere_2 : decode cX7_rowsThere 2 = .ok (.iconst 0, 1) := by decide +kernel
theorem dX7_rowsThere_3 : decode cX7_rowsThere 3 = .ok (.istore_n 2, 1) := by decide +kernel
theorem dX7_rowsThere_4 : decode cX7_rowsThere 4 = .ok (.iload_n 2, 1) := by decide +kernel
theorem dX7_rowsThere_5 : decode cX7_rowsThere 5 = .ok (.iconst 4, 1) := by decide +kernel
theorem dX7_rowsThere_6 : decode cX7_rowsThere 6 = .ok (.if_icmp .ge 26, 3) := by decide +kernel
theorem dX7_rowsThere_9 : decode cX7_rowsThere 9 = .ok (.iload_n 1, 1) := by decide +kernel
theorem dX7_rowsThere_10 : decode cX7_rowsThere 10 = .ok (.aload_n 0, 1) := by decide +kernel
theorem dX7_rowsThere_11 : decode cX7_rowsThere 11 = .ok (.getfield 16, 3) := by decide +kernel
theorem dX7_rowsThere_14 : decode cX7_rowsThere 14 = .ok (.iload_n 2, 1) := by decide +kernel
theorem dX7_rowsThere_15 : decode cX7_rowsThere 15 = .ok (.iaload, 1) := by decide +kernel
theorem dX7_rowsThere_16 : decode cX7_rowsThere 16 = .ok (.ifCond .lt 7, 3) := by decide +kernel
theorem dX7_rowsThere_19 : decode cX7_rowsThere 19 = .ok (.iconst 1, 1) := by decide +kernel
theorem dX7_rowsThere_20 : decode cX7_rowsThere 20 = .ok (.goto 4, 3) := by decide +kernel
theorem dX7_rowsThere_23 : decode cX7_rowsThere 23 = .ok (.iconst 0, 1) := by decide +kernel
theorem dX7_rowsThere_24 : decode cX7_rowsThere 24 = .ok (.iadd, 1) := by decide +kernel
theorem dX7_rowsThere_25 : decode cX7_rowsThere 25 = .ok (.istore_n 1, 1) := by decide +kernel
theorem dX7_rowsThere_26 : decode cX7_rowsThere 26 = .ok (.iinc 2 1, 3) := by decide +kernel
theorem dX7_rowsThere_29 : decode cX7_rowsThere 29 = .ok (.goto (-25), 3) := by decide +kernel
theorem dX7_rowsThere_32 : decode cX7_rowsThere 32 = .ok (.iload_n 1, 1) := by decide +kernel
theorem dX7_rowsThere_33 : decode cX7_rowsThere 33 = .ok (.ireturn, 1) := by decide +kernel
theorem dX7_countOf_0 : decode cX7_countOf 0 = .ok (.iload_n 1, 1) := by decide +kernel
theorem dX7_countOf_1 : decode cX7_countOf 1 = .ok (.iconst 4, 1) := by decide +kernel
theorem dX7_countOf_2 : decode cX7_countOf 2 = .ok (.if_icmp .ge 43, 3) := by decide +kernel
theorem dX7_countOf_5 : decode cX7_countOf 5 = .ok (.iload_n 1, 1) := by decide +kernel
theorem dX7_countOf_6 : decode cX7_countOf 6 = .ok (.ifCond .ne 10, 3) := by decide +kernel
theorem dX7_countOf_9 : decode cX7_countOf 9 = .ok (.aload_n 0, 1) := by decide +kernel
theorem dX7_countOf_10 : decode cX7_countOf 10 = .ok (.getfield 81, 3) := by decide +kernel
theorem dX7_countOf_13 : decode cX7_countOf 13 = .ok (.goto 31, 3) := by decide +kernel
theorem dX7_countOf_16 : decode cX7_countOf 16 = .ok (.iload_n 1, 1) := by decide +kernel
theorem dX7_countOf_17 : decode cX7_countOf 17 = .ok (.iconst 1, 1) := by decide +kernel
theorem dX7_countOf_18 : decode cX7_countOf 18 = .ok (.if_icmp .ne 10, 3) := by decide +kernel
theorem dX7_countOf_21 : decode cX7_countOf 21 = .ok (.aload_n 0, 1) := by decide +kernel
theorem dX7_countOf_22 : decode cX7_countOf 22 = .ok (.getfield 78, 3) := by decide +kernel
theorem dX7_countOf_25 : decode cX7_countOf 25 = .ok (.goto 19, 3) := by decide +kernel
theorem dX7_countOf_28 : decode cX7_countOf 28 = .ok (.iload_n 1, 1) := by decide +kernel
theorem dX7_countOf_29 : decode cX7_countOf 29 = .ok (.iconst 2, 1) := by decide +kernel
theorem dX7_countOf_30 : decode cX7_countOf 30 = .ok (.if_icmp .ne 10, 3) := by decide +kernel
theorem dX7_countOf_33 : decode cX7_countOf 33 = .ok (.aload_n 0, 1) := by decide +kernel
theorem dX7_countOf_34 : decode cX7_countOf 34 = .ok (.invokevirtual 99, 3) := by decide +kernel
theorem dX7_countOf_37 : decode cX7_countOf 37 = .ok (.goto 7, 3) := by decide +kernel
theorem dX7_countOf_40 : decode cX7_countOf 40 = .ok (.aload_n 0, 1) := by decide +kernel
theorem dX7_countOf_41 : decode cX7_countOf 41 = .ok (.invokevirtual 168, 3) := by decide +kernel
theorem dX7_countOf_44 : decode cX7_countOf 44 = .ok (.ireturn, 1) := by decide +kernel
theorem dX7_countOf_45 : decode cX7_countOf 45 = .ok (.iload_n 1, 1) := by decide +kernel
theorem dX7_countOf_46 : decode cX7_countOf 46 = .ok (.bipush 7, 2) := by decide +kernel
theorem dX7_countOf_48 : decode cX7_countOf 48 = .ok (.if_icmp .ge 32, 3) := by decide +kernel
theorem dX7_countOf_51 : decode cX7_countOf 51 = .ok (.iload_n 1, 1) := by decide +kernel
theorem dX7_countOf_52 : decode cX7_countOf 52 = .ok (.iconst 4, 1) := by decide +kernel
theorem dX7_countOf_53 : decode cX7_countOf 53 = .ok (.if_icmp .ne 10, 3) := by decide +kernel
theorem dX7_countOf_56 : decode cX7_countOf 56 = .ok (.aload_n 0, 1) := by decide +kernel
theorem dX7_countOf_57 : decode cX7_countOf 57 = .ok (.invokevirtual 171, 3) := by decide +kernel
theorem dX7_countOf_60 : decode cX7_countOf 60 = .ok (.goto 19, 3) := by decide +kernel
theorem dX7_countOf_63 : decode cX7_countOf 63 = .ok (.iload_n 1, 1) := by decide +kernel
theorem dX7_countOf_64 : decode cX7_countOf 64 = .ok (.iconst 5, 1) := by decide +kernel
theorem dX7_countOf_65 : decode cX7_countOf 65 = .ok (.if_icmp .ne 10, 3) := by decide +kernel
theorem dX7_countOf_68 : decode cX7_countOf 68 = .ok (.aload_n 0, 1) := by decide +kernel
theorem dX7_countOf_69 : decode cX7_countOf 69 = .ok (.getfield 93, 3) := by decide +kernel
theorem dX7_countOf_72 : decode cX7_countOf 72 = .ok (.goto 7, 3) := by decide +kernel
theorem dX7_countOf_75 : decode cX7_countOf 75 = .ok (.aload_n 0, 1) := by decide +kernel
theorem dX7_countOf_76 : decode cX7_countOf 76 = .ok (.invokevirtual 174, 3) := by decide +kernel
theorem dX7_countOf_79 : decode cX7_countOf 79 = .ok (.ireturn, 1) := by decide +kernel
theorem dX7_countOf_80 : decode cX7_countOf 80 = .ok (.iload_n 1, 1) := by decide +kernel
theorem dX7_countOf_81 : decode cX7_countOf 81 = .ok (.bipush 7, 2) := by decide +kernel
theorem dX7_countOf_83 : decode cX7_countOf 83 = .ok (.if_icmp .ne 10, 3) := by decide +kernel
theorem dX7_countOf_86 : decode cX7_countOf 86 = .ok (.aload_n 0, 1) := by decide +kernel
theorem dX7_countOf_87 : decode cX7_countOf 87 = .ok (.getfield 96, 3) := by decide +kernel
theorem dX7_countOf_90 : decode cX7_countOf 90 = .ok (.goto 20, 3) := by decide +kernel
theorem dX7_countOf_93 : decode cX7_countOf 93 = .ok (.iload_n 1, 1) := by decide +kernel
theorem dX7_countOf_94 : decode cX7_countOf 94 = .ok (.bipush 8, 2) := by decide +kernel
theorem dX7_countOf_96 : decode cX7_countOf 96 = .ok (.if_icmp .ne 10, 3) := by decide +kernel
theorem dX7_countOf_99 : decode cX7_countOf 99 = .ok (.aload_n 0, 1) := by decide +kernel
theorem dX7_countOf_100 : decode cX7_countOf 100 = .ok (.invokevirtual 177, 3) := by decide +kernel
theorem dX7_countOf_103 : decode cX7_countOf 103 = .ok (.goto 7, 3) := by decide +kernel
theorem dX7_countOf_106 : decode cX7_countOf 106 = .ok (.aload_n 0, 1) := by decide +kernel
theorem dX7_countOf_107 : decode cX7_countOf 107 = .ok (.getfield 140, 3) := by decide +kernel
theorem dX7_countOf_110 : decode cX7_countOf 110 = .ok (.ireturn, 1) := by decide +kernel
theorem dX7_count_0 : decode cX7_count 0 = .ok (.aload_n 0, 1) := by decide +kernel
theorem dX7_count_1 : decode cX7_count 1 = .ok (.iconst 0, 1) := by decide +kernel
theorem dX7_count_2 : decode cX7_count 2 = .ok (.putfield 46, 3) := by decide +kernel
theorem dX7_count_5 : decode cX7_count 5 = .ok (.iload_n 1, 1) := by decide +kernel
theorem dX7_count_6 : decode cX7_count 6 = .ok (.iconst 0, 1) := by decide +kernel
theorem dX7_count_7 : decode cX7_count 7 = .ok (.bipush 9, 2) := by decide +kernel
theorem dX7_count_9 : decode cX7_count 9 = .ok (.invokestatic 56, 3) := by decide +kernel
theorem dX7_count_12 : decode cX7_count 12 = .ok (.ifCond .eq 11, 3) := by decide +kernel
theorem dX7_count_15 : decode cX7_count 15 = .ok (.aload_n 0, 1) := by decide +kernel
theorem dX7_count_16 : decode cX7_count 16 = .ok (.iload_n 1, 1) := by decide +kernel
theorem dX7_count_17 : decode cX7_count 17 = .ok (.invokevirtual 180, 3) := by decide +kernel
theorem dX7_count_20 : decode cX7_count 20 = .ok (.goto 4, 3) := by decide +kernel
theorem dX7_count_23 : decode cX7_count 23 = .ok (.iconst (-1), 1) := by decide +kernel
theorem dX7_count_24 : decode cX7_count 24 = .ok (.ireturn, 1) := by decide +kernel
theorem dX7_finding_0 : decode cX7_finding 0 = .ok (.aload_n 0, 1) := by decide +kernel
theorem dX7_finding_1 : decode cX7_finding 1 = .ok (.iconst 0, 1) := by decide +kernel
theorem dX7_finding_2 : decode cX7_finding 2 = .ok (.putfield 46, 3) := by decide +kernel
theorem dX7_finding_5 : decode cX7_finding 5 = .ok (.aload_n 0, 1) := by decide +kernel
theorem dX7_finding_6 : decode cX7_finding 6 = .ok (.getfield 50, 3) := by decide +kernel
theorem dX7_finding_9 : decode cX7_finding 9 = .ok (.ireturn, 1) := by decide +kernel
theorem dX7_findings_0 : decode cX7_findings 0 = .ok (.aload_n 0, 1) := by decide +kernel
theorem dX7_findings_1 : decode cX7_findings 1 = .ok (.iconst 0, 1) := by decide +kernel
theorem dX7_findings_2 : decode cX7_findings 2 = .ok (.putfield 46, 3) := by decide +kernel
theorem dX7_findings_5 : decode cX7_findings 5 = .ok (.iload_n 1, 1) := by decide +kernel
theorem dX7_findings_6 : decode cX7_findings 6 = .ok (.iconst 1, 1) := by decide +kernel
theorem dX7_findings_7 : decode cX7_findings 7 = .ok (.iconst 4, 1) := by decide +kernel
theorem dX7_findings_8 : decode cX7_findings 8 = .ok (.invokestatic 56, 3) := by decide +kernel
theorem dX7_findings_11 : decode cX7_findings 11 = .ok (.ifCond .eq 12, 3) := by decide +kernel
theorem dX7_findings_14 : decode cX7_findings 14 = .ok (.aload_n 0, 1) := by decide +kernel
theorem dX7_findings_15 : decode cX7_findings 15 = .ok (.getfield 7, 3) := by decide +kernel
theorem dX7_findings_18 : decode cX7_findings 18 = .ok (.iload_n 1, 1) := by decide +kernel
theorem dX7_findings_19 : decode cX7_findings 19 = .ok (.iaload, 1) := by decide +kernel
theorem dX7_findings_20 : decode cX7_findings 20 = .ok (.goto 4, 3) := by decide +kernel
theorem dX7_findings_23 : decode cX7_findings 23 = .ok (.iconst (-1), 1) := by decide +kernel
theorem dX7_findings_24 : decode cX7_findings 24 = .ok (.ireturn, 1) := by decide +kernel
theorem dX7_digest_0 : decode cX7_digest 0 = .ok (.aload_n 0, 1) := by decide +kernel
theorem dX7_digest_1 : decode cX7_digest 1 = .ok (.iconst 0, 1) := by decide +kernel
theorem dX7_digest_2 : decode cX7_digest 2 = .ok (.putfield 46, 3) := by decide +kernel
theorem dX7_digest_5 : decode cX7_digest 5 = .ok (.ldc2_w 183, 3) := by decide +kernel
theorem dX7_digest_8 : decode cX7_digest 8 = .ok (.lstore_n 1, 1) := by decide +kernel
theorem dX7_digest_9 : decode cX7_digest 9 = .ok (.iconst 0, 1) := by decide +kernel
theorem dX7_digest_10 : decode cX7_digest 10 = .ok (.istore_n 3, 1) := by decide +kernel
theorem dX7_digest_11 : decode cX7_digest 11 = .ok (.iload_n 3, 1) := by decide +kernel
theorem dX7_digest_12 : decode cX7_digest 12 = .ok (.bipush 10, 2) := by decide +kernel
theorem dX7_digest_14 : decode cX7_digest 14 = .ok (.if_icmp .ge 22, 3) := by decide +kernel
theorem dX7_digest_17 : decode cX7_digest 17 = .ok (.ldc2_w 185, 3) := by decide +kernel
theorem dX7_digest_20 : decode cX7_digest 20 = .ok (.lload_n 1, 1) := by decide +kernel
theorem dX7_digest_21 : decode cX7_digest 21 = .ok (.lmul, 1) := by decide +kernel
theorem dX7_digest_22 : decode cX7_digest 22 = .ok (.aload_n 0, 1) := by decide +kernel
theorem dX7_digest_23 : decode cX7_digest 23 = .ok (.iload_n 3, 1) := by decide +kernel
theorem dX7_digest_24 : decode cX7_digest 24 = .ok (.invokevirtual 180, 3) := by decide +kernel
theorem dX7_digest_27 : decode cX7_digest 27 = .ok (.i2l, 1) := by decide +kernel
theorem dX7_digest_28 : decode cX7_digest 28 = .ok (.ladd, 1) := by decide +kernel
theorem dX7_digest_29 : decode cX7_digest 29 = .ok (.lstore_n 1, 1) := by decide +kernel
theorem dX7_digest_30 : decode cX7_digest 30 = .ok (.iinc 3 1, 3) := by decide +kernel
theorem dX7_digest_33 : decode cX7_digest 33 = .ok (.goto (-22), 3) := by decide +kernel
theorem dX7_digest_36 : decode cX7_digest 36 = .ok (.iconst 0, 1) := by decide +kernel
theorem dX7_digest_37 : decode cX7_digest 37 = .ok (.istore_n 3, 1) := by decide +kernel
theorem dX7_digest_38 : decode cX7_digest 38 = .ok (.iload_n 3, 1) := by decide +kernel
theorem dX7_digest_39 : decode cX7_digest 39 = .ok (.aload_n 0, 1) := by decide +kernel
theorem dX7_digest_40 : decode cX7_digest 40 = .ok (.getfield 81, 3) := by decide +kernel
theorem dX7_digest_43 : decode cX7_digest 43 = .ok (.if_icmp .ge 23, 3) := by decide +kernel
theorem dX7_digest_46 : decode cX7_digest 46 = .ok (.ldc2_w 185, 3) := by decide +kernel
theorem dX7_digest_49 : decode cX7_digest 49 = .ok (.lload_n 1, 1) := by decide +kernel
theorem dX7_digest_50 : decode cX7_digest 50 = .ok (.lmul, 1) := by decide +kernel
theorem dX7_digest_51 : decode cX7_digest 51 = .ok (.aload_n 0, 1) := by decide +kernel
theorem dX7_digest_52 : decode cX7_digest 52 = .ok (.getfield 19, 3) := by decide +kernel
theorem dX7_digest_55 : decode cX7_digest 55 = .ok (.iload_n 3, 1) := by decide +kernel
theorem dX7_digest_56 : decode cX7_digest 56 = .ok (.iaload, 1) := by decide +kernel
theorem dX7_digest_57 : decode cX7_digest 57 = .ok (.i2l, 1) := by decide +kernel
theorem dX7_digest_58 : decode cX7_digest 58 = .ok (.ladd, 1) := by decide +kernel
theorem dX7_digest_59 : decode cX7_digest 59 = .ok (.lstore_n 1, 1) := by decide +kernel
theorem dX7_digest_60 : decode cX7_digest 60 = .ok (.iinc 3 1, 3) := by decide +kernel
theorem dX7_digest_63 : decode cX7_digest 63 = .ok (.goto (-25), 3) := by decide +kernel
theorem dX7_digest_66 : decode cX7_digest 66 = .ok (.iconst 0, 1) := by decide +kernel
theorem dX7_digest_67 : decode cX7_digest 67 = .ok (.istore_n 3, 1) := by decide +kernel
theorem dX7_digest_68 : decode cX7_digest 68 = .ok (.iload_n 3, 1) := by decide +kernel
theorem dX7_digest_69 : decode cX7_digest 69 = .ok (.aload_n 0, 1) := by decide +kernel
theorem dX7_digest_70 : decode cX7_digest 70 = .ok (.invokevirtual 99, 3) := by decide +kernel
theorem dX7_digest_73 : decode cX7_digest 73 = .ok (.if_icmp .ge 22, 3) := by decide +kernel
theorem dX7_digest_76 : decode cX7_digest 76 = .ok (.ldc2_w 185, 3) := by decide +kernel
theorem dX7_digest_79 : decode cX7_digest 79 = .ok (.lload_n 1, 1) := by decide +kernel
theorem dX7_digest_80 : decode cX7_digest 80 = .ok (.lmul, 1) := by decide +kernel
theorem dX7_digest_81 : decode cX7_digest 81 = .ok (.aload_n 0, 1) := by decide +kernel
theorem dX7_digest_82 : decode cX7_digest 82 = .ok (.iload_n 3, 1) := by decide +kernel
theorem dX7_digest_83 : decode cX7_digest 83 = .ok (.invokevirtual 103, 3) := by decide +kernel
theorem dX7_digest_86 : decode cX7_digest 86 = .ok (.i2l, 1) := by decide +kernel
theorem dX7_digest_87 : decode cX7_digest 87 = .ok (.ladd, 1) := by decide +kernel
theorem dX7_digest_88 : decode cX7_digest 88 = .ok (.lstore_n 1, 1) := by decide +kernel
theorem dX7_digest_89 : decode cX7_digest 89 = .ok (.iinc 3 1, 3) := by decide +kernel
theorem dX7_digest_92 : decode cX7_digest 92 = .ok (.goto (-24), 3) := by decide +kernel
theorem dX7_digest_95 : decode cX7_digest 95 = .ok (.iconst 0, 1) := by decide +kernel
theorem dX7_digest_96 : decode cX7_digest 96 = .ok (.istore_n 3, 1) := by decide +kernel
theorem dX7_digest_97 : decode cX7_digest 97 = .ok (.iload_n 3, 1) := by decide +kernel
theorem dX7_digest_98 : decode cX7_digest 98 = .ok (.iconst 4, 1) := by decide +kernel
theorem dX7_digest_99 : decode cX7_digest 99 = .ok (.if_icmp .ge 63, 3) := by decide +kernel
theorem dX7_digest_102 : decode cX7_digest 102 = .ok (.ldc2_w 185, 3) := by decide +kernel
theorem dX7_digest_105 : decode cX7_digest 105 = .ok (.lload_n 1, 1) := by decide +kernel
theorem dX7_digest_106 : decode cX7_digest 106 = .ok (.lmul, 1) := by decide +kernel
theorem dX7_digest_107 : decode cX7_digest 107 = .ok (.aload_n 0, 1) := by decide +kernel
theorem dX7_digest_108 : decode cX7_digest 108 = .ok (.getfield 16, 3) := by decide +kernel
theorem dX7_digest_111 : decode cX7_digest 111 = .ok (.iload_n 3, 1) := by decide +kernel
theorem dX7_digest_112 : decode cX7_digest 112 = .ok (.iaload, 1) := by decide +kernel
theorem dX7_digest_113 : decode cX7_digest 113 = .ok (.i2l, 1) := by decide +kernel
theorem dX7_digest_114 : decode cX7_digest 114 = .ok (.ladd, 1) := by decide +kernel
theorem dX7_digest_115 : decode cX7_digest 115 = .ok (.lstore_n 1, 1) := by decide +kernel
theorem dX7_digest_116 : decode cX7_digest 116 = .ok (.iconst 0, 1) := by decide +kernel
theorem dX7_digest_117 : decode cX7_digest 117 = .ok (.istore 4, 2) := by decide +kernel
theorem dX7_digest_119 : decode cX7_digest 119 = .ok (.iload 4, 2) := by decide +kernel
theorem dX7_digest_121 : decode cX7_digest 121 = .ok (.aload_n 0, 1) := by decide +kernel
theorem dX7_digest_122 : decode cX7_digest 122 = .ok (.getfield 16, 3) := by decide +kernel
theorem dX7_digest_125 : decode cX7_digest 125 = .ok (.iload_n 3, 1) := by decide +kernel
theorem dX7_digest_126 : decode cX7_digest 126 = .ok (.iaload, 1) := by decide +kernel
theorem dX7_digest_127 : decode cX7_digest 127 = .ok (.if_icmp .ge 29, 3) := by decide +kernel
theorem dX7_digest_130 : decode cX7_digest 130 = .ok (.ldc2_w 185, 3) := by decide +kernel
theorem dX7_digest_133 : decode cX7_digest 133 = .ok (.lload_n 1, 1) := by decide +kernel
theorem dX7_digest_134 : decode cX7_digest 134 = .ok (.lmul, 1) := by decide +kernel
theorem dX7_digest_135 : decode cX7_digest 135 = .ok (.aload_n 0, 1) := by decide +kernel
theorem dX7_digest_136 : decode cX7_digest 136 = .ok (.getfield 13, 3) := by decide +kernel
theorem dX7_digest_139 : decode cX7_digest 139 = .ok (.bipush 48, 2) := by decide +kernel
theorem dX7_digest_141 : decode cX7_digest 141 = .ok (.iload_n 3, 1) := by decide +kernel
theorem dX7_digest_142 : decode cX7_digest 142 = .ok (.imul, 1) := by decide +kernel
theorem dX7_digest_143 : decode cX7_digest 143 = .ok (.iload 4, 2) := by decide +kernel
theorem dX7_digest_145 : decode cX7_digest 145 = .ok (.iadd, 1) := by decide +kernel
theorem dX7_digest_146 : decode cX7_digest 146 = .ok (.iaload, 1) := by decide +kernel
theorem dX7_digest_147 : decode cX7_digest 147 = .ok (.i2l, 1) := by decide +kernel
theorem dX7_digest_148 : decode cX7_digest 148 = .ok (.ladd, 1) := by decide +kernel
theorem dX7_digest_149 : decode cX7_digest 149 = .ok (.lstore_n 1, 1) := by decide +kernel
theorem dX7_digest_150 : decode cX7_digest 150 = .ok (.iinc 4 1, 3) := by decide +kernel
theorem dX7_digest_153 : decode cX7_digest 153 = .ok (.goto (-34), 3) := by decide +kernel
theorem dX7_digest_156 : decode cX7_digest 156 = .ok (.iinc 3 1, 3) := by decide +kernel
theorem dX7_digest_159 : decode cX7_digest 159 = .ok (.goto (-62), 3) := by decide +kernel
theorem dX7_digest_162 : decode cX7_digest 162 = .ok (.lload_n 1, 1) := by decide +kernel
theorem dX7_digest_163 : decode cX7_digest 163 = .ok (.lreturn, 1) := by decide +kernel
theorem dJ6_bitCount_0f7a4_0 : decode cJ6_bitCount_0f7a4 0 = .ok (.iload_n 0, 1) := by decide +kernel
theorem dJ6_bitCount_0f7a4_1 : decode cJ6_bitCount_0f7a4 1 = .ok (.iload_n 0, 1) := by decide +kernel
theorem dJ6_bitCount_0f7a4_2 : decode cJ6_bitCount_0f7a4 2 = .ok (.iconst 1, 1) := by decide +kernel
theorem dJ6_bitCount_0f7a4_3 : decode cJ6_bitCount_0f7a4 3 = .ok (.iushr, 1) := by decide +kernel
theorem dJ6_bitCount_0f7a4_4 : decode cJ6_bitCount_0f7a4 4 = .ok (.ldc_w 265, 3) := by decide +kernel
theorem dJ6_bitCount_0f7a4_7 : decode cJ6_bitCount_0f7a4 7 = .ok (.iand, 1) := by decide +kernel
theorem dJ6_bitCount_0f7a4_8 : decode cJ6_bitCount_0f7a4 8 = .ok (.isub, 1) := by decide +kernel
theorem dJ6_bitCount_0f7a4_9 : decode cJ6_bitCount_0f7a4 9 = .ok (.istore_n 0, 1) := by decide +kernel
theorem dJ6_bitCount_0f7a4_10 : decode cJ6_bitCount_0f7a4 10 = .ok (.iload_n 0, 1) := by decide +kernel
theorem dJ6_bitCount_0f7a4_11 : decode cJ6_bitCount_0f7a4 11 = .ok (.ldc_w 266, 3) := by decide +kernel
theorem dJ6_bitCount_0f7a4_14 : decode cJ6_bitCount_0f7a4 14 = .ok (.iand, 1) := by decide +kernel
theorem dJ6_bitCount_0f7a4_15 : decode cJ6_bitCount_0f7a4 15 = .ok (.iload_n 0, 1) := by decide +kernel
theorem dJ6_bitCount_0f7a4_16 : decode cJ6_bitCount_0f7a4 16 = .ok (.iconst 2, 1) := by decide +kernel
theorem dJ6_bitCount_0f7a4_17 : decode cJ6_bitCount_0f7a4 17 = .ok (.iushr, 1) := by decide +kernel
theorem dJ6_bitCount_0f7a4_18 : decode cJ6_bitCount_0f7a4 18 = .ok (.ldc_w 266, 3) := by decide +kernel
theorem dJ6_bitCount_0f7a4_21 : decode cJ6_bitCount_0f7a4 21 = .ok (.iand, 1) := by decide +kernel
theorem dJ6_bitCount_0f7a4_22 : decode cJ6_bitCount_0f7a4 22 = .ok (.iadd, 1) := by decide +kernel
theorem dJ6_bitCount_0f7a4_23 : decode cJ6_bitCount_0f7a4 23 = .ok (.istore_n 0, 1) := by decide +kernel
theorem dJ6_bitCount_0f7a4_24 : decode cJ6_bitCount_0f7a4 24 = .ok (.iload_n 0, 1) := by decide +kernel
theorem dJ6_bitCount_0f7a4_25 : decode cJ6_bitCount_0f7a4 25 = .ok (.iload_n 0, 1) := by decide +kernel
theorem dJ6_bitCount_0f7a4_26 : decode cJ6_bitCount_0f7a4 26 = .ok (.iconst 4, 1) := by decide +kernel
theorem dJ6_bitCount_0f7a4_27 : decode cJ6_bitCount_0f7a4 27 = .ok (.iushr, 1) := by decide +kernel
theorem dJ6_bitCount_0f7a4_28 : decode cJ6_bitCount_0f7a4 28 = .ok (.iadd, 1) := by decide +kernel
theorem dJ6_bitCount_0f7a4_29 : decode cJ6_bitCount_0f7a4 29 = .ok (.ldc_w 267, 3) := by decide +kernel
theorem dJ6_bitCount_0f7a4_32 : decode cJ6_bitCount_0f7a4 32 = .ok (.iand, 1) := by decide +kernel
theorem dJ6_bitCount_0f7a4_33 : decode cJ6_bitCount_0f7a4 33 = .ok (.istore_n 0, 1) := by decide +kernel
theorem dJ6_bitCount_0f7a4_34 : decode cJ6_bitCount_0f7a4 34 = .ok (.iload_n 0, 1) := by decide +kernel
theorem dJ6_bitCount_0f7a4_35 : decode cJ6_bitCount_0f7a4 35 = .ok (.iload_n 0, 1) := by decide +kernel
theorem dJ6_bitCount_0f7a4_36 : decode cJ6_bitCount_0f7a4 36 = .ok (.bipush 8, 2) := by decide +kernel
theorem dJ6_bitCount_0f7a4_38 : decode cJ6_bitCount_0f7a4 38 = .ok (.iushr, 1) := by decide +kernel
theorem dJ6_bitCount_0f7a4_39 : decode cJ6_bitCount_0f7a4 39 = .ok (.iadd, 1) := by decide +kernel
theorem dJ6_bitCount_0f7a4_40 : decode cJ6_bitCount_0f7a4 40 = .ok (.istore_n 0, 1) := by decide +kernel
theorem dJ6_bitCount_0f7a4_41 : decode cJ6_bitCount_0f7a4 41 = .ok (.iload_n 0, 1) := by decide +kernel
theorem dJ6_bitCount_0f7a4_42 : decode cJ6_bitCount_0f7a4 42 = .ok (.iload_n 0, 1) := by decide +kernel
theorem dJ6_bitCount_0f7a4_43 : decode cJ6_bitCount_0f7a4 43 = .ok (.bipush 16, 2) := by decide +kernel
theorem dJ6_bitCount_0f7a4_45 : decode cJ6_bitCount_0f7a4 45 = .ok (.iushr, 1) := by decide +kernel
theorem dJ6_bitCount_0f7a4_46 : decode cJ6_bitCount_0f7a4 46 = .ok (.iadd, 1) := by decide +kernel
theorem dJ6_bitCount_0f7a4_47 : decode cJ6_bitCount_0f7a4 47 = .ok (.istore_n 0, 1) := by decide +kernel
theorem dJ6_bitCount_0f7a4_48 : decode cJ6_bitCount_0f7a4 48 = .ok (.iload_n 0, 1) := by decide +kernel
theorem dJ6_bitCount_0f7a4_49 : decode cJ6_bitCount_0f7a4 49 = .ok (.bipush 63, 2) := by decide +kernel
theorem dJ6_bitCount_0f7a4_51 : decode cJ6_bitCount_0f7a4 51 = .ok (.iand, 1) := by decide +kernel
theorem dJ6_bitCount_0f7a4_52 : decode cJ6_bitCount_0f7a4 52 = .ok (.ireturn, 1) := by decide +kernel
theorem dJ7_fill_d0a16_0 : decode cJ7_fill_d0a16 0 = .ok (.iconst 0, 1) := by decide +kernel
theorem dJ7_fill_d0a16_1 : decode cJ7_fill_d0a16 1 = .ok (.istore_n 3, 1) := by decide +kernel
theorem dJ7_fill_d0a16_2 : decode cJ7_fill_d0a16 2 = .ok (.aload_n 0, 1) := by decide +kernel
theorem dJ7_fill_d0a16_3 : decode cJ7_fill_d0a16 3 = .ok (.arraylength, 1) := by decide +kernel
theorem dJ7_fill_d0a16_4 : decode cJ7_fill_d0a16 4 = .ok (.istore 4, 2) := by decide +kernel
theorem dJ7_fill_d0a16_6 : decode cJ7_fill_d0a16 6 = .ok (.iload_n 3, 1) := by decide +kernel
theorem dJ7_fill_d0a16_7 : decode cJ7_fill_d0a16 7 = .ok (.iload 4, 2) := by decide +kernel
theorem dJ7_fill_d0a16_9 : decode cJ7_fill_d0a16 9 = .ok (.if_icmp .ge 13, 3) := by decide +kernel
theorem dJ7_fill_d0a16_12 : decode cJ7_fill_d0a16 12 = .ok (.aload_n 0, 1) := by decide +kernel
theorem dJ7_fill_d0a16_13 : decode cJ7_fill_d0a16 13 = .ok (.iload_n 3, 1) := by decide +kernel
theorem dJ7_fill_d0a16_14 : decode cJ7_fill_d0a16 14 = .ok (.lload_n 1, 1) := by decide +kernel
theorem dJ7_fill_d0a16_15 : decode cJ7_fill_d0a16 15 = .ok (.lastore, 1) := by decide +kernel
theorem dJ7_fill_d0a16_16 : decode cJ7_fill_d0a16 16 = .ok (.iinc 3 1, 3) := by decide +kernel
theorem dJ7_fill_d0a16_19 : decode cJ7_fill_d0a16 19 = .ok (.goto (-13), 3) := by decide +kernel
theorem dJ7_fill_d0a16_22 : decode cJ7_fill_d0a16 22 = .ok (.return_, 1) := by decide +kernel
theorem dJ7_fill_53178_0 : decode cJ7_fill_53178 0 = .ok (.iconst 0, 1) := by decide +kernel
theorem dJ7_fill_53178_1 : decode cJ7_fill_53178 1 = .ok (.istore_n 2, 1) := by decide +kernel
theorem dJ7_fill_53178_2 : decode cJ7_fill_53178 2 = .ok (.aload_n 0, 1) := by decide +kernel
theorem dJ7_fill_53178_3 : decode cJ7_fill_53178 3 = .ok (.arraylength, 1) := by decide +kernel
theorem dJ7_fill_53178_4 : decode cJ7_fill_53178 4 = .ok (.istore_n 3, 1) := by decide +kernel
theorem dJ7_fill_53178_5 : decode cJ7_fill_53178 5 = .ok (.iload_n 2, 1) := by decide +kernel
theorem dJ7_fill_53178_6 : decode cJ7_fill_53178 6 = .ok (.iload_n 3, 1) := by decide +kernel
theorem dJ7_fill_53178_7 : decode cJ7_fill_53178 7 = .ok (.if_icmp .ge 13, 3) := by decide +kernel
theorem dJ7_fill_53178_10 : decode cJ7_fill_53178 10 = .ok (.aload_n 0, 1) := by decide +kernel
theorem dJ7_fill_53178_11 : decode cJ7_fill_53178 11 = .ok (.iload_n 2, 1) := by decide +kernel
theorem dJ7_fill_53178_12 : decode cJ7_fill_53178 12 = .ok (.iload_n 1, 1) := by decide +kernel
theorem dJ7_fill_53178_13 : decode cJ7_fill_53178 13 = .ok (.iastore, 1) := by decide +kernel
theorem dJ7_fill_53178_14 : decode cJ7_fill_53178 14 = .ok (.iinc 2 1, 3) := by decide +kernel
theorem dJ7_fill_53178_17 : decode cJ7_fill_53178 17 = .ok (.goto (-12), 3) := by decide +kernel
theorem dJ7_fill_53178_20 : decode cJ7_fill_53178 20 = .ok (.return_, 1) := by decide +kernel
theorem dL_law_0 : decode cL_law 0 = .ok (.new 7, 3) := by decide +kernel
theorem dL_law_3 : decode cL_law 3 = .ok (.dup, 1) := by decide +kernel
theorem dL_law_4 : decode cL_law 4 = .ok (.invokespecial 9, 3) := by decide +kernel
theorem dL_law_7 : decode cL_law 7 = .ok (.astore_n 1, 1) := by decide +kernel
theorem dL_law_8 : decode cL_law 8 = .ok (.new 10, 3) := by decide +kernel
theorem dL_law_11 : decode cL_law 11 = .ok (.dup, 1) := by decide +kernel
theorem dL_law_12 : decode cL_law 12 = .ok (.invokespecial 12, 3) := by decide +kernel
theorem dL_law_15 : decode cL_law 15 = .ok (.astore_n 2, 1) := by decide +kernel
theorem dL_law_16 : decode cL_law 16 = .ok (.iconst 0, 1) := by decide +kernel
theorem dL_law_17 : decode cL_law 17 = .ok (.istore_n 3, 1) := by decide +kernel
theorem dL_law_18 : decode cL_law 18 = .ok (.iload_n 3, 1) := by decide +kernel
theorem dL_law_19 : decode cL_law 19 = .ok (.aload_n 0, 1) := by decide +kernel
theorem dL_law_20 : decode cL_law 20 = .ok (.arraylength, 1) := by decide +kernel
theorem dL_law_21 : decode cL_law 21 = .ok (.bipush 6, 2) := by decide +kernel
theorem dL_law_23 : decode cL_law 23 = .ok (.isub, 1) := by decide +kernel
theorem dL_law_24 : decode cL_law 24 = .ok (.if_icmp .gt 1120, 3) := by decide +kernel
theorem dL_law_27 : decode cL_law 27 = .ok (.aload_n 0, 1) := by decide +kernel
theorem dL_law_28 : decode cL_law 28 = .ok (.iload_n 3, 1) := by decide +kernel
theorem dL_law_29 : decode cL_law 29 = .ok (.iaload, 1) := by decide +kernel
theorem dL_law_30 : decode cL_law 30 = .ok (.bipush 63, 2) := by decide +kernel
theorem dL_law_32 : decode cL_law 32 = .ok (.iand, 1) := by decide +kernel
theorem dL_law_33 : decode cL_law 33 = .ok (.tableswitch 1105 0 33 #[151, 184, 227, 260, 283, 346, 379, 412, 425, 448, 471, 494, 517, 560, 593, 636, 659, 682, 705, 719, 742, 765, 788, 821, 864, 887, 920, 953, 986, 1019, 1032, 1055, 1068, 1091], 151) := by decide +kernel
theorem dL_law_184 : decode cL_law 184 = .ok (.aload_n 1, 1) := by decide +kernel
theorem dL_law_185 : decode cL_law 185 = .ok (.aload_n 0, 1) := by decide +kernel
theorem dL_law_186 : decode cL_law 186 = .ok (.iload_n 3, 1) := by decide +kernel
theorem dL_law_187 : decode cL_law 187 = .ok (.iconst 1, 1) := by decide +kernel
theorem dL_law_188 : decode cL_law 188 = .ok (.iadd, 1) := by decide +kernel
theorem dL_law_189 : decode cL_law 189 = .ok (.iaload, 1) := by decide +kernel
theorem dL_law_190 : decode cL_law 190 = .ok (.aload_n 0, 1) := by decide +kernel
theorem dL_law_191 : decode cL_law 191 = .ok (.iload_n 3, 1) := by decide +kernel
theorem dL_law_192 : decode cL_law 192 = .ok (.iconst 2, 1) := by decide +kernel
theorem dL_law_193 : decode cL_law 193 = .ok (.iadd, 1) := by decide +kernel
theorem dL_law_194 : decode cL_law 194 = .ok (.iaload, 1) := by decide +kernel
theorem dL_law_195 : decode cL_law 195 = .ok (.invokevirtual 13, 3) := by decide +kernel
theorem dL_law_198 : decode cL_law 198 = .ok (.aload_n 2, 1) := by decide +kernel
theorem dL_law_199 : decode cL_law 199 = .ok (.aload_n 0, 1) := by decide +kernel
theorem dL_law_200 : decode cL_law 200 = .ok (.iload_n 3, 1) := by decide +kernel
theorem dL_law_201 : decode cL_law 201 = .ok (.iconst 1, 1) := by decide +kernel
theorem dL_law_202 : decode cL_law 202 = .ok (.iadd, 1) := by decide +kernel
theorem dL_law_203 : decode cL_law 203 = .ok (.iaload, 1) := by decide +kernel
theorem dL_law_204 : decode cL_law 204 = .ok (.aload_n 0, 1) := by decide +kernel
theorem dL_law_205 : decode cL_law 205 = .ok (.iload_n 3, 1) := by decide +kernel
theorem dL_law_206 : decode cL_law 206 = .ok (.iconst 2, 1) := by decide +kernel
theorem dL_law_207 : decode cL_law 207 = .ok (.iadd, 1) := by decide +kernel
theorem dL_law_208 : decode cL_law 208 = .ok (.iaload, 1) := by decide +kernel
theorem dL_law_209 : decode cL_law 209 = .ok (.invokevirtual 17, 3) := by decide +kernel
theorem dL_law_212 : decode cL_law 212 = .ok (.if_icmp .eq 926, 3) := by decide +kernel
theorem dL_law_215 : decode cL_law 215 = .ok (.iconst 0, 1) := by decide +kernel
theorem dL_law_216 : decode cL_law 216 = .ok (.ireturn, 1) := by decide +kernel
theorem dL_law_217 : decode cL_law 217 = .ok (.aload_n 1, 1) := by decide +kernel
theorem dL_law_218 : decode cL_law 218 = .ok (.aload_n 0, 1) := by decide +kernel
theorem dL_law_219 : decode cL_law 219 = .ok (.iload_n 3, 1) := by decide +kernel
theorem dL_law_220 : decode cL_law 220 = .ok (.iconst 1, 1) := by decide +kernel
theorem dL_law_221 : decode cL_law 221 = .ok (.iadd, 1) := by decide +kernel
theorem dL_law_222 : decode cL_law 222 = .ok (.iaload, 1) := by decide +kernel
theorem dL_law_223 : decode cL_law 223 = .ok (.aload_n 0, 1) := by decide +kernel
theorem dL_law_224 : decode cL_law 224 = .ok (.iload_n 3, 1) := by decide +kernel
theorem dL_law_225 : decode cL_law 225 = .ok (.iconst 2, 1) := by decide +kernel
theorem dL_law_226 : decode cL_law 226 = .ok (.iadd, 1) := by decide +kernel
theorem dL_law_227 : decode cL_law 227 = .ok (.iaload, 1) := by decide +kernel
theorem dL_law_228 : decode cL_law 228 = .ok (.aload_n 0, 1) := by decide +kernel
theorem dL_law_229 : decode cL_law 229 = .ok (.iload_n 3, 1) := by decide +kernel
theorem dL_law_230 : decode cL_law 230 = .ok (.iconst 3, 1) := by decide +kernel
theorem dL_law_231 : decode cL_law 231 = .ok (.iadd, 1) := by decide +kernel
theorem dL_law_232 : decode cL_law 232 = .ok (.iaload, 1) := by decide +kernel
theorem dL_law_233 : decode cL_law 233 = .ok (.invokevirtual 18, 3) := by decide +kernel
theorem dL_law_236 : decode cL_law 236 = .ok (.aload_n 2, 1) := by decide +kernel
theorem dL_law_237 : decode cL_law 237 = .ok (.aload_n 0, 1) := by decide +kernel
theorem dL_law_238 : decode cL_law 238 = .ok (.iload_n 3, 1) := by decide +kernel
theorem dL_law_239 : decode cL_law 239 = .ok (.iconst 1, 1) := by decide +kernel
theorem dL_law_240 : decode cL_law 240 = .ok (.iadd, 1) := by decide +kernel
theorem dL_law_241 : decode cL_law 241 = .ok (.iaload, 1) := by decide +kernel
theorem dL_law_242 : decode cL_law 242 = .ok (.aload_n 0, 1) := by decide +kernel
theorem dL_law_243 : decode cL_law 243 = .ok (.iload_n 3, 1) := by decide +kernel
theorem dL_law_244 : decode cL_law 244 = .ok (.iconst 2, 1) := by decide +kernel
theorem dL_law_245 : decode cL_law 245 = .ok (.iadd, 1) := by decide +kernel
theorem dL_law_246 : decode cL_law 246 = .ok (.iaload, 1) := by decide +kernel
theorem dL_law_247 : decode cL_law 247 = .ok (.aload_n 0, 1) := by decide +kernel
theorem dL_law_248 : decode cL_law 248 = .ok (.iload_n 3, 1) := by decide +kernel
theorem dL_law_249 : decode cL_law 249 = .ok (.iconst 3, 1) := by decide +kernel
theorem dL_law_250 : decode cL_law 250 = .ok (.iadd, 1) := by decide +kernel
theorem dL_law_251 : decode cL_law 251 = .ok (.iaload, 1) := by decide +kernel
theorem dL_law_252 : decode cL_law 252 = .ok (.invokevirtual 22, 3) := by decide +kernel
theorem dL_law_255 : decode cL_law 255 = .ok (.if_icmp .eq 883, 3) := by decide +kernel
theorem dL_law_258 : decode cL_law 258 = .ok (.iconst 0, 1) := by decide +kernel
theorem dL_law_259 : decode cL_law 259 = .ok (.ireturn, 1) := by decide +kernel
theorem dL_law_260 : decode cL_law 260 = .ok (.aload_n 1, 1) := by decide +kernel
theorem dL_law_261 : decode cL_law 261 = .ok (.aload_n 0, 1) := by decide +kernel
theorem dL_law_262 : decode cL_law 262 = .ok (.iload_n 3, 1) := by decide +kernel
theorem dL_law_263 : decode cL_law 263 = .ok (.iconst 1, 1) := by decide +kernel
theorem dL_law_264 : decode cL_law 264 = .ok (.iadd, 1) := by decide +kernel
theorem dL_law_265 : decode cL_law 265 = .ok (.iaload, 1) := by decide +kernel
theorem dL_law_266 : decode cL_law 266 = .ok (.aload_n 0, 1) := by decide +kernel
theorem dL_law_267 : decode cL_law 267 = .ok (.iload_n 3, 1) := by decide +kernel
theorem dL_law_268 : decode cL_law 268 = .ok (.iconst 2, 1) := by decide +kernel
theorem dL_law_269 : decode cL_law 269 = .ok (.iadd, 1) := by decide +kernel
theorem dL_law_270 : decode cL_law 270 = .ok (.iaload, 1) := by decide +kernel
theorem dL_law_271 : decode cL_law 271 = .ok (.invokevirtual 23, 3) := by decide +kernel
theorem dL_law_274 : decode cL_law 274 = .ok (.aload_n 2, 1) := by decide +kernel
theorem dL_law_275 : decode cL_law 275 = .ok (.aload_n 0, 1) := by decide +kernel
theorem dL_law_276 : decode cL_law 276 = .ok (.iload_n 3, 1) := by decide +kernel
theorem dL_law_277 : decode cL_law 277 = .ok (.iconst 1, 1) := by decide +kernel
theorem dL_law_278 : decode cL_law 278 = .ok (.iadd, 1) := by decide +kernel
theorem dL_law_279 : decode cL_law 279 = .ok (.iaload, 1) := by decide +kernel
theorem dL_law_280 : decode cL_law 280 = .ok (.aload_n 0, 1) := by decide +kernel
theorem dL_law_281 : decode cL_law 281 = .ok (.iload_n 3, 1) := by decide +kernel
theorem dL_law_282 : decode cL_law 282 = .ok (.iconst 2, 1) := by decide +kernel
theorem dL_law_283 : decode cL_law 283 = .ok (.iadd, 1) := by decide +kernel
theorem dL_law_284 : decode cL_law 284 = .ok (.iaload, 1) := by decide +kernel
theorem dL_law_285 : decode cL_law 285 = .ok (.invokevirtual 26, 3) := by decide +kernel
theorem dL_law_288 : decode cL_law 288 = .ok (.if_icmp .eq 850, 3) := by decide +kernel
theorem dL_law_291 : decode cL_law 291 = .ok (.iconst 0, 1) := by decide +kernel
theorem dL_law_292 : decode cL_law 292 = .ok (.ireturn, 1) := by decide +kernel
theorem dL_law_293 : decode cL_law 293 = .ok (.aload_n 1, 1) := by decide +kernel
theorem dL_law_294 : decode cL_law 294 = .ok (.aload_n 0, 1) := by decide +kernel
theorem dL_law_295 : decode cL_law 295 = .ok (.iload_n 3, 1) := by decide +kernel
theorem dL_law_296 : decode cL_law 296 = .ok (.iconst 1, 1) := by decide +kernel
theorem dL_law_297 : decode cL_law 297 = .ok (.iadd, 1) := by decide +kernel
theorem dL_law_298 : decode cL_law 298 = .ok (.iaload, 1) := by decide +kernel
theorem dL_law_299 : decode cL_law 299 = .ok (.invokevirtual 27, 3) := by decide +kernel
theorem dL_law_302 : decode cL_law 302 = .ok (.aload_n 2, 1) := by decide +kernel
theorem dL_law_303 : decode cL_law 303 = .ok (.aload_n 0, 1) := by decide +kernel
theorem dL_law_304 : decode cL_law 304 = .ok (.iload_n 3, 1) := by decide +kernel
theorem dL_law_305 : decode cL_law 305 = .ok (.iconst 1, 1) := by decide +kernel
theorem dL_law_306 : decode cL_law 306 = .ok (.iadd, 1) := by decide +kernel
theorem dL_law_307 : decode cL_law 307 = .ok (.iaload, 1) := by decide +kernel
theorem dL_law_308 : decode cL_law 308 = .ok (.invokevirtual 31, 3) := by decide +kernel
theorem dL_law_311 : decode cL_law 311 = .ok (.if_icmp .eq 827, 3) := by decide +kernel
theorem dL_law_314 : decode cL_law 314 = .ok (.iconst 0, 1) := by decide +kernel
theorem dL_law_315 : decode cL_law 315 = .ok (.ireturn, 1) := by decide +kernel
theorem dL_law_316 : decode cL_law 316 = .ok (.aload_n 1, 1) := by decide +kernel
theorem dL_law_317 : decode cL_law 317 = .ok (.aload_n 0, 1) := by decide +kernel
theorem dL_law_318 : decode cL_law 318 = .ok (.iload_n 3, 1) := by decide +kernel
theorem dL_law_319 : decode cL_law 319 = .ok (.iconst 1, 1) := by decide +kernel
theorem dL_law_320 : decode cL_law 320 = .ok (.iadd, 1) := by decide +kernel
theorem dL_law_321 : decode cL_law 321 = .ok (.iaload, 1) := by decide +kernel
theorem dL_law_322 : decode cL_law 322 = .ok (.aload_n 0, 1) := by decide +kernel
theorem dL_law_323 : decode cL_law 323 = .ok (.iload_n 3, 1) := by decide +kernel
theorem dL_law_324 : decode cL_law 324 = .ok (.iconst 2, 1) := by decide +kernel
theorem dL_law_325 : decode cL_law 325 = .ok (.iadd, 1) := by decide +kernel
theorem dL_law_326 : decode cL_law 326 = .ok (.iaload, 1) := by decide +kernel
theorem dL_law_327 : decode cL_law 327 = .ok (.aload_n 0, 1) := by decide +kernel
theorem dL_law_328 : decode cL_law 328 = .ok (.iload_n 3, 1) := by decide +kernel
theorem dL_law_329 : decode cL_law 329 = .ok (.iconst 3, 1) := by decide +kernel
theorem dL_law_330 : decode cL_law 330 = .ok (.iadd, 1) := by decide +kernel
theorem dL_law_331 : decode cL_law 331 = .ok (.iaload, 1) := by decide +kernel
theorem dL_law_332 : decode cL_law 332 = .ok (.aload_n 0, 1) := by decide +kernel
theorem dL_law_333 : decode cL_law 333 = .ok (.iload_n 3, 1) := by decide +kernel
theorem dL_law_334 : decode cL_law 334 = .ok (.iconst 4, 1) := by decide +kernel
theorem dL_law_335 : decode cL_law 335 = .ok (.iadd, 1) := by decide +kernel
theorem dL_law_336 : decode cL_law 336 = .ok (.iaload, 1) := by decide +kernel
theorem dL_law_337 : decode cL_law 337 = .ok (.aload_n 0, 1) := by decide +kernel
theorem dL_law_338 : decode cL_law 338 = .ok (.iload_n 3, 1) := by decide +kernel
theorem dL_law_339 : decode cL_law 339 = .ok (.iconst 5, 1) := by decide +kernel
theorem dL_law_340 : decode cL_law 340 = .ok (.iadd, 1) := by decide +kernel
theorem dL_law_341 : decode cL_law 341 = .ok (.iaload, 1) := by decide +kernel
theorem dL_law_342 : decode cL_law 342 = .ok (.invokevirtual 32, 3) := by decide +kernel
theorem dL_law_345 : decode cL_law 345 = .ok (.aload_n 2, 1) := by decide +kernel
theorem dL_law_346 : decode cL_law 346 = .ok (.aload_n 0, 1) := by decide +kernel
theorem dL_law_347 : decode cL_law 347 = .ok (.iload_n 3, 1) := by decide +kernel
theorem dL_law_348 : decode cL_law 348 = .ok (.iconst 1, 1) := by decide +kernel
theorem dL_law_349 : decode cL_law 349 = .ok (.iadd, 1) := by decide +kernel
theorem dL_law_350 : decode cL_law 350 = .ok (.iaload, 1) := by decide +kernel
theorem dL_law_351 : decode cL_law 351 = .ok (.aload_n 0, 1) := by decide +kernel
theorem dL_law_352 : decode cL_law 352 = .ok (.iload_n 3, 1) := by decide +kernel
theorem dL_law_353 : decode cL_law 353 = .ok (.iconst 2, 1) := by decide +kernel
theorem dL_law_354 : decode cL_law 354 = .ok (.iadd, 1) := by decide +kernel
theorem dL_law_355 : decode cL_law 355 = .ok (.iaload, 1) := by decide +kernel
theorem dL_law_356 : decode cL_law 356 = .ok (.aload_n 0, 1) := by decide +kernel
theorem dL_law_357 : decode cL_law 357 = .ok (.iload_n 3, 1) := by decide +kernel
theorem dL_law_358 : decode cL_law 358 = .ok (.iconst 3, 1) := by decide +kernel
theorem dL_law_359 : decode cL_law 359 = .ok (.iadd, 1) := by decide +kernel
theorem dL_law_360 : decode cL_law 360 = .ok (.iaload, 1) := by decide +kernel
theorem dL_law_361 : decode cL_law 361 = .ok (.aload_n 0, 1) := by decide +kernel
theorem dL_law_362 : decode cL_law 362 = .ok (.iload_n 3, 1) := by decide +kernel
theorem dL_law_363 : decode cL_law 363 = .ok (.iconst 4, 1) := by decide +kernel
theorem dL_law_364 : decode cL_law 364 = .ok (.iadd, 1) := by decide +kernel
theorem dL_law_365 : decode cL_law 365 = .ok (.iaload, 1) := by decide +kernel
theorem dL_law_366 : decode cL_law 366 = .ok (.aload_n 0, 1) := by decide +kernel
theorem dL_law_367 : decode cL_law 367 = .ok (.iload_n 3, 1) := by decide +kernel
theorem dL_law_368 : decode cL_law 368 = .ok (.iconst 5, 1) := by decide +kernel
theorem dL_law_369 : decode cL_law 369 = .ok (.iadd, 1) := by decide +kernel
theorem dL_law_370 : decode cL_law 370 = .ok (.iaload, 1) := by decide +kernel
theorem dL_law_371 : decode cL_law 371 = .ok (.invokevirtual 36, 3) := by decide +kernel
theorem dL_law_374 : decode cL_law 374 = .ok (.if_icmp .eq 764, 3) := by decide +kernel
theorem dL_law_377 : decode cL_law 377 = .ok (.iconst 0, 1) := by decide +kernel
theorem dL_law_378 : decode cL_law 378 = .ok (.ireturn, 1) := by decide +kernel
theorem dL_law_379 : decode cL_law 379 = .ok (.aload_n 1, 1) := by decide +kernel
theorem dL_law_380 : decode cL_law 380 = .ok (.aload_n 0, 1) := by decide +kernel
theorem dL_law_381 : decode cL_law 381 = .ok (.iload_n 3, 1) := by decide +kernel
theorem dL_law_382 : decode cL_law 382 = .ok (.iconst 1, 1) := by decide +kernel
theorem dL_law_383 : decode cL_law 383 = .ok (.iadd, 1) := by decide +kernel
theorem dL_law_384 : decode cL_law 384 = .ok (.iaload, 1) := by decide +kernel
theorem dL_law_385 : decode cL_law 385 = .ok (.aload_n 0, 1) := by decide +kernel
theorem dL_law_386 : decode cL_law 386 = .ok (.iload_n 3, 1) := by decide +kernel
theorem dL_law_387 : decode cL_law 387 = .ok (.iconst 2, 1) := by decide +kernel
theorem dL_law_388 : decode cL_law 388 = .ok (.iadd, 1) := by decide +kernel
theorem dL_law_389 : decode cL_law 389 = .ok (.iaload, 1) := by decide +kernel
theorem dL_law_390 : decode cL_law 390 = .ok (.invokevirtual 37, 3) := by decide +kernel
theorem dL_law_393 : decode cL_law 393 = .ok (.aload_n 2, 1) := by decide +kernel
theorem dL_law_394 : decode cL_law 394 = .ok (.aload_n 0, 1) := by decide +kernel
theorem dL_law_395 : decode cL_law 395 = .ok (.iload_n 3, 1) := by decide +kernel
theorem dL_law_396 : decode cL_law 396 = .ok (.iconst 1, 1) := by decide +kernel
theorem dL_law_397 : decode cL_law 397 = .ok (.iadd, 1) := by decide +kernel
theorem dL_law_398 : decode cL_law 398 = .ok (.iaload, 1) := by decide +kernel
theorem dL_law_399 : decode cL_law 399 = .ok (.aload_n 0, 1) := by decide +kernel
theorem dL_law_400 : decode cL_law 400 = .ok (.iload_n 3, 1) := by decide +kernel
theorem dL_law_401 : decode cL_law 401 = .ok (.iconst 2, 1) := by decide +kernel
theorem dL_law_402 : decode cL_law 402 = .ok (.iadd, 1) := by decide +kernel
theorem dL_law_403 : decode cL_law 403 = .ok (.iaload, 1) := by decide +kernel
theorem dL_law_404 : decode cL_law 404 = .ok (.invokevirtual 40, 3) := by decide +kernel
theorem dL_law_407 : decode cL_law 407 = .ok (.if_icmp .eq 731, 3) := by decide +kernel
theorem dL_law_410 : decode cL_law 410 = .ok (.iconst 0, 1) := by decide +kernel
theorem dL_law_411 : decode cL_law 411 = .ok (.ireturn, 1) := by decide +kernel
theorem dL_law_412 : decode cL_law 412 = .ok (.aload_n 1, 1) := by decide +kernel
theorem dL_law_413 : decode cL_law 413 = .ok (.aload_n 0, 1) := by decide +kernel
theorem dL_law_414 : decode cL_law 414 = .ok (.iload_n 3, 1) := by decide +kernel
theorem dL_law_415 : decode cL_law 415 = .ok (.iconst 1, 1) := by decide +kernel
theorem dL_law_416 : decode cL_law 416 = .ok (.iadd, 1) := by decide +kernel
theorem dL_law_417 : decode cL_law 417 = .ok (.iaload, 1) := by decide +kernel
theorem dL_law_418 : decode cL_law 418 = .ok (.aload_n 0, 1) := by decide +kernel
theorem dL_law_419 : decode cL_law 419 = .ok (.iload_n 3, 1) := by decide +kernel
theorem dL_law_420 : decode cL_law 420 = .ok (.iconst 2, 1) := by decide +kernel
theorem dL_law_421 : decode cL_law 421 = .ok (.iadd, 1) := by decide +kernel
theorem dL_law_422 : decode cL_law 422 = .ok (.iaload, 1) := by decide +kernel
theorem dL_law_423 : decode cL_law 423 = .ok (.invokevirtual 41, 3) := by decide +kernel
theorem dL_law_426 : decode cL_law 426 = .ok (.aload_n 2, 1) := by decide +kernel
theorem dL_law_427 : decode cL_law 427 = .ok (.aload_n 0, 1) := by decide +kernel
theorem dL_law_428 : decode cL_law 428 = .ok (.iload_n 3, 1) := by decide +kernel
theorem dL_law_429 : decode cL_law 429 = .ok (.iconst 1, 1) := by decide +kernel
theorem dL_law_430 : decode cL_law 430 = .ok (.iadd, 1) := by decide +kernel
theorem dL_law_431 : decode cL_law 431 = .ok (.iaload, 1) := by decide +kernel
theorem dL_law_432 : decode cL_law 432 = .ok (.aload_n 0, 1) := by decide +kernel
theorem dL_law_433 : decode cL_law 433 = .ok (.iload_n 3, 1) := by decide +kernel
theorem dL_law_434 : decode cL_law 434 = .ok (.iconst 2, 1) := by decide +kernel
theorem dL_law_435 : decode cL_law 435 = .ok (.iadd, 1) := by decide +kernel
theorem dL_law_436 : decode cL_law 436 = .ok (.iaload, 1) := by decide +kernel
theorem dL_law_437 : decode cL_law 437 = .ok (.invokevirtual 44, 3) := by decide +kernel
theorem dL_law_440 : decode cL_law 440 = .ok (.if_icmp .eq 698, 3) := by decide +kernel
theorem dL_law_443 : decode cL_law 443 = .ok (.iconst 0, 1) := by decide +kernel
theorem dL_law_444 : decode cL_law 444 = .ok (.ireturn, 1) := by decide +kernel
theorem dL_law_445 : decode cL_law 445 = .ok (.aload_n 1, 1) := by decide +kernel
theorem dL_law_446 : decode cL_law 446 = .ok (.invokevirtual 45, 3) := by decide +kernel
theorem dL_law_449 : decode cL_law 449 = .ok (.aload_n 2, 1) := by decide +kernel
theorem dL_law_450 : decode cL_law 450 = .ok (.invokevirtual 49, 3) := by decide +kernel
theorem dL_law_453 : decode cL_law 453 = .ok (.if_icmp .eq 685, 3) := by decide +kernel
theorem dL_law_456 : decode cL_law 456 = .ok (.iconst 0, 1) := by decide +kernel
theorem dL_law_457 : decode cL_law 457 = .ok (.ireturn, 1) := by decide +kernel
theorem dL_law_458 : decode cL_law 458 = .ok (.aload_n 1, 1) := by decide +kernel
theorem dL_law_459 : decode cL_law 459 = .ok (.aload_n 0, 1) := by decide +kernel
theorem dL_law_460 : decode cL_law 460 = .ok (.iload_n 3, 1) := by decide +kernel
theorem dL_law_461 : decode cL_law 461 = .ok (.iconst 1, 1) := by decide +kernel
theorem dL_law_462 : decode cL_law 462 = .ok (.iadd, 1) := by decide +kernel
theorem dL_law_463 : decode cL_law 463 = .ok (.iaload, 1) := by decide +kernel
theorem dL_law_464 : decode cL_law 464 = .ok (.invokevirtual 50, 3) := by decide +kernel
theorem dL_law_467 : decode cL_law 467 = .ok (.aload_n 2, 1) := by decide +kernel
theorem dL_law_468 : decode cL_law 468 = .ok (.aload_n 0, 1) := by decide +kernel
theorem dL_law_469 : decode cL_law 469 = .ok (.iload_n 3, 1) := by decide +kernel
theorem dL_law_470 : decode cL_law 470 = .ok (.iconst 1, 1) := by decide +kernel
theorem dL_law_471 : decode cL_law 471 = .ok (.iadd, 1) := by decide +kernel
theorem dL_law_472 : decode cL_law 472 = .ok (.iaload, 1) := by decide +kernel
theorem dL_law_473 : decode cL_law 473 = .ok (.invokevirtual 53, 3) := by decide +kernel
theorem dL_law_476 : decode cL_law 476 = .ok (.if_icmp .eq 662, 3) := by decide +kernel
theorem dL_law_479 : decode cL_law 479 = .ok (.iconst 0, 1) := by decide +kernel
theorem dL_law_480 : decode cL_law 480 = .ok (.ireturn, 1) := by decide +kernel
theorem dL_law_481 : decode cL_law 481 = .ok (.aload_n 1, 1) := by decide +kernel
theorem dL_law_482 : decode cL_law 482 = .ok (.aload_n 0, 1) := by decide +kernel
theorem dL_law_483 : decode cL_law 483 = .ok (.iload_n 3, 1) := by decide +kernel
theorem dL_law_484 : decode cL_law 484 = .ok (.iconst 1, 1) := by decide +kernel
theorem dL_law_485 : decode cL_law 485 = .ok (.iadd, 1) := by decide +kernel
theorem dL_law_486 : decode cL_law 486 = .ok (.iaload, 1) := by decide +kernel
theorem dL_law_487 : decode cL_law 487 = .ok (.invokevirtual 54, 3) := by decide +kernel
theorem dL_law_490 : decode cL_law 490 = .ok (.aload_n 2, 1) := by decide +kernel
theorem dL_law_491 : decode cL_law 491 = .ok (.aload_n 0, 1) := by decide +kernel
theorem dL_law_492 : decode cL_law 492 = .ok (.iload_n 3, 1) := by decide +kernel
theorem dL_law_493 : decode cL_law 493 = .ok (.iconst 1, 1) := by decide +kernel
theorem dL_law_494 : decode cL_law 494 = .ok (.iadd, 1) := by decide +kernel
theorem dL_law_495 : decode cL_law 495 = .ok (.iaload, 1) := by decide +kernel
theorem dL_law_496 : decode cL_law 496 = .ok (.invokevirtual 57, 3) := by decide +kernel
theorem dL_law_499 : decode cL_law 499 = .ok (.if_icmp .eq 639, 3) := by decide +kernel
theorem dL_law_502 : decode cL_law 502 = .ok (.iconst 0, 1) := by decide +kernel
theorem dL_law_503 : decode cL_law 503 = .ok (.ireturn, 1) := by decide +kernel
theorem dL_law_504 : decode cL_law 504 = .ok (.aload_n 1, 1) := by decide +kernel
theorem dL_law_505 : decode cL_law 505 = .ok (.aload_n 0, 1) := by decide +kernel
theorem dL_law_506 : decode cL_law 506 = .ok (.iload_n 3, 1) := by decide +kernel
theorem dL_law_507 : decode cL_law 507 = .ok (.iconst 1, 1) := by decide +kernel
theorem dL_law_508 : decode cL_law 508 = .ok (.iadd, 1) := by decide +kernel
theorem dL_law_509 : decode cL_law 509 = .ok (.iaload, 1) := by decide +kernel
theorem dL_law_510 : decode cL_law 510 = .ok (.invokevirtual 58, 3) := by decide +kernel
theorem dL_law_513 : decode cL_law 513 = .ok (.aload_n 2, 1) := by decide +kernel
theorem dL_law_514 : decode cL_law 514 = .ok (.aload_n 0, 1) := by decide +kernel
theorem dL_law_515 : decode cL_law 515 = .ok (.iload_n 3, 1) := by decide +kernel
theorem dL_law_516 : decode cL_law 516 = .ok (.iconst 1, 1) := by decide +kernel
theorem dL_law_517 : decode cL_law 517 = .ok (.iadd, 1) := by decide +kernel
theorem dL_law_518 : decode cL_law 518 = .ok (.iaload, 1) := by decide +kernel
theorem dL_law_519 : decode cL_law 519 = .ok (.invokevirtual 61, 3) := by decide +kernel
theorem dL_law_522 : decode cL_law 522 = .ok (.if_icmp .eq 616, 3) := by decide +kernel
theorem dL_law_525 : decode cL_law 525 = .ok (.iconst 0, 1) := by decide +kernel
theorem dL_law_526 : decode cL_law 526 = .ok (.ireturn, 1) := by decide +kernel
theorem dL_law_527 : decode cL_law 527 = .ok (.aload_n 1, 1) := by decide +kernel
theorem dL_law_528 : decode cL_law 528 = .ok (.aload_n 0, 1) := by decide +kernel
theorem dL_law_529 : decode cL_law 529 = .ok (.iload_n 3, 1) := by decide +kernel
theorem dL_law_530 : decode cL_law 530 = .ok (.iconst 1, 1) := by decide +kernel
theorem dL_law_531 : decode cL_law 531 = .ok (.iadd, 1) := by decide +kernel
theorem dL_law_532 : decode cL_law 532 = .ok (.iaload, 1) := by decide +kernel
theorem dL_law_533 : decode cL_law 533 = .ok (.invokevirtual 62, 3) := by decide +kernel
theorem dL_law_536 : decode cL_law 536 = .ok (.aload_n 2, 1) := by decide +kernel
theorem dL_law_537 : decode cL_law 537 = .ok (.aload_n 0, 1) := by decide +kernel
theorem dL_law_538 : decode cL_law 538 = .ok (.iload_n 3, 1) := by decide +kernel
theorem dL_law_539 : decode cL_law 539 = .ok (.iconst 1, 1) := by decide +kernel
theorem dL_law_540 : decode cL_law 540 = .ok (.iadd, 1) := by decide +kernel
theorem dL_law_541 : decode cL_law 541 = .ok (.iaload, 1) := by decide +kernel
theorem dL_law_542 : decode cL_law 542 = .ok (.invokevirtual 65, 3) := by decide +kernel
theorem dL_law_545 : decode cL_law 545 = .ok (.if_icmp .eq 593, 3) := by decide +kernel
theorem dL_law_548 : decode cL_law 548 = .ok (.iconst 0, 1) := by decide +kernel
theorem dL_law_549 : decode cL_law 549 = .ok (.ireturn, 1) := by decide +kernel
theorem dL_law_550 : decode cL_law 550 = .ok (.aload_n 1, 1) := by decide +kernel
theorem dL_law_551 : decode cL_law 551 = .ok (.aload_n 0, 1) := by decide +kernel
theorem dL_law_552 : decode cL_law 552 = .ok (.iload_n 3, 1) := by decide +kernel
theorem dL_law_553 : decode cL_law 553 = .ok (.iconst 1, 1) := by decide +kernel
theorem dL_law_554 : decode cL_law 554 = .ok (.iadd, 1) := by decide +kernel
theorem dL_law_555 : decode cL_law 555 = .ok (.iaload, 1) := by decide +kernel
theorem dL_law_556 : decode cL_law 556 = .ok (.aload_n 0, 1) := by decide +kernel
theorem dL_law_557 : decode cL_law 557 = .ok (.iload_n 3, 1) := by decide +kernel
theorem dL_law_558 : decode cL_law 558 = .ok (.iconst 2, 1) := by decide +kernel
theorem dL_law_559 : decode cL_law 559 = .ok (.iadd, 1) := by decide +kernel
theorem dL_law_560 : decode cL_law 560 = .ok (.iaload, 1) := by decide +kernel
theorem dL_law_561 : decode cL_law 561 = .ok (.aload_n 0, 1) := by decide +kernel
theorem dL_law_562 : decode cL_law 562 = .ok (.iload_n 3, 1) := by decide +kernel
theorem dL_law_563 : decode cL_law 563 = .ok (.iconst 3, 1) := by decide +kernel
theorem dL_law_564 : decode cL_law 564 = .ok (.iadd, 1) := by decide +kernel
theorem dL_law_565 : decode cL_law 565 = .ok (.iaload, 1) := by decide +kernel
theorem dL_law_566 : decode cL_law 566 = .ok (.invokevirtual 66, 3) := by decide +kernel
theorem dL_law_569 : decode cL_law 569 = .ok (.aload_n 2, 1) := by decide +kernel
theorem dL_law_570 : decode cL_law 570 = .ok (.aload_n 0, 1) := by decide +kernel
theorem dL_law_571 : decode cL_law 571 = .ok (.iload_n 3, 1) := by decide +kernel
theorem dL_law_572 : decode cL_law 572 = .ok (.iconst 1, 1) := by decide +kernel
theorem dL_law_573 : decode cL_law 573 = .ok (.iadd, 1) := by decide +kernel
theorem dL_law_574 : decode cL_law 574 = .ok (.iaload, 1) := by decide +kernel
theorem dL_law_575 : decode cL_law 575 = .ok (.aload_n 0, 1) := by decide +kernel
theorem dL_law_576 : decode cL_law 576 = .ok (.iload_n 3, 1) := by decide +kernel
theorem dL_law_577 : decode cL_law 577 = .ok (.iconst 2, 1) := by decide +kernel
theorem dL_law_578 : decode cL_law 578 = .ok (.iadd, 1) := by decide +kernel
theorem dL_law_579 : decode cL_law 579 = .ok (.iaload, 1) := by decide +kernel
theorem dL_law_580 : decode cL_law 580 = .ok (.aload_n 0, 1) := by decide +kernel
theorem dL_law_581 : decode cL_law 581 = .ok (.iload_n 3, 1) := by decide +kernel
theorem dL_law_582 : decode cL_law 582 = .ok (.iconst 3, 1) := by decide +kernel
theorem dL_law_583 : decode cL_law 583 = .ok (.iadd, 1) := by decide +kernel
theorem dL_law_584 : decode cL_law 584 = .ok (.iaload, 1) := by decide +kernel
theorem dL_law_585 : decode cL_law 585 = .ok (.invokevirtual 69, 3) := by decide +kernel
theorem dL_law_588 : decode cL_law 588 = .ok (.if_icmp .eq 550, 3) := by decide +kernel
theorem dL_law_591 : decode cL_law 591 = .ok (.iconst 0, 1) := by decide +kernel
theorem dL_law_592 : decode cL_law 592 = .ok (.ireturn, 1) := by decide +kernel
theorem dL_law_593 : decode cL_law 593 = .ok (.aload_n 1, 1) := by decide +kernel
theorem dL_law_594 : decode cL_law 594 = .ok (.aload_n 0, 1) := by decide +kernel
theorem dL_law_595 : decode cL_law 595 = .ok (.iload_n 3, 1) := by decide +kernel
theorem dL_law_596 : decode cL_law 596 = .ok (.iconst 1, 1) := by decide +kernel
theorem dL_law_597 : decode cL_law 597 = .ok (.iadd, 1) := by decide +kernel
theorem dL_law_598 : decode cL_law 598 = .ok (.iaload, 1) := by decide +kernel
theorem dL_law_599 : decode cL_law 599 = .ok (.aload_n 0, 1) := by decide +kernel
theorem dL_law_600 : decode cL_law 600 = .ok (.iload_n 3, 1) := by decide +kernel
theorem dL_law_601 : decode cL_law 601 = .ok (.iconst 2, 1) := by decide +kernel
theorem dL_law_602 : decode cL_law 602 = .ok (.iadd, 1) := by decide +kernel
theorem dL_law_603 : decode cL_law 603 = .ok (.iaload, 1) := by decide +kernel
theorem dL_law_604 : decode cL_law 604 = .ok (.invokevirtual 70, 3) := by decide +kernel
theorem dL_law_607 : decode cL_law 607 = .ok (.aload_n 2, 1) := by decide +kernel
theorem dL_law_608 : decode cL_law 608 = .ok (.aload_n 0, 1) := by decide +kernel
theorem dL_law_609 : decode cL_law 609 = .ok (.iload_n 3, 1) := by decide +kernel
theorem dL_law_610 : decode cL_law 610 = .ok (.iconst 1, 1) := by decide +kernel
theorem dL_law_611 : decode cL_law 611 = .ok (.iadd, 1) := by decide +kernel
theorem dL_law_612 : decode cL_law 612 = .ok (.iaload, 1) := by decide +kernel
theorem dL_law_613 : decode cL_law 613 = .ok (.aload_n 0, 1) := by decide +kernel
theorem dL_law_614 : decode cL_law 614 = .ok (.iload_n 3, 1) := by decide +kernel
theorem dL_law_615 : decode cL_law 615 = .ok (.iconst 2, 1) := by decide +kernel
theorem dL_law_616 : decode cL_law 616 = .ok (.iadd, 1) := by decide +kernel
theorem dL_law_617 : decode cL_law 617 = .ok (.iaload, 1) := by decide +kernel
theorem dL_law_618 : decode cL_law 618 = .ok (.invokevirtual 73, 3) := by decide +kernel
theorem dL_law_621 : decode cL_law 621 = .ok (.if_icmp .eq 517, 3) := by decide +kernel
theorem dL_law_624 : decode cL_law 624 = .ok (.iconst 0, 1) := by decide +kernel
theorem dL_law_625 : decode cL_law 625 = .ok (.ireturn, 1) := by decide +kernel
theorem dL_law_626 : decode cL_law 626 = .ok (.aload_n 1, 1) := by decide +kernel
theorem dL_law_627 : decode cL_law 627 = .ok (.aload_n 0, 1) := by decide +kernel
theorem dL_law_628 : decode cL_law 628 = .ok (.iload_n 3, 1) := by decide +kernel
theorem dL_law_629 : decode cL_law 629 = .ok (.iconst 1, 1) := by decide +kernel
theorem dL_law_630 : decode cL_law 630 = .ok (.iadd, 1) := by decide +kernel
theorem dL_law_631 : decode cL_law 631 = .ok (.iaload, 1) := by decide +kernel
theorem dL_law_632 : decode cL_law 632 = .ok (.aload_n 0, 1) := by decide +kernel
theorem dL_law_633 : decode cL_law 633 = .ok (.iload_n 3, 1) := by decide +kernel
theorem dL_law_634 : decode cL_law 634 = .ok (.iconst 2, 1) := by decide +kernel
theorem dL_law_635 : decode cL_law 635 = .ok (.iadd, 1) := by decide +kernel
theorem dL_law_636 : decode cL_law 636 = .ok (.iaload, 1) := by decide +kernel
theorem dL_law_637 : decode cL_law 637 = .ok (.aload_n 0, 1) := by decide +kernel
theorem dL_law_638 : decode cL_law 638 = .ok (.iload_n 3, 1) := by decide +kernel
theorem dL_law_639 : decode cL_law 639 = .ok (.iconst 3, 1) := by decide +kernel
theorem dL_law_640 : decode cL_law 640 = .ok (.iadd, 1) := by decide +kernel
theorem dL_law_641 : decode cL_law 641 = .ok (.iaload, 1) := by decide +kernel
theorem dL_law_642 : decode cL_law 642 = .ok (.invokevirtual 74, 3) := by decide +kernel
theorem dL_law_645 : decode cL_law 645 = .ok (.aload_n 2, 1) := by decide +kernel
theorem dL_law_646 : decode cL_law 646 = .ok (.aload_n 0, 1) := by decide +kernel
theorem dL_law_647 : decode cL_law 647 = .ok (.iload_n 3, 1) := by decide +kernel
theorem dL_law_648 : decode cL_law 648 = .ok (.iconst 1, 1) := by decide +kernel
theorem dL_law_649 : decode cL_law 649 = .ok (.iadd, 1) := by decide +kernel
theorem dL_law_650 : decode cL_law 650 = .ok (.iaload, 1) := by decide +kernel
theorem dL_law_651 : decode cL_law 651 = .ok (.aload_n 0, 1) := by decide +kernel
theorem dL_law_652 : decode cL_law 652 = .ok (.iload_n 3, 1) := by decide +kernel
theorem dL_law_653 : decode cL_law 653 = .ok (.iconst 2, 1) := by decide +kernel
theorem dL_law_654 : decode cL_law 654 = .ok (.iadd, 1) := by decide +kernel
theorem dL_law_655 : decode cL_law 655 = .ok (.iaload, 1) := by decide +kernel
theorem dL_law_656 : decode cL_law 656 = .ok (.aload_n 0, 1) := by decide +kernel
theorem dL_law_657 : decode cL_law 657 = .ok (.iload_n 3, 1) := by decide +kernel
theorem dL_law_658 : decode cL_law 658 = .ok (.iconst 3, 1) := by decide +kernel
theorem dL_law_659 : decode cL_law 659 = .ok (.iadd, 1) := by decide +kernel
theorem dL_law_660 : decode cL_law 660 = .ok (.iaload, 1) := by decide +kernel
theorem dL_law_661 : decode cL_law 661 = .ok (.invokevirtual 77, 3) := by decide +kernel
theorem dL_law_664 : decode cL_law 664 = .ok (.if_icmp .eq 474, 3) := by decide +kernel
theorem dL_law_667 : decode cL_law 667 = .ok (.iconst 0, 1) := by decide +kernel
theorem dL_law_668 : decode cL_law 668 = .ok (.ireturn, 1) := by decide +kernel
theorem dL_law_669 : decode cL_law 669 = .ok (.aload_n 1, 1) := by decide +kernel
theorem dL_law_670 : decode cL_law 670 = .ok (.aload_n 0, 1) := by decide +kernel
theorem dL_law_671 : decode cL_law 671 = .ok (.iload_n 3, 1) := by decide +kernel
theorem dL_law_672 : decode cL_law 672 = .ok (.iconst 1, 1) := by decide +kernel
theorem dL_law_673 : decode cL_law 673 = .ok (.iadd, 1) := by decide +kernel
theorem dL_law_674 : decode cL_law 674 = .ok (.iaload, 1) := by decide +kernel
theorem dL_law_675 : decode cL_law 675 = .ok (.invokevirtual 78, 3) := by decide +kernel
theorem dL_law_678 : decode cL_law 678 = .ok (.aload_n 2, 1) := by decide +kernel
theorem dL_law_679 : decode cL_law 679 = .ok (.aload_n 0, 1) := by decide +kernel
theorem dL_law_680 : decode cL_law 680 = .ok (.iload_n 3, 1) := by decide +kernel
theorem dL_law_681 : decode cL_law 681 = .ok (.iconst 1, 1) := by decide +kernel
theorem dL_law_682 : decode cL_law 682 = .ok (.iadd, 1) := by decide +kernel
theorem dL_law_683 : decode cL_law 683 = .ok (.iaload, 1) := by decide +kernel
theorem dL_law_684 : decode cL_law 684 = .ok (.invokevirtual 81, 3) := by decide +kernel
theorem dL_law_687 : decode cL_law 687 = .ok (.if_icmp .eq 451, 3) := by decide +kernel
theorem dL_law_690 : decode cL_law 690 = .ok (.iconst 0, 1) := by decide +kernel
theorem dL_law_691 : decode cL_law 691 = .ok (.ireturn, 1) := by decide +kernel
theorem dL_law_692 : decode cL_law 692 = .ok (.aload_n 1, 1) := by decide +kernel
theorem dL_law_693 : decode cL_law 693 = .ok (.aload_n 0, 1) := by decide +kernel
theorem dL_law_694 : decode cL_law 694 = .ok (.iload_n 3, 1) := by decide +kernel
theorem dL_law_695 : decode cL_law 695 = .ok (.iconst 1, 1) := by decide +kernel
theorem dL_law_696 : decode cL_law 696 = .ok (.iadd, 1) := by decide +kernel
theorem dL_law_697 : decode cL_law 697 = .ok (.iaload, 1) := by decide +kernel
theorem dL_law_698 : decode cL_law 698 = .ok (.invokevirtual 82, 3) := by decide +kernel
theorem dL_law_701 : decode cL_law 701 = .ok (.aload_n 2, 1) := by decide +kernel
theorem dL_law_702 : decode cL_law 702 = .ok (.aload_n 0, 1) := by decide +kernel
theorem dL_law_703 : decode cL_law 703 = .ok (.iload_n 3, 1) := by decide +kernel
theorem dL_law_704 : decode cL_law 704 = .ok (.iconst 1, 1) := by decide +kernel
theorem dL_law_705 : decode cL_law 705 = .ok (.iadd, 1) := by decide +kernel
theorem dL_law_706 : decode cL_law 706 = .ok (.iaload, 1) := by decide +kernel
theorem dL_law_707 : decode cL_law 707 = .ok (.invokevirtual 85, 3) := by decide +kernel
theorem dL_law_710 : decode cL_law 710 = .ok (.if_icmp .eq 428, 3) := by decide +kernel
theorem dL_law_713 : decode cL_law 713 = .ok (.iconst 0, 1) := by decide +kernel
theorem dL_law_714 : decode cL_law 714 = .ok (.ireturn, 1) := by decide +kernel
theorem dL_law_715 : decode cL_law 715 = .ok (.aload_n 1, 1) := by decide +kernel
theorem dL_law_716 : decode cL_law 716 = .ok (.aload_n 0, 1) := by decide +kernel
theorem dL_law_717 : decode cL_law 717 = .ok (.iload_n 3, 1) := by decide +kernel
theorem dL_law_718 : decode cL_law 718 = .ok (.iconst 1, 1) := by decide +kernel
theorem dL_law_719 : decode cL_law 719 = .ok (.iadd, 1) := by decide +kernel
theorem dL_law_720 : decode cL_law 720 = .ok (.iaload, 1) := by decide +kernel
theorem dL_law_721 : decode cL_law 721 = .ok (.invokevirtual 86, 3) := by decide +kernel
theorem dL_law_724 : decode cL_law 724 = .ok (.aload_n 2, 1) := by decide +kernel
theorem dL_law_725 : decode cL_law 725 = .ok (.aload_n 0, 1) := by decide +kernel
theorem dL_law_726 : decode cL_law 726 = .ok (.iload_n 3, 1) := by decide +kernel
theorem dL_law_727 : decode cL_law 727 = .ok (.iconst 1, 1) := by decide +kernel
theorem dL_law_728 : decode cL_law 728 = .ok (.iadd, 1) := by decide +kernel
theorem dL_law_729 : decode cL_law 729 = .ok (.iaload, 1) := by decide +kernel
theorem dL_law_730 : decode cL_law 730 = .ok (.invokevirtual 89, 3) := by decide +kernel
theorem dL_law_733 : decode cL_law 733 = .ok (.if_icmp .eq 405, 3) := by decide +kernel
theorem dL_law_736 : decode cL_law 736 = .ok (.iconst 0, 1) := by decide +kernel
theorem dL_law_737 : decode cL_law 737 = .ok (.ireturn, 1) := by decide +kernel
theorem dL_law_738 : decode cL_law 738 = .ok (.aload_n 1, 1) := by decide +kernel
theorem dL_law_739 : decode cL_law 739 = .ok (.invokevirtual 90, 3) := by decide +kernel
theorem dL_law_742 : decode cL_law 742 = .ok (.aload_n 2, 1) := by decide +kernel
theorem dL_law_743 : decode cL_law 743 = .ok (.invokevirtual 94, 3) := by decide +kernel
theorem dL_law_746 : decode cL_law 746 = .ok (.lcmp, 1) := by decide +kernel
theorem dL_law_747 : decode cL_law 747 = .ok (.ifCond .eq 391, 3) := by decide +kernel
theorem dL_law_750 : decode cL_law 750 = .ok (.iconst 0, 1) := by decide +kernel
theorem dL_law_751 : decode cL_law 751 = .ok (.ireturn, 1) := by decide +kernel
theorem dL_law_752 : decode cL_law 752 = .ok (.aload_n 1, 1) := by decide +kernel
theorem dL_law_753 : decode cL_law 753 = .ok (.aload_n 0, 1) := by decide +kernel
theorem dL_law_754 : decode cL_law 754 = .ok (.iload_n 3, 1) := by decide +kernel
theorem dL_law_755 : decode cL_law 755 = .ok (.iconst 1, 1) := by decide +kernel
theorem dL_law_756 : decode cL_law 756 = .ok (.iadd, 1) := by decide +kernel
theorem dL_law_757 : decode cL_law 757 = .ok (.iaload, 1) := by decide +kernel
theorem dL_law_758 : decode cL_law 758 = .ok (.invokevirtual 95, 3) := by decide +kernel
theorem dL_law_761 : decode cL_law 761 = .ok (.aload_n 2, 1) := by decide +kernel
theorem dL_law_762 : decode cL_law 762 = .ok (.aload_n 0, 1) := by decide +kernel
theorem dL_law_763 : decode cL_law 763 = .ok (.iload_n 3, 1) := by decide +kernel
theorem dL_law_764 : decode cL_law 764 = .ok (.iconst 1, 1) := by decide +kernel
theorem dL_law_765 : decode cL_law 765 = .ok (.iadd, 1) := by decide +kernel
theorem dL_law_766 : decode cL_law 766 = .ok (.iaload, 1) := by decide +kernel
theorem dL_law_767 : decode cL_law 767 = .ok (.invokevirtual 98, 3) := by decide +kernel
theorem dL_law_770 : decode cL_law 770 = .ok (.if_icmp .eq 368, 3) := by decide +kernel
theorem dL_law_773 : decode cL_law 773 = .ok (.iconst 0, 1) := by decide +kernel
theorem dL_law_774 : decode cL_law 774 = .ok (.ireturn, 1) := by decide +kernel
theorem dL_law_775 : decode cL_law 775 = .ok (.aload_n 1, 1) := by decide +kernel
theorem dL_law_776 : decode cL_law 776 = .ok (.aload_n 0, 1) := by decide +kernel
theorem dL_law_777 : decode cL_law 777 = .ok (.iload_n 3, 1) := by decide +kernel
theorem dL_law_778 : decode cL_law 778 = .ok (.iconst 1, 1) := by decide +kernel
theorem dL_law_779 : decode cL_law 779 = .ok (.iadd, 1) := by decide +kernel
theorem dL_law_780 : decode cL_law 780 = .ok (.iaload, 1) := by decide +kernel
theorem dL_law_781 : decode cL_law 781 = .ok (.invokevirtual 99, 3) := by decide +kernel
theorem dL_law_784 : decode cL_law 784 = .ok (.aload_n 2, 1) := by decide +kernel
theorem dL_law_785 : decode cL_law 785 = .ok (.aload_n 0, 1) := by decide +kernel
theorem dL_law_786 : decode cL_law 786 = .ok (.iload_n 3, 1) := by decide +kernel
theorem dL_law_787 : decode cL_law 787 = .ok (.iconst 1, 1) := by decide +kernel
theorem dL_law_788 : decode cL_law 788 = .ok (.iadd, 1) := by decide +kernel
theorem dL_law_789 : decode cL_law 789 = .ok (.iaload, 1) := by decide +kernel
theorem dL_law_790 : decode cL_law 790 = .ok (.invokevirtual 102, 3) := by decide +kernel
theorem dL_law_793 : decode cL_law 793 = .ok (.if_icmp .eq 345, 3) := by decide +kernel
theorem dL_law_796 : decode cL_law 796 = .ok (.iconst 0, 1) := by decide +kernel
theorem dL_law_797 : decode cL_law 797 = .ok (.ireturn, 1) := by decide +kernel
theorem dL_law_798 : decode cL_law 798 = .ok (.aload_n 1, 1) := by decide +kernel
theorem dL_law_799 : decode cL_law 799 = .ok (.aload_n 0, 1) := by decide +kernel
theorem dL_law_800 : decode cL_law 800 = .ok (.iload_n 3, 1) := by decide +kernel
theorem dL_law_801 : decode cL_law 801 = .ok (.iconst 1, 1) := by decide +kernel
theorem dL_law_802 : decode cL_law 802 = .ok (.iadd, 1) := by decide +kernel
theorem dL_law_803 : decode cL_law 803 = .ok (.iaload, 1) := by decide +kernel
theorem dL_law_804 : decode cL_law 804 = .ok (.invokevirtual 103, 3) := by decide +kernel
theorem dL_law_807 : decode cL_law 807 = .ok (.aload_n 2, 1) := by decide +kernel
theorem dL_law_808 : decode cL_law 808 = .ok (.aload_n 0, 1) := by decide +kernel
theorem dL_law_809 : decode cL_law 809 = .ok (.iload_n 3, 1) := by decide +kernel
theorem dL_law_810 : decode cL_law 810 = .ok (.iconst 1, 1) := by decide +kernel
theorem dL_law_811 : decode cL_law 811 = .ok (.iadd, 1) := by decide +kernel
theorem dL_law_812 : decode cL_law 812 = .ok (.iaload, 1) := by decide +kernel
theorem dL_law_813 : decode cL_law 813 = .ok (.invokevirtual 106, 3) := by decide +kernel
theorem dL_law_816 : decode cL_law 816 = .ok (.if_icmp .eq 322, 3) := by decide +kernel
theorem dL_law_819 : decode cL_law 819 = .ok (.iconst 0, 1) := by decide +kernel
theorem dL_law_820 : decode cL_law 820 = .ok (.ireturn, 1) := by decide +kernel
theorem dL_law_821 : decode cL_law 821 = .ok (.aload_n 1, 1) := by decide +kernel
theorem dL_law_822 : decode cL_law 822 = .ok (.aload_n 0, 1) := by decide +kernel
theorem dL_law_823 : decode cL_law 823 = .ok (.iload_n 3, 1) := by decide +kernel
theorem dL_law_824 : decode cL_law 824 = .ok (.iconst 1, 1) := by decide +kernel
theorem dL_law_825 : decode cL_law 825 = .ok (.iadd, 1) := by decide +kernel
theorem dL_law_826 : decode cL_law 826 = .ok (.iaload, 1) := by decide +kernel
theorem dL_law_827 : decode cL_law 827 = .ok (.aload_n 0, 1) := by decide +kernel
theorem dL_law_828 : decode cL_law 828 = .ok (.iload_n 3, 1) := by decide +kernel
theorem dL_law_829 : decode cL_law 829 = .ok (.iconst 2, 1) := by decide +kernel
theorem dL_law_830 : decode cL_law 830 = .ok (.iadd, 1) := by decide +kernel
theorem dL_law_831 : decode cL_law 831 = .ok (.iaload, 1) := by decide +kernel
theorem dL_law_832 : decode cL_law 832 = .ok (.invokevirtual 107, 3) := by decide +kernel
theorem dL_law_835 : decode cL_law 835 = .ok (.aload_n 2, 1) := by decide +kernel
theorem dL_law_836 : decode cL_law 836 = .ok (.aload_n 0, 1) := by decide +kernel
theorem dL_law_837 : decode cL_law 837 = .ok (.iload_n 3, 1) := by decide +kernel
theorem dL_law_838 : decode cL_law 838 = .ok (.iconst 1, 1) := by decide +kernel
theorem dL_law_839 : decode cL_law 839 = .ok (.iadd, 1) := by decide +kernel
theorem dL_law_840 : decode cL_law 840 = .ok (.iaload, 1) := by decide +kernel
theorem dL_law_841 : decode cL_law 841 = .ok (.aload_n 0, 1) := by decide +kernel
theorem dL_law_842 : decode cL_law 842 = .ok (.iload_n 3, 1) := by decide +kernel
theorem dL_law_843 : decode cL_law 843 = .ok (.iconst 2, 1) := by decide +kernel
theorem dL_law_844 : decode cL_law 844 = .ok (.iadd, 1) := by decide +kernel
theorem dL_law_845 : decode cL_law 845 = .ok (.iaload, 1) := by decide +kernel
theorem dL_law_846 : decode cL_law 846 = .ok (.invokevirtual 110, 3) := by decide +kernel
theorem dL_law_849 : decode cL_law 849 = .ok (.if_icmp .eq 289, 3) := by decide +kernel
theorem dL_law_852 : decode cL_law 852 = .ok (.iconst 0, 1) := by decide +kernel
theorem dL_law_853 : decode cL_law 853 = .ok (.ireturn, 1) := by decide +kernel
theorem dL_law_854 : decode cL_law 854 = .ok (.aload_n 1, 1) := by decide +kernel
theorem dL_law_855 : decode cL_law 855 = .ok (.aload_n 0, 1) := by decide +kernel
theorem dL_law_856 : decode cL_law 856 = .ok (.iload_n 3, 1) := by decide +kernel
theorem dL_law_857 : decode cL_law 857 = .ok (.iconst 1, 1) := by decide +kernel
theorem dL_law_858 : decode cL_law 858 = .ok (.iadd, 1) := by decide +kernel
theorem dL_law_859 : decode cL_law 859 = .ok (.iaload, 1) := by decide +kernel
theorem dL_law_860 : decode cL_law 860 = .ok (.aload_n 0, 1) := by decide +kernel
theorem dL_law_861 : decode cL_law 861 = .ok (.iload_n 3, 1) := by decide +kernel
theorem dL_law_862 : decode cL_law 862 = .ok (.iconst 2, 1) := by decide +kernel
theorem dL_law_863 : decode cL_law 863 = .ok (.iadd, 1) := by decide +kernel
theorem dL_law_864 : decode cL_law 864 = .ok (.iaload, 1) := by decide +kernel
theorem dL_law_865 : decode cL_law 865 = .ok (.aload_n 0, 1) := by decide +kernel
theorem dL_law_866 : decode cL_law 866 = .ok (.iload_n 3, 1) := by decide +kernel
theorem dL_law_867 : decode cL_law 867 = .ok (.iconst 3, 1) := by decide +kernel
theorem dL_law_868 : decode cL_law 868 = .ok (.iadd, 1) := by decide +kernel
theorem dL_law_869 : decode cL_law 869 = .ok (.iaload, 1) := by decide +kernel
theorem dL_law_870 : decode cL_law 870 = .ok (.invokevirtual 111, 3) := by decide +kernel
theorem dL_law_873 : decode cL_law 873 = .ok (.aload_n 2, 1) := by decide +kernel
theorem dL_law_874 : decode cL_law 874 = .ok (.aload_n 0, 1) := by decide +kernel
theorem dL_law_875 : decode cL_law 875 = .ok (.iload_n 3, 1) := by decide +kernel
theorem dL_law_876 : decode cL_law 876 = .ok (.iconst 1, 1) := by decide +kernel
theorem dL_law_877 : decode cL_law 877 = .ok (.iadd, 1) := by decide +kernel
theorem dL_law_878 : decode cL_law 878 = .ok (.iaload, 1) := by decide +kernel
theorem dL_law_879 : decode cL_law 879 = .ok (.aload_n 0, 1) := by decide +kernel
theorem dL_law_880 : decode cL_law 880 = .ok (.iload_n 3, 1) := by decide +kernel
theorem dL_law_881 : decode cL_law 881 = .ok (.iconst 2, 1) := by decide +kernel
theorem dL_law_882 : decode cL_law 882 = .ok (.iadd, 1) := by decide +kernel
theorem dL_law_883 : decode cL_law 883 = .ok (.iaload, 1) := by decide +kernel
theorem dL_law_884 : decode cL_law 884 = .ok (.aload_n 0, 1) := by decide +kernel
theorem dL_law_885 : decode cL_law 885 = .ok (.iload_n 3, 1) := by decide +kernel
theorem dL_law_886 : decode cL_law 886 = .ok (.iconst 3, 1) := by decide +kernel
theorem dL_law_887 : decode cL_law 887 = .ok (.iadd, 1) := by decide +kernel
theorem dL_law_888 : decode cL_law 888 = .ok (.iaload, 1) := by decide +kernel
theorem dL_law_889 : decode cL_law 889 = .ok (.invokevirtual 114, 3) := by decide +kernel
theorem dL_law_892 : decode cL_law 892 = .ok (.if_icmp .eq 246, 3) := by decide +kernel
theorem dL_law_895 : decode cL_law 895 = .ok (.iconst 0, 1) := by decide +kernel
theorem dL_law_896 : decode cL_law 896 = .ok (.ireturn, 1) := by decide +kernel
theorem dL_law_897 : decode cL_law 897 = .ok (.aload_n 1, 1) := by decide +kernel
theorem dL_law_898 : decode cL_law 898 = .ok (.aload_n 0, 1) := by decide +kernel
theorem dL_law_899 : decode cL_law 899 = .ok (.iload_n 3, 1) := by decide +kernel
theorem dL_law_900 : decode cL_law 900 = .ok (.iconst 1, 1) := by decide +kernel
theorem dL_law_901 : decode cL_law 901 = .ok (.iadd, 1) := by decide +kernel
theorem dL_law_902 : decode cL_law 902 = .ok (.iaload, 1) := by decide +kernel
theorem dL_law_903 : decode cL_law 903 = .ok (.invokevirtual 115, 3) := by decide +kernel
theorem dL_law_906 : decode cL_law 906 = .ok (.aload_n 2, 1) := by decide +kernel
theorem dL_law_907 : decode cL_law 907 = .ok (.aload_n 0, 1) := by decide +kernel
theorem dL_law_908 : decode cL_law 908 = .ok (.iload_n 3, 1) := by decide +kernel
theorem dL_law_909 : decode cL_law 909 = .ok (.iconst 1, 1) := by decide +kernel
theorem dL_law_910 : decode cL_law 910 = .ok (.iadd, 1) := by decide +kernel
theorem dL_law_911 : decode cL_law 911 = .ok (.iaload, 1) := by decide +kernel
theorem dL_law_912 : decode cL_law 912 = .ok (.invokevirtual 118, 3) := by decide +kernel
theorem dL_law_915 : decode cL_law 915 = .ok (.if_icmp .eq 223, 3) := by decide +kernel
theorem dL_law_918 : decode cL_law 918 = .ok (.iconst 0, 1) := by decide +kernel
theorem dL_law_919 : decode cL_law 919 = .ok (.ireturn, 1) := by decide +kernel
theorem dL_law_920 : decode cL_law 920 = .ok (.aload_n 1, 1) := by decide +kernel
theorem dL_law_921 : decode cL_law 921 = .ok (.aload_n 0, 1) := by decide +kernel
theorem dL_law_922 : decode cL_law 922 = .ok (.iload_n 3, 1) := by decide +kernel
theorem dL_law_923 : decode cL_law 923 = .ok (.iconst 1, 1) := by decide +kernel
theorem dL_law_924 : decode cL_law 924 = .ok (.iadd, 1) := by decide +kernel
theorem dL_law_925 : decode cL_law 925 = .ok (.iaload, 1) := by decide +kernel
theorem dL_law_926 : decode cL_law 926 = .ok (.aload_n 0, 1) := by decide +kernel
theorem dL_law_927 : decode cL_law 927 = .ok (.iload_n 3, 1) := by decide +kernel
theorem dL_law_928 : decode cL_law 928 = .ok (.iconst 2, 1) := by decide +kernel
theorem dL_law_929 : decode cL_law 929 = .ok (.iadd, 1) := by decide +kernel
theorem dL_law_930 : decode cL_law 930 = .ok (.iaload, 1) := by decide +kernel
theorem dL_law_931 : decode cL_law 931 = .ok (.invokevirtual 119, 3) := by decide +kernel
theorem dL_law_934 : decode cL_law 934 = .ok (.aload_n 2, 1) := by decide +kernel
theorem dL_law_935 : decode cL_law 935 = .ok (.aload_n 0, 1) := by decide +kernel
theorem dL_law_936 : decode cL_law 936 = .ok (.iload_n 3, 1) := by decide +kernel
theorem dL_law_937 : decode cL_law 937 = .ok (.iconst 1, 1) := by decide +kernel
theorem dL_law_938 : decode cL_law 938 = .ok (.iadd, 1) := by decide +kernel
theorem dL_law_939 : decode cL_law 939 = .ok (.iaload, 1) := by decide +kernel
theorem dL_law_940 : decode cL_law 940 = .ok (.aload_n 0, 1) := by decide +kernel
theorem dL_law_941 : decode cL_law 941 = .ok (.iload_n 3, 1) := by decide +kernel
theorem dL_law_942 : decode cL_law 942 = .ok (.iconst 2, 1) := by decide +kernel
theorem dL_law_943 : decode cL_law 943 = .ok (.iadd, 1) := by decide +kernel
theorem dL_law_944 : decode cL_law 944 = .ok (.iaload, 1) := by decide +kernel
theorem dL_law_945 : decode cL_law 945 = .ok (.invokevirtual 122, 3) := by decide +kernel
theorem dL_law_948 : decode cL_law 948 = .ok (.if_icmp .eq 190, 3) := by decide +kernel
theorem dL_law_951 : decode cL_law 951 = .ok (.iconst 0, 1) := by decide +kernel
theorem dL_law_952 : decode cL_law 952 = .ok (.ireturn, 1) := by decide +kernel
theorem dL_law_953 : decode cL_law 953 = .ok (.aload_n 1, 1) := by decide +kernel
theorem dL_law_954 : decode cL_law 954 = .ok (.aload_n 0, 1) := by decide +kernel
theorem dL_law_955 : decode cL_law 955 = .ok (.iload_n 3, 1) := by decide +kernel
theorem dL_law_956 : decode cL_law 956 = .ok (.iconst 1, 1) := by decide +kernel
theorem dL_law_957 : decode cL_law 957 = .ok (.iadd, 1) := by decide +kernel
theorem dL_law_958 : decode cL_law 958 = .ok (.iaload, 1) := by decide +kernel
theorem dL_law_959 : decode cL_law 959 = .ok (.aload_n 0, 1) := by decide +kernel
theorem dL_law_960 : decode cL_law 960 = .ok (.iload_n 3, 1) := by decide +kernel
theorem dL_law_961 : decode cL_law 961 = .ok (.iconst 2, 1) := by decide +kernel
theorem dL_law_962 : decode cL_law 962 = .ok (.iadd, 1) := by decide +kernel
theorem dL_law_963 : decode cL_law 963 = .ok (.iaload, 1) := by decide +kernel
theorem dL_law_964 : decode cL_law 964 = .ok (.invokevirtual 123, 3) := by decide +kernel
theorem dL_law_967 : decode cL_law 967 = .ok (.aload_n 2, 1) := by decide +kernel
theorem dL_law_968 : decode cL_law 968 = .ok (.aload_n 0, 1) := by decide +kernel
theorem dL_law_969 : decode cL_law 969 = .ok (.iload_n 3, 1) := by decide +kernel
theorem dL_law_970 : decode cL_law 970 = .ok (.iconst 1, 1) := by decide +kernel
theorem dL_law_971 : decode cL_law 971 = .ok (.iadd, 1) := by decide +kernel
theorem dL_law_972 : decode cL_law 972 = .ok (.iaload, 1) := by decide +kernel
theorem dL_law_973 : decode cL_law 973 = .ok (.aload_n 0, 1) := by decide +kernel
theorem dL_law_974 : decode cL_law 974 = .ok (.iload_n 3, 1) := by decide +kernel
theorem dL_law_975 : decode cL_law 975 = .ok (.iconst 2, 1) := by decide +kernel
theorem dL_law_976 : decode cL_law 976 = .ok (.iadd, 1) := by decide +kernel
theorem dL_law_977 : decode cL_law 977 = .ok (.iaload, 1) := by decide +kernel
theorem dL_law_978 : decode cL_law 978 = .ok (.invokevirtual 126, 3) := by decide +kernel
theorem dL_law_981 : decode cL_law 981 = .ok (.if_icmp .eq 157, 3) := by decide +kernel
theorem dL_law_984 : decode cL_law 984 = .ok (.iconst 0, 1) := by decide +kernel
theorem dL_law_985 : decode cL_law 985 = .ok (.ireturn, 1) := by decide +kernel
theorem dL_law_986 : decode cL_law 986 = .ok (.aload_n 1, 1) := by decide +kernel
theorem dL_law_987 : decode cL_law 987 = .ok (.aload_n 0, 1) := by decide +kernel
theorem dL_law_988 : decode cL_law 988 = .ok (.iload_n 3, 1) := by decide +kernel
theorem dL_law_989 : decode cL_law 989 = .ok (.iconst 1, 1) := by decide +kernel
theorem dL_law_990 : decode cL_law 990 = .ok (.iadd, 1) := by decide +kernel
theorem dL_law_991 : decode cL_law 991 = .ok (.iaload, 1) := by decide +kernel
theorem dL_law_992 : decode cL_law 992 = .ok (.aload_n 0, 1) := by decide +kernel
theorem dL_law_993 : decode cL_law 993 = .ok (.iload_n 3, 1) := by decide +kernel
theorem dL_law_994 : decode cL_law 994 = .ok (.iconst 2, 1) := by decide +kernel
theorem dL_law_995 : decode cL_law 995 = .ok (.iadd, 1) := by decide +kernel
theorem dL_law_996 : decode cL_law 996 = .ok (.iaload, 1) := by decide +kernel
theorem dL_law_997 : decode cL_law 997 = .ok (.invokevirtual 127, 3) := by decide +kernel
theorem dL_law_1000 : decode cL_law 1000 = .ok (.aload_n 2, 1) := by decide +kernel
theorem dL_law_1001 : decode cL_law 1001 = .ok (.aload_n 0, 1) := by decide +kernel
theorem dL_law_1002 : decode cL_law 1002 = .ok (.iload_n 3, 1) := by decide +kernel
theorem dL_law_1003 : decode cL_law 1003 = .ok (.iconst 1, 1) := by decide +kernel
theorem dL_law_1004 : decode cL_law 1004 = .ok (.iadd, 1) := by decide +kernel
theorem dL_law_1005 : decode cL_law 1005 = .ok (.iaload, 1) := by decide +kernel
theorem dL_law_1006 : decode cL_law 1006 = .ok (.aload_n 0, 1) := by decide +kernel
theorem dL_law_1007 : decode cL_law 1007 = .ok (.iload_n 3, 1) := by decide +kernel
theorem dL_law_1008 : decode cL_law 1008 = .ok (.iconst 2, 1) := by decide +kernel
theorem dL_law_1009 : decode cL_law 1009 = .ok (.iadd, 1) := by decide +kernel
theorem dL_law_1010 : decode cL_law 1010 = .ok (.iaload, 1) := by decide +kernel
theorem dL_law_1011 : decode cL_law 1011 = .ok (.invokevirtual 130, 3) := by decide +kernel
theorem dL_law_1014 : decode cL_law 1014 = .ok (.if_icmp .eq 124, 3) := by decide +kernel
theorem dL_law_1017 : decode cL_law 1017 = .ok (.iconst 0, 1) := by decide +kernel
theorem dL_law_1018 : decode cL_law 1018 = .ok (.ireturn, 1) := by decide +kernel
theorem dL_law_1019 : decode cL_law 1019 = .ok (.aload_n 1, 1) := by decide +kernel
theorem dL_law_1020 : decode cL_law 1020 = .ok (.aload_n 0, 1) := by decide +kernel
theorem dL_law_1021 : decode cL_law 1021 = .ok (.iload_n 3, 1) := by decide +kernel
theorem dL_law_1022 : decode cL_law 1022 = .ok (.iconst 1, 1) := by decide +kernel
theorem dL_law_1023 : decode cL_law 1023 = .ok (.iadd, 1) := by decide +kernel
theorem dL_law_1024 : decode cL_law 1024 = .ok (.iaload, 1) := by decide +kernel
theorem dL_law_1025 : decode cL_law 1025 = .ok (.aload_n 0, 1) := by decide +kernel
theorem dL_law_1026 : decode cL_law 1026 = .ok (.iload_n 3, 1) := by decide +kernel
theorem dL_law_1027 : decode cL_law 1027 = .ok (.iconst 2, 1) := by decide +kernel
theorem dL_law_1028 : decode cL_law 1028 = .ok (.iadd, 1) := by decide +kernel
theorem dL_law_1029 : decode cL_law 1029 = .ok (.iaload, 1) := by decide +kernel
theorem dL_law_1030 : decode cL_law 1030 = .ok (.invokevirtual 131, 3) := by decide +kernel
theorem dL_law_1033 : decode cL_law 1033 = .ok (.aload_n 2, 1) := by decide +kernel
theorem dL_law_1034 : decode cL_law 1034 = .ok (.aload_n 0, 1) := by decide +kernel
theorem dL_law_1035 : decode cL_law 1035 = .ok (.iload_n 3, 1) := by decide +kernel
theorem dL_law_1036 : decode cL_law 1036 = .ok (.iconst 1, 1) := by decide +kernel
theorem dL_law_1037 : decode cL_law 1037 = .ok (.iadd, 1) := by decide +kernel
theorem dL_law_1038 : decode cL_law 1038 = .ok (.iaload, 1) := by decide +kernel
theorem dL_law_1039 : decode cL_law 1039 = .ok (.aload_n 0, 1) := by decide +kernel
theorem dL_law_1040 : decode cL_law 1040 = .ok (.iload_n 3, 1) := by decide +kernel
theorem dL_law_1041 : decode cL_law 1041 = .ok (.iconst 2, 1) := by decide +kernel
theorem dL_law_1042 : decode cL_law 1042 = .ok (.iadd, 1) := by decide +kernel
theorem dL_law_1043 : decode cL_law 1043 = .ok (.iaload, 1) := by decide +kernel
theorem dL_law_1044 : decode cL_law 1044 = .ok (.invokevirtual 134, 3) := by decide +kernel
theorem dL_law_1047 : decode cL_law 1047 = .ok (.if_icmp .eq 91, 3) := by decide +kernel
theorem dL_law_1050 : decode cL_law 1050 = .ok (.iconst 0, 1) := by decide +kernel
theorem dL_law_1051 : decode cL_law 1051 = .ok (.ireturn, 1) := by decide +kernel
theorem dL_law_1052 : decode cL_law 1052 = .ok (.aload_n 1, 1) := by decide +kernel
theorem dL_law_1053 : decode cL_law 1053 = .ok (.invokevirtual 135, 3) := by decide +kernel
theorem dL_law_1056 : decode cL_law 1056 = .ok (.aload_n 2, 1) := by decide +kernel
theorem dL_law_1057 : decode cL_law 1057 = .ok (.invokevirtual 138, 3) := by decide +kernel
theorem dL_law_1060 : decode cL_law 1060 = .ok (.if_icmp .eq 78, 3) := by decide +kernel
theorem dL_law_1063 : decode cL_law 1063 = .ok (.iconst 0, 1) := by decide +kernel
theorem dL_law_1064 : decode cL_law 1064 = .ok (.ireturn, 1) := by decide +kernel
theorem dL_law_1065 : decode cL_law 1065 = .ok (.aload_n 1, 1) := by decide +kernel
theorem dL_law_1066 : decode cL_law 1066 = .ok (.aload_n 0, 1) := by decide +kernel
theorem dL_law_1067 : decode cL_law 1067 = .ok (.iload_n 3, 1) := by decide +kernel
theorem dL_law_1068 : decode cL_law 1068 = .ok (.iconst 1, 1) := by decide +kernel
theorem dL_law_1069 : decode cL_law 1069 = .ok (.iadd, 1) := by decide +kernel
theorem dL_law_1070 : decode cL_law 1070 = .ok (.iaload, 1) := by decide +kernel
theorem dL_law_1071 : decode cL_law 1071 = .ok (.invokevirtual 139, 3) := by decide +kernel
theorem dL_law_1074 : decode cL_law 1074 = .ok (.aload_n 2, 1) := by decide +kernel
theorem dL_law_1075 : decode cL_law 1075 = .ok (.aload_n 0, 1) := by decide +kernel
theorem dL_law_1076 : decode cL_law 1076 = .ok (.iload_n 3, 1) := by decide +kernel
theorem dL_law_1077 : decode cL_law 1077 = .ok (.iconst 1, 1) := by decide +kernel
theorem dL_law_1078 : decode cL_law 1078 = .ok (.iadd, 1) := by decide +kernel
theorem dL_law_1079 : decode cL_law 1079 = .ok (.iaload, 1) := by decide +kernel
theorem dL_law_1080 : decode cL_law 1080 = .ok (.invokevirtual 142, 3) := by decide +kernel
theorem dL_law_1083 : decode cL_law 1083 = .ok (.if_icmp .eq 55, 3) := by decide +kernel
theorem dL_law_1086 : decode cL_law 1086 = .ok (.iconst 0, 1) := by decide +kernel
theorem dL_law_1087 : decode cL_law 1087 = .ok (.ireturn, 1) := by decide +kernel
theorem dL_law_1088 : decode cL_law 1088 = .ok (.aload_n 1, 1) := by decide +kernel
theorem dL_law_1089 : decode cL_law 1089 = .ok (.invokevirtual 143, 3) := by decide +kernel
theorem dL_law_1092 : decode cL_law 1092 = .ok (.aload_n 2, 1) := by decide +kernel
theorem dL_law_1093 : decode cL_law 1093 = .ok (.invokevirtual 146, 3) := by decide +kernel
theorem dL_law_1096 : decode cL_law 1096 = .ok (.if_icmp .eq 42, 3) := by decide +kernel
theorem dL_law_1099 : decode cL_law 1099 = .ok (.iconst 0, 1) := by decide +kernel
theorem dL_law_1100 : decode cL_law 1100 = .ok (.ireturn, 1) := by decide +kernel
theorem dL_law_1101 : decode cL_law 1101 = .ok (.aload_n 1, 1) := by decide +kernel
theorem dL_law_1102 : decode cL_law 1102 = .ok (.aload_n 0, 1) := by decide +kernel
theorem dL_law_1103 : decode cL_law 1103 = .ok (.iload_n 3, 1) := by decide +kernel
theorem dL_law_1104 : decode cL_law 1104 = .ok (.iconst 1, 1) := by decide +kernel
theorem dL_law_1105 : decode cL_law 1105 = .ok (.iadd, 1) := by decide +kernel
theorem dL_law_1106 : decode cL_law 1106 = .ok (.iaload, 1) := by decide +kernel
theorem dL_law_1107 : decode cL_law 1107 = .ok (.invokevirtual 147, 3) := by decide +kernel
theorem dL_law_1110 : decode cL_law 1110 = .ok (.aload_n 2, 1) := by decide +kernel
theorem dL_law_1111 : decode cL_law 1111 = .ok (.aload_n 0, 1) := by decide +kernel
theorem dL_law_1112 : decode cL_law 1112 = .ok (.iload_n 3, 1) := by decide +kernel
theorem dL_law_1113 : decode cL_law 1113 = .ok (.iconst 1, 1) := by decide +kernel
theorem dL_law_1114 : decode cL_law 1114 = .ok (.iadd, 1) := by decide +kernel
theorem dL_law_1115 : decode cL_law 1115 = .ok (.iaload, 1) := by decide +kernel
theorem dL_law_1116 : decode cL_law 1116 = .ok (.invokevirtual 150, 3) := by decide +kernel
theorem dL_law_1119 : decode cL_law 1119 = .ok (.if_icmp .eq 19, 3) := by decide +kernel
theorem dL_law_1122 : decode cL_law 1122 = .ok (.iconst 0, 1) := by decide +kernel
theorem dL_law_1123 : decode cL_law 1123 = .ok (.ireturn, 1) := by decide +kernel
theorem dL_law_1124 : decode cL_law 1124 = .ok (.aload_n 1, 1) := by decide +kernel
theorem dL_law_1125 : decode cL_law 1125 = .ok (.invokevirtual 151, 3) := by decide +kernel
theorem dL_law_1128 : decode cL_law 1128 = .ok (.aload_n 2, 1) := by decide +kernel
theorem dL_law_1129 : decode cL_law 1129 = .ok (.invokevirtual 154, 3) := by decide +kernel
theorem dL_law_1132 : decode cL_law 1132 = .ok (.lcmp, 1) := by decide +kernel
theorem dL_law_1133 : decode cL_law 1133 = .ok (.ifCond .eq 5, 3) := by decide +kernel
theorem dL_law_1136 : decode cL_law 1136 = .ok (.iconst 0, 1) := by decide +kernel
theorem dL_law_1137 : decode cL_law 1137 = .ok (.ireturn, 1) := by decide +kernel
theorem dL_law_1138 : decode cL_law 1138 = .ok (.iinc 3 6, 3) := by decide +kernel
theorem dL_law_1141 : decode cL_law 1141 = .ok (.goto (-1123), 3) := by decide +kernel
theorem dL_law_1144 : decode cL_law 1144 = .ok (.iconst 1, 1) := by decide +kernel
theorem dL_law_1145 : decode cL_law 1145 = .ok (.ireturn, 1) := by decide +kernel
end
section
/-! ints as integers: iI z is the int of the integer z -/
def iI (z : Int) : Int32 := Int32.ofInt z
abbrev jr (z : Int) : Prop := -2147483648 ≤ z ∧ z < 2147483648
theorem iI_t {z : Int} (h : jr z) : (iI z).toInt = z := Int32.toInt_ofInt_of_le (by have := h.1; omega) (by have := h.2; omega)
theorem iI_rng (x : Int32) : jr x.toInt := by
  have h1 := Int32.le_toInt x
  have h2 := Int32.toInt_lt x
  exact ⟨by omega, by omega⟩
theorem iI_x (x : Int32) : iI x.toInt = x := Int32.ofInt_toInt x
theorem iI_add (a b : Int) : iI a + iI b = iI (a + b) := (Int32.ofInt_add a b).symm
theorem iI_sub (a b : Int) : iI a - iI b = iI (a - b) := (Int32.ofInt_sub a b).symm
theorem iI_mul (a b : Int) : iI a * iI b = iI (a * b) := (Int32.ofInt_mul a b).symm
theorem iI_lt {a b : Int} (ha : jr a) (hb : jr b) : iI a < iI b ↔ a < b := by rw [Int32.lt_iff_toInt_lt, iI_t ha, iI_t hb]
theorem iI_le {a b : Int} (ha : jr a) (hb : jr b) : iI a ≤ iI b ↔ a ≤ b := by rw [Int32.le_iff_toInt_le, iI_t ha, iI_t hb]
theorem iI_eq {a b : Int} (ha : jr a) (hb : jr b) : iI a = iI b ↔ a = b := ⟨fun h => by have := congrArg Int32.toInt h; rwa [iI_t ha, iI_t hb] at this, fun h => by rw [h]⟩
theorem iI_0 : iI 0 = 0 := by decide +kernel
theorem jr_0 : jr 0 := ⟨by decide, by decide⟩
theorem iI_clamp {j : Nat} (h : j < 2147483648) : (iI (j : Int)).toNatClampNeg = j := by
  show (iI (j : Int)).toInt.toNat = j
  rw [iI_t ⟨by omega, by omega⟩]
  omega
theorem iI_in {j n : Nat} (h : j < n) (hn : n < 2147483648) : vp_in (iI (j : Int)) n := by
  intro q
  rcases q with q | q
  · rw [← iI_0, iI_lt ⟨by omega, by omega⟩ jr_0] at q
    omega
  · rw [iI_clamp (by omega)] at q
    omega
theorem iI_nat (n : Nat) : Int32.ofNat n = iI (n : Int) := rfl
/-! the worlds: array kinds, cells, methods -/
abbrev jD : Type := va_G × (Nat → ClassId)
def jty (E : jD) : List (ClassId × FieldType) := [(E.2 0, .int), (E.2 1, .long), (E.2 2, .object RX4), (E.2 3, .object RX2)]
def jK (E : jD) (U : State) : Prop := va_K E.1 vwCl (jty E) U ∧ va_AO RX4 U ∧ va_AO RX2 U
theorem jK.moved {E : jD} {u U : State} (hvm : u.vm.Alike U.vm) (h : jK E u) : jK E U := ⟨va_K.moved hvm h.1, h.2.1.moved hvm, h.2.2.moved hvm⟩
abbrev jA (E : jD) (n : Nat) (f : Nat → Int32) : va_E := .inl (E.2 0, n, .inl f)
abbrev jL (E : jD) (n : Nat) (f : Nat → Int64) : va_E := .inl (E.2 1, n, .inr (.inl f))
abbrev jR (E : jD) (t n : Nat) (f : Nat → Option Nat) : va_E := .inl (E.2 t, n, .inr (.inr (.inr (.inr f))))
abbrev jO (ci : Nat) (fs : List Value) : va_E := .inr (ci, fs)
/-- a method: name, code, locals, answer, level, cells, slots -/
abbrev jY : Type := MethodName × ByteArray × Nat × Option FieldType × Nat × Nat × Nat
def jrm (Y : jY) : Room := { frames := Y.2.2.2.2.1, cells := Y.2.2.2.2.2.1, slots := Y.2.2.2.2.2.2, locals := 40 * Y.2.2.2.2.1 }
def jws (Y : jY) : List Cond := .code Y.1 Y.2.1 Y.2.2.1 Y.2.2.2.1 :: jT
abbrev jP : Type := Option Value → va_W → Prop
def jB (E : jD) (M : va_W) (sz : Nat) (U : State) : Prop := U.heap.size = sz ∧ va_P E.1 vwCl M U.heap ∧ jK E U ∧ va_D (fun _ => True) M
def jQ (E : jD) (Q : jP) (A : Nat → Prop) : Array Value → State → Outcome → State → Prop := fun _ st oc t => (∃ (r : Option Value) (M : va_W), oc = .returned r ∧ Q r M ∧ va_P E.1 vwCl M t.heap ∧ va_D A M) ∧ va_F A st t
/-- a method's contract over a world -/
def MC (E : jD) (Y : jY) (av : List Value) (M : va_W) (Q : jP) : Prop := ∀ (l : Launch) (sz : Nat), Met l Y.1 (jws Y) (jrm Y) (va_Pc av (jB E M sz)) (jQ E Q (va_A M sz)) Y.2.2.2.2.2.1 Y.2.2.2.2.2.2 (va_A M sz)
abbrev jF : Type := Array Value → State → List Frame → (Nat → Prop) → State → Prop
abbrev jX : Type := Array Value → State → (Nat → Prop) → Prop
abbrev jZ : Type := Room × jF × jX
def jZm (E : jD) (Y : jY) (Q : jP) : jZ := (jrm Y, fun args s below A => MQ below (jQ E Q A) args s Y.2.2.2.2.2.1 Y.2.2.2.2.2.2 A, fun _ _ _ => True)
def jC (E : jD) (Y : jY) (Z : jZ) (p : Program) (s : State) (m : MethodId) (args : Array Value) (meth : Method) (c : Code) (A : Nat → Prop) : Prop :=
  p.tables.exec = Jvm.exec ∧ c.code = Y.2.1 ∧ c.maxLocals = Y.2.2.1 ∧ meth.sig.returnType = Y.2.2.2.1 ∧ meth.locks = false ∧ s.vm.findClass Y.1.cls = some m.cls ∧ meth.name = Y.1.name ∧ (∀ w ∈ jT, w.before args s = true) ∧ jK E s ∧ (∀ q, s.heap.size ≤ q → A q) ∧ Z.2.2 args s A
/-- the machine at pc with locals lv, operands st, world M comes to the method's end -/
def J (E : jD) (Y : jY) (Z : jZ) (k n : Nat) (pc : Nat) (lv : List (Nat × Value)) (st : List Value) (M : va_W) : Prop :=
  ∀ (p : Program) (l : Launch) (e : Env) (s : State) (m : MethodId) (args : Array Value) (below : List Frame) (meth : Method) (c : Code) (A : Nat → Prop), jC E Y Z p s m args meth c A →
  ∀ (H : Heap) (locs : List Loc) (ls : Array Slot), lv_has ls Y.2.2.1 lv → va_P E.1 vwCl M H → va_D A M → va_S A s.heap H locs →
  W p l e Z.1 s m args below meth c H locs k n (Z.2.1 args s below A) (F0 m pc ls st)
theorem MC.of {E : jD} {Y : jY} {av : List Value} {M : va_W} {Q : jP} {lv : List (Nat × Value)} (hy : plainName Y.1.cls = true) (hn : Nat.ble (lg_sl av).length Y.2.2.1 = true) (hlv : lv_args 0 av = lv) (h : J E Y (jZm E Y Q) 0 0 0 lv [] M) : MC E Y av M Q := by
  intro l sz
  refine Met.ofW (cc := Y.2.1) (maxL := Y.2.2.1) (ret := Y.2.2.2.1) hy rfl ?_
  intro p e s m args below meth c s₁ B hml hv
  obtain ⟨rfl, hsz, hP, hK, hD0⟩ := hv
  subst hsz
  subst hlv
  have hts := atoms_spec (ws := jws Y) B.pre
  have hl := lv_entry av (Nat.le_of_ble_eq_true hn)
  rw [lg_entry_eq]
  exact h p l e s m _ below meth c (va_A M s.heap.size) ⟨B.exec, B.bytes, hml, B.returns, B.notSynchronized, findClass_of_methodNamed B.named, (name_of_methodNamed B.named B.method).1, fun w hw => hts w (List.mem_cons_of_mem _ hw), hK, fun q h => Or.inr h, trivial⟩ s.heap [] _ hl hP hD0.self va_S.rf
/-- a weaker end -/
theorem MC.mono {E : jD} {Y : jY} {av : List Value} {M : va_W} {Q Q' : jP} (h : MC E Y av M Q) (hq : ∀ r N, Q r N → Q' r N) : MC E Y av M Q' := by
  intro l sz p e ha hc hk s m args below hf happ hP hK
  obtain ⟨t, o, h1, h2, h3, ⟨⟨r, N, q1, q2, q3⟩, q4⟩, h5⟩ := h l sz p e ha hc hk s m args below hf happ hP hK
  exact ⟨t, o, h1, h2, h3, ⟨⟨r, N, q1, hq r N q2, q3⟩, q4⟩, h5⟩
/-! locals -/
def jl : List (Nat × Value) → Nat → Option Value
  | [], _ => none
  | (j, v) :: r, i => bif Nat.beq j i then some v else jl r i
def jdel : List (Nat × Value) → Nat → List (Nat × Value)
  | [], _ => []
  | (j, v) :: r, i => bif Nat.beq j i then jdel r i else (j, v) :: jdel r i
def js : List (Nat × Value) → Nat → Value → List (Nat × Value)
  | [], i, v => [(i, v)]
  | (j, w) :: r, i, v => bif Nat.beq j i then (i, v) :: jdel r i else (j, w) :: js r i v
/-- no two-word value stands just ahead of i -/
def jok : List (Nat × Value) → Nat → Bool
  | [], _ => true
  | (j, v) :: r, i => (bif Nat.beq (j + 1) i then Nat.beq v.category 1 else true) && jok r i
/-- nothing stands at i -/
def jno : List (Nat × Value) → Nat → Bool
  | [], _ => true
  | (j, _) :: r, i => (bif Nat.beq j i then false else true) && jno r i
theorem jl_mem : ∀ {lv : List (Nat × Value)} {i : Nat} {v : Value}, jl lv i = some v → (i, v) ∈ lv
  | [], _, _, h => by cases h
  | (j, w) :: r, i, v, h => by
    unfold jl at h
    cases hb : Nat.beq j i with
    | true =>
      rw [hb] at h
      have hji := Nat.eq_of_beq_eq_true hb
      subst hji
      cases h
      exact List.mem_cons_self
    | false =>
      rw [hb] at h
      exact List.mem_cons_of_mem _ (jl_mem h)
theorem jdel_mem : ∀ {lv : List (Nat × Value)} {i : Nat} {q : Nat × Value}, q ∈ jdel lv i → q ∈ lv ∧ q.1 ≠ i
  | [], _, _, h => by cases h
  | (j, w) :: r, i, q, h => by
    unfold jdel at h
    cases hb : Nat.beq j i with
    | true =>
      rw [hb] at h
      obtain ⟨h1, h2⟩ := jdel_mem (lv := r) h
      exact ⟨List.mem_cons_of_mem _ h1, h2⟩
    | false =>
      rw [hb] at h
      rcases List.mem_cons.mp h with rfl | h
      · exact ⟨List.mem_cons_self, Nat.ne_of_beq_eq_false hb⟩
      · obtain ⟨h1, h2⟩ := jdel_mem (lv := r) h
        exact ⟨List.mem_cons_of_mem _ h1, h2⟩
theorem js_mem : ∀ {lv : List (Nat × Value)} {i : Nat} {v : Value} {q : Nat × Value}, q ∈ js lv i v → q = (i, v) ∨ (q ∈ lv ∧ q.1 ≠ i)
  | [], _, _, _, h => Or.inl (List.mem_singleton.mp h)
  | (j, w) :: r, i, v, q, h => by
    unfold js at h
    cases hb : Nat.beq j i with
    | true =>
      rw [hb] at h
      rcases List.mem_cons.mp h with h | h
      · exact Or.inl h
      · obtain ⟨h1, h2⟩ := jdel_mem h
        exact Or.inr ⟨List.mem_cons_of_mem _ h1, h2⟩
    | false =>
      rw [hb] at h
      rcases List.mem_cons.mp h with rfl | h
      · exact Or.inr ⟨List.mem_cons_self, Nat.ne_of_beq_eq_false hb⟩
      · rcases js_mem (lv := r) h with h | ⟨h1, h2⟩
        · exact Or.inl h
        · exact Or.inr ⟨List.mem_cons_of_mem _ h1, h2⟩
theorem jok_mem : ∀ {lv : List (Nat × Value)} {i : Nat}, jok lv i = true → ∀ q ∈ lv, q.1 + 1 = i → q.2.category = 1
  | [], _, _, _, h, _ => by cases h
  | (j, w) :: r, i, h, q, hq, e => by
    unfold jok at h
    rw [Bool.and_eq_true] at h
    rcases List.mem_cons.mp hq with rfl | hq
    · have hb : Nat.beq (j + 1) i = true := by rw [Nat.beq_eq]; exact e
      rw [hb] at h
      exact Nat.eq_of_beq_eq_true h.1
    · exact jok_mem h.2 q hq e
theorem jno_mem : ∀ {lv : List (Nat × Value)} {i : Nat}, jno lv i = true → ∀ q ∈ lv, q.1 ≠ i
  | [], _, _, _, h => by cases h
  | (j, w) :: r, i, h, q, hq => by
    unfold jno at h
    rw [Bool.and_eq_true] at h
    rcases List.mem_cons.mp hq with rfl | hq
    · intro e
      have hb : Nat.beq j i = true := by rw [Nat.beq_eq]; exact e
      rw [hb] at h
      exact absurd h.1 (by decide)
    · exact jno_mem h.2 q hq
theorem lv_has_sub {ls : Array Slot} {nL : Nat} {a b : List (Nat × Value)} (h : lv_has ls nL a) (hs : ∀ q ∈ b, q ∈ a) : lv_has ls nL b := ⟨h.1, h.2.1, fun q hq => h.2.2 q (hs q hq)⟩
theorem js_has1 {ls : Array Slot} {nL : Nat} {lv : List (Nat × Value)} {i : Nat} {v : Value} (hok : jok lv i = true) (h : lv_has ls nL ((i, v) :: lv.filter (fun q => !(q.1 == i) && !(q.1 + 1 == i && q.2.category == 2)))) : lv_has ls nL (js lv i v) := by
  refine lv_has_sub h (fun q hq => ?_)
  rcases js_mem hq with rfl | ⟨h1, h2⟩
  · exact List.mem_cons_self
  · refine List.mem_cons_of_mem _ (List.mem_filter.mpr ⟨h1, ?_⟩)
    by_cases h3 : q.1 + 1 = i
    · have := jok_mem hok q h1 h3
      simp [h2, this]
    · simp [h2, h3]
theorem js_has2 {ls : Array Slot} {nL : Nat} {lv : List (Nat × Value)} {i : Nat} {v : Value} (hok : jok lv i = true) (hno : jno lv (i + 1) = true) (h : lv_has ls nL ((i, v) :: lv.filter (fun q => !(q.1 == i) && (!(q.1 == i + 1) && !(q.1 + 1 == i && q.2.category == 2))))) : lv_has ls nL (js lv i v) := by
  refine lv_has_sub h (fun q hq => ?_)
  rcases js_mem hq with rfl | ⟨h1, h2⟩
  · exact List.mem_cons_self
  · refine List.mem_cons_of_mem _ (List.mem_filter.mpr ⟨h1, ?_⟩)
    have h4 := jno_mem hno q h1
    by_cases h3 : q.1 + 1 = i
    · have := jok_mem hok q h1 h3
      simp [h2, this, h4]
    · simp [h2, h3, h4]
/-! what a call gives back, put into its places -/
def jsets : va_W → List (Nat × (Nat × va_E)) → va_W
  | M, [] => M
  | M, (i, c) :: r => jsets (M.set i c) r
def jput (M : va_W) (is : List Nat) (N : va_W) : va_W := jsets M (is.zip N) ++ N.drop is.length
theorem jsets_len : ∀ (L : List (Nat × (Nat × va_E))) (M : va_W), (jsets M L).length = M.length
  | [], _ => rfl
  | (i, c) :: r, M => by
    show (jsets (M.set i c) r).length = M.length
    rw [jsets_len r, List.length_set]
theorem jsets_get : ∀ (L : List (Nat × (Nat × va_E))) (M : va_W) (k : Nat) (q : Nat × va_E), (jsets M L)[k]? = some q → (k, q) ∈ L ∨ (M[k]? = some q ∧ ∀ c, (k, c) ∉ L)
  | [], _, _, _, h => Or.inr ⟨h, fun _ => List.not_mem_nil⟩
  | (i, c) :: r, M, k, q, h => by
    have h' : (jsets (M.set i c) r)[k]? = some q := h
    rcases jsets_get r _ k q h' with h1 | ⟨h1, h2⟩
    · exact Or.inl (List.mem_cons_of_mem _ h1)
    · by_cases hk : i = k
      · subst hk
        have hl : i < M.length := by
          have := (List.getElem?_eq_some_iff.mp h1).1
          rwa [List.length_set] at this
        rw [List.getElem?_set_self hl] at h1
        cases h1
        exact Or.inl List.mem_cons_self
      · rw [List.getElem?_set_ne hk] at h1
        refine Or.inr ⟨h1, fun c' hc => ?_⟩
        rcases List.mem_cons.mp hc with hc | hc
        · exact hk (congrArg Prod.fst hc).symm
        · exact h2 c' hc
theorem jsets_same : ∀ (L : List (Nat × (Nat × va_E))) (M : va_W), (∀ q ∈ L, M[q.1]? = some q.2) → jsets M L = M
  | [], _, _ => rfl
  | (i, c) :: r, M, h => by
    have h1 : M[i]? = some c := h (i, c) List.mem_cons_self
    have h2 : M.set i c = M := by
      apply List.ext_getElem?
      intro k
      by_cases hk : i = k
      · subst hk
        rw [List.getElem?_set_self (List.getElem?_eq_some_iff.mp h1).1, h1]
      · rw [List.getElem?_set_ne hk]
    show jsets (M.set i c) r = M
    rw [h2]
    exact jsets_same r M (fun q hq => h q (List.mem_cons_of_mem _ hq))
theorem zip_get : ∀ {α β : Type} (a : List α) (b : List β) (x : α) (y : β), (x, y) ∈ a.zip b → ∃ t : Nat, a[t]? = some x ∧ b[t]? = some y := by
  intro α β a b x y h
  obtain ⟨t, ht⟩ := List.getElem?_of_mem h
  rw [List.getElem?_zip_eq_some] at ht
  exact ⟨t, ht⟩
theorem map_get {M Mc : va_W} {is : List Nat} (hC : is.map (fun i => M[i]?) = Mc.map some) {t i : Nat} (h : is[t]? = some i) : ∃ c, Mc[t]? = some c ∧ M[i]? = some c := by
  have h1 : (is.map (fun i => M[i]?))[t]? = some (M[i]?) := by rw [List.getElem?_map, h]; rfl
  rw [hC, List.getElem?_map] at h1
  cases hm : Mc[t]? with
  | none => rw [hm] at h1; cases h1
  | some c =>
    rw [hm] at h1
    exact ⟨c, rfl, (Option.some.inj h1).symm⟩
theorem jput_same {M Mc : va_W} {is : List Nat} (hC : is.map (fun i => M[i]?) = Mc.map some) : jput M is Mc = M := by
  have hl : is.length = Mc.length := by have := congrArg List.length hC; simpa using this
  unfold jput
  rw [hl, List.drop_length, List.append_nil]
  refine jsets_same _ _ (fun q hq => ?_)
  obtain ⟨t, h1, h2⟩ := zip_get is Mc q.1 q.2 hq
  obtain ⟨c, h3, h4⟩ := map_get hC h1
  cases h2.symm.trans h3
  exact h4
theorem jput_world {A0 : Nat → Prop} {D : va_G} {cl : List vw_C} {M Mc N : va_W} {is : List Nat} {H H1 : Heap} (hP : va_P D cl M H) (hD : va_D A0 M) (hC : is.map (fun i => M[i]?) = Mc.map some)
    (hk : ∀ q : Nat, q < H.size → ¬ va_A Mc H.size q → H1[q]? = H[q]?) (hF : ∀ q, va_A Mc H.size q → A0 q) (hP1 : va_P D cl N H1) (hD1 : va_D (va_A Mc H.size) N)
    (hs : (N.take is.length).map Prod.fst = Mc.map Prod.fst) : va_P D cl (jput M is N) H1 ∧ va_D A0 (jput M is N) := by
  have hlen : is.length = Mc.length := by have := congrArg List.length hC; simpa using this
  have key : ∀ (k : Nat) (q : Nat × va_E), (jput M is N)[k]? = some q → (k < M.length ∧ ((∃ t : Nat, is[t]? = some k ∧ N[t]? = some q) ∨ (M[k]? = some q ∧ k ∉ is))) ∨ (M.length ≤ k ∧ N[is.length + (k - M.length)]? = some q) := by
    intro k q h
    unfold jput at h
    by_cases hl : k < (jsets M (is.zip N)).length
    · rw [List.getElem?_append_left hl] at h
      rw [jsets_len] at hl
      refine Or.inl ⟨hl, ?_⟩
      rcases jsets_get _ _ _ _ h with h1 | ⟨h1, h2⟩
      · obtain ⟨t, a, b⟩ := zip_get is N k q h1
        exact Or.inl ⟨t, a, b⟩
      · refine Or.inr ⟨h1, fun hm => ?_⟩
        obtain ⟨t, ht⟩ := List.getElem?_of_mem hm
        have htl : t < Mc.length := by rw [← hlen]; exact (List.getElem?_eq_some_iff.mp ht).1
        have hN : t < N.length := by
          have := congrArg List.length hs
          simp at this
          omega
        refine h2 N[t] ?_
        refine List.mem_of_getElem? (i := t) ?_
        rw [List.getElem?_zip_eq_some]
        exact ⟨ht, List.getElem?_eq_getElem hN⟩
    · rw [List.getElem?_append_right (by omega), List.getElem?_drop] at h
      rw [jsets_len] at hl h
      exact Or.inr ⟨by omega, h⟩
  have fst : ∀ (t : Nat) (q c : Nat × va_E), t < is.length → N[t]? = some q → Mc[t]? = some c → q.1 = c.1 := by
    intro t q c ht hq hc
    have h1 : ((N.take is.length).map Prod.fst)[t]? = some q.1 := by rw [List.getElem?_map, List.getElem?_take_of_lt ht, hq]; rfl
    rw [hs, List.getElem?_map, hc] at h1
    exact (Option.some.inj h1).symm
  have apart : ∀ (k : Nat) (q : Nat × va_E), M[k]? = some q → k ∉ is → q.1 < H.size ∧ ¬ va_A Mc H.size q.1 := by
    intro k q hq hni
    have hl := (hP k q hq).lt
    refine ⟨hl, fun h => ?_⟩
    rcases h with ⟨t, e, h⟩ | h
    · have ht : t < is.length := by rw [hlen]; exact (List.getElem?_eq_some_iff.mp h).1
      obtain ⟨c, h3, h4⟩ := map_get hC (List.getElem?_eq_getElem ht)
      cases h.symm.trans h3
      have hij := hD.1 k is[t] q (q.1, e) hq h4 rfl
      exact hni (hij ▸ List.getElem_mem ht)
    · omega
  have old : ∀ (k : Nat) (q : Nat × va_E), k < M.length → ((∃ t : Nat, is[t]? = some k ∧ N[t]? = some q) ∨ (M[k]? = some q ∧ k ∉ is)) → ∃ q0, M[k]? = some q0 ∧ q0.1 = q.1 := by
    intro k q _ h
    rcases h with ⟨t, h1, h2⟩ | ⟨h1, _⟩
    · obtain ⟨c, h3, h4⟩ := map_get hC h1
      exact ⟨c, h4, (fst t q c (List.getElem?_eq_some_iff.mp h1).1 h2 h3).symm⟩
    · exact ⟨q, h1, rfl⟩
  have mixed : ∀ (i j : Nat) (x y : Nat × va_E), i < M.length → ((∃ t : Nat, is[t]? = some i ∧ N[t]? = some x) ∨ (M[i]? = some x ∧ i ∉ is)) → N[is.length + j]? = some y → x.1 ≠ y.1 := by
    intro i j x y _ hi hj hxy
    rcases hi with ⟨t, h1, h2⟩ | ⟨h1, h2⟩
    · have := hD1.1 _ _ x y h2 hj hxy
      have := (List.getElem?_eq_some_iff.mp h1).1
      omega
    · exact (apart i x h1 h2).2 (hxy ▸ hD1.2 _ y hj)
  refine ⟨fun k q h => ?_, fun i j x y hi hj hxy => ?_, fun k q h => ?_⟩
  · rcases key k q h with ⟨_, ⟨t, _, h2⟩ | ⟨h1, h2⟩⟩ | ⟨_, h1⟩
    · exact hP1 t q h2
    · obtain ⟨g1, g2⟩ := apart k q h1 h2
      exact (hP k q h1).kept (hk q.1 g1 g2)
    · exact hP1 _ q h1
  · rcases key i x hi with ⟨li, gi⟩ | ⟨li, gi⟩ <;> rcases key j y hj with ⟨lj, gj⟩ | ⟨lj, gj⟩
    · obtain ⟨x0, h1, h2⟩ := old i x li gi
      obtain ⟨y0, h3, h4⟩ := old j y lj gj
      exact hD.1 i j x0 y0 h1 h3 (h2.trans (hxy.trans h4.symm))
    · exact absurd hxy (mixed i _ x y li gi gj)
    · exact absurd hxy.symm (mixed j _ y x lj gj gi)
    · have := hD1.1 _ _ x y gi gj hxy
      omega
  · rcases key k q h with ⟨lk, g⟩ | ⟨_, g⟩
    · obtain ⟨q0, h1, h2⟩ := old k q lk g
      rw [← h2]
      exact hD.2 k q0 h1
    · exact hF _ (hD1.2 _ q g)
end
section
theorem j_top {E : jD} {Y : jY} {Z : jZ} {k n pc : Nat} {lv : List (Nat × Value)} {st : List Value} {M : va_W} {x : Int32} (z : Int) (h : x = iI z) (kk : J E Y Z k n pc lv (.int (iI z) :: st) M) : J E Y Z k n pc lv (.int x :: st) M := by
  rw [h]; exact kk
theorem j_eqM {E : jD} {Y : jY} {Z : jZ} {k n pc : Nat} {lv : List (Nat × Value)} {st : List Value} {M : va_W} {M' : va_W} (h : M = M') (kk : J E Y Z k n pc lv st M') : J E Y Z k n pc lv st M := by
  rw [h]; exact kk
theorem j_eqS {E : jD} {Y : jY} {Z : jZ} {k n pc : Nat} {lv : List (Nat × Value)} {st : List Value} {M : va_W} {st' : List Value} (h : st = st') (kk : J E Y Z k n pc lv st' M) : J E Y Z k n pc lv st M := by
  rw [h]; exact kk
theorem j_eqL {E : jD} {Y : jY} {Z : jZ} {k n pc : Nat} {lv : List (Nat × Value)} {st : List Value} {M : va_W} {lv' : List (Nat × Value)} (h : lv = lv') (kk : J E Y Z k n pc lv' st M) : J E Y Z k n pc lv st M := by
  rw [h]; exact kk
theorem j_widen {E : jD} {Y : jY} {Z : jZ} {k n pc : Nat} {lv : List (Nat × Value)} {st : List Value} {M : va_W} {k' n' : Nat} (h1 : k ≤ k') (h2 : n ≤ n') (kk : J E Y Z k' n' pc lv st M) : J E Y Z k n pc lv st M := by
  intro p l e s m args below meth c A C H locs ls hl hP hD hS
  obtain ⟨hx, hb, hml, hr, hlk, ho, hnm, hts, hK, hA, hX⟩ := id C
  exact W.widen h1 h2 (kk p l e s m args below meth c A C H locs ls hl hP hD hS)
theorem j_sub {E : jD} {Y : jY} {Z : jZ} {k n pc : Nat} {lv : List (Nat × Value)} {st : List Value} {M : va_W} {lv' : List (Nat × Value)} (h : ∀ q ∈ lv', q ∈ lv) (kk : J E Y Z k n pc lv' st M) : J E Y Z k n pc lv st M := by
  intro p l e s m args below meth c A C H locs ls hl hP hD hS
  obtain ⟨hx, hb, hml, hr, hlk, ho, hnm, hts, hK, hA, hX⟩ := id C
  exact kk p l e s m args below meth c A C H locs ls (lv_has_sub hl h) hP hD hS
theorem j_iconst {E : jD} {Y : jY} {Z : jZ} {k n pc : Nat} {lv : List (Nat × Value)} {st : List Value} {M : va_W} (pc' : Nat) {z : Int} (hdg : decode Y.2.1 pc = .ok (.iconst z, 1)) (kk : J E Y Z k n pc' lv (.int (iI z) :: st) M) (hpc : pc + 1 = pc' := by rfl) : J E Y Z k n pc lv (st) M := by
  subst hpc
  intro p l e s m args below meth c A C H locs ls hl hP hD hS
  obtain ⟨hx, hb, hml, hr, hlk, ho, hnm, hts, hK, hA, hX⟩ := id C
  exact lv_iconst hx hb hdg rfl (kk p l e s m args below meth c A C H locs ls hl hP hD hS)
theorem j_bipush {E : jD} {Y : jY} {Z : jZ} {k n pc : Nat} {lv : List (Nat × Value)} {st : List Value} {M : va_W} (pc' : Nat) {z : Int} (hdg : decode Y.2.1 pc = .ok (.bipush z, 2)) (hv : (Int8.ofInt z).toInt32 = iI z) (kk : J E Y Z k n pc' lv (.int (iI z) :: st) M) (hpc : pc + 2 = pc' := by rfl) : J E Y Z k n pc lv (st) M := by
  subst hpc
  intro p l e s m args below meth c A C H locs ls hl hP hD hS
  obtain ⟨hx, hb, hml, hr, hlk, ho, hnm, hts, hK, hA, hX⟩ := id C
  exact lv_bipush hx hb hdg hv (kk p l e s m args below meth c A C H locs ls hl hP hD hS)
theorem j_sipush {E : jD} {Y : jY} {Z : jZ} {k n pc : Nat} {lv : List (Nat × Value)} {st : List Value} {M : va_W} (pc' : Nat) {z : Int} (hdg : decode Y.2.1 pc = .ok (.sipush z, 3)) (hv : (Int16.ofInt z).toInt32 = iI z) (kk : J E Y Z k n pc' lv (.int (iI z) :: st) M) (hpc : pc + 3 = pc' := by rfl) : J E Y Z k n pc lv (st) M := by
  subst hpc
  intro p l e s m args below meth c A C H locs ls hl hP hD hS
  obtain ⟨hx, hb, hml, hr, hlk, ho, hnm, hts, hK, hA, hX⟩ := id C
  exact lv_sipush hx hb hdg hv (kk p l e s m args below meth c A C H locs ls hl hP hD hS)
theorem j_lconst {E : jD} {Y : jY} {Z : jZ} {k n pc : Nat} {lv : List (Nat × Value)} {st : List Value} {M : va_W} (pc' : Nat) {z : Fin 2} (v : Int64) (hdg : decode Y.2.1 pc = .ok (.lconst z, 1)) (hv : Int64.ofNat (z : Nat) = v) (kk : J E Y Z k n pc' lv (.long v :: st) M) (hpc : pc + 1 = pc' := by rfl) : J E Y Z k n pc lv (st) M := by
  subst hpc
  intro p l e s m args below meth c A C H locs ls hl hP hD hS
  obtain ⟨hx, hb, hml, hr, hlk, ho, hnm, hts, hK, hA, hX⟩ := id C
  exact lv_lconst hx hb hdg hv (kk p l e s m args below meth c A C H locs ls hl hP hD hS)
theorem j_ldcw {E : jD} {Y : jY} {Z : jZ} {k n pc : Nat} {lv : List (Nat × Value)} {st : List Value} {M : va_W} (pc' : Nat) {i : Nat} {v : Int32} (hc : Cond.constant Y.1.cls i v ∈ jT) (hdg : decode Y.2.1 pc = .ok (.ldc_w i, 3)) (kk : J E Y Z k n pc' lv (.int v :: st) M) (hpc : pc + 3 = pc' := by rfl) : J E Y Z k n pc lv (st) M := by
  subst hpc
  intro p l e s m args below meth c A C H locs ls hl hP hD hS
  obtain ⟨hx, hb, hml, hr, hlk, ho, hnm, hts, hK, hA, hX⟩ := id C
  exact lv_ldcw hx hb ho (hts _ hc) hdg (kk p l e s m args below meth c A C H locs ls hl hP hD hS)
theorem j_ldc2 {E : jD} {Y : jY} {Z : jZ} {k n pc : Nat} {lv : List (Nat × Value)} {st : List Value} {M : va_W} (pc' : Nat) {i : Nat} {v : Int64} (hc : Cond.constantLong Y.1.cls i v ∈ jT) (hdg : decode Y.2.1 pc = .ok (.ldc2_w i, 3)) (kk : J E Y Z k n pc' lv (.long v :: st) M) (hpc : pc + 3 = pc' := by rfl) : J E Y Z k n pc lv (st) M := by
  subst hpc
  intro p l e s m args below meth c A C H locs ls hl hP hD hS
  obtain ⟨hx, hb, hml, hr, hlk, ho, hnm, hts, hK, hA, hX⟩ := id C
  exact lv_ldc2 hx hb ho (hts _ hc) hdg (kk p l e s m args below meth c A C H locs ls hl hP hD hS)
theorem j_iload_0 {E : jD} {Y : jY} {Z : jZ} {k n pc : Nat} {lv : List (Nat × Value)} {st : List Value} {M : va_W} (pc' : Nat) {x : Int32} (hdg : decode Y.2.1 pc = .ok (.iload_n 0, 1)) (hv : jl lv 0 = some (.int x)) (kk : J E Y Z k n pc' lv (.int x :: st) M) (hpc : pc + 1 = pc' := by rfl) : J E Y Z k n pc lv (st) M := by
  subst hpc
  intro p l e s m args below meth c A C H locs ls hl hP hD hS
  obtain ⟨hx, hb, hml, hr, hlk, ho, hnm, hts, hK, hA, hX⟩ := id C
  exact lv_iload_n (i := 0) hx hb hdg rfl (hl.2.2 _ (jl_mem hv)) (kk p l e s m args below meth c A C H locs ls hl hP hD hS)
theorem j_iload_1 {E : jD} {Y : jY} {Z : jZ} {k n pc : Nat} {lv : List (Nat × Value)} {st : List Value} {M : va_W} (pc' : Nat) {x : Int32} (hdg : decode Y.2.1 pc = .ok (.iload_n 1, 1)) (hv : jl lv 1 = some (.int x)) (kk : J E Y Z k n pc' lv (.int x :: st) M) (hpc : pc + 1 = pc' := by rfl) : J E Y Z k n pc lv (st) M := by
  subst hpc
  intro p l e s m args below meth c A C H locs ls hl hP hD hS
  obtain ⟨hx, hb, hml, hr, hlk, ho, hnm, hts, hK, hA, hX⟩ := id C
  exact lv_iload_n (i := 1) hx hb hdg rfl (hl.2.2 _ (jl_mem hv)) (kk p l e s m args below meth c A C H locs ls hl hP hD hS)
theorem j_iload_2 {E : jD} {Y : jY} {Z : jZ} {k n pc : Nat} {lv : List (Nat × Value)} {st : List Value} {M : va_W} (pc' : Nat) {x : Int32} (hdg : decode Y.2.1 pc = .ok (.iload_n 2, 1)) (hv : jl lv 2 = some (.int x)) (kk : J E Y Z k n pc' lv (.int x :: st) M) (hpc : pc + 1 = pc' := by rfl) : J E Y Z k n pc lv (st) M := by
  subst hpc
  intro p l e s m args below meth c A C H locs ls hl hP hD hS
  obtain ⟨hx, hb, hml, hr, hlk, ho, hnm, hts, hK, hA, hX⟩ := id C
  exact lv_iload_n (i := 2) hx hb hdg rfl (hl.2.2 _ (jl_mem hv)) (kk p l e s m args below meth c A C H locs ls hl hP hD hS)
theorem j_iload_3 {E : jD} {Y : jY} {Z : jZ} {k n pc : Nat} {lv : List (Nat × Value)} {st : List Value} {M : va_W} (pc' : Nat) {x : Int32} (hdg : decode Y.2.1 pc = .ok (.iload_n 3, 1)) (hv : jl lv 3 = some (.int x)) (kk : J E Y Z k n pc' lv (.int x :: st) M) (hpc : pc + 1 = pc' := by rfl) : J E Y Z k n pc lv (st) M := by
  subst hpc
  intro p l e s m args below meth c A C H locs ls hl hP hD hS
  obtain ⟨hx, hb, hml, hr, hlk, ho, hnm, hts, hK, hA, hX⟩ := id C
  exact lv_iload_n (i := 3) hx hb hdg rfl (hl.2.2 _ (jl_mem hv)) (kk p l e s m args below meth c A C H locs ls hl hP hD hS)
theorem j_iload {E : jD} {Y : jY} {Z : jZ} {k n pc : Nat} {lv : List (Nat × Value)} {st : List Value} {M : va_W} (pc' : Nat) {i : Nat} {x : Int32} (hdg : decode Y.2.1 pc = .ok (.iload i, 2)) (hv : jl lv i = some (.int x)) (kk : J E Y Z k n pc' lv (.int x :: st) M) (hpc : pc + 2 = pc' := by rfl) : J E Y Z k n pc lv (st) M := by
  subst hpc
  intro p l e s m args below meth c A C H locs ls hl hP hD hS
  obtain ⟨hx, hb, hml, hr, hlk, ho, hnm, hts, hK, hA, hX⟩ := id C
  exact lv_iload hx hb hdg (hl.2.2 _ (jl_mem hv)) (kk p l e s m args below meth c A C H locs ls hl hP hD hS)
theorem j_lload_0 {E : jD} {Y : jY} {Z : jZ} {k n pc : Nat} {lv : List (Nat × Value)} {st : List Value} {M : va_W} (pc' : Nat) {x : Int64} (hdg : decode Y.2.1 pc = .ok (.lload_n 0, 1)) (hv : jl lv 0 = some (.long x)) (kk : J E Y Z k n pc' lv (.long x :: st) M) (hpc : pc + 1 = pc' := by rfl) : J E Y Z k n pc lv (st) M := by
  subst hpc
  intro p l e s m args below meth c A C H locs ls hl hP hD hS
  obtain ⟨hx, hb, hml, hr, hlk, ho, hnm, hts, hK, hA, hX⟩ := id C
  exact lv_lload_n (i := 0) hx hb hdg rfl (hl.2.2 _ (jl_mem hv)) (kk p l e s m args below meth c A C H locs ls hl hP hD hS)
theorem j_lload_1 {E : jD} {Y : jY} {Z : jZ} {k n pc : Nat} {lv : List (Nat × Value)} {st : List Value} {M : va_W} (pc' : Nat) {x : Int64} (hdg : decode Y.2.1 pc = .ok (.lload_n 1, 1)) (hv : jl lv 1 = some (.long x)) (kk : J E Y Z k n pc' lv (.long x :: st) M) (hpc : pc + 1 = pc' := by rfl) : J E Y Z k n pc lv (st) M := by
  subst hpc
  intro p l e s m args below meth c A C H locs ls hl hP hD hS
  obtain ⟨hx, hb, hml, hr, hlk, ho, hnm, hts, hK, hA, hX⟩ := id C
  exact lv_lload_n (i := 1) hx hb hdg rfl (hl.2.2 _ (jl_mem hv)) (kk p l e s m args below meth c A C H locs ls hl hP hD hS)
theorem j_lload_2 {E : jD} {Y : jY} {Z : jZ} {k n pc : Nat} {lv : List (Nat × Value)} {st : List Value} {M : va_W} (pc' : Nat) {x : Int64} (hdg : decode Y.2.1 pc = .ok (.lload_n 2, 1)) (hv : jl lv 2 = some (.long x)) (kk : J E Y Z k n pc' lv (.long x :: st) M) (hpc : pc + 1 = pc' := by rfl) : J E Y Z k n pc lv (st) M := by
  subst hpc
  intro p l e s m args below meth c A C H locs ls hl hP hD hS
  obtain ⟨hx, hb, hml, hr, hlk, ho, hnm, hts, hK, hA, hX⟩ := id C
  exact lv_lload_n (i := 2) hx hb hdg rfl (hl.2.2 _ (jl_mem hv)) (kk p l e s m args below meth c A C H locs ls hl hP hD hS)
theorem j_lload_3 {E : jD} {Y : jY} {Z : jZ} {k n pc : Nat} {lv : List (Nat × Value)} {st : List Value} {M : va_W} (pc' : Nat) {x : Int64} (hdg : decode Y.2.1 pc = .ok (.lload_n 3, 1)) (hv : jl lv 3 = some (.long x)) (kk : J E Y Z k n pc' lv (.long x :: st) M) (hpc : pc + 1 = pc' := by rfl) : J E Y Z k n pc lv (st) M := by
  subst hpc
  intro p l e s m args below meth c A C H locs ls hl hP hD hS
  obtain ⟨hx, hb, hml, hr, hlk, ho, hnm, hts, hK, hA, hX⟩ := id C
  exact lv_lload_n (i := 3) hx hb hdg rfl (hl.2.2 _ (jl_mem hv)) (kk p l e s m args below meth c A C H locs ls hl hP hD hS)
theorem j_lload {E : jD} {Y : jY} {Z : jZ} {k n pc : Nat} {lv : List (Nat × Value)} {st : List Value} {M : va_W} (pc' : Nat) {i : Nat} {x : Int64} (hdg : decode Y.2.1 pc = .ok (.lload i, 2)) (hv : jl lv i = some (.long x)) (kk : J E Y Z k n pc' lv (.long x :: st) M) (hpc : pc + 2 = pc' := by rfl) : J E Y Z k n pc lv (st) M := by
  subst hpc
  intro p l e s m args below meth c A C H locs ls hl hP hD hS
  obtain ⟨hx, hb, hml, hr, hlk, ho, hnm, hts, hK, hA, hX⟩ := id C
  exact lv_lload hx hb hdg (hl.2.2 _ (jl_mem hv)) (kk p l e s m args below meth c A C H locs ls hl hP hD hS)
theorem j_aload_0 {E : jD} {Y : jY} {Z : jZ} {k n pc : Nat} {lv : List (Nat × Value)} {st : List Value} {M : va_W} (pc' : Nat) {x : Nat} (hdg : decode Y.2.1 pc = .ok (.aload_n 0, 1)) (hv : jl lv 0 = some (.ref x)) (kk : J E Y Z k n pc' lv (.ref x :: st) M) (hpc : pc + 1 = pc' := by rfl) : J E Y Z k n pc lv (st) M := by
  subst hpc
  intro p l e s m args below meth c A C H locs ls hl hP hD hS
  obtain ⟨hx, hb, hml, hr, hlk, ho, hnm, hts, hK, hA, hX⟩ := id C
  exact lv_aload_n (i := 0) hx hb hdg rfl (hl.2.2 _ (jl_mem hv)) (kk p l e s m args below meth c A C H locs ls hl hP hD hS)
theorem j_aload_1 {E : jD} {Y : jY} {Z : jZ} {k n pc : Nat} {lv : List (Nat × Value)} {st : List Value} {M : va_W} (pc' : Nat) {x : Nat} (hdg : decode Y.2.1 pc = .ok (.aload_n 1, 1)) (hv : jl lv 1 = some (.ref x)) (kk : J E Y Z k n pc' lv (.ref x :: st) M) (hpc : pc + 1 = pc' := by rfl) : J E Y Z k n pc lv (st) M := by
  subst hpc
  intro p l e s m args below meth c A C H locs ls hl hP hD hS
  obtain ⟨hx, hb, hml, hr, hlk, ho, hnm, hts, hK, hA, hX⟩ := id C
  exact lv_aload_n (i := 1) hx hb hdg rfl (hl.2.2 _ (jl_mem hv)) (kk p l e s m args below meth c A C H locs ls hl hP hD hS)
theorem j_aload_2 {E : jD} {Y : jY} {Z : jZ} {k n pc : Nat} {lv : List (Nat × Value)} {st : List Value} {M : va_W} (pc' : Nat) {x : Nat} (hdg : decode Y.2.1 pc = .ok (.aload_n 2, 1)) (hv : jl lv 2 = some (.ref x)) (kk : J E Y Z k n pc' lv (.ref x :: st) M) (hpc : pc + 1 = pc' := by rfl) : J E Y Z k n pc lv (st) M := by
  subst hpc
  intro p l e s m args below meth c A C H locs ls hl hP hD hS
  obtain ⟨hx, hb, hml, hr, hlk, ho, hnm, hts, hK, hA, hX⟩ := id C
  exact lv_aload_n (i := 2) hx hb hdg rfl (hl.2.2 _ (jl_mem hv)) (kk p l e s m args below meth c A C H locs ls hl hP hD hS)
theorem j_aload_3 {E : jD} {Y : jY} {Z : jZ} {k n pc : Nat} {lv : List (Nat × Value)} {st : List Value} {M : va_W} (pc' : Nat) {x : Nat} (hdg : decode Y.2.1 pc = .ok (.aload_n 3, 1)) (hv : jl lv 3 = some (.ref x)) (kk : J E Y Z k n pc' lv (.ref x :: st) M) (hpc : pc + 1 = pc' := by rfl) : J E Y Z k n pc lv (st) M := by
  subst hpc
  intro p l e s m args below meth c A C H locs ls hl hP hD hS
  obtain ⟨hx, hb, hml, hr, hlk, ho, hnm, hts, hK, hA, hX⟩ := id C
  exact lv_aload_n (i := 3) hx hb hdg rfl (hl.2.2 _ (jl_mem hv)) (kk p l e s m args below meth c A C H locs ls hl hP hD hS)
theorem j_aload {E : jD} {Y : jY} {Z : jZ} {k n pc : Nat} {lv : List (Nat × Value)} {st : List Value} {M : va_W} (pc' : Nat) {i : Nat} {x : Nat} (hdg : decode Y.2.1 pc = .ok (.aload i, 2)) (hv : jl lv i = some (.ref x)) (kk : J E Y Z k n pc' lv (.ref x :: st) M) (hpc : pc + 2 = pc' := by rfl) : J E Y Z k n pc lv (st) M := by
  subst hpc
  intro p l e s m args below meth c A C H locs ls hl hP hD hS
  obtain ⟨hx, hb, hml, hr, hlk, ho, hnm, hts, hK, hA, hX⟩ := id C
  exact lv_aload hx hb hdg (hl.2.2 _ (jl_mem hv)) (kk p l e s m args below meth c A C H locs ls hl hP hD hS)
theorem j_istore_0 {E : jD} {Y : jY} {Z : jZ} {k n pc : Nat} {lv : List (Nat × Value)} {st : List Value} {M : va_W} (pc' : Nat) {x : Int32} {lv' : List (Nat × Value)} (hdg : decode Y.2.1 pc = .ok (.istore_n 0, 1)) (hs : js lv 0 (.int x) = lv') (hok : jok lv 0 = true ∧ Nat.blt 0 Y.2.2.1 = true) (kk : J E Y Z k n pc' lv' st M) (hpc : pc + 1 = pc' := by rfl) : J E Y Z k n pc lv (.int x :: st) M := by
  subst hpc
  subst hs
  intro p l e s m args below meth c A C H locs ls hl hP hD hS
  obtain ⟨hx, hb, hml, hr, hlk, ho, hnm, hts, hK, hA, hX⟩ := id C
  exact lv_istore_n (i := 0) hx hb hdg rfl hl (Nat.le_of_ble_eq_true hok.2) rfl (fun ls' hl' => kk p l e s m args below meth c A C H locs ls' (js_has1 hok.1 hl') hP hD hS)
theorem j_istore_1 {E : jD} {Y : jY} {Z : jZ} {k n pc : Nat} {lv : List (Nat × Value)} {st : List Value} {M : va_W} (pc' : Nat) {x : Int32} {lv' : List (Nat × Value)} (hdg : decode Y.2.1 pc = .ok (.istore_n 1, 1)) (hs : js lv 1 (.int x) = lv') (hok : jok lv 1 = true ∧ Nat.blt 1 Y.2.2.1 = true) (kk : J E Y Z k n pc' lv' st M) (hpc : pc + 1 = pc' := by rfl) : J E Y Z k n pc lv (.int x :: st) M := by
  subst hpc
  subst hs
  intro p l e s m args below meth c A C H locs ls hl hP hD hS
  obtain ⟨hx, hb, hml, hr, hlk, ho, hnm, hts, hK, hA, hX⟩ := id C
  exact lv_istore_n (i := 1) hx hb hdg rfl hl (Nat.le_of_ble_eq_true hok.2) rfl (fun ls' hl' => kk p l e s m args below meth c A C H locs ls' (js_has1 hok.1 hl') hP hD hS)
theorem j_istore_2 {E : jD} {Y : jY} {Z : jZ} {k n pc : Nat} {lv : List (Nat × Value)} {st : List Value} {M : va_W} (pc' : Nat) {x : Int32} {lv' : List (Nat × Value)} (hdg : decode Y.2.1 pc = .ok (.istore_n 2, 1)) (hs : js lv 2 (.int x) = lv') (hok : jok lv 2 = true ∧ Nat.blt 2 Y.2.2.1 = true) (kk : J E Y Z k n pc' lv' st M) (hpc : pc + 1 = pc' := by rfl) : J E Y Z k n pc lv (.int x :: st) M := by
  subst hpc
  subst hs
  intro p l e s m args below meth c A C H locs ls hl hP hD hS
  obtain ⟨hx, hb, hml, hr, hlk, ho, hnm, hts, hK, hA, hX⟩ := id C
  exact lv_istore_n (i := 2) hx hb hdg rfl hl (Nat.le_of_ble_eq_true hok.2) rfl (fun ls' hl' => kk p l e s m args below meth c A C H locs ls' (js_has1 hok.1 hl') hP hD hS)
theorem j_istore_3 {E : jD} {Y : jY} {Z : jZ} {k n pc : Nat} {lv : List (Nat × Value)} {st : List Value} {M : va_W} (pc' : Nat) {x : Int32} {lv' : List (Nat × Value)} (hdg : decode Y.2.1 pc = .ok (.istore_n 3, 1)) (hs : js lv 3 (.int x) = lv') (hok : jok lv 3 = true ∧ Nat.blt 3 Y.2.2.1 = true) (kk : J E Y Z k n pc' lv' st M) (hpc : pc + 1 = pc' := by rfl) : J E Y Z k n pc lv (.int x :: st) M := by
  subst hpc
  subst hs
  intro p l e s m args below meth c A C H locs ls hl hP hD hS
  obtain ⟨hx, hb, hml, hr, hlk, ho, hnm, hts, hK, hA, hX⟩ := id C
  exact lv_istore_n (i := 3) hx hb hdg rfl hl (Nat.le_of_ble_eq_true hok.2) rfl (fun ls' hl' => kk p l e s m args below meth c A C H locs ls' (js_has1 hok.1 hl') hP hD hS)
theorem j_istore {E : jD} {Y : jY} {Z : jZ} {k n pc : Nat} {lv : List (Nat × Value)} {st : List Value} {M : va_W} (pc' : Nat) {i : Nat} {x : Int32} {lv' : List (Nat × Value)} (hdg : decode Y.2.1 pc = .ok (.istore i, 2)) (hs : js lv i (.int x) = lv') (hok : jok lv i = true ∧ Nat.blt i Y.2.2.1 = true) (kk : J E Y Z k n pc' lv' st M) (hpc : pc + 2 = pc' := by rfl) : J E Y Z k n pc lv (.int x :: st) M := by
  subst hpc
  subst hs
  intro p l e s m args below meth c A C H locs ls hl hP hD hS
  obtain ⟨hx, hb, hml, hr, hlk, ho, hnm, hts, hK, hA, hX⟩ := id C
  exact lv_istore hx hb hdg hl (Nat.le_of_ble_eq_true hok.2) rfl (fun ls' hl' => kk p l e s m args below meth c A C H locs ls' (js_has1 hok.1 hl') hP hD hS)
theorem j_lstore_0 {E : jD} {Y : jY} {Z : jZ} {k n pc : Nat} {lv : List (Nat × Value)} {st : List Value} {M : va_W} (pc' : Nat) {x : Int64} {lv' : List (Nat × Value)} (hdg : decode Y.2.1 pc = .ok (.lstore_n 0, 1)) (hs : js lv 0 (.long x) = lv') (hok : jok lv 0 = true ∧ Nat.blt (0 + 1) Y.2.2.1 = true ∧ jno lv (0 + 1) = true) (kk : J E Y Z k n pc' lv' st M) (hpc : pc + 1 = pc' := by rfl) : J E Y Z k n pc lv (.long x :: st) M := by
  subst hpc
  subst hs
  intro p l e s m args below meth c A C H locs ls hl hP hD hS
  obtain ⟨hx, hb, hml, hr, hlk, ho, hnm, hts, hK, hA, hX⟩ := id C
  exact lv_lstore_n (i := 0) hx hb hdg rfl hl (Nat.le_of_ble_eq_true hok.2.1) rfl (fun ls' hl' => kk p l e s m args below meth c A C H locs ls' (js_has2 hok.1 hok.2.2 hl') hP hD hS)
theorem j_lstore_1 {E : jD} {Y : jY} {Z : jZ} {k n pc : Nat} {lv : List (Nat × Value)} {st : List Value} {M : va_W} (pc' : Nat) {x : Int64} {lv' : List (Nat × Value)} (hdg : decode Y.2.1 pc = .ok (.lstore_n 1, 1)) (hs : js lv 1 (.long x) = lv') (hok : jok lv 1 = true ∧ Nat.blt (1 + 1) Y.2.2.1 = true ∧ jno lv (1 + 1) = true) (kk : J E Y Z k n pc' lv' st M) (hpc : pc + 1 = pc' := by rfl) : J E Y Z k n pc lv (.long x :: st) M := by
  subst hpc
  subst hs
  intro p l e s m args below meth c A C H locs ls hl hP hD hS
  obtain ⟨hx, hb, hml, hr, hlk, ho, hnm, hts, hK, hA, hX⟩ := id C
  exact lv_lstore_n (i := 1) hx hb hdg rfl hl (Nat.le_of_ble_eq_true hok.2.1) rfl (fun ls' hl' => kk p l e s m args below meth c A C H locs ls' (js_has2 hok.1 hok.2.2 hl') hP hD hS)
theorem j_lstore_2 {E : jD} {Y : jY} {Z : jZ} {k n pc : Nat} {lv : List (Nat × Value)} {st : List Value} {M : va_W} (pc' : Nat) {x : Int64} {lv' : List (Nat × Value)} (hdg : decode Y.2.1 pc = .ok (.lstore_n 2, 1)) (hs : js lv 2 (.long x) = lv') (hok : jok lv 2 = true ∧ Nat.blt (2 + 1) Y.2.2.1 = true ∧ jno lv (2 + 1) = true) (kk : J E Y Z k n pc' lv' st M) (hpc : pc + 1 = pc' := by rfl) : J E Y Z k n pc lv (.long x :: st) M := by
  subst hpc
  subst hs
  intro p l e s m args below meth c A C H locs ls hl hP hD hS
  obtain ⟨hx, hb, hml, hr, hlk, ho, hnm, hts, hK, hA, hX⟩ := id C
  exact lv_lstore_n (i := 2) hx hb hdg rfl hl (Nat.le_of_ble_eq_true hok.2.1) rfl (fun ls' hl' => kk p l e s m args below meth c A C H locs ls' (js_has2 hok.1 hok.2.2 hl') hP hD hS)
theorem j_lstore_3 {E : jD} {Y : jY} {Z : jZ} {k n pc : Nat} {lv : List (Nat × Value)} {st : List Value} {M : va_W} (pc' : Nat) {x : Int64} {lv' : List (Nat × Value)} (hdg : decode Y.2.1 pc = .ok (.lstore_n 3, 1)) (hs : js lv 3 (.long x) = lv') (hok : jok lv 3 = true ∧ Nat.blt (3 + 1) Y.2.2.1 = true ∧ jno lv (3 + 1) = true) (kk : J E Y Z k n pc' lv' st M) (hpc : pc + 1 = pc' := by rfl) : J E Y Z k n pc lv (.long x :: st) M := by
  subst hpc
  subst hs
  intro p l e s m args below meth c A C H locs ls hl hP hD hS
  obtain ⟨hx, hb, hml, hr, hlk, ho, hnm, hts, hK, hA, hX⟩ := id C
  exact lv_lstore_n (i := 3) hx hb hdg rfl hl (Nat.le_of_ble_eq_true hok.2.1) rfl (fun ls' hl' => kk p l e s m args below meth c A C H locs ls' (js_has2 hok.1 hok.2.2 hl') hP hD hS)
theorem j_lstore {E : jD} {Y : jY} {Z : jZ} {k n pc : Nat} {lv : List (Nat × Value)} {st : List Value} {M : va_W} (pc' : Nat) {i : Nat} {x : Int64} {lv' : List (Nat × Value)} (hdg : decode Y.2.1 pc = .ok (.lstore i, 2)) (hs : js lv i (.long x) = lv') (hok : jok lv i = true ∧ Nat.blt (i + 1) Y.2.2.1 = true ∧ jno lv (i + 1) = true) (kk : J E Y Z k n pc' lv' st M) (hpc : pc + 2 = pc' := by rfl) : J E Y Z k n pc lv (.long x :: st) M := by
  subst hpc
  subst hs
  intro p l e s m args below meth c A C H locs ls hl hP hD hS
  obtain ⟨hx, hb, hml, hr, hlk, ho, hnm, hts, hK, hA, hX⟩ := id C
  exact lv_lstore hx hb hdg hl (Nat.le_of_ble_eq_true hok.2.1) rfl (fun ls' hl' => kk p l e s m args below meth c A C H locs ls' (js_has2 hok.1 hok.2.2 hl') hP hD hS)
theorem j_astore_0 {E : jD} {Y : jY} {Z : jZ} {k n pc : Nat} {lv : List (Nat × Value)} {st : List Value} {M : va_W} (pc' : Nat) {x : Nat} {lv' : List (Nat × Value)} (hdg : decode Y.2.1 pc = .ok (.astore_n 0, 1)) (hs : js lv 0 (.ref x) = lv') (hok : jok lv 0 = true ∧ Nat.blt 0 Y.2.2.1 = true) (kk : J E Y Z k n pc' lv' st M) (hpc : pc + 1 = pc' := by rfl) : J E Y Z k n pc lv (.ref x :: st) M := by
  subst hpc
  subst hs
  intro p l e s m args below meth c A C H locs ls hl hP hD hS
  obtain ⟨hx, hb, hml, hr, hlk, ho, hnm, hts, hK, hA, hX⟩ := id C
  exact lv_astore_n (i := 0) hx hb hdg rfl hl (Nat.le_of_ble_eq_true hok.2) rfl (fun ls' hl' => kk p l e s m args below meth c A C H locs ls' (js_has1 hok.1 hl') hP hD hS)
theorem j_astore_1 {E : jD} {Y : jY} {Z : jZ} {k n pc : Nat} {lv : List (Nat × Value)} {st : List Value} {M : va_W} (pc' : Nat) {x : Nat} {lv' : List (Nat × Value)} (hdg : decode Y.2.1 pc = .ok (.astore_n 1, 1)) (hs : js lv 1 (.ref x) = lv') (hok : jok lv 1 = true ∧ Nat.blt 1 Y.2.2.1 = true) (kk : J E Y Z k n pc' lv' st M) (hpc : pc + 1 = pc' := by rfl) : J E Y Z k n pc lv (.ref x :: st) M := by
  subst hpc
  subst hs
  intro p l e s m args below meth c A C H locs ls hl hP hD hS
  obtain ⟨hx, hb, hml, hr, hlk, ho, hnm, hts, hK, hA, hX⟩ := id C
  exact lv_astore_n (i := 1) hx hb hdg rfl hl (Nat.le_of_ble_eq_true hok.2) rfl (fun ls' hl' => kk p l e s m args below meth c A C H locs ls' (js_has1 hok.1 hl') hP hD hS)
theorem j_astore_2 {E : jD} {Y : jY} {Z : jZ} {k n pc : Nat} {lv : List (Nat × Value)} {st : List Value} {M : va_W} (pc' : Nat) {x : Nat} {lv' : List (Nat × Value)} (hdg : decode Y.2.1 pc = .ok (.astore_n 2, 1)) (hs : js lv 2 (.ref x) = lv') (hok : jok lv 2 = true ∧ Nat.blt 2 Y.2.2.1 = true) (kk : J E Y Z k n pc' lv' st M) (hpc : pc + 1 = pc' := by rfl) : J E Y Z k n pc lv (.ref x :: st) M := by
  subst hpc
  subst hs
  intro p l e s m args below meth c A C H locs ls hl hP hD hS
  obtain ⟨hx, hb, hml, hr, hlk, ho, hnm, hts, hK, hA, hX⟩ := id C
  exact lv_astore_n (i := 2) hx hb hdg rfl hl (Nat.le_of_ble_eq_true hok.2) rfl (fun ls' hl' => kk p l e s m args below meth c A C H locs ls' (js_has1 hok.1 hl') hP hD hS)
theorem j_astore_3 {E : jD} {Y : jY} {Z : jZ} {k n pc : Nat} {lv : List (Nat × Value)} {st : List Value} {M : va_W} (pc' : Nat) {x : Nat} {lv' : List (Nat × Value)} (hdg : decode Y.2.1 pc = .ok (.astore_n 3, 1)) (hs : js lv 3 (.ref x) = lv') (hok : jok lv 3 = true ∧ Nat.blt 3 Y.2.2.1 = true) (kk : J E Y Z k n pc' lv' st M) (hpc : pc + 1 = pc' := by rfl) : J E Y Z k n pc lv (.ref x :: st) M := by
  subst hpc
  subst hs
  intro p l e s m args below meth c A C H locs ls hl hP hD hS
  obtain ⟨hx, hb, hml, hr, hlk, ho, hnm, hts, hK, hA, hX⟩ := id C
  exact lv_astore_n (i := 3) hx hb hdg rfl hl (Nat.le_of_ble_eq_true hok.2) rfl (fun ls' hl' => kk p l e s m args below meth c A C H locs ls' (js_has1 hok.1 hl') hP hD hS)
theorem j_astore {E : jD} {Y : jY} {Z : jZ} {k n pc : Nat} {lv : List (Nat × Value)} {st : List Value} {M : va_W} (pc' : Nat) {i : Nat} {x : Nat} {lv' : List (Nat × Value)} (hdg : decode Y.2.1 pc = .ok (.astore i, 2)) (hs : js lv i (.ref x) = lv') (hok : jok lv i = true ∧ Nat.blt i Y.2.2.1 = true) (kk : J E Y Z k n pc' lv' st M) (hpc : pc + 2 = pc' := by rfl) : J E Y Z k n pc lv (.ref x :: st) M := by
  subst hpc
  subst hs
  intro p l e s m args below meth c A C H locs ls hl hP hD hS
  obtain ⟨hx, hb, hml, hr, hlk, ho, hnm, hts, hK, hA, hX⟩ := id C
  exact lv_astore hx hb hdg hl (Nat.le_of_ble_eq_true hok.2) rfl (fun ls' hl' => kk p l e s m args below meth c A C H locs ls' (js_has1 hok.1 hl') hP hD hS)
theorem j_iinc {E : jD} {Y : jY} {Z : jZ} {k n pc : Nat} {lv : List (Nat × Value)} {st : List Value} {M : va_W} (pc' : Nat) {i : Nat} {z a : Int} {lv' : List (Nat × Value)} (hdg : decode Y.2.1 pc = .ok (.iinc i z, 3)) (hv : jl lv i = some (.int (iI a))) (hs : js lv i (.int (iI (a + z))) = lv') (hok : jok lv i = true ∧ Nat.blt i Y.2.2.1 = true) (kk : J E Y Z k n pc' lv' st M) (hpc : pc + 3 = pc' := by rfl) : J E Y Z k n pc lv st M := by
  subst hpc
  subst hs
  intro p l e s m args below meth c A C H locs ls hl hP hD hS
  obtain ⟨hx, hb, hml, hr, hlk, ho, hnm, hts, hK, hA, hX⟩ := id C
  obtain ⟨q, hq⟩ := List.getElem?_of_mem (jl_mem hv)
  exact lv_iinc hx hb hdg hl hq (iI_add a z) (Nat.le_of_ble_eq_true hok.2) rfl (fun ls' hl' => kk p l e s m args below meth c A C H locs ls' (js_has1 hok.1 hl') hP hD hS)
theorem j_iadd {E : jD} {Y : jY} {Z : jZ} {k n pc : Nat} {lv : List (Nat × Value)} {st : List Value} {M : va_W} (pc' : Nat) {a b : Int} (hdg : decode Y.2.1 pc = .ok (.iadd, 1)) (kk : J E Y Z k n pc' lv (.int (iI (a + b)) :: st) M) (hpc : pc + 1 = pc' := by rfl) : J E Y Z k n pc lv (.int (iI b) :: .int (iI a) :: st) M := by
  subst hpc
  intro p l e s m args below meth c A C H locs ls hl hP hD hS
  obtain ⟨hx, hb, hml, hr, hlk, ho, hnm, hts, hK, hA, hX⟩ := id C
  exact lv_iadd hx hb hdg (by rw [iI_add]; exact (kk p l e s m args below meth c A C H locs ls hl hP hD hS))
theorem j_iaddx {E : jD} {Y : jY} {Z : jZ} {k n pc : Nat} {lv : List (Nat × Value)} {st : List Value} {M : va_W} (pc' : Nat) {x y : Int32} (hdg : decode Y.2.1 pc = .ok (.iadd, 1)) (kk : J E Y Z k n pc' lv (.int (x + y) :: st) M) (hpc : pc + 1 = pc' := by rfl) : J E Y Z k n pc lv (.int y :: .int x :: st) M := by
  subst hpc
  intro p l e s m args below meth c A C H locs ls hl hP hD hS
  obtain ⟨hx, hb, hml, hr, hlk, ho, hnm, hts, hK, hA, hX⟩ := id C
  exact lv_iadd hx hb hdg (kk p l e s m args below meth c A C H locs ls hl hP hD hS)
theorem j_isub {E : jD} {Y : jY} {Z : jZ} {k n pc : Nat} {lv : List (Nat × Value)} {st : List Value} {M : va_W} (pc' : Nat) {a b : Int} (hdg : decode Y.2.1 pc = .ok (.isub, 1)) (kk : J E Y Z k n pc' lv (.int (iI (a - b)) :: st) M) (hpc : pc + 1 = pc' := by rfl) : J E Y Z k n pc lv (.int (iI b) :: .int (iI a) :: st) M := by
  subst hpc
  intro p l e s m args below meth c A C H locs ls hl hP hD hS
  obtain ⟨hx, hb, hml, hr, hlk, ho, hnm, hts, hK, hA, hX⟩ := id C
  exact lv_isub hx hb hdg (by rw [iI_sub]; exact (kk p l e s m args below meth c A C H locs ls hl hP hD hS))
theorem j_isubx {E : jD} {Y : jY} {Z : jZ} {k n pc : Nat} {lv : List (Nat × Value)} {st : List Value} {M : va_W} (pc' : Nat) {x y : Int32} (hdg : decode Y.2.1 pc = .ok (.isub, 1)) (kk : J E Y Z k n pc' lv (.int (x - y) :: st) M) (hpc : pc + 1 = pc' := by rfl) : J E Y Z k n pc lv (.int y :: .int x :: st) M := by
  subst hpc
  intro p l e s m args below meth c A C H locs ls hl hP hD hS
  obtain ⟨hx, hb, hml, hr, hlk, ho, hnm, hts, hK, hA, hX⟩ := id C
  exact lv_isub hx hb hdg (kk p l e s m args below meth c A C H locs ls hl hP hD hS)
theorem j_imul {E : jD} {Y : jY} {Z : jZ} {k n pc : Nat} {lv : List (Nat × Value)} {st : List Value} {M : va_W} (pc' : Nat) {a b : Int} (hdg : decode Y.2.1 pc = .ok (.imul, 1)) (kk : J E Y Z k n pc' lv (.int (iI (a * b)) :: st) M) (hpc : pc + 1 = pc' := by rfl) : J E Y Z k n pc lv (.int (iI b) :: .int (iI a) :: st) M := by
  subst hpc
  intro p l e s m args below meth c A C H locs ls hl hP hD hS
  obtain ⟨hx, hb, hml, hr, hlk, ho, hnm, hts, hK, hA, hX⟩ := id C
  exact lv_imul hx hb hdg (by rw [iI_mul]; exact (kk p l e s m args below meth c A C H locs ls hl hP hD hS))
theorem j_imulx {E : jD} {Y : jY} {Z : jZ} {k n pc : Nat} {lv : List (Nat × Value)} {st : List Value} {M : va_W} (pc' : Nat) {x y : Int32} (hdg : decode Y.2.1 pc = .ok (.imul, 1)) (kk : J E Y Z k n pc' lv (.int (x * y) :: st) M) (hpc : pc + 1 = pc' := by rfl) : J E Y Z k n pc lv (.int y :: .int x :: st) M := by
  subst hpc
  intro p l e s m args below meth c A C H locs ls hl hP hD hS
  obtain ⟨hx, hb, hml, hr, hlk, ho, hnm, hts, hK, hA, hX⟩ := id C
  exact lv_imul hx hb hdg (kk p l e s m args below meth c A C H locs ls hl hP hD hS)
theorem j_ladd {E : jD} {Y : jY} {Z : jZ} {k n pc : Nat} {lv : List (Nat × Value)} {st : List Value} {M : va_W} (pc' : Nat) {x y : Int64} (hdg : decode Y.2.1 pc = .ok (.ladd, 1)) (kk : J E Y Z k n pc' lv (.long (x + y) :: st) M) (hpc : pc + 1 = pc' := by rfl) : J E Y Z k n pc lv (.long y :: .long x :: st) M := by
  subst hpc
  intro p l e s m args below meth c A C H locs ls hl hP hD hS
  obtain ⟨hx, hb, hml, hr, hlk, ho, hnm, hts, hK, hA, hX⟩ := id C
  exact lv_ladd hx hb hdg (kk p l e s m args below meth c A C H locs ls hl hP hD hS)
theorem j_lsub {E : jD} {Y : jY} {Z : jZ} {k n pc : Nat} {lv : List (Nat × Value)} {st : List Value} {M : va_W} (pc' : Nat) {x y : Int64} (hdg : decode Y.2.1 pc = .ok (.lsub, 1)) (kk : J E Y Z k n pc' lv (.long (x - y) :: st) M) (hpc : pc + 1 = pc' := by rfl) : J E Y Z k n pc lv (.long y :: .long x :: st) M := by
  subst hpc
  intro p l e s m args below meth c A C H locs ls hl hP hD hS
  obtain ⟨hx, hb, hml, hr, hlk, ho, hnm, hts, hK, hA, hX⟩ := id C
  exact lv_lsub hx hb hdg (kk p l e s m args below meth c A C H locs ls hl hP hD hS)
theorem j_lmul {E : jD} {Y : jY} {Z : jZ} {k n pc : Nat} {lv : List (Nat × Value)} {st : List Value} {M : va_W} (pc' : Nat) {x y : Int64} (hdg : decode Y.2.1 pc = .ok (.lmul, 1)) (kk : J E Y Z k n pc' lv (.long (x * y) :: st) M) (hpc : pc + 1 = pc' := by rfl) : J E Y Z k n pc lv (.long y :: .long x :: st) M := by
  subst hpc
  intro p l e s m args below meth c A C H locs ls hl hP hD hS
  obtain ⟨hx, hb, hml, hr, hlk, ho, hnm, hts, hK, hA, hX⟩ := id C
  exact lv_lmul hx hb hdg (kk p l e s m args below meth c A C H locs ls hl hP hD hS)
theorem j_land {E : jD} {Y : jY} {Z : jZ} {k n pc : Nat} {lv : List (Nat × Value)} {st : List Value} {M : va_W} (pc' : Nat) {x y : Int64} (hdg : decode Y.2.1 pc = .ok (.land, 1)) (kk : J E Y Z k n pc' lv (.long (x &&& y) :: st) M) (hpc : pc + 1 = pc' := by rfl) : J E Y Z k n pc lv (.long y :: .long x :: st) M := by
  subst hpc
  intro p l e s m args below meth c A C H locs ls hl hP hD hS
  obtain ⟨hx, hb, hml, hr, hlk, ho, hnm, hts, hK, hA, hX⟩ := id C
  exact lv_land hx hb hdg (kk p l e s m args below meth c A C H locs ls hl hP hD hS)
theorem j_lor {E : jD} {Y : jY} {Z : jZ} {k n pc : Nat} {lv : List (Nat × Value)} {st : List Value} {M : va_W} (pc' : Nat) {x y : Int64} (hdg : decode Y.2.1 pc = .ok (.lor, 1)) (kk : J E Y Z k n pc' lv (.long (x ||| y) :: st) M) (hpc : pc + 1 = pc' := by rfl) : J E Y Z k n pc lv (.long y :: .long x :: st) M := by
  subst hpc
  intro p l e s m args below meth c A C H locs ls hl hP hD hS
  obtain ⟨hx, hb, hml, hr, hlk, ho, hnm, hts, hK, hA, hX⟩ := id C
  exact lv_lor hx hb hdg (kk p l e s m args below meth c A C H locs ls hl hP hD hS)
theorem j_iand {E : jD} {Y : jY} {Z : jZ} {k n pc : Nat} {lv : List (Nat × Value)} {st : List Value} {M : va_W} (pc' : Nat) {x y : Int32} (hdg : decode Y.2.1 pc = .ok (.iand, 1)) (kk : J E Y Z k n pc' lv (.int (x &&& y) :: st) M) (hpc : pc + 1 = pc' := by rfl) : J E Y Z k n pc lv (.int y :: .int x :: st) M := by
  subst hpc
  intro p l e s m args below meth c A C H locs ls hl hP hD hS
  obtain ⟨hx, hb, hml, hr, hlk, ho, hnm, hts, hK, hA, hX⟩ := id C
  exact lv_iand hx hb hdg (kk p l e s m args below meth c A C H locs ls hl hP hD hS)
theorem j_ior {E : jD} {Y : jY} {Z : jZ} {k n pc : Nat} {lv : List (Nat × Value)} {st : List Value} {M : va_W} (pc' : Nat) {x y : Int32} (hdg : decode Y.2.1 pc = .ok (.ior, 1)) (kk : J E Y Z k n pc' lv (.int (x ||| y) :: st) M) (hpc : pc + 1 = pc' := by rfl) : J E Y Z k n pc lv (.int y :: .int x :: st) M := by
  subst hpc
  intro p l e s m args below meth c A C H locs ls hl hP hD hS
  obtain ⟨hx, hb, hml, hr, hlk, ho, hnm, hts, hK, hA, hX⟩ := id C
  exact lv_ior hx hb hdg (kk p l e s m args below meth c A C H locs ls hl hP hD hS)
theorem j_ishl {E : jD} {Y : jY} {Z : jZ} {k n pc : Nat} {lv : List (Nat × Value)} {st : List Value} {M : va_W} (pc' : Nat) {x y : Int32} (hdg : decode Y.2.1 pc = .ok (.ishl, 1)) (kk : J E Y Z k n pc' lv (.int (x <<< (y &&& 31)) :: st) M) (hpc : pc + 1 = pc' := by rfl) : J E Y Z k n pc lv (.int y :: .int x :: st) M := by
  subst hpc
  intro p l e s m args below meth c A C H locs ls hl hP hD hS
  obtain ⟨hx, hb, hml, hr, hlk, ho, hnm, hts, hK, hA, hX⟩ := id C
  exact lv_ishl hx hb hdg (kk p l e s m args below meth c A C H locs ls hl hP hD hS)
theorem j_ishr {E : jD} {Y : jY} {Z : jZ} {k n pc : Nat} {lv : List (Nat × Value)} {st : List Value} {M : va_W} (pc' : Nat) {x y : Int32} (hdg : decode Y.2.1 pc = .ok (.ishr, 1)) (kk : J E Y Z k n pc' lv (.int (x >>> (y &&& 31)) :: st) M) (hpc : pc + 1 = pc' := by rfl) : J E Y Z k n pc lv (.int y :: .int x :: st) M := by
  subst hpc
  intro p l e s m args below meth c A C H locs ls hl hP hD hS
  obtain ⟨hx, hb, hml, hr, hlk, ho, hnm, hts, hK, hA, hX⟩ := id C
  exact lv_ishr hx hb hdg (kk p l e s m args below meth c A C H locs ls hl hP hD hS)
theorem j_iushr {E : jD} {Y : jY} {Z : jZ} {k n pc : Nat} {lv : List (Nat × Value)} {st : List Value} {M : va_W} (pc' : Nat) {x y : Int32} (hdg : decode Y.2.1 pc = .ok (.iushr, 1)) (kk : J E Y Z k n pc' lv (.int ((x.toUInt32 >>> (y.toUInt32 &&& Int32.toUInt32 31)).toInt32) :: st) M) (hpc : pc + 1 = pc' := by rfl) : J E Y Z k n pc lv (.int y :: .int x :: st) M := by
  subst hpc
  intro p l e s m args below meth c A C H locs ls hl hP hD hS
  obtain ⟨hx, hb, hml, hr, hlk, ho, hnm, hts, hK, hA, hX⟩ := id C
  exact lv_iushr hx hb hdg rfl (kk p l e s m args below meth c A C H locs ls hl hP hD hS)
theorem j_lushr {E : jD} {Y : jY} {Z : jZ} {k n pc : Nat} {lv : List (Nat × Value)} {st : List Value} {M : va_W} (pc' : Nat) {x : Int64} {y : Int32} (hdg : decode Y.2.1 pc = .ok (.lushr, 1)) (kk : J E Y Z k n pc' lv (.long ((x.toUInt64 >>> (y.toInt64.toUInt64 &&& Int64.toUInt64 63)).toInt64) :: st) M) (hpc : pc + 1 = pc' := by rfl) : J E Y Z k n pc lv (.int y :: .long x :: st) M := by
  subst hpc
  intro p l e s m args below meth c A C H locs ls hl hP hD hS
  obtain ⟨hx, hb, hml, hr, hlk, ho, hnm, hts, hK, hA, hX⟩ := id C
  exact lv_lushr hx hb hdg rfl (kk p l e s m args below meth c A C H locs ls hl hP hD hS)
theorem j_lshl {E : jD} {Y : jY} {Z : jZ} {k n pc : Nat} {lv : List (Nat × Value)} {st : List Value} {M : va_W} (pc' : Nat) {x : Int64} {y : Int32} (hdg : decode Y.2.1 pc = .ok (.lshl, 1)) (kk : J E Y Z k n pc' lv (.long (x <<< (y.toInt64 &&& 63)) :: st) M) (hpc : pc + 1 = pc' := by rfl) : J E Y Z k n pc lv (.int y :: .long x :: st) M := by
  subst hpc
  intro p l e s m args below meth c A C H locs ls hl hP hD hS
  obtain ⟨hx, hb, hml, hr, hlk, ho, hnm, hts, hK, hA, hX⟩ := id C
  exact lv_lshl hx hb hdg rfl (kk p l e s m args below meth c A C H locs ls hl hP hD hS)
theorem j_i2l {E : jD} {Y : jY} {Z : jZ} {k n pc : Nat} {lv : List (Nat × Value)} {st : List Value} {M : va_W} (pc' : Nat) {x : Int32} (hdg : decode Y.2.1 pc = .ok (.i2l, 1)) (kk : J E Y Z k n pc' lv (.long x.toInt64 :: st) M) (hpc : pc + 1 = pc' := by rfl) : J E Y Z k n pc lv (.int x :: st) M := by
  subst hpc
  intro p l e s m args below meth c A C H locs ls hl hP hD hS
  obtain ⟨hx, hb, hml, hr, hlk, ho, hnm, hts, hK, hA, hX⟩ := id C
  exact lv_i2l hx hb hdg rfl (kk p l e s m args below meth c A C H locs ls hl hP hD hS)
theorem j_lcmp {E : jD} {Y : jY} {Z : jZ} {k n pc : Nat} {lv : List (Nat × Value)} {st : List Value} {M : va_W} (pc' : Nat) {x y : Int64} (hdg : decode Y.2.1 pc = .ok (.lcmp, 1)) (kk : J E Y Z k n pc' lv (.int (lg_cmp x y) :: st) M) (hpc : pc + 1 = pc' := by rfl) : J E Y Z k n pc lv (.long y :: .long x :: st) M := by
  subst hpc
  intro p l e s m args below meth c A C H locs ls hl hP hD hS
  obtain ⟨hx, hb, hml, hr, hlk, ho, hnm, hts, hK, hA, hX⟩ := id C
  exact W.lcmp hx hb hdg (kk p l e s m args below meth c A C H locs ls hl hP hD hS)
theorem iI_div {a b : Int} (ha : 0 ≤ a) (hb : 0 < b) (ra : jr a) (rb : jr b) : iI a / iI b = iI (a / b) := by
  apply Int32.toInt_inj.mp
  have h1 : a / b ≤ a := Int.ediv_le_self b ha
  have h2 : 0 ≤ a / b := Int.ediv_nonneg ha (by omega)
  rw [lg_idiv_nonneg (by rw [iI_t ra]; exact ha) (by rw [iI_t rb]; exact hb), iI_t ra, iI_t rb, iI_t ⟨by omega, by have := ra.2; omega⟩]
theorem iI_rem {a b : Int} (ha : 0 ≤ a) (hb : 0 < b) (ra : jr a) (rb : jr b) : iI a - iI a / iI b * iI b = iI (a % b) := by
  rw [iI_div ha hb ra rb, iI_mul, iI_sub, Int.emod_def, Int.mul_comm (a / b) b]
theorem iI_ne0 {b : Int} (hb : 0 < b) (rb : jr b) : ¬ iI b = 0 := by
  rw [← iI_0, iI_eq rb jr_0]; omega
theorem j_idiv {E : jD} {Y : jY} {Z : jZ} {k n pc : Nat} {lv : List (Nat × Value)} {st : List Value} {M : va_W} (pc' : Nat) {a b : Int} (hdg : decode Y.2.1 pc = .ok (.idiv, 1)) (ha : 0 ≤ a) (hb0 : 0 < b) (ra : jr a) (rb : jr b) (kk : J E Y Z k n pc' lv (.int (iI (a / b)) :: st) M) (hpc : pc + 1 = pc' := by rfl) : J E Y Z k n pc lv (.int (iI b) :: .int (iI a) :: st) M := by
  subst hpc
  intro p l e s m args below meth c A C H locs ls hl hP hD hS
  obtain ⟨hx, hb, hml, hr, hlk, ho, hnm, hts, hK, hA, hX⟩ := id C
  exact lv_idiv hx hb hdg (iI_ne0 hb0 rb) (by rw [iI_div ha hb0 ra rb]; exact (kk p l e s m args below meth c A C H locs ls hl hP hD hS))
theorem j_irem {E : jD} {Y : jY} {Z : jZ} {k n pc : Nat} {lv : List (Nat × Value)} {st : List Value} {M : va_W} (pc' : Nat) {a b : Int} (hdg : decode Y.2.1 pc = .ok (.irem, 1)) (ha : 0 ≤ a) (hb0 : 0 < b) (ra : jr a) (rb : jr b) (kk : J E Y Z k n pc' lv (.int (iI (a % b)) :: st) M) (hpc : pc + 1 = pc' := by rfl) : J E Y Z k n pc lv (.int (iI b) :: .int (iI a) :: st) M := by
  subst hpc
  intro p l e s m args below meth c A C H locs ls hl hP hD hS
  obtain ⟨hx, hb, hml, hr, hlk, ho, hnm, hts, hK, hA, hX⟩ := id C
  exact lv_irem hx hb hdg (iI_ne0 hb0 rb) (by rw [iI_rem ha hb0 ra rb]; exact (kk p l e s m args below meth c A C H locs ls hl hP hD hS))
theorem j_dup {E : jD} {Y : jY} {Z : jZ} {k n pc : Nat} {lv : List (Nat × Value)} {st : List Value} {M : va_W} (pc' : Nat) {va : Value} (hdg : decode Y.2.1 pc = .ok (.dup, 1)) (h1 : va.category = 1) (kk : J E Y Z k n pc' lv (va :: va :: st) M) (hpc : pc + 1 = pc' := by rfl) : J E Y Z k n pc lv (va :: st) M := by
  subst hpc
  intro p l e s m args below meth c A C H locs ls hl hP hD hS
  obtain ⟨hx, hb, hml, hr, hlk, ho, hnm, hts, hK, hA, hX⟩ := id C
  exact lv_dup hx hb hdg h1 (kk p l e s m args below meth c A C H locs ls hl hP hD hS)
theorem j_pop {E : jD} {Y : jY} {Z : jZ} {k n pc : Nat} {lv : List (Nat × Value)} {st : List Value} {M : va_W} (pc' : Nat) {va : Value} (hdg : decode Y.2.1 pc = .ok (.pop, 1)) (h1 : va.category = 1) (kk : J E Y Z k n pc' lv (st) M) (hpc : pc + 1 = pc' := by rfl) : J E Y Z k n pc lv (va :: st) M := by
  subst hpc
  intro p l e s m args below meth c A C H locs ls hl hP hD hS
  obtain ⟨hx, hb, hml, hr, hlk, ho, hnm, hts, hK, hA, hX⟩ := id C
  exact lv_pop hx hb hdg h1 (kk p l e s m args below meth c A C H locs ls hl hP hD hS)
theorem j_dup2 {E : jD} {Y : jY} {Z : jZ} {k n pc : Nat} {lv : List (Nat × Value)} {st : List Value} {M : va_W} (pc' : Nat) {va vb : Value} (hdg : decode Y.2.1 pc = .ok (.dup2, 1)) (h1 : va.category = 1) (h2 : vb.category = 1) (kk : J E Y Z k n pc' lv (va :: vb :: va :: vb :: st) M) (hpc : pc + 1 = pc' := by rfl) : J E Y Z k n pc lv (va :: vb :: st) M := by
  subst hpc
  intro p l e s m args below meth c A C H locs ls hl hP hD hS
  obtain ⟨hx, hb, hml, hr, hlk, ho, hnm, hts, hK, hA, hX⟩ := id C
  exact lv_dup2_11 hx hb hdg h1 h2 (kk p l e s m args below meth c A C H locs ls hl hP hD hS)
theorem j_icmp_eq {E : jD} {Y : jY} {Z : jZ} {k n pc : Nat} {lv : List (Nat × Value)} {st : List Value} {M : va_W} (tgt pc' : Nat) {a b off : Int} (hdg : decode Y.2.1 pc = .ok (.if_icmp .eq off, 3)) (ha : jr a) (hb0 : jr b) (kt : a = b → J E Y Z k n tgt lv st M) (kf : ¬ (a = b) → J E Y Z k n pc' lv st M) (ht : (pc : Int) + off = (tgt : Int) := by decide) (hpc : pc + 3 = pc' := by rfl) : J E Y Z k n pc lv (.int (iI b) :: .int (iI a) :: st) M := by
  subst hpc
  intro p l e s m args below meth c A C H locs ls hl hP hD hS
  obtain ⟨hx, hb, hml, hr, hlk, ho, hnm, hts, hK, hA, hX⟩ := id C
  refine lv_icmp_eq hx hb hdg ht (fun h => ?_) (fun h => ?_)
  · exact kt ((iI_eq ha hb0).mp (by first | exact h | simpa using h)) p l e s m args below meth c A C H locs ls hl hP hD hS
  · exact kf (fun h2 => h ((iI_eq ha hb0).mpr h2)) p l e s m args below meth c A C H locs ls hl hP hD hS
theorem j_if_eq {E : jD} {Y : jY} {Z : jZ} {k n pc : Nat} {lv : List (Nat × Value)} {st : List Value} {M : va_W} (tgt pc' : Nat) {a off : Int} (hdg : decode Y.2.1 pc = .ok (.ifCond .eq off, 3)) (ha : jr a) (kt : a = 0 → J E Y Z k n tgt lv st M) (kf : ¬ (a = 0) → J E Y Z k n pc' lv st M) (ht : (pc : Int) + off = (tgt : Int) := by decide) (hpc : pc + 3 = pc' := by rfl) : J E Y Z k n pc lv (.int (iI a) :: st) M := by
  subst hpc
  intro p l e s m args below meth c A C H locs ls hl hP hD hS
  obtain ⟨hx, hb, hml, hr, hlk, ho, hnm, hts, hK, hA, hX⟩ := id C
  refine lv_if_eq hx hb hdg ht (fun h => ?_) (fun h => ?_)
  · rw [← iI_0] at h
    exact kt ((iI_eq ha jr_0).mp (by first | exact h | simpa using h)) p l e s m args below meth c A C H locs ls hl hP hD hS
  · rw [← iI_0] at h
    exact kf (fun h2 => h ((iI_eq ha jr_0).mpr h2)) p l e s m args below meth c A C H locs ls hl hP hD hS
theorem j_icmp_ne {E : jD} {Y : jY} {Z : jZ} {k n pc : Nat} {lv : List (Nat × Value)} {st : List Value} {M : va_W} (tgt pc' : Nat) {a b off : Int} (hdg : decode Y.2.1 pc = .ok (.if_icmp .ne off, 3)) (ha : jr a) (hb0 : jr b) (kt : ¬ a = b → J E Y Z k n tgt lv st M) (kf : a = b → J E Y Z k n pc' lv st M) (ht : (pc : Int) + off = (tgt : Int) := by decide) (hpc : pc + 3 = pc' := by rfl) : J E Y Z k n pc lv (.int (iI b) :: .int (iI a) :: st) M := by
  subst hpc
  intro p l e s m args below meth c A C H locs ls hl hP hD hS
  obtain ⟨hx, hb, hml, hr, hlk, ho, hnm, hts, hK, hA, hX⟩ := id C
  refine lv_icmp_ne hx hb hdg ht (fun h => ?_) (fun h => ?_)
  · exact kt (((not_congr (iI_eq ha hb0))).mp (by first | exact h | simpa using h)) p l e s m args below meth c A C H locs ls hl hP hD hS
  · exact kf ((iI_eq ha hb0).mp h) p l e s m args below meth c A C H locs ls hl hP hD hS
theorem j_if_ne {E : jD} {Y : jY} {Z : jZ} {k n pc : Nat} {lv : List (Nat × Value)} {st : List Value} {M : va_W} (tgt pc' : Nat) {a off : Int} (hdg : decode Y.2.1 pc = .ok (.ifCond .ne off, 3)) (ha : jr a) (kt : ¬ a = 0 → J E Y Z k n tgt lv st M) (kf : a = 0 → J E Y Z k n pc' lv st M) (ht : (pc : Int) + off = (tgt : Int) := by decide) (hpc : pc + 3 = pc' := by rfl) : J E Y Z k n pc lv (.int (iI a) :: st) M := by
  subst hpc
  intro p l e s m args below meth c A C H locs ls hl hP hD hS
  obtain ⟨hx, hb, hml, hr, hlk, ho, hnm, hts, hK, hA, hX⟩ := id C
  refine lv_if_ne hx hb hdg ht (fun h => ?_) (fun h => ?_)
  · rw [← iI_0] at h
    exact kt (((not_congr (iI_eq ha jr_0))).mp (by first | exact h | simpa using h)) p l e s m args below meth c A C H locs ls hl hP hD hS
  · rw [← iI_0] at h
    exact kf ((iI_eq ha jr_0).mp h) p l e s m args below meth c A C H locs ls hl hP hD hS
theorem j_icmp_lt {E : jD} {Y : jY} {Z : jZ} {k n pc : Nat} {lv : List (Nat × Value)} {st : List Value} {M : va_W} (tgt pc' : Nat) {a b off : Int} (hdg : decode Y.2.1 pc = .ok (.if_icmp .lt off, 3)) (ha : jr a) (hb0 : jr b) (kt : a < b → J E Y Z k n tgt lv st M) (kf : ¬ (a < b) → J E Y Z k n pc' lv st M) (ht : (pc : Int) + off = (tgt : Int) := by decide) (hpc : pc + 3 = pc' := by rfl) : J E Y Z k n pc lv (.int (iI b) :: .int (iI a) :: st) M := by
  subst hpc
  intro p l e s m args below meth c A C H locs ls hl hP hD hS
  obtain ⟨hx, hb, hml, hr, hlk, ho, hnm, hts, hK, hA, hX⟩ := id C
  refine lv_icmp_lt hx hb hdg ht (fun h => ?_) (fun h => ?_)
  · exact kt ((iI_lt ha hb0).mp (by first | exact h | simpa using h)) p l e s m args below meth c A C H locs ls hl hP hD hS
  · exact kf (fun h2 => h ((iI_lt ha hb0).mpr h2)) p l e s m args below meth c A C H locs ls hl hP hD hS
theorem j_if_lt {E : jD} {Y : jY} {Z : jZ} {k n pc : Nat} {lv : List (Nat × Value)} {st : List Value} {M : va_W} (tgt pc' : Nat) {a off : Int} (hdg : decode Y.2.1 pc = .ok (.ifCond .lt off, 3)) (ha : jr a) (kt : a < 0 → J E Y Z k n tgt lv st M) (kf : ¬ (a < 0) → J E Y Z k n pc' lv st M) (ht : (pc : Int) + off = (tgt : Int) := by decide) (hpc : pc + 3 = pc' := by rfl) : J E Y Z k n pc lv (.int (iI a) :: st) M := by
  subst hpc
  intro p l e s m args below meth c A C H locs ls hl hP hD hS
  obtain ⟨hx, hb, hml, hr, hlk, ho, hnm, hts, hK, hA, hX⟩ := id C
  refine lv_if_lt hx hb hdg ht (fun h => ?_) (fun h => ?_)
  · rw [← iI_0] at h
    exact kt ((iI_lt ha jr_0).mp (by first | exact h | simpa using h)) p l e s m args below meth c A C H locs ls hl hP hD hS
  · rw [← iI_0] at h
    exact kf (fun h2 => h ((iI_lt ha jr_0).mpr h2)) p l e s m args below meth c A C H locs ls hl hP hD hS
theorem j_icmp_ge {E : jD} {Y : jY} {Z : jZ} {k n pc : Nat} {lv : List (Nat × Value)} {st : List Value} {M : va_W} (tgt pc' : Nat) {a b off : Int} (hdg : decode Y.2.1 pc = .ok (.if_icmp .ge off, 3)) (ha : jr a) (hb0 : jr b) (kt : b ≤ a → J E Y Z k n tgt lv st M) (kf : ¬ (b ≤ a) → J E Y Z k n pc' lv st M) (ht : (pc : Int) + off = (tgt : Int) := by decide) (hpc : pc + 3 = pc' := by rfl) : J E Y Z k n pc lv (.int (iI b) :: .int (iI a) :: st) M := by
  subst hpc
  intro p l e s m args below meth c A C H locs ls hl hP hD hS
  obtain ⟨hx, hb, hml, hr, hlk, ho, hnm, hts, hK, hA, hX⟩ := id C
  refine lv_icmp_ge hx hb hdg ht (fun h => ?_) (fun h => ?_)
  · exact kt ((iI_le hb0 ha).mp (by first | exact h | simpa using h)) p l e s m args below meth c A C H locs ls hl hP hD hS
  · exact kf (fun h2 => h ((iI_le hb0 ha).mpr h2)) p l e s m args below meth c A C H locs ls hl hP hD hS
theorem j_if_ge {E : jD} {Y : jY} {Z : jZ} {k n pc : Nat} {lv : List (Nat × Value)} {st : List Value} {M : va_W} (tgt pc' : Nat) {a off : Int} (hdg : decode Y.2.1 pc = .ok (.ifCond .ge off, 3)) (ha : jr a) (kt : 0 ≤ a → J E Y Z k n tgt lv st M) (kf : ¬ (0 ≤ a) → J E Y Z k n pc' lv st M) (ht : (pc : Int) + off = (tgt : Int) := by decide) (hpc : pc + 3 = pc' := by rfl) : J E Y Z k n pc lv (.int (iI a) :: st) M := by
  subst hpc
  intro p l e s m args below meth c A C H locs ls hl hP hD hS
  obtain ⟨hx, hb, hml, hr, hlk, ho, hnm, hts, hK, hA, hX⟩ := id C
  refine lv_if_ge hx hb hdg ht (fun h => ?_) (fun h => ?_)
  · rw [← iI_0] at h
    exact kt ((iI_le jr_0 ha).mp (by first | exact h | simpa using h)) p l e s m args below meth c A C H locs ls hl hP hD hS
  · rw [← iI_0] at h
    exact kf (fun h2 => h ((iI_le jr_0 ha).mpr h2)) p l e s m args below meth c A C H locs ls hl hP hD hS
theorem j_icmp_gt {E : jD} {Y : jY} {Z : jZ} {k n pc : Nat} {lv : List (Nat × Value)} {st : List Value} {M : va_W} (tgt pc' : Nat) {a b off : Int} (hdg : decode Y.2.1 pc = .ok (.if_icmp .gt off, 3)) (ha : jr a) (hb0 : jr b) (kt : b < a → J E Y Z k n tgt lv st M) (kf : ¬ (b < a) → J E Y Z k n pc' lv st M) (ht : (pc : Int) + off = (tgt : Int) := by decide) (hpc : pc + 3 = pc' := by rfl) : J E Y Z k n pc lv (.int (iI b) :: .int (iI a) :: st) M := by
  subst hpc
  intro p l e s m args below meth c A C H locs ls hl hP hD hS
  obtain ⟨hx, hb, hml, hr, hlk, ho, hnm, hts, hK, hA, hX⟩ := id C
  refine lv_icmp_gt hx hb hdg ht (fun h => ?_) (fun h => ?_)
  · exact kt ((iI_lt hb0 ha).mp (by first | exact h | simpa using h)) p l e s m args below meth c A C H locs ls hl hP hD hS
  · exact kf (fun h2 => h ((iI_lt hb0 ha).mpr h2)) p l e s m args below meth c A C H locs ls hl hP hD hS
theorem j_if_gt {E : jD} {Y : jY} {Z : jZ} {k n pc : Nat} {lv : List (Nat × Value)} {st : List Value} {M : va_W} (tgt pc' : Nat) {a off : Int} (hdg : decode Y.2.1 pc = .ok (.ifCond .gt off, 3)) (ha : jr a) (kt : 0 < a → J E Y Z k n tgt lv st M) (kf : ¬ (0 < a) → J E Y Z k n pc' lv st M) (ht : (pc : Int) + off = (tgt : Int) := by decide) (hpc : pc + 3 = pc' := by rfl) : J E Y Z k n pc lv (.int (iI a) :: st) M := by
  subst hpc
  intro p l e s m args below meth c A C H locs ls hl hP hD hS
  obtain ⟨hx, hb, hml, hr, hlk, ho, hnm, hts, hK, hA, hX⟩ := id C
  refine lv_if_gt hx hb hdg ht (fun h => ?_) (fun h => ?_)
  · rw [← iI_0] at h
    exact kt ((iI_lt jr_0 ha).mp (by first | exact h | simpa using h)) p l e s m args below meth c A C H locs ls hl hP hD hS
  · rw [← iI_0] at h
    exact kf (fun h2 => h ((iI_lt jr_0 ha).mpr h2)) p l e s m args below meth c A C H locs ls hl hP hD hS
theorem j_icmp_le {E : jD} {Y : jY} {Z : jZ} {k n pc : Nat} {lv : List (Nat × Value)} {st : List Value} {M : va_W} (tgt pc' : Nat) {a b off : Int} (hdg : decode Y.2.1 pc = .ok (.if_icmp .le off, 3)) (ha : jr a) (hb0 : jr b) (kt : a ≤ b → J E Y Z k n tgt lv st M) (kf : ¬ (a ≤ b) → J E Y Z k n pc' lv st M) (ht : (pc : Int) + off = (tgt : Int) := by decide) (hpc : pc + 3 = pc' := by rfl) : J E Y Z k n pc lv (.int (iI b) :: .int (iI a) :: st) M := by
  subst hpc
  intro p l e s m args below meth c A C H locs ls hl hP hD hS
  obtain ⟨hx, hb, hml, hr, hlk, ho, hnm, hts, hK, hA, hX⟩ := id C
  refine lv_icmp_le hx hb hdg ht (fun h => ?_) (fun h => ?_)
  · exact kt ((iI_le ha hb0).mp (by first | exact h | simpa using h)) p l e s m args below meth c A C H locs ls hl hP hD hS
  · exact kf (fun h2 => h ((iI_le ha hb0).mpr h2)) p l e s m args below meth c A C H locs ls hl hP hD hS
theorem j_if_le {E : jD} {Y : jY} {Z : jZ} {k n pc : Nat} {lv : List (Nat × Value)} {st : List Value} {M : va_W} (tgt pc' : Nat) {a off : Int} (hdg : decode Y.2.1 pc = .ok (.ifCond .le off, 3)) (ha : jr a) (kt : a ≤ 0 → J E Y Z k n tgt lv st M) (kf : ¬ (a ≤ 0) → J E Y Z k n pc' lv st M) (ht : (pc : Int) + off = (tgt : Int) := by decide) (hpc : pc + 3 = pc' := by rfl) : J E Y Z k n pc lv (.int (iI a) :: st) M := by
  subst hpc
  intro p l e s m args below meth c A C H locs ls hl hP hD hS
  obtain ⟨hx, hb, hml, hr, hlk, ho, hnm, hts, hK, hA, hX⟩ := id C
  refine lv_if_le hx hb hdg ht (fun h => ?_) (fun h => ?_)
  · rw [← iI_0] at h
    exact kt ((iI_le ha jr_0).mp (by first | exact h | simpa using h)) p l e s m args below meth c A C H locs ls hl hP hD hS
  · rw [← iI_0] at h
    exact kf (fun h2 => h ((iI_le ha jr_0).mpr h2)) p l e s m args below meth c A C H locs ls hl hP hD hS
theorem j_goto {E : jD} {Y : jY} {Z : jZ} {k n pc : Nat} {lv : List (Nat × Value)} {st : List Value} {M : va_W} (tgt : Nat) {off : Int} (hdg : decode Y.2.1 pc = .ok (.goto off, 3)) (kk : J E Y Z k n tgt lv st M) (ht : (pc : Int) + off = (tgt : Int) := by decide) : J E Y Z k n pc lv st M := by
  intro p l e s m args below meth c A C H locs ls hl hP hD hS
  obtain ⟨hx, hb, hml, hr, hlk, ho, hnm, hts, hK, hA, hX⟩ := id C
  exact lv_goto hx hb hdg ht (kk p l e s m args below meth c A C H locs ls hl hP hD hS)
theorem j_tabIn {E : jD} {Y : jY} {Z : jZ} {k n pc : Nat} {lv : List (Nat × Value)} {st : List Value} {M : va_W} (tgt : Nat) {dflt lo hi : Int} {offs : Array Int} {len : Nat} {a off : Int} (hdg : decode Y.2.1 pc = .ok (.tableswitch dflt lo hi offs, len)) (ha : jr a) (h1 : ¬ a < lo) (h2 : ¬ hi < a) (hoff : offs[(a - lo).toNat]? = some off) (ht : (pc : Int) + off = (tgt : Int)) (kk : J E Y Z k n tgt lv st M) : J E Y Z k n pc lv (.int (iI a) :: st) M := by
  intro p l e s m args below meth c A C H locs ls hl hP hD hS
  obtain ⟨hx, hb, hml, hr, hlk, ho, hnm, hts, hK, hA, hX⟩ := id C
  exact lv_tableIn hx hb hdg (by rw [iI_t ha]; exact h1) (by rw [iI_t ha]; exact h2) (by rw [iI_t ha]; exact hoff) ht (kk p l e s m args below meth c A C H locs ls hl hP hD hS)
theorem j_tabOut {E : jD} {Y : jY} {Z : jZ} {k n pc : Nat} {lv : List (Nat × Value)} {st : List Value} {M : va_W} (tgt : Nat) {dflt lo hi : Int} {offs : Array Int} {len : Nat} {a : Int} (hdg : decode Y.2.1 pc = .ok (.tableswitch dflt lo hi offs, len)) (ha : jr a) (h : a < lo ∨ hi < a) (ht : (pc : Int) + dflt = (tgt : Int)) (kk : J E Y Z k n tgt lv st M) : J E Y Z k n pc lv (.int (iI a) :: st) M := by
  intro p l e s m args below meth c A C H locs ls hl hP hD hS
  obtain ⟨hx, hb, hml, hr, hlk, ho, hnm, hts, hK, hA, hX⟩ := id C
  exact lv_tableOut hx hb hdg (by rw [iI_t ha]; exact h) ht (kk p l e s m args below meth c A C H locs ls hl hP hD hS)
def jFG (own : String) (idx ci f : Nat) : Prop := ∃ (C : String) (T : u_T) (N : Nat), vwCl[ci]? = some (C, T, N) ∧ f < N ∧ (∀ w ∈ u_ws C T N, w ∈ jT) ∧ Cond.fieldLink own idx (T f).1 (T f).2.1 (T f).2.2.1 ∈ jT
def jFP (own : String) (idx ci f : Nat) (ty : FieldType) (fin : Bool) : Prop := ∃ (C : String) (T : u_T) (N : Nat) (ty0 : Nat → FieldType), vwCl[ci]? = some (C, T, N) ∧ f < N ∧ (∀ w ∈ u_ws C T N, w ∈ jT) ∧ Cond.fieldLink own idx (T f).1 (T f).2.1 (T f).2.2.1 ∈ jT ∧ (∀ k, k < N → parseFieldDescriptor (T k).2.2.1 = some (ty0 k)) ∧ (∀ a, a < N → ∀ b, b < N → a ≠ b → (T a).2.1 ≠ (T b).2.1) ∧ parseFieldDescriptor (T f).2.2.1 = some ty ∧ (T f).2.2.2 = fin ∧ (T f).1 = C
theorem j_get {E : jD} {Y : jY} {Z : jZ} {k n pc : Nat} {lv : List (Nat × Value)} {st : List Value} {M : va_W} (pc' q0 : Nat) {idx ci f a : Nat} {fs : List Value} {v : Value} (hf : jFG Y.1.cls idx ci f) (hdg : decode Y.2.1 pc = .ok (.getfield idx, 3)) (he : M[q0]? = some (a, jO ci fs)) (hv : fs[f]? = some v) (kk : J E Y Z k n pc' lv (v :: st) M) (hpc : pc + 3 = pc' := by rfl) : J E Y Z k n pc lv (.ref a :: st) M := by
  subst hpc
  intro p l e s m args below meth c A C H locs ls hl hP hD hS
  obtain ⟨hx, hb, hml, hr, hlk, ho, hnm, hts, hK, hA, hX⟩ := id C
  exact by
    obtain ⟨C0, T, N, h1, h2, h3, h4⟩ := hf
    exact va_get hx hb hts h3 ho hK.1 hP q0 he h1 f h2 (hts _ h4) (fun x h => h) hv hdg (kk p l e s m args below meth c A C H locs ls hl hP hD hS)
theorem j_put {E : jD} {Y : jY} {Z : jZ} {k n pc : Nat} {lv : List (Nat × Value)} {st : List Value} {M : va_W} (pc' q0 : Nat) {idx ci f a : Nat} {fs : List Value} {v : Value} {ty : FieldType} (hf : jFP Y.1.cls idx ci f ty false) (hdg : decode Y.2.1 pc = .ok (.putfield idx, 3)) (he : M[q0]? = some (a, jO ci fs)) (hn : narrow ty v = v ∧ fits ty v = true ∧ Nat.blt f fs.length = true) (kk : J E Y Z k n pc' lv st (M.set q0 (a, jO ci (fs.set f v)))) (hpc : pc + 3 = pc' := by rfl) : J E Y Z k n pc lv (v :: .ref a :: st) M := by
  subst hpc
  intro p l e s m args below meth c A C H locs ls hl hP hD hS
  obtain ⟨hx, hb, hml, hr, hlk, ho, hnm, hts, hK, hA, hX⟩ := id C
  obtain ⟨C0, T, N, ty0, h1, h2, h3, h4, h5, h6, h7, h8, h9⟩ := hf
  exact va_put hx hb hts h3 ty0 h5 h6 ho hK.1 hP hD hS q0 he h1 f h2 (hts _ h4) (fun x h => h) h8 h7 hn.1 hn.2.1 (Nat.le_of_ble_eq_true hn.2.2) hdg (fun H1 locs1 hP1 hD1 hS1 => kk p l e s m args below meth c A C H1 locs1 ls hl hP1 hD1 hS1)
theorem j_putF {E : jD} {Y : jY} {Z : jZ} {k n pc : Nat} {lv : List (Nat × Value)} {st : List Value} {M : va_W} (pc' q0 : Nat) {idx ci f a : Nat} {fs : List Value} {v : Value} {ty : FieldType} (hf : jFP Y.1.cls idx ci f ty true) (hin : Y.1.name = "<init>") (hci : vwCl[ci]?.map Prod.fst = some Y.1.cls) (hdg : decode Y.2.1 pc = .ok (.putfield idx, 3)) (he : M[q0]? = some (a, jO ci fs)) (hn : narrow ty v = v ∧ fits ty v = true ∧ Nat.blt f fs.length = true) (kk : J E Y Z k n pc' lv st (M.set q0 (a, jO ci (fs.set f v)))) (hpc : pc + 3 = pc' := by rfl) : J E Y Z k n pc lv (v :: .ref a :: st) M := by
  subst hpc
  intro p l e s m args below meth c A C H locs ls hl hP hD hS
  obtain ⟨hx, hb, hml, hr, hlk, ho, hnm, hts, hK, hA, hX⟩ := id C
  obtain ⟨C0, T, N, ty0, h1, h2, h3, h4, h5, h6, h7, h8, h9⟩ := hf
  have h10 : C0 = Y.1.cls := by rw [h1] at hci; exact Option.some.inj hci
  exact va_putF hx hb hts h3 ty0 h5 h6 ho hK.1 hP hD hS q0 he h1 f h2 (hts _ h4) (fun x h => h) h8 (hnm.trans hin) (h9.trans h10) h7 hn.1 hn.2.1 (Nat.le_of_ble_eq_true hn.2.2) hdg (fun H1 locs1 hP1 hD1 hS1 => kk p l e s m args below meth c A C H1 locs1 ls hl hP1 hD1 hS1)
theorem j_iald {E : jD} {Y : jY} {Z : jZ} {k n pc : Nat} {lv : List (Nat × Value)} {st : List Value} {M : va_W} (pc' q0 j : Nat) {a N : Nat} {f : Nat → Int32} {z : Int} (hdg : decode Y.2.1 pc = .ok (.iaload, 1)) (he : M[q0]? = some (a, jA E N f)) (hN : Nat.blt N 2147483648 = true) (hz : z = (j : Int)) (hj : j < N) (kk : J E Y Z k n pc' lv (.int (iI (f j).toInt) :: st) M) (hpc : pc + 1 = pc' := by rfl) : J E Y Z k n pc lv (.int (iI z) :: .ref a :: st) M := by
  subst hpc
  intro p l e s m args below meth c A C H locs ls hl hP hD hS
  obtain ⟨hx, hb, hml, hr, hlk, ho, hnm, hts, hK, hA, hX⟩ := id C
  exact by
    have hN := Nat.le_of_ble_eq_true hN
    subst hz
    refine va_iald hx hb hK.1 hP q0 0 he rfl (iI_in hj hN) hdg ?_
    rw [iI_clamp (by omega), ← iI_x (f j)]
    exact (kk p l e s m args below meth c A C H locs ls hl hP hD hS)
theorem j_ialdx {E : jD} {Y : jY} {Z : jZ} {k n pc : Nat} {lv : List (Nat × Value)} {st : List Value} {M : va_W} (pc' q0 j : Nat) {a N : Nat} {f : Nat → Int32} {z : Int} (hdg : decode Y.2.1 pc = .ok (.iaload, 1)) (he : M[q0]? = some (a, jA E N f)) (hN : Nat.blt N 2147483648 = true) (hz : z = (j : Int)) (hj : j < N) (kk : J E Y Z k n pc' lv (.int (f j) :: st) M) (hpc : pc + 1 = pc' := by rfl) : J E Y Z k n pc lv (.int (iI z) :: .ref a :: st) M := by
  subst hpc
  intro p l e s m args below meth c A C H locs ls hl hP hD hS
  obtain ⟨hx, hb, hml, hr, hlk, ho, hnm, hts, hK, hA, hX⟩ := id C
  exact by
    have hN := Nat.le_of_ble_eq_true hN
    subst hz
    refine va_iald hx hb hK.1 hP q0 0 he rfl (iI_in hj hN) hdg ?_
    rw [iI_clamp (by omega)]
    exact (kk p l e s m args below meth c A C H locs ls hl hP hD hS)
theorem j_ialdw {E : jD} {Y : jY} {Z : jZ} {k n pc : Nat} {lv : List (Nat × Value)} {st : List Value} {M : va_W} (pc' q0 j : Nat) (w : Int) {a N : Nat} {f : Nat → Int32} {z : Int} (hdg : decode Y.2.1 pc = .ok (.iaload, 1)) (he : M[q0]? = some (a, jA E N f)) (hN : Nat.blt N 2147483648 = true) (hz : z = (j : Int)) (hj : j < N) (hw : f j = iI w) (kk : J E Y Z k n pc' lv (.int (iI w) :: st) M) (hpc : pc + 1 = pc' := by rfl) : J E Y Z k n pc lv (.int (iI z) :: .ref a :: st) M := by
  subst hpc
  intro p l e s m args below meth c A C H locs ls hl hP hD hS
  obtain ⟨hx, hb, hml, hr, hlk, ho, hnm, hts, hK, hA, hX⟩ := id C
  exact by
    have hN := Nat.le_of_ble_eq_true hN
    subst hz
    refine va_iald hx hb hK.1 hP q0 0 he rfl (iI_in hj hN) hdg ?_
    rw [iI_clamp (by omega), hw]
    exact (kk p l e s m args below meth c A C H locs ls hl hP hD hS)
theorem j_lald {E : jD} {Y : jY} {Z : jZ} {k n pc : Nat} {lv : List (Nat × Value)} {st : List Value} {M : va_W} (pc' q0 j : Nat) {a N : Nat} {f : Nat → Int64} {z : Int} (hdg : decode Y.2.1 pc = .ok (.laload, 1)) (he : M[q0]? = some (a, jL E N f)) (hN : Nat.blt N 2147483648 = true) (hz : z = (j : Int)) (hj : j < N) (kk : J E Y Z k n pc' lv (.long (f j) :: st) M) (hpc : pc + 1 = pc' := by rfl) : J E Y Z k n pc lv (.int (iI z) :: .ref a :: st) M := by
  subst hpc
  intro p l e s m args below meth c A C H locs ls hl hP hD hS
  obtain ⟨hx, hb, hml, hr, hlk, ho, hnm, hts, hK, hA, hX⟩ := id C
  exact by
    have hN := Nat.le_of_ble_eq_true hN
    subst hz
    refine va_lald hx hb hK.1 hP q0 1 he rfl (iI_in hj hN) hdg ?_
    rw [iI_clamp (by omega)]
    exact (kk p l e s m args below meth c A C H locs ls hl hP hD hS)
theorem j_aald2 {E : jD} {Y : jY} {Z : jZ} {k n pc : Nat} {lv : List (Nat × Value)} {st : List Value} {M : va_W} (pc' q0 j b : Nat) {a N : Nat} {f : Nat → Option Nat} {z : Int} (hdg : decode Y.2.1 pc = .ok (.aaload, 1)) (he : M[q0]? = some (a, jR E 2 N f)) (hN : Nat.blt N 2147483648 = true) (hz : z = (j : Int)) (hj : j < N) (hf : f j = some b) (kk : J E Y Z k n pc' lv (.ref b :: st) M) (hpc : pc + 1 = pc' := by rfl) : J E Y Z k n pc lv (.int (iI z) :: .ref a :: st) M := by
  subst hpc
  intro p l e s m args below meth c A C H locs ls hl hP hD hS
  obtain ⟨hx, hb, hml, hr, hlk, ho, hnm, hts, hK, hA, hX⟩ := id C
  exact by
    have hN := Nat.le_of_ble_eq_true hN
    subst hz
    refine va_aldq (C := RX4) hx hb hK.1 hP q0 2 he rfl (iI_in hj hN) hdg ?_
    rw [iI_clamp (by omega), hf]
    exact (kk p l e s m args below meth c A C H locs ls hl hP hD hS)
theorem j_aald3 {E : jD} {Y : jY} {Z : jZ} {k n pc : Nat} {lv : List (Nat × Value)} {st : List Value} {M : va_W} (pc' q0 j b : Nat) {a N : Nat} {f : Nat → Option Nat} {z : Int} (hdg : decode Y.2.1 pc = .ok (.aaload, 1)) (he : M[q0]? = some (a, jR E 3 N f)) (hN : Nat.blt N 2147483648 = true) (hz : z = (j : Int)) (hj : j < N) (hf : f j = some b) (kk : J E Y Z k n pc' lv (.ref b :: st) M) (hpc : pc + 1 = pc' := by rfl) : J E Y Z k n pc lv (.int (iI z) :: .ref a :: st) M := by
  subst hpc
  intro p l e s m args below meth c A C H locs ls hl hP hD hS
  obtain ⟨hx, hb, hml, hr, hlk, ho, hnm, hts, hK, hA, hX⟩ := id C
  exact by
    have hN := Nat.le_of_ble_eq_true hN
    subst hz
    refine va_aldq (C := RX2) hx hb hK.1 hP q0 3 he rfl (iI_in hj hN) hdg ?_
    rw [iI_clamp (by omega), hf]
    exact (kk p l e s m args below meth c A C H locs ls hl hP hD hS)
theorem j_alen {E : jD} {Y : jY} {Z : jZ} {k n pc : Nat} {lv : List (Nat × Value)} {st : List Value} {M : va_W} (pc' q0 : Nat) {a N : Nat} {f : Nat → Int32} (hdg : decode Y.2.1 pc = .ok (.arraylength, 1)) (he : M[q0]? = some (a, jA E N f)) (kk : J E Y Z k n pc' lv (.int (iI (N : Int)) :: st) M) (hpc : pc + 1 = pc' := by rfl) : J E Y Z k n pc lv (.ref a :: st) M := by
  subst hpc
  intro p l e s m args below meth c A C H locs ls hl hP hD hS
  obtain ⟨hx, hb, hml, hr, hlk, ho, hnm, hts, hK, hA, hX⟩ := id C
  exact va_alen (ty := .int) hx hb hK.1 hP q0 0 he rfl rfl hdg (kk p l e s m args below meth c A C H locs ls hl hP hD hS)
theorem j_alenL {E : jD} {Y : jY} {Z : jZ} {k n pc : Nat} {lv : List (Nat × Value)} {st : List Value} {M : va_W} (pc' q0 : Nat) {a N : Nat} {f : Nat → Int64} (hdg : decode Y.2.1 pc = .ok (.arraylength, 1)) (he : M[q0]? = some (a, jL E N f)) (kk : J E Y Z k n pc' lv (.int (iI (N : Int)) :: st) M) (hpc : pc + 1 = pc' := by rfl) : J E Y Z k n pc lv (.ref a :: st) M := by
  subst hpc
  intro p l e s m args below meth c A C H locs ls hl hP hD hS
  obtain ⟨hx, hb, hml, hr, hlk, ho, hnm, hts, hK, hA, hX⟩ := id C
  exact va_alen (ty := .long) hx hb hK.1 hP q0 1 he rfl rfl hdg (kk p l e s m args below meth c A C H locs ls hl hP hD hS)
theorem j_iast {E : jD} {Y : jY} {Z : jZ} {k n pc : Nat} {lv : List (Nat × Value)} {st : List Value} {M : va_W} (pc' q0 j : Nat) {a N : Nat} {f : Nat → Int32} {z : Int} {x : Int32} (hdg : decode Y.2.1 pc = .ok (.iastore, 1)) (he : M[q0]? = some (a, jA E N f)) (hN : Nat.blt N 2147483648 = true) (hz : z = (j : Int)) (hj : j < N) (kk : J E Y Z k n pc' lv st (M.set q0 (a, jA E N (upd f j x)))) (hpc : pc + 1 = pc' := by rfl) : J E Y Z k n pc lv (.int x :: .int (iI z) :: .ref a :: st) M := by
  subst hpc
  subst hz
  intro p l e s m args below meth c A C H locs ls hl hP hD hS
  obtain ⟨hx, hb, hml, hr, hlk, ho, hnm, hts, hK, hA, hX⟩ := id C
  have hN := Nat.le_of_ble_eq_true hN
  refine va_iast hx hb hK.1 hP hD hS q0 0 he rfl (iI_in hj hN) hdg (fun H1 locs1 hP1 hD1 hS1 => ?_)
  rw [iI_clamp (by omega)] at hP1 hD1
  exact kk p l e s m args below meth c A C H1 locs1 ls hl hP1 hD1 hS1
theorem j_last {E : jD} {Y : jY} {Z : jZ} {k n pc : Nat} {lv : List (Nat × Value)} {st : List Value} {M : va_W} (pc' q0 j : Nat) {a N : Nat} {f : Nat → Int64} {z : Int} {x : Int64} (hdg : decode Y.2.1 pc = .ok (.lastore, 1)) (he : M[q0]? = some (a, jL E N f)) (hN : Nat.blt N 2147483648 = true) (hz : z = (j : Int)) (hj : j < N) (kk : J E Y Z k n pc' lv st (M.set q0 (a, jL E N (vp_updL f j x)))) (hpc : pc + 1 = pc' := by rfl) : J E Y Z k n pc lv (.long x :: .int (iI z) :: .ref a :: st) M := by
  subst hpc
  subst hz
  intro p l e s m args below meth c A C H locs ls hl hP hD hS
  obtain ⟨hx, hb, hml, hr, hlk, ho, hnm, hts, hK, hA, hX⟩ := id C
  have hN := Nat.le_of_ble_eq_true hN
  refine va_last hx hb hK.1 hP hD hS q0 1 he rfl (iI_in hj hN) hdg (fun H1 locs1 hP1 hD1 hS1 => ?_)
  rw [iI_clamp (by omega)] at hP1 hD1
  exact kk p l e s m args below meth c A C H1 locs1 ls hl hP1 hD1 hS1
theorem j_aast2 {E : jD} {Y : jY} {Z : jZ} {k n pc : Nat} {lv : List (Nat × Value)} {st : List Value} {M : va_W} (pc' q0 qk j : Nat) {a b N : Nat} {vs : List Value} {f : Nat → Option Nat} {z : Int} (hdg : decode Y.2.1 pc = .ok (.aastore, 1)) (he : M[q0]? = some (a, jR E 2 N f)) (hb0 : M[qk]? = some (b, jO 4 vs)) (hN : Nat.blt N 2147483648 = true) (hz : z = (j : Int)) (hj : j < N) (kk : J E Y Z k n pc' lv st (M.set q0 (a, jR E 2 N (va_up f j (some b))))) (hpc : pc + 1 = pc' := by rfl) : J E Y Z k n pc lv (.ref b :: .int (iI z) :: .ref a :: st) M := by
  subst hpc
  subst hz
  intro p l e s m args below meth c A C H locs ls hl hP hD hS
  obtain ⟨hx, hb, hml, hr, hlk, ho, hnm, hts, hK, hA, hX⟩ := id C
  have hN := Nat.le_of_ble_eq_true hN
  refine va_astq hx hb hK.1 hP hD hS q0 2 qk 4 he rfl hb0 rfl (iI_in hj hN) hdg (fun H1 locs1 hP1 hD1 hS1 => ?_)
  rw [iI_clamp (by omega)] at hP1 hD1
  exact kk p l e s m args below meth c A C H1 locs1 ls hl hP1 hD1 hS1
theorem j_aast3 {E : jD} {Y : jY} {Z : jZ} {k n pc : Nat} {lv : List (Nat × Value)} {st : List Value} {M : va_W} (pc' q0 qk j : Nat) {a b N : Nat} {vs : List Value} {f : Nat → Option Nat} {z : Int} (hdg : decode Y.2.1 pc = .ok (.aastore, 1)) (he : M[q0]? = some (a, jR E 3 N f)) (hb0 : M[qk]? = some (b, jO 2 vs)) (hN : Nat.blt N 2147483648 = true) (hz : z = (j : Int)) (hj : j < N) (kk : J E Y Z k n pc' lv st (M.set q0 (a, jR E 3 N (va_up f j (some b))))) (hpc : pc + 1 = pc' := by rfl) : J E Y Z k n pc lv (.ref b :: .int (iI z) :: .ref a :: st) M := by
  subst hpc
  subst hz
  intro p l e s m args below meth c A C H locs ls hl hP hD hS
  obtain ⟨hx, hb, hml, hr, hlk, ho, hnm, hts, hK, hA, hX⟩ := id C
  have hN := Nat.le_of_ble_eq_true hN
  refine va_astq hx hb hK.1 hP hD hS q0 3 qk 2 he rfl hb0 rfl (iI_in hj hN) hdg (fun H1 locs1 hP1 hD1 hS1 => ?_)
  rw [iI_clamp (by omega)] at hP1 hD1
  exact kk p l e s m args below meth c A C H1 locs1 ls hl hP1 hD1 hS1
theorem j_new {E : jD} {Y : jY} {Z : jZ} {k n pc : Nat} {lv : List (Nat × Value)} {st : List Value} {M : va_W} (pc' : Nat) {idx ci N : Nat} {C0 : String} {T : u_T} {fs : List Value} (ty : Nat → FieldType) (hc : vwCl[ci]? = some (C0, T, N)) (hw : ∀ w ∈ u_ws C0 T N, w ∈ jT) (hty : ∀ k, k < N → parseFieldDescriptor (T k).2.2.1 = some (ty k)) (h1 : Cond.classLink Y.1.cls idx C0 ∈ jT) (h2 : Cond.instantiable C0 N ∈ jT) (h3 : Cond.initialized C0 ∈ jT) (hfs : ∀ j, j < N → defaultValue (ty j) = vp_V fs j) (hdg : decode Y.2.1 pc = .ok (.new idx, 3)) (hroom : (Nat.ble (k + 1) Z.1.cells && Nat.ble (n + N) Z.1.slots) = true) (kk : ∀ q, J E Y Z (k + 1) (n + N) pc' lv (.ref q :: st) (M ++ [(q, jO ci fs)])) (hpc : pc + 3 = pc' := by rfl) : J E Y Z k n pc lv st M := by
  subst hpc
  intro p l e s m args below meth c A C H locs ls hl hP hD hS
  obtain ⟨hx, hb, hml, hr, hlk, ho, hnm, hts, hK, hA, hX⟩ := id C
  rw [Bool.and_eq_true] at hroom
  exact va_new hx hb hts hw ty hty ho (hts _ h1) (hts _ h2) (hts _ h3) hK.1 hP hD hS hA hc hfs (Nat.le_of_ble_eq_true hroom.1) (Nat.le_of_ble_eq_true hroom.2) hdg (fun q H1 hP1 hD1 hS1 => kk q p l e s m args below meth c A C H1 locs ls hl hP1 hD1 hS1)
theorem j_newa {E : jD} {Y : jY} {Z : jZ} {k n pc : Nat} {lv : List (Nat × Value)} {st : List Value} {M : va_W} (pc' N : Nat) {z : Int} (hz : z = (N : Int)) (hN : Nat.ble N 65536 = true) (hdg : decode Y.2.1 pc = .ok (.newarray .int, 2)) (hroom : (Nat.ble (k + 1) Z.1.cells && Nat.ble (n + N) Z.1.slots) = true) (kk : ∀ q, J E Y Z (k + 1) (n + N) pc' lv (.ref q :: st) (M ++ [(q, jA E N (fun _ => 0))])) (hpc : pc + 2 = pc' := by rfl) : J E Y Z k n pc lv (.int (iI z) :: st) M := by
  subst hpc
  subst hz
  intro p l e s m args below meth c A C H locs ls hl hP hD hS
  obtain ⟨hx, hb, hml, hr, hlk, ho, hnm, hts, hK, hA, hX⟩ := id C
  have hN := Nat.le_of_ble_eq_true hN
  rw [Bool.and_eq_true] at hroom
  have hby : componentBytes (.int) ≤ 8 := by decide
  refine va_newa (atype := .int) (ty := .int) (a0 := (N, .inl (fun _ => 0))) hx hb (hts _ wac_int) rfl hK.1 hP hD hS hA (fun cA => rfl) (by rw [← iI_0, iI_lt ⟨by omega, by omega⟩ jr_0]; omega) (iI_clamp (by omega)) (Nat.le_trans (Nat.mul_le_mul hN hby) (by decide)) (Nat.le_of_ble_eq_true hroom.1) (Nat.le_of_ble_eq_true hroom.2) hdg (fun q cA H1 hK1 hP1 hD1 hS1 => ?_)
  have e1 : s.vm.findClass ("[" ++ (FieldType.int).toString) = some cA := (hK1.2 4 (cA, .int) rfl).2
  have e2 : s.vm.findClass ("[" ++ (FieldType.int).toString) = some (E.2 0) := (hK.1.2 0 (E.2 0, .int) rfl).2
  have e3 : cA = E.2 0 := Option.some.inj (e1.symm.trans e2)
  subst e3
  exact kk q p l e s m args below meth c A C H1 locs ls hl hP1 hD1 hS1
theorem j_newl {E : jD} {Y : jY} {Z : jZ} {k n pc : Nat} {lv : List (Nat × Value)} {st : List Value} {M : va_W} (pc' N : Nat) {z : Int} (hz : z = (N : Int)) (hN : Nat.ble N 65536 = true) (hdg : decode Y.2.1 pc = .ok (.newarray .long, 2)) (hroom : (Nat.ble (k + 1) Z.1.cells && Nat.ble (n + N) Z.1.slots) = true) (kk : ∀ q, J E Y Z (k + 1) (n + N) pc' lv (.ref q :: st) (M ++ [(q, jL E N (fun _ => 0))])) (hpc : pc + 2 = pc' := by rfl) : J E Y Z k n pc lv (.int (iI z) :: st) M := by
  subst hpc
  subst hz
  intro p l e s m args below meth c A C H locs ls hl hP hD hS
  obtain ⟨hx, hb, hml, hr, hlk, ho, hnm, hts, hK, hA, hX⟩ := id C
  have hN := Nat.le_of_ble_eq_true hN
  rw [Bool.and_eq_true] at hroom
  have hby : componentBytes (.long) ≤ 8 := by decide
  refine va_newa (atype := .long) (ty := .long) (a0 := (N, .inr (.inl (fun _ => 0)))) hx hb (hts _ wac_long) rfl hK.1 hP hD hS hA (fun cA => rfl) (by rw [← iI_0, iI_lt ⟨by omega, by omega⟩ jr_0]; omega) (iI_clamp (by omega)) (Nat.le_trans (Nat.mul_le_mul hN hby) (by decide)) (Nat.le_of_ble_eq_true hroom.1) (Nat.le_of_ble_eq_true hroom.2) hdg (fun q cA H1 hK1 hP1 hD1 hS1 => ?_)
  have e1 : s.vm.findClass ("[" ++ (FieldType.long).toString) = some cA := (hK1.2 4 (cA, .long) rfl).2
  have e2 : s.vm.findClass ("[" ++ (FieldType.long).toString) = some (E.2 1) := (hK.1.2 1 (E.2 1, .long) rfl).2
  have e3 : cA = E.2 1 := Option.some.inj (e1.symm.trans e2)
  subst e3
  exact kk q p l e s m args below meth c A C H1 locs ls hl hP1 hD1 hS1
theorem j_newq2 {E : jD} {Y : jY} {Z : jZ} {k n pc : Nat} {lv : List (Nat × Value)} {st : List Value} {M : va_W} (pc' N : Nat) {idx : Nat} {z : Int} (hz : z = (N : Int)) (hN : Nat.ble N 65536 = true) (h1 : Cond.classLink Y.1.cls idx RX4 ∈ jT) (hdg : decode Y.2.1 pc = .ok (.anewarray idx, 3)) (hroom : (Nat.ble (k + 1) Z.1.cells && Nat.ble (n + N) Z.1.slots) = true) (kk : ∀ q, J E Y Z (k + 1) (n + N) pc' lv (.ref q :: st) (M ++ [(q, jR E 2 N (fun _ => none))])) (hpc : pc + 3 = pc' := by rfl) : J E Y Z k n pc lv (.int (iI z) :: st) M := by
  subst hpc
  subst hz
  intro p l e s m args below meth c A C H locs ls hl hP hD hS
  obtain ⟨hx, hb, hml, hr, hlk, ho, hnm, hts, hK, hA, hX⟩ := id C
  have hN := Nat.le_of_ble_eq_true hN
  rw [Bool.and_eq_true] at hroom
  refine va_newq hx hb ho (hts _ h1) hK.2.1 hK.1 hP hD hS hA (by rw [← iI_0, iI_lt ⟨by omega, by omega⟩ jr_0]; omega) (iI_clamp (by omega)) (by omega) (Nat.le_of_ble_eq_true hroom.1) (Nat.le_of_ble_eq_true hroom.2) hdg (fun q cA H1 hK1 hP1 hD1 hS1 => ?_)
  obtain ⟨kA, comp, -, -, -, e1⟩ := (hK1.2 4 (cA, .object RX4) rfl).2
  obtain ⟨kA', comp', -, -, -, e2⟩ := (hK.1.2 2 (E.2 2, .object RX4) rfl).2
  have e3 : cA = E.2 2 := Option.some.inj (e1.symm.trans e2)
  subst e3
  exact kk q p l e s m args below meth c A C H1 locs ls hl hP1 hD1 hS1
theorem j_newq3 {E : jD} {Y : jY} {Z : jZ} {k n pc : Nat} {lv : List (Nat × Value)} {st : List Value} {M : va_W} (pc' N : Nat) {idx : Nat} {z : Int} (hz : z = (N : Int)) (hN : Nat.ble N 65536 = true) (h1 : Cond.classLink Y.1.cls idx RX2 ∈ jT) (hdg : decode Y.2.1 pc = .ok (.anewarray idx, 3)) (hroom : (Nat.ble (k + 1) Z.1.cells && Nat.ble (n + N) Z.1.slots) = true) (kk : ∀ q, J E Y Z (k + 1) (n + N) pc' lv (.ref q :: st) (M ++ [(q, jR E 3 N (fun _ => none))])) (hpc : pc + 3 = pc' := by rfl) : J E Y Z k n pc lv (.int (iI z) :: st) M := by
  subst hpc
  subst hz
  intro p l e s m args below meth c A C H locs ls hl hP hD hS
  obtain ⟨hx, hb, hml, hr, hlk, ho, hnm, hts, hK, hA, hX⟩ := id C
  have hN := Nat.le_of_ble_eq_true hN
  rw [Bool.and_eq_true] at hroom
  refine va_newq hx hb ho (hts _ h1) hK.2.2 hK.1 hP hD hS hA (by rw [← iI_0, iI_lt ⟨by omega, by omega⟩ jr_0]; omega) (iI_clamp (by omega)) (by omega) (Nat.le_of_ble_eq_true hroom.1) (Nat.le_of_ble_eq_true hroom.2) hdg (fun q cA H1 hK1 hP1 hD1 hS1 => ?_)
  obtain ⟨kA, comp, -, -, -, e1⟩ := (hK1.2 4 (cA, .object RX2) rfl).2
  obtain ⟨kA', comp', -, -, -, e2⟩ := (hK.1.2 3 (E.2 3, .object RX2) rfl).2
  have e3 : cA = E.2 3 := Option.some.inj (e1.symm.trans e2)
  subst e3
  exact kk q p l e s m args below meth c A C H1 locs ls hl hP1 hD1 hS1
theorem j_iret {E : jD} {Y : jY} {Q : jP} {k n pc : Nat} {lv : List (Nat × Value)} {M : va_W} {v : Int32} (hdg : decode Y.2.1 pc = .ok (.ireturn, 1)) (hret : Y.2.2.2.1 = some .int) (hroom : (Nat.ble k Y.2.2.2.2.2.1 && Nat.ble n Y.2.2.2.2.2.2) = true) (hq : Q (some (.int v)) M) : J E Y (jZm E Y Q) k n pc lv [.int v] M := by
  intro p l e s m args below meth c A C H locs ls hl hP hD hS
  obtain ⟨hx, hb, hml, hr, hlk, ho, hnm, hts, hK, hA, hX⟩ := id C
  rw [Bool.and_eq_true] at hroom
  refine W.widen (Nat.le_of_ble_eq_true hroom.1) (Nat.le_of_ble_eq_true hroom.2) ?_
  exact W.iret hx hb (hr.trans hret) (fun t ht hw => ⟨⟨_, M, rfl, hq, by rw [ht]; exact hP, hD⟩, hS.F ht⟩) (fun q hq => hS.2.2 q hq) hdg hlk
theorem j_zret {E : jD} {Y : jY} {Q : jP} {k n pc : Nat} {lv : List (Nat × Value)} {M : va_W} {v : Int32} (hv : narrow .boolean (.int v) = .int v) (hdg : decode Y.2.1 pc = .ok (.ireturn, 1)) (hret : Y.2.2.2.1 = some .boolean) (hroom : (Nat.ble k Y.2.2.2.2.2.1 && Nat.ble n Y.2.2.2.2.2.2) = true) (hq : Q (some (.int v)) M) : J E Y (jZm E Y Q) k n pc lv [.int v] M := by
  intro p l e s m args below meth c A C H locs ls hl hP hD hS
  obtain ⟨hx, hb, hml, hr, hlk, ho, hnm, hts, hK, hA, hX⟩ := id C
  rw [Bool.and_eq_true] at hroom
  refine W.widen (Nat.le_of_ble_eq_true hroom.1) (Nat.le_of_ble_eq_true hroom.2) ?_
  exact W.zret (ty := .boolean) hx hb (hr.trans hret) hv (fun t ht hw => ⟨⟨_, M, rfl, hq, by rw [ht]; exact hP, hD⟩, hS.F ht⟩) (fun q hq => hS.2.2 q hq) hdg hlk
theorem j_lret {E : jD} {Y : jY} {Q : jP} {k n pc : Nat} {lv : List (Nat × Value)} {M : va_W} {v : Int64} (hdg : decode Y.2.1 pc = .ok (.lreturn, 1)) (hret : Y.2.2.2.1 = some .long) (hroom : (Nat.ble k Y.2.2.2.2.2.1 && Nat.ble n Y.2.2.2.2.2.2) = true) (hq : Q (some (.long v)) M) : J E Y (jZm E Y Q) k n pc lv [.long v] M := by
  intro p l e s m args below meth c A C H locs ls hl hP hD hS
  obtain ⟨hx, hb, hml, hr, hlk, ho, hnm, hts, hK, hA, hX⟩ := id C
  rw [Bool.and_eq_true] at hroom
  refine W.widen (Nat.le_of_ble_eq_true hroom.1) (Nat.le_of_ble_eq_true hroom.2) ?_
  exact W.lret hx hb (hr.trans hret) (fun t ht hw => ⟨⟨_, M, rfl, hq, by rw [ht]; exact hP, hD⟩, hS.F ht⟩) (fun q hq => hS.2.2 q hq) hdg hlk
theorem j_vret {E : jD} {Y : jY} {Q : jP} {k n pc : Nat} {lv : List (Nat × Value)} {M : va_W}  (hdg : decode Y.2.1 pc = .ok (.return_, 1)) (hret : Y.2.2.2.1 = none) (hroom : (Nat.ble k Y.2.2.2.2.2.1 && Nat.ble n Y.2.2.2.2.2.2) = true) (hq : Q none M) : J E Y (jZm E Y Q) k n pc lv [] M := by
  intro p l e s m args below meth c A C H locs ls hl hP hD hS
  obtain ⟨hx, hb, hml, hr, hlk, ho, hnm, hts, hK, hA, hX⟩ := id C
  rw [Bool.and_eq_true] at hroom
  refine W.widen (Nat.le_of_ble_eq_true hroom.1) (Nat.le_of_ble_eq_true hroom.2) ?_
  exact W.vret hx hb (hr.trans hret) (fun t ht hw => ⟨⟨_, M, rfl, hq, by rw [ht]; exact hP, hD⟩, hS.F ht⟩) (fun q hq => hS.2.2 q hq) hdg hlk
def jMF (Y : jY) (np : Nat) : Prop := Cond.initialized Y.1.cls ∈ jT ∧ Cond.code Y.1 Y.2.1 Y.2.2.1 Y.2.2.2.1 ∈ jT ∧ (Y.1.cls ≠ "java/lang/invoke/MethodHandle" ∧ Y.1.cls ≠ "java/lang/invoke/VarHandle" ∧ (parseMethodDescriptor Y.1.desc).map (fun d => d.parameters.length) = some np)
def jMV (Y : jY) (np : Nat) : Prop := jMF Y np ∧ Cond.instanceMethod Y.1 ∈ jT ∧ Cond.selects Y.1.cls Y.1 Y.1 ∈ jT
def jMI (Y : jY) (np : Nat) : Prop := jMF Y np ∧ Cond.instanceMethod Y.1 ∈ jT ∧ Y.1.name = "<init>"
def jMS (Y : jY) (np : Nat) : Prop := jMF Y np ∧ Cond.static Y.1 ∈ jT
def jfit (R : Room) (Y : jY) (k n : Nat) : Bool := Nat.ble (Y.2.2.2.2.1 + 1) R.frames && (Nat.ble (8 + (Y.2.2.1 + 11) + 40 * Y.2.2.2.2.1) R.locals && (Nat.ble (k + Y.2.2.2.2.2.1) R.cells && Nat.ble (n + Y.2.2.2.2.2.2) R.slots))
theorem jfit_of {R : Room} {Y : jY} {k n : Nat} (h : jfit R Y k n = true) : ((jrm Y).frames + 1 ≤ R.frames ∧ 8 + (Y.2.2.1 + 11) + (jrm Y).locals ≤ R.locals) ∧ k + Y.2.2.2.2.2.1 ≤ R.cells ∧ n + Y.2.2.2.2.2.2 ≤ R.slots := by
  unfold jfit at h
  simp only [Bool.and_eq_true] at h
  exact ⟨⟨Nat.le_of_ble_eq_true h.1, Nat.le_of_ble_eq_true h.2.1⟩, Nat.le_of_ble_eq_true h.2.2.1, Nat.le_of_ble_eq_true h.2.2.2⟩
theorem jws_good {Y : jY} {np : Nat} (h : jMF Y np) : GoodIn jT (jws Y) := by
  intro w hw
  have hm : w ∈ jT := by
    rcases List.mem_cons.mp hw with rfl | hw
    · exact h.2.1
    · exact hw
  exact ⟨hm, good_of_word (jT_good hm)⟩
theorem jB_blind {E : jD} {M : va_W} {sz : Nat} {av : List Value} : FrameBlind (va_Pc av (jB E M sz)) := by
  intro a U g mk q
  obtain ⟨q0, q1, qP, qK, qD⟩ := q
  exact ⟨q0, q1, qP, jK.moved (u := U) (U := U.calling g mk a) (Vm.Alike.refl U.vm) qK, qD⟩

theorem j_run {E : jD} {Y : jY} {Z : jZ} {k n pc : Nat} {lv : List (Nat × Value)} {st : List Value} {M : va_W} {pc' mc ms : Nat} {Mc : va_W} {Q' : jP} {rest : List Value} (is : List Nat) {a : Array Value}
    (hrun : ∀ (p : Program) (l : Launch) (e : Env) (s : State) (m : MethodId) (args : Array Value) (below : List Frame) (meth : Method) (c : Code) (A : Nat → Prop), jC E Y Z p s m args meth c A → ∀ (H : Heap) (locs : List Loc) (ls : Array Slot), lv_has ls Y.2.2.1 lv → va_P E.1 vwCl Mc H → va_D A Mc → va_Run p l e Z.1 s m args below meth c H locs k n mc ms (F0 m pc ls st) rest (jQ E Q' (va_A Mc H.size) a) (va_A Mc H.size))
    (hsub : is.map (fun i => M[i]?) = Mc.map some) (hnd : va_nd is = true) (hsame : ∀ r N, Q' r N → (N.take is.length).map Prod.fst = Mc.map Prod.fst)
    (kk : ∀ r N, Q' r N → J E Y Z (k + mc) (n + ms) pc' lv (r.toList ++ rest) (jput M is N)) (hpc : pc + 3 = pc') : J E Y Z k n pc lv st M := by
  subst hpc
  intro p l e s m args below meth c A C H locs ls hl hP hD hS
  obtain ⟨hx, hb, hml, hr, hlk, ho, hnm, hts, hK, hA, hX⟩ := id C
  have hsub2 : is.filterMap (fun i => M[i]?) = Mc := by
    have h1 : is.filterMap (fun i => M[i]?) = (is.map (fun i => M[i]?)).filterMap id := by rw [List.filterMap_map]; rfl
    rw [h1, hsub, List.filterMap_map]
    exact List.filterMap_some
  have hPc := hP.sub is hsub2
  have hDc := hD.sub is hnd hsub
  have hFc := va_free hD hS hA is hsub
  intro T hT X
  obtain ⟨v, st₀, t, T', L, h0, X', hL, e1, e2, ⟨⟨r, N, hv, hq, hP1, hD1⟩, hz, hk⟩, stp⟩ := hrun p l e s m args below meth c A C H locs ls hl hPc hDc T hT X
  cases hv
  rw [h0] at hz hk
  rw [← e1] at hP1 hz hk
  obtain ⟨hP2, hD2⟩ := jput_world hP hD hsub hk hFc hP1 hD1 (hsame _ N hq)
  have hS2 : va_S A s.heap T'.heap (locs ++ L) := ⟨Nat.le_trans hS.1 hz, fun q h1 h2 => (hk q (Nat.lt_of_lt_of_le h1 hS.1) (fun z => h2 (hFc q z))).trans (hS.2.1 q h1 h2), fun q hq => by
    rcases List.mem_append.mp hq with h | h
    · exact hS.2.2 q h
    · exact hFc _ (hL q h)⟩
  obtain ⟨t2, a1, b1⟩ := kk _ N hq p l e s m args below meth c A C T'.heap (locs ++ L) ls hl hP2 hD2 hS2 T' rfl X'
  exact ⟨t2, stp t2 a1, b1⟩
theorem j_runV {E : jD} {Y : jY} {Z : jZ} {k n pc : Nat} {lv : List (Nat × Value)} {st : List Value} {idx np : Nat} {Mc : va_W} {Q' : jP} {rest : List Value} (Y' : jY) {As : List Value} {b q0 ci : Nat} {fs : List Value} {r : vw_C} (hm : MC E Y' (.ref b :: As) Mc Q') (hY : jMV Y' np) (hlk0 : Cond.methodLink Y.1.cls idx Y'.1 ∈ jT) (hc : vwCl[ci]? = some r) (hcn : r.1 = Y'.1.cls) (hre : Mc[q0]? = some (b, jO ci fs)) (hst : st = As.reverse ++ .ref b :: rest) (hnp : As.length = np) (hw : Nat.ble ((rest.map fun v => v.category).sum) 8 = true) (hfit : jfit Z.1 Y' k n = true) (hdg : decode Y.2.1 pc = .ok (.invokevirtual idx, 3)) :
    ∀ (p : Program) (l : Launch) (e : Env) (s : State) (m : MethodId) (args : Array Value) (below : List Frame) (meth : Method) (c : Code) (A : Nat → Prop), jC E Y Z p s m args meth c A → ∀ (H : Heap) (locs : List Loc) (ls : Array Slot), lv_has ls Y.2.2.1 lv → va_P E.1 vwCl Mc H → va_D A Mc → va_Run p l e Z.1 s m args below meth c H locs k n Y'.2.2.2.2.2.1 Y'.2.2.2.2.2.2 (F0 m pc ls st) rest (jQ E Q' (va_A Mc H.size) (Value.ref b :: As).toArray) (va_A Mc H.size) := by
  intro p l e s m args below meth c A C H locs ls hl hP hD
  obtain ⟨hx, hb, hml, hr, hlk, ho, hnm, hts, hK, hA, hX⟩ := id C
  obtain ⟨hR, hf⟩ := jfit_of hfit
  obtain ⟨cell, g1, g2, g3⟩ := va_recv hK.1 hP hc hre
  rw [hcn] at g3
  exact va_runV (As := As) (rest := rest) ⟨hx, hb, hml, ho, hts⟩ (hm l H.size) ⟨callB_of np hts (jws_good hY.1) rfl rfl rfl (hts _ hY.1.1) (hts _ hlk0) hY.1.2.2 hR, hts _ hY.2.1, hts _ hY.2.2⟩ ⟨jB_blind, ⟨cell, g1, g2, g3⟩, fun U hU hW => ⟨rfl, by rw [hU], by rw [hU]; exact hP, jK.moved hW.alike hK, hD.weaken (fun _ _ _ _ => trivial)⟩⟩ rfl hnp hl.1 hst (lv_room (Nat.le_of_ble_eq_true hw)) hdg hf
theorem j_runI {E : jD} {Y : jY} {Z : jZ} {k n pc : Nat} {lv : List (Nat × Value)} {st : List Value} {idx np : Nat} {Mc : va_W} {Q' : jP} {rest : List Value} (Y' : jY) {As : List Value} {b : Nat} (hm : MC E Y' (.ref b :: As) Mc Q') (hY : jMI Y' np) (hret : Y'.2.2.2.1 = none) (hlk0 : Cond.methodLink Y.1.cls idx Y'.1 ∈ jT) (hst : st = As.reverse ++ .ref b :: rest) (hnp : As.length = np) (hw : Nat.ble ((rest.map fun v => v.category).sum) 8 = true) (hfit : jfit Z.1 Y' k n = true) (hdg : decode Y.2.1 pc = .ok (.invokespecial idx, 3)) :
    ∀ (p : Program) (l : Launch) (e : Env) (s : State) (m : MethodId) (args : Array Value) (below : List Frame) (meth : Method) (c : Code) (A : Nat → Prop), jC E Y Z p s m args meth c A → ∀ (H : Heap) (locs : List Loc) (ls : Array Slot), lv_has ls Y.2.2.1 lv → va_P E.1 vwCl Mc H → va_D A Mc → va_Run p l e Z.1 s m args below meth c H locs k n Y'.2.2.2.2.2.1 Y'.2.2.2.2.2.2 (F0 m pc ls st) rest (jQ E Q' (va_A Mc H.size) (Value.ref b :: As).toArray) (va_A Mc H.size) := by
  intro p l e s m args below meth c A C H locs ls hl hP hD
  obtain ⟨hx, hb, hml, hr, hlk, ho, hnm, hts, hK, hA, hX⟩ := id C
  obtain ⟨hR, hf⟩ := jfit_of hfit
  obtain ⟨y0, b0, mL, rt, lvl, mc, ms⟩ := Y'
  cases (show rt = none from hret)
  exact va_runI (As := As) (rest := rest) ⟨hx, hb, hml, ho, hts⟩ (hm l H.size) ⟨callB_of np hts (jws_good hY.1) rfl rfl rfl (hts _ hY.1.1) (hts _ hlk0) hY.1.2.2 hR, hY.2.2, hts _ hY.2.1⟩ ⟨jB_blind, fun U hU hW => ⟨rfl, by rw [hU], by rw [hU]; exact hP, jK.moved hW.alike hK, hD.weaken (fun _ _ _ _ => trivial)⟩⟩ rfl hnp hl.1 hst (lv_room (Nat.le_of_ble_eq_true hw)) hdg hf
theorem j_runS {E : jD} {Y : jY} {Z : jZ} {k n pc : Nat} {lv : List (Nat × Value)} {st : List Value} {idx np : Nat} {Mc : va_W} {Q' : jP} {rest : List Value} (Y' : jY) {As : List Value} (hm : MC E Y' As Mc Q') (hY : jMS Y' np) (hlk0 : Cond.methodLink Y.1.cls idx Y'.1 ∈ jT) (hst : st = As.reverse ++ rest) (hnp : As.length = np) (hw : Nat.ble ((rest.map fun v => v.category).sum) 8 = true) (hfit : jfit Z.1 Y' k n = true) (hdg : decode Y.2.1 pc = .ok (.invokestatic idx, 3)) :
    ∀ (p : Program) (l : Launch) (e : Env) (s : State) (m : MethodId) (args : Array Value) (below : List Frame) (meth : Method) (c : Code) (A : Nat → Prop), jC E Y Z p s m args meth c A → ∀ (H : Heap) (locs : List Loc) (ls : Array Slot), lv_has ls Y.2.2.1 lv → va_P E.1 vwCl Mc H → va_D A Mc → va_Run p l e Z.1 s m args below meth c H locs k n Y'.2.2.2.2.2.1 Y'.2.2.2.2.2.2 (F0 m pc ls st) rest (jQ E Q' (va_A Mc H.size) As.toArray) (va_A Mc H.size) := by
  intro p l e s m args below meth c A C H locs ls hl hP hD
  obtain ⟨hx, hb, hml, hr, hlk, ho, hnm, hts, hK, hA, hX⟩ := id C
  obtain ⟨hR, hf⟩ := jfit_of hfit
  exact va_runS (As := As) (rest := rest) ⟨hx, hb, hml, ho, hts⟩ (hm l H.size) ⟨callB_of np hts (jws_good hY.1) rfl rfl rfl (hts _ hY.1.1) (hts _ hlk0) hY.1.2.2 hR, hts _ hY.2⟩ ⟨jB_blind, fun U hU hW => ⟨rfl, by rw [hU], by rw [hU]; exact hP, jK.moved hW.alike hK, hD.weaken (fun _ _ _ _ => trivial)⟩⟩ rfl hnp hl.1 hst (lv_room (Nat.le_of_ble_eq_true hw)) hdg hf
theorem j_callV {E : jD} {Y : jY} {Z : jZ} {k n pc : Nat} {lv : List (Nat × Value)} {st : List Value} {M : va_W} (pc' : Nat) (Y' : jY) (is : List Nat) (As : List Value) {idx np : Nat} {Mc : va_W} {rest : List Value} {b ci : Nat} {fs : List Value} {r : vw_C} {Q' : jP} (hm : MC E Y' (.ref b :: As) Mc Q') (hY : jMV Y' np) (hlk0 : Cond.methodLink Y.1.cls idx Y'.1 ∈ jT) (hdg : decode Y.2.1 pc = .ok (.invokevirtual idx, 3)) (q0 : Nat) (hc : vwCl[ci]? = some r) (hcn : r.1 = Y'.1.cls) (hre : Mc[q0]? = some (b, jO ci fs)) (hst : st = As.reverse ++ .ref b :: rest) (hnp : As.length = np) (hw : Nat.ble ((rest.map fun v => v.category).sum) 8 = true) (hfit : jfit Z.1 Y' k n = true) (hsub : is.map (fun i => M[i]?) = Mc.map some) (hnd : va_nd is = true) (hsame : ∀ r N, Q' r N → (N.take is.length).map Prod.fst = Mc.map Prod.fst) (kk : ∀ r N, Q' r N → J E Y Z (k + Y'.2.2.2.2.2.1) (n + Y'.2.2.2.2.2.2) pc' lv (r.toList ++ rest) (jput M is N)) (hpc : pc + 3 = pc' := by rfl) : J E Y Z k n pc lv st M :=
  j_run is (j_runV Y' hm hY hlk0 hc hcn hre hst hnp hw hfit hdg) hsub hnd hsame kk hpc
theorem j_callVi {E : jD} {Y : jY} {Z : jZ} {k n pc : Nat} {lv : List (Nat × Value)} {st : List Value} {M : va_W} (pc' : Nat) (Y' : jY) (is : List Nat) (As : List Value) {idx np : Nat} {Mc : va_W} {rest : List Value} {b ci : Nat} {fs : List Value} {r : vw_C} {z : Int} (hm : MC E Y' (.ref b :: As) Mc (fun r N => r = some (.int (iI z)) ∧ N = Mc)) (hY : jMV Y' np) (hlk0 : Cond.methodLink Y.1.cls idx Y'.1 ∈ jT) (hdg : decode Y.2.1 pc = .ok (.invokevirtual idx, 3)) (q0 : Nat) (hc : vwCl[ci]? = some r) (hcn : r.1 = Y'.1.cls) (hre : Mc[q0]? = some (b, jO ci fs)) (hst : st = As.reverse ++ .ref b :: rest) (hnp : As.length = np) (hw : Nat.ble ((rest.map fun v => v.category).sum) 8 = true) (hfit : jfit Z.1 Y' k n = true) (hsub : is.map (fun i => M[i]?) = Mc.map some) (hnd : va_nd is = true) (h0 : Y'.2.2.2.2.2 = (0, 0)) (kk : J E Y Z k n pc' lv (.int (iI z) :: rest) M) (hpc : pc + 3 = pc' := by rfl) : J E Y Z k n pc lv st M := by
  refine j_run is (j_runV Y' hm hY hlk0 hc hcn hre hst hnp hw hfit hdg) hsub hnd (fun r N h => ?_) (fun r N h => ?_) hpc
  · obtain ⟨-, rfl⟩ := h
    have hl : is.length = N.length := by have := congrArg List.length hsub; simpa using this
    rw [hl, List.take_length]
  · obtain ⟨rfl, rfl⟩ := h
    rw [jput_same hsub, h0]
    exact kk
theorem j_callVl {E : jD} {Y : jY} {Z : jZ} {k n pc : Nat} {lv : List (Nat × Value)} {st : List Value} {M : va_W} (pc' : Nat) (Y' : jY) (is : List Nat) (As : List Value) {idx np : Nat} {Mc : va_W} {rest : List Value} {b ci : Nat} {fs : List Value} {r : vw_C} {z : Int64} (hm : MC E Y' (.ref b :: As) Mc (fun r N => r = some (.long z) ∧ N = Mc)) (hY : jMV Y' np) (hlk0 : Cond.methodLink Y.1.cls idx Y'.1 ∈ jT) (hdg : decode Y.2.1 pc = .ok (.invokevirtual idx, 3)) (q0 : Nat) (hc : vwCl[ci]? = some r) (hcn : r.1 = Y'.1.cls) (hre : Mc[q0]? = some (b, jO ci fs)) (hst : st = As.reverse ++ .ref b :: rest) (hnp : As.length = np) (hw : Nat.ble ((rest.map fun v => v.category).sum) 8 = true) (hfit : jfit Z.1 Y' k n = true) (hsub : is.map (fun i => M[i]?) = Mc.map some) (hnd : va_nd is = true) (h0 : Y'.2.2.2.2.2 = (0, 0)) (kk : J E Y Z k n pc' lv (.long z :: rest) M) (hpc : pc + 3 = pc' := by rfl) : J E Y Z k n pc lv st M := by
  refine j_run is (j_runV Y' hm hY hlk0 hc hcn hre hst hnp hw hfit hdg) hsub hnd (fun r N h => ?_) (fun r N h => ?_) hpc
  · obtain ⟨-, rfl⟩ := h
    have hl : is.length = N.length := by have := congrArg List.length hsub; simpa using this
    rw [hl, List.take_length]
  · obtain ⟨rfl, rfl⟩ := h
    rw [jput_same hsub, h0]
    exact kk
theorem j_callI {E : jD} {Y : jY} {Z : jZ} {k n pc : Nat} {lv : List (Nat × Value)} {st : List Value} {M : va_W} (pc' : Nat) (Y' : jY) (is : List Nat) (As : List Value) {idx np : Nat} {Mc : va_W} {rest : List Value} {b : Nat} {Q' : jP} (hm : MC E Y' (.ref b :: As) Mc Q') (hY : jMI Y' np) (hlk0 : Cond.methodLink Y.1.cls idx Y'.1 ∈ jT) (hdg : decode Y.2.1 pc = .ok (.invokespecial idx, 3)) (hret : Y'.2.2.2.1 = none) (hst : st = As.reverse ++ .ref b :: rest) (hnp : As.length = np) (hw : Nat.ble ((rest.map fun v => v.category).sum) 8 = true) (hfit : jfit Z.1 Y' k n = true) (hsub : is.map (fun i => M[i]?) = Mc.map some) (hnd : va_nd is = true) (hsame : ∀ r N, Q' r N → (N.take is.length).map Prod.fst = Mc.map Prod.fst) (kk : ∀ r N, Q' r N → J E Y Z (k + Y'.2.2.2.2.2.1) (n + Y'.2.2.2.2.2.2) pc' lv (r.toList ++ rest) (jput M is N)) (hpc : pc + 3 = pc' := by rfl) : J E Y Z k n pc lv st M :=
  j_run is (j_runI Y' hm hY hret hlk0 hst hnp hw hfit hdg) hsub hnd hsame kk hpc
theorem j_callS {E : jD} {Y : jY} {Z : jZ} {k n pc : Nat} {lv : List (Nat × Value)} {st : List Value} {M : va_W} (pc' : Nat) (Y' : jY) (is : List Nat) (As : List Value) {idx np : Nat} {Mc : va_W} {rest : List Value} {Q' : jP} (hm : MC E Y' As Mc Q') (hY : jMS Y' np) (hlk0 : Cond.methodLink Y.1.cls idx Y'.1 ∈ jT) (hdg : decode Y.2.1 pc = .ok (.invokestatic idx, 3)) (hst : st = As.reverse ++ rest) (hnp : As.length = np) (hw : Nat.ble ((rest.map fun v => v.category).sum) 8 = true) (hfit : jfit Z.1 Y' k n = true) (hsub : is.map (fun i => M[i]?) = Mc.map some) (hnd : va_nd is = true) (hsame : ∀ r N, Q' r N → (N.take is.length).map Prod.fst = Mc.map Prod.fst) (kk : ∀ r N, Q' r N → J E Y Z (k + Y'.2.2.2.2.2.1) (n + Y'.2.2.2.2.2.2) pc' lv (r.toList ++ rest) (jput M is N)) (hpc : pc + 3 = pc' := by rfl) : J E Y Z k n pc lv st M :=
  j_run is (j_runS Y' hm hY hlk0 hst hnp hw hfit hdg) hsub hnd hsame kk hpc
theorem j_callSi {E : jD} {Y : jY} {Z : jZ} {k n pc : Nat} {lv : List (Nat × Value)} {st : List Value} {M : va_W} (pc' : Nat) (Y' : jY) (is : List Nat) (As : List Value) {idx np : Nat} {Mc : va_W} {rest : List Value} {z : Int} (hm : MC E Y' As Mc (fun r N => r = some (.int (iI z)) ∧ N = Mc)) (hY : jMS Y' np) (hlk0 : Cond.methodLink Y.1.cls idx Y'.1 ∈ jT) (hdg : decode Y.2.1 pc = .ok (.invokestatic idx, 3)) (hst : st = As.reverse ++ rest) (hnp : As.length = np) (hw : Nat.ble ((rest.map fun v => v.category).sum) 8 = true) (hfit : jfit Z.1 Y' k n = true) (hsub : is.map (fun i => M[i]?) = Mc.map some) (hnd : va_nd is = true) (h0 : Y'.2.2.2.2.2 = (0, 0)) (kk : J E Y Z k n pc' lv (.int (iI z) :: rest) M) (hpc : pc + 3 = pc' := by rfl) : J E Y Z k n pc lv st M := by
  refine j_run is (j_runS Y' hm hY hlk0 hst hnp hw hfit hdg) hsub hnd (fun r N h => ?_) (fun r N h => ?_) hpc
  · obtain ⟨-, rfl⟩ := h
    have hl : is.length = N.length := by have := congrArg List.length hsub; simpa using this
    rw [hl, List.take_length]
  · obtain ⟨rfl, rfl⟩ := h
    rw [jput_same hsub, h0]
    exact kk
theorem j_callSl {E : jD} {Y : jY} {Z : jZ} {k n pc : Nat} {lv : List (Nat × Value)} {st : List Value} {M : va_W} (pc' : Nat) (Y' : jY) (is : List Nat) (As : List Value) {idx np : Nat} {Mc : va_W} {rest : List Value} {z : Int64} (hm : MC E Y' As Mc (fun r N => r = some (.long z) ∧ N = Mc)) (hY : jMS Y' np) (hlk0 : Cond.methodLink Y.1.cls idx Y'.1 ∈ jT) (hdg : decode Y.2.1 pc = .ok (.invokestatic idx, 3)) (hst : st = As.reverse ++ rest) (hnp : As.length = np) (hw : Nat.ble ((rest.map fun v => v.category).sum) 8 = true) (hfit : jfit Z.1 Y' k n = true) (hsub : is.map (fun i => M[i]?) = Mc.map some) (hnd : va_nd is = true) (h0 : Y'.2.2.2.2.2 = (0, 0)) (kk : J E Y Z k n pc' lv (.long z :: rest) M) (hpc : pc + 3 = pc' := by rfl) : J E Y Z k n pc lv st M := by
  refine j_run is (j_runS Y' hm hY hlk0 hst hnp hw hfit hdg) hsub hnd (fun r N h => ?_) (fun r N h => ?_) hpc
  · obtain ⟨-, rfl⟩ := h
    have hl : is.length = N.length := by have := congrArg List.length hsub; simpa using this
    rw [hl, List.take_length]
  · obtain ⟨rfl, rfl⟩ := h
    rw [jput_same hsub, h0]
    exact kk
theorem j_obj {E : jD} {Y : jY} {Z : jZ} {k n pc : Nat} {lv : List (Nat × Value)} {st : List Value} {M : va_W} (pc' : Nat) {idx a : Nat} (h1 : Cond.methodLink Y.1.cls idx Lib.objectInit ∈ jT) (hdg : decode Y.2.1 pc = .ok (.invokespecial idx, 3)) (hroom : (Nat.ble 1 Z.1.frames && Nat.ble ((st.map fun v => v.category).sum + 12) Z.1.locals) = true) (kk : J E Y Z k n pc' lv (st) M) (hpc : pc + 3 = pc' := by rfl) : J E Y Z k n pc lv (.ref a :: st) M := by
  subst hpc
  intro p l e s m args below meth c A C H locs ls hl hP hD hS
  obtain ⟨hx, hb, hml, hr, hlk, ho, hnm, hts, hK, hA, hX⟩ := id C
  exact by
    rw [Bool.and_eq_true] at hroom
    exact W.objInit hx hb ho (hts _ h1) (hts _ wim_objectInit) (hts _ wc_objectInit) rfl (hl.1.trans hml.symm) rfl hdg (Nat.le_of_ble_eq_true hroom.1) (by show 2 * 0 + _ + 12 ≤ _; have := Nat.le_of_ble_eq_true hroom.2; omega) (kk p l e s m args below meth c A C H locs ls hl hP hD hS)
theorem j_max {E : jD} {Y : jY} {Z : jZ} {k n pc : Nat} {lv : List (Nat × Value)} {st : List Value} {M : va_W} (pc' : Nat) {idx : Nat} {a b : Int} (h1 : Cond.methodLink Y.1.cls idx Lib.Math.max.name ∈ jT) (hdg : decode Y.2.1 pc = .ok (.invokestatic idx, 3)) (ra : jr a) (rb : jr b) (hroom : (Nat.ble 1 Z.1.frames && (Nat.ble ((st.map fun v => v.category).sum + 13) Z.1.locals && (Nat.ble k Z.1.cells && Nat.ble n Z.1.slots))) = true) (kk : J E Y Z k n pc' lv (.int (iI (max a b)) :: st) M) (hpc : pc + 3 = pc' := by rfl) : J E Y Z k n pc lv (.int (iI b) :: .int (iI a) :: st) M := by
  subst hpc
  intro p l e s m args below meth c A C H locs ls hl hP hD hS
  obtain ⟨hx, hb, hml, hr, hlk, ho, hnm, hts, hK, hA, hX⟩ := id C
  exact by
    simp only [Bool.and_eq_true] at hroom
    refine va_mmax hx hb (hml.trans hl.1.symm) ho (hts _ h1) (hts _ wst_yJ9_max_7cf53) (hts _ wi_java_lang_Math) (hts _ wc_yJ9_max_7cf53) (Nat.le_of_ble_eq_true hroom.1) (Nat.le_of_ble_eq_true hroom.2.1) (Nat.le_of_ble_eq_true hroom.2.2.1) (Nat.le_of_ble_eq_true hroom.2.2.2) hdg ?_
    have em : (if iI a < iI b then iI b else iI a) = iI (max a b) := by
      by_cases h : a < b
      · rw [if_pos ((iI_lt ra rb).mpr h)]; exact congrArg iI (by omega)
      · rw [if_neg (fun q => h ((iI_lt ra rb).mp q))]; exact congrArg iI (by omega)
    rw [em]
    exact (kk p l e s m args below meth c A C H locs ls hl hP hD hS)
theorem j_min {E : jD} {Y : jY} {Z : jZ} {k n pc : Nat} {lv : List (Nat × Value)} {st : List Value} {M : va_W} (pc' : Nat) {idx : Nat} {a b : Int} (h1 : Cond.methodLink Y.1.cls idx Lib.Math.min.name ∈ jT) (hdg : decode Y.2.1 pc = .ok (.invokestatic idx, 3)) (ra : jr a) (rb : jr b) (hroom : (Nat.ble 1 Z.1.frames && (Nat.ble ((st.map fun v => v.category).sum + 13) Z.1.locals && (Nat.ble k Z.1.cells && Nat.ble n Z.1.slots))) = true) (kk : J E Y Z k n pc' lv (.int (iI (min a b)) :: st) M) (hpc : pc + 3 = pc' := by rfl) : J E Y Z k n pc lv (.int (iI b) :: .int (iI a) :: st) M := by
  subst hpc
  intro p l e s m args below meth c A C H locs ls hl hP hD hS
  obtain ⟨hx, hb, hml, hr, hlk, ho, hnm, hts, hK, hA, hX⟩ := id C
  exact by
    simp only [Bool.and_eq_true] at hroom
    refine va_mmin hx hb (hml.trans hl.1.symm) ho (hts _ h1) (hts _ wst_yJ9_min_7cf53) (hts _ wi_java_lang_Math) (hts _ wc_yJ9_min_7cf53) (Nat.le_of_ble_eq_true hroom.1) (Nat.le_of_ble_eq_true hroom.2.1) (Nat.le_of_ble_eq_true hroom.2.2.1) (Nat.le_of_ble_eq_true hroom.2.2.2) hdg ?_
    have em : (if iI b < iI a then iI b else iI a) = iI (min a b) := by
      by_cases h : b < a
      · rw [if_pos ((iI_lt rb ra).mpr h)]; exact congrArg iI (by omega)
      · rw [if_neg (fun q => h ((iI_lt rb ra).mp q))]; exact congrArg iI (by omega)
    rw [em]
    exact (kk p l e s m args below meth c A C H locs ls hl hP hD hS)
theorem j_copy {E : jD} {Y : jY} {Z : jZ} {k n pc : Nat} {lv : List (Nat × Value)} {st : List Value} {M : va_W} (pc' q0 q1 i j w : Nat) {idx a0 a N0 N1 : Nat} {f g : Nat → Int32} {sp dp z : Int} (h1 : Cond.methodLink Y.1.cls idx arraycopyName ∈ jT) (hdg : decode Y.2.1 pc = .ok (.invokestatic idx, 3)) (he0 : M[q0]? = some (a0, jA E N0 f)) (he1 : M[q1]? = some (a, jA E N1 g)) (hN : (Nat.blt N0 2147483648 && Nat.blt N1 2147483648) = true) (hi : sp = (i : Int)) (hj : dp = (j : Int)) (hw : z = (w : Int)) (hi2 : i + w ≤ N0) (hj2 : j + w ≤ N1) (hroom : (Nat.ble 1 Z.1.frames && Nat.ble ((st.map fun v => v.category).sum + (nativeFrameWords "java/lang/System" "arraycopy" 5 + 11)) Z.1.locals) = true) (kk : J E Y Z k n pc' lv st (M.set q1 (a, jA E N1 (va_cpy f g i j w)))) (hpc : pc + 3 = pc' := by rfl) : J E Y Z k n pc lv (.int (iI z) :: .int (iI dp) :: .ref a :: .int (iI sp) :: .ref a0 :: st) M := by
  subst hpc
  subst hi; subst hj; subst hw
  intro p l e s m args below meth c A C H locs ls hl hP hD hS
  obtain ⟨hx, hb, hml, hr, hlk, ho, hnm, hts, hK, hA, hX⟩ := id C
  rw [Bool.and_eq_true] at hroom hN
  have hN0 := Nat.le_of_ble_eq_true hN.1
  have hN1 := Nat.le_of_ble_eq_true hN.2
  have nn : ∀ x : Nat, x < 2147483648 → ¬ iI (x : Int) < 0 := fun x hx0 => by rw [← iI_0, iI_lt ⟨by omega, by omega⟩ jr_0]; omega
  have ci : (iI (i : Int)).toNatClampNeg = i := iI_clamp (by omega)
  have cj : (iI (j : Int)).toNatClampNeg = j := iI_clamp (by omega)
  have cw : (iI (w : Int)).toNatClampNeg = w := iI_clamp (by omega)
  refine va_copyi (ty := .int) hx hb (hml.trans hl.1.symm) ho (hts _ h1) (hts _ wna_arraycopyName) (hts _ wst_arraycopyName) (hts _ wi_java_lang_System) hK.1 hP hD hS q0 q1 0 0 he0 he1 rfl rfl rfl (nn i (by omega)) (nn j (by omega)) (nn w (by omega)) (by rw [ci, cw]; exact hi2) (by rw [cj, cw]; exact hj2) (fun _ _ => rfl) (Nat.le_of_ble_eq_true hroom.1) (Nat.le_of_ble_eq_true hroom.2) hdg (fun H1 locs1 hP1 hD1 hS1 => ?_)
  rw [ci, cj, cw] at hP1 hD1
  exact kk p l e s m args below meth c A C H1 locs1 ls hl hP1 hD1 hS1
end
section
abbrev Y_J6_bitCount_0f7a4 : jY := (yJ6_bitCount_0f7a4, cJ6_bitCount_0f7a4, 1, (some .int), 0, 0, 0)
theorem m_J6_bitCount_0f7a4 : jMS Y_J6_bitCount_0f7a4 1 := ⟨⟨wi_java_lang_Integer, wc_yJ6_bitCount_0f7a4, by decide +kernel, by decide +kernel, by decide +kernel⟩, wst_yJ6_bitCount_0f7a4⟩
abbrev Y_J7_fill_53178 : jY := (yJ7_fill_53178, cJ7_fill_53178, 4, none, 0, 0, 0)
theorem m_J7_fill_53178 : jMS Y_J7_fill_53178 2 := ⟨⟨wi_java_util_Arrays, wc_yJ7_fill_53178, by decide +kernel, by decide +kernel, by decide +kernel⟩, wst_yJ7_fill_53178⟩
abbrev Y_J7_fill_d0a16 : jY := (yJ7_fill_d0a16, cJ7_fill_d0a16, 5, none, 0, 0, 0)
theorem m_J7_fill_d0a16 : jMS Y_J7_fill_d0a16 2 := ⟨⟨wi_java_util_Arrays, wc_yJ7_fill_d0a16, by decide +kernel, by decide +kernel, by decide +kernel⟩, wst_yJ7_fill_d0a16⟩
abbrev Y_J9_max_7cf53 : jY := (yJ9_max_7cf53, cJ9_max_7cf53, 2, (some .int), 0, 0, 0)
theorem m_J9_max_7cf53 : jMS Y_J9_max_7cf53 2 := ⟨⟨wi_java_lang_Math, wc_yJ9_max_7cf53, by decide +kernel, by decide +kernel, by decide +kernel⟩, wst_yJ9_max_7cf53⟩
abbrev Y_J9_min_7cf53 : jY := (yJ9_min_7cf53, cJ9_min_7cf53, 2, (some .int), 0, 0, 0)
theorem m_J9_min_7cf53 : jMS Y_J9_min_7cf53 2 := ⟨⟨wi_java_lang_Math, wc_yJ9_min_7cf53, by decide +kernel, by decide +kernel, by decide +kernel⟩, wst_yJ9_min_7cf53⟩
abbrev Y_X0_allComeToTheRoot : jY := (yX0_allComeToTheRoot, cX0_allComeToTheRoot, 2, (some .boolean), 1, 0, 0)
theorem m_X0_allComeToTheRoot : jMS Y_X0_allComeToTheRoot 1 := ⟨⟨wi_ShapeMinima_Family, wc_yX0_allComeToTheRoot, by decide +kernel, by decide +kernel, by decide +kernel⟩, wst_yX0_allComeToTheRoot⟩
abbrev Y_X0_ancestorAt : jY := (yX0_ancestorAt, cX0_ancestorAt, 5, (some .int), 0, 0, 0)
theorem m_X0_ancestorAt : jMV Y_X0_ancestorAt 2 := ⟨⟨wi_ShapeMinima_Family, wc_yX0_ancestorAt, by decide +kernel, by decide +kernel, by decide +kernel⟩, wim_yX0_ancestorAt, wse_yX0_ancestorAt⟩
abbrev Y_X0_becomeTold : jY := (yX0_becomeTold, cX0_becomeTold, 3, none, 4, 0, 0)
theorem m_X0_becomeTold : jMV Y_X0_becomeTold 1 := ⟨⟨wi_ShapeMinima_Family, wc_yX0_becomeTold, by decide +kernel, by decide +kernel, by decide +kernel⟩, wim_yX0_becomeTold, wse_yX0_becomeTold⟩
abbrev Y_X0_countSizes : jY := (yX0_countSizes, cX0_countSizes, 4, none, 1, 0, 0)
theorem m_X0_countSizes : jMV Y_X0_countSizes 0 := ⟨⟨wi_ShapeMinima_Family, wc_yX0_countSizes, by decide +kernel, by decide +kernel, by decide +kernel⟩, wim_yX0_countSizes, wse_yX0_countSizes⟩
abbrev Y_X0_goTour : jY := (yX0_goTour, cX0_goTour, 6, none, 3, 0, 0)
theorem m_X0_goTour : jMV Y_X0_goTour 0 := ⟨⟨wi_ShapeMinima_Family, wc_yX0_goTour, by decide +kernel, by decide +kernel, by decide +kernel⟩, wim_yX0_goTour, wse_yX0_goTour⟩
abbrev Y_X0_init : jY := (yX0_init, cX0_init, 1, none, 3, 14, 369)
theorem m_X0_init : jMI Y_X0_init 0 := ⟨⟨wi_ShapeMinima_Family, wc_yX0_init, by decide +kernel, by decide +kernel, by decide +kernel⟩, wim_yX0_init, rfl⟩
abbrev Y_X0_isTold : jY := (yX0_isTold, cX0_isTold, 3, (some .boolean), 2, 0, 0)
theorem m_X0_isTold : jMS Y_X0_isTold 1 := ⟨⟨wi_ShapeMinima_Family, wc_yX0_isTold, by decide +kernel, by decide +kernel, by decide +kernel⟩, wst_yX0_isTold⟩
abbrev Y_X0_lacks : jY := (yX0_lacks, cX0_lacks, 2, (some .boolean), 0, 0, 0)
theorem m_X0_lacks : jMV Y_X0_lacks 1 := ⟨⟨wi_ShapeMinima_Family, wc_yX0_lacks, by decide +kernel, by decide +kernel, by decide +kernel⟩, wim_yX0_lacks, wse_yX0_lacks⟩
abbrev Y_X0_meetingNode : jY := (yX0_meetingNode, cX0_meetingNode, 5, (some .int), 1, 0, 0)
theorem m_X0_meetingNode : jMV Y_X0_meetingNode 2 := ⟨⟨wi_ShapeMinima_Family, wc_yX0_meetingNode, by decide +kernel, by decide +kernel, by decide +kernel⟩, wim_yX0_meetingNode, wse_yX0_meetingNode⟩
abbrev Y_X0_root : jY := (yX0_root, cX0_root, 2, (some .int), 0, 0, 0)
theorem m_X0_root : jMV Y_X0_root 0 := ⟨⟨wi_ShapeMinima_Family, wc_yX0_root, by decide +kernel, by decide +kernel, by decide +kernel⟩, wim_yX0_root, wse_yX0_root⟩
abbrev Y_X0_sonBehind : jY := (yX0_sonBehind, cX0_sonBehind, 4, (some .int), 0, 0, 0)
theorem m_X0_sonBehind : jMV Y_X0_sonBehind 2 := ⟨⟨wi_ShapeMinima_Family, wc_yX0_sonBehind, by decide +kernel, by decide +kernel, by decide +kernel⟩, wim_yX0_sonBehind, wse_yX0_sonBehind⟩
abbrev Y_X0_stepsToTheRoot : jY := (yX0_stepsToTheRoot, cX0_stepsToTheRoot, 5, (some .int), 0, 0, 0)
theorem m_X0_stepsToTheRoot : jMS Y_X0_stepsToTheRoot 3 := ⟨⟨wi_ShapeMinima_Family, wc_yX0_stepsToTheRoot, by decide +kernel, by decide +kernel, by decide +kernel⟩, wst_yX0_stepsToTheRoot⟩
abbrev Y_X1_forget : jY := (yX1_forget, cX1_forget, 1, none, 0, 0, 0)
theorem m_X1_forget : jMV Y_X1_forget 0 := ⟨⟨wi_ShapeMinima_History, wc_yX1_forget, by decide +kernel, by decide +kernel, by decide +kernel⟩, wim_yX1_forget, wse_yX1_forget⟩
abbrev Y_X1_init : jY := (yX1_init, cX1_init, 1, none, 1, 2, 20)
theorem m_X1_init : jMI Y_X1_init 0 := ⟨⟨wi_ShapeMinima_History, wc_yX1_init, by decide +kernel, by decide +kernel, by decide +kernel⟩, wim_yX1_init, rfl⟩
abbrev Y_X1_loseOldest : jY := (yX1_loseOldest, cX1_loseOldest, 2, none, 0, 0, 0)
theorem m_X1_loseOldest : jMV Y_X1_loseOldest 0 := ⟨⟨wi_ShapeMinima_History, wc_yX1_loseOldest, by decide +kernel, by decide +kernel, by decide +kernel⟩, wim_yX1_loseOldest, wse_yX1_loseOldest⟩
abbrev Y_X1_remember : jY := (yX1_remember, cX1_remember, 3, none, 1, 0, 0)
theorem m_X1_remember : jMV Y_X1_remember 2 := ⟨⟨wi_ShapeMinima_History, wc_yX1_remember, by decide +kernel, by decide +kernel, by decide +kernel⟩, wim_yX1_remember, wse_yX1_remember⟩
abbrev Y_X2_init : jY := (yX2_init, cX2_init, 1, none, 2, 2, 50)
theorem m_X2_init : jMI Y_X2_init 0 := ⟨⟨wi_ShapeMinima_Image, wc_yX2_init, by decide +kernel, by decide +kernel, by decide +kernel⟩, wim_yX2_init, rfl⟩
abbrev Y_X3_ancestor : jY := (yX3_ancestor, cX3_ancestor, 6, (some .int), 2, 0, 0)
theorem m_X3_ancestor : jMV Y_X3_ancestor 2 := ⟨⟨wi_ShapeMinima_Index, wc_yX3_ancestor, by decide +kernel, by decide +kernel, by decide +kernel⟩, wim_yX3_ancestor, wse_yX3_ancestor⟩
abbrev Y_X3_areAlike : jY := (yX3_areAlike, cX3_areAlike, 5, (some .boolean), 2, 0, 0)
theorem m_X3_areAlike : jMV Y_X3_areAlike 3 := ⟨⟨wi_ShapeMinima_Index, wc_yX3_areAlike, by decide +kernel, by decide +kernel, by decide +kernel⟩, wim_yX3_areAlike, wse_yX3_areAlike⟩
abbrev Y_X3_becomeOver : jY := (yX3_becomeOver, cX3_becomeOver, 4, none, 2, 0, 0)
theorem m_X3_becomeOver : jMV Y_X3_becomeOver 2 := ⟨⟨wi_ShapeMinima_Index, wc_yX3_becomeOver, by decide +kernel, by decide +kernel, by decide +kernel⟩, wim_yX3_becomeOver, wse_yX3_becomeOver⟩
abbrev Y_X3_bits : jY := (yX3_bits, cX3_bits, 2, (some .int), 1, 0, 0)
theorem m_X3_bits : jMV Y_X3_bits 0 := ⟨⟨wi_ShapeMinima_Index, wc_yX3_bits, by decide +kernel, by decide +kernel, by decide +kernel⟩, wim_yX3_bits, wse_yX3_bits⟩
abbrev Y_X3_change : jY := (yX3_change, cX3_change, 5, (some .boolean), 2, 0, 0)
theorem m_X3_change : jMV Y_X3_change 2 := ⟨⟨wi_ShapeMinima_Index, wc_yX3_change, by decide +kernel, by decide +kernel, by decide +kernel⟩, wim_yX3_change, wse_yX3_change⟩
abbrev Y_X3_depthOf : jY := (yX3_depthOf, cX3_depthOf, 4, (some .int), 2, 0, 0)
theorem m_X3_depthOf : jMV Y_X3_depthOf 1 := ⟨⟨wi_ShapeMinima_Index, wc_yX3_depthOf, by decide +kernel, by decide +kernel, by decide +kernel⟩, wim_yX3_depthOf, wse_yX3_depthOf⟩
abbrev Y_X3_entries : jY := (yX3_entries, cX3_entries, 3, (some .int), 0, 0, 0)
theorem m_X3_entries : jMV Y_X3_entries 0 := ⟨⟨wi_ShapeMinima_Index, wc_yX3_entries, by decide +kernel, by decide +kernel, by decide +kernel⟩, wim_yX3_entries, wse_yX3_entries⟩
abbrev Y_X3_init : jY := (yX3_init, cX3_init, 1, none, 2, 6, 170)
theorem m_X3_init : jMI Y_X3_init 0 := ⟨⟨wi_ShapeMinima_Index, wc_yX3_init, by decide +kernel, by decide +kernel, by decide +kernel⟩, wim_yX3_init, rfl⟩
abbrev Y_X3_isNone : jY := (yX3_isNone, cX3_isNone, 1, (some .boolean), 1, 0, 0)
theorem m_X3_isNone : jMV Y_X3_isNone 0 := ⟨⟨wi_ShapeMinima_Index, wc_yX3_isNone, by decide +kernel, by decide +kernel, by decide +kernel⟩, wim_yX3_isNone, wse_yX3_isNone⟩
abbrev Y_X3_kthPlace : jY := (yX3_kthPlace, cX3_kthPlace, 5, (some .int), 1, 0, 0)
theorem m_X3_kthPlace : jMV Y_X3_kthPlace 3 := ⟨⟨wi_ShapeMinima_Index, wc_yX3_kthPlace, by decide +kernel, by decide +kernel, by decide +kernel⟩, wim_yX3_kthPlace, wse_yX3_kthPlace⟩
abbrev Y_X3_leadingDigit : jY := (yX3_leadingDigit, cX3_leadingDigit, 2, (some .int), 0, 0, 0)
theorem m_X3_leadingDigit : jMS Y_X3_leadingDigit 1 := ⟨⟨wi_ShapeMinima_Index, wc_yX3_leadingDigit, by decide +kernel, by decide +kernel, by decide +kernel⟩, wst_yX3_leadingDigit⟩
abbrev Y_X3_leastPlace : jY := (yX3_leastPlace, cX3_leastPlace, 5, (some .int), 0, 0, 0)
theorem m_X3_leastPlace : jMV Y_X3_leastPlace 2 := ⟨⟨wi_ShapeMinima_Index, wc_yX3_leastPlace, by decide +kernel, by decide +kernel, by decide +kernel⟩, wim_yX3_leastPlace, wse_yX3_leastPlace⟩
abbrev Y_X3_leftEdge : jY := (yX3_leftEdge, cX3_leftEdge, 3, (some .int), 0, 0, 0)
theorem m_X3_leftEdge : jMV Y_X3_leftEdge 1 := ⟨⟨wi_ShapeMinima_Index, wc_yX3_leftEdge, by decide +kernel, by decide +kernel, by decide +kernel⟩, wim_yX3_leftEdge, wse_yX3_leftEdge⟩
abbrev Y_X3_levels : jY := (yX3_levels, cX3_levels, 3, (some .int), 0, 0, 0)
theorem m_X3_levels : jMV Y_X3_levels 0 := ⟨⟨wi_ShapeMinima_Index, wc_yX3_levels, by decide +kernel, by decide +kernel, by decide +kernel⟩, wim_yX3_levels, wse_yX3_levels⟩
abbrev Y_X3_parentPlace : jY := (yX3_parentPlace, cX3_parentPlace, 4, (some .int), 1, 0, 0)
theorem m_X3_parentPlace : jMV Y_X3_parentPlace 1 := ⟨⟨wi_ShapeMinima_Index, wc_yX3_parentPlace, by decide +kernel, by decide +kernel, by decide +kernel⟩, wim_yX3_parentPlace, wse_yX3_parentPlace⟩
abbrev Y_X3_rank : jY := (yX3_rank, cX3_rank, 7, (some .int), 0, 0, 0)
theorem m_X3_rank : jMV Y_X3_rank 3 := ⟨⟨wi_ShapeMinima_Index, wc_yX3_rank, by decide +kernel, by decide +kernel, by decide +kernel⟩, wim_yX3_rank, wse_yX3_rank⟩
abbrev Y_X3_rightEdge : jY := (yX3_rightEdge, cX3_rightEdge, 3, (some .int), 0, 0, 0)
theorem m_X3_rightEdge : jMV Y_X3_rightEdge 1 := ⟨⟨wi_ShapeMinima_Index, wc_yX3_rightEdge, by decide +kernel, by decide +kernel, by decide +kernel⟩, wim_yX3_rightEdge, wse_yX3_rightEdge⟩
abbrev Y_X3_runsOwned : jY := (yX3_runsOwned, cX3_runsOwned, 2, (some .int), 1, 0, 0)
theorem m_X3_runsOwned : jMV Y_X3_runsOwned 1 := ⟨⟨wi_ShapeMinima_Index, wc_yX3_runsOwned, by decide +kernel, by decide +kernel, by decide +kernel⟩, wim_yX3_runsOwned, wse_yX3_runsOwned⟩
abbrev Y_X3_shapeNow : jY := (yX3_shapeNow, cX3_shapeNow, 7, (some .int), 1, 0, 0)
theorem m_X3_shapeNow : jMV Y_X3_shapeNow 1 := ⟨⟨wi_ShapeMinima_Index, wc_yX3_shapeNow, by decide +kernel, by decide +kernel, by decide +kernel⟩, wim_yX3_shapeNow, wse_yX3_shapeNow⟩
abbrev Y_X3_stepsToLeftWithin : jY := (yX3_stepsToLeftWithin, cX3_stepsToLeftWithin, 3, (some .int), 1, 0, 0)
theorem m_X3_stepsToLeftWithin : jMV Y_X3_stepsToLeftWithin 2 := ⟨⟨wi_ShapeMinima_Index, wc_yX3_stepsToLeftWithin, by decide +kernel, by decide +kernel, by decide +kernel⟩, wim_yX3_stepsToLeftWithin, wse_yX3_stepsToLeftWithin⟩
abbrev Y_X3_tableEntry : jY := (yX3_tableEntry, cX3_tableEntry, 7, (some .int), 1, 0, 0)
theorem m_X3_tableEntry : jMV Y_X3_tableEntry 3 := ⟨⟨wi_ShapeMinima_Index, wc_yX3_tableEntry, by decide +kernel, by decide +kernel, by decide +kernel⟩, wim_yX3_tableEntry, wse_yX3_tableEntry⟩
abbrev Y_X3_unlikeShapes : jY := (yX3_unlikeShapes, cX3_unlikeShapes, 4, (some .int), 0, 0, 0)
theorem m_X3_unlikeShapes : jMV Y_X3_unlikeShapes 0 := ⟨⟨wi_ShapeMinima_Index, wc_yX3_unlikeShapes, by decide +kernel, by decide +kernel, by decide +kernel⟩, wim_yX3_unlikeShapes, wse_yX3_unlikeShapes⟩
abbrev Y_X4_become : jY := (yX4_become, cX4_become, 2, none, 1, 0, 0)
theorem m_X4_become : jMV Y_X4_become 1 := ⟨⟨wi_ShapeMinima_Row, wc_yX4_become, by decide +kernel, by decide +kernel, by decide +kernel⟩, wim_yX4_become, wse_yX4_become⟩
abbrev Y_X4_becomeZeros : jY := (yX4_becomeZeros, cX4_becomeZeros, 2, none, 1, 0, 0)
theorem m_X4_becomeZeros : jMV Y_X4_becomeZeros 1 := ⟨⟨wi_ShapeMinima_Row, wc_yX4_becomeZeros, by decide +kernel, by decide +kernel, by decide +kernel⟩, wim_yX4_becomeZeros, wse_yX4_becomeZeros⟩
abbrev Y_X4_digestOn : jY := (yX4_digestOn, cX4_digestOn, 6, (some .long), 0, 0, 0)
theorem m_X4_digestOn : jMV Y_X4_digestOn 1 := ⟨⟨wi_ShapeMinima_Row, wc_yX4_digestOn, by decide +kernel, by decide +kernel, by decide +kernel⟩, wim_yX4_digestOn, wse_yX4_digestOn⟩
abbrev Y_X4_init : jY := (yX4_init, cX4_init, 1, none, 1, 1, 48)
theorem m_X4_init : jMI Y_X4_init 0 := ⟨⟨wi_ShapeMinima_Row, wc_yX4_init, by decide +kernel, by decide +kernel, by decide +kernel⟩, wim_yX4_init, rfl⟩
abbrev Y_X4_isMissing : jY := (yX4_isMissing, cX4_isMissing, 1, (some .boolean), 0, 0, 0)
theorem m_X4_isMissing : jMV Y_X4_isMissing 0 := ⟨⟨wi_ShapeMinima_Row, wc_yX4_isMissing, by decide +kernel, by decide +kernel, by decide +kernel⟩, wim_yX4_isMissing, wse_yX4_isMissing⟩
abbrev Y_X4_lacks : jY := (yX4_lacks, cX4_lacks, 2, (some .boolean), 0, 0, 0)
theorem m_X4_lacks : jMV Y_X4_lacks 1 := ⟨⟨wi_ShapeMinima_Row, wc_yX4_lacks, by decide +kernel, by decide +kernel, by decide +kernel⟩, wim_yX4_lacks, wse_yX4_lacks⟩
abbrev Y_X4_lacksSome : jY := (yX4_lacksSome, cX4_lacksSome, 3, (some .boolean), 0, 0, 0)
theorem m_X4_lacksSome : jMV Y_X4_lacksSome 2 := ⟨⟨wi_ShapeMinima_Row, wc_yX4_lacksSome, by decide +kernel, by decide +kernel, by decide +kernel⟩, wim_yX4_lacksSome, wse_yX4_lacksSome⟩
abbrev Y_X5_becomeEmpty : jY := (yX5_becomeEmpty, cX5_becomeEmpty, 1, none, 1, 0, 0)
theorem m_X5_becomeEmpty : jMV Y_X5_becomeEmpty 0 := ⟨⟨wi_ShapeMinima_ShapeSet, wc_yX5_becomeEmpty, by decide +kernel, by decide +kernel, by decide +kernel⟩, wim_yX5_becomeEmpty, wse_yX5_becomeEmpty⟩
abbrev Y_X5_has : jY := (yX5_has, cX5_has, 2, (some .boolean), 0, 0, 0)
theorem m_X5_has : jMV Y_X5_has 1 := ⟨⟨wi_ShapeMinima_ShapeSet, wc_yX5_has, by decide +kernel, by decide +kernel, by decide +kernel⟩, wim_yX5_has, wse_yX5_has⟩
abbrev Y_X5_include : jY := (yX5_include, cX5_include, 2, none, 1, 0, 0)
theorem m_X5_include : jMV Y_X5_include 1 := ⟨⟨wi_ShapeMinima_ShapeSet, wc_yX5_include, by decide +kernel, by decide +kernel, by decide +kernel⟩, wim_yX5_include, wse_yX5_include⟩
abbrev Y_X5_init : jY := (yX5_init, cX5_init, 1, none, 1, 1, 64)
theorem m_X5_init : jMI Y_X5_init 0 := ⟨⟨wi_ShapeMinima_ShapeSet, wc_yX5_init, by decide +kernel, by decide +kernel, by decide +kernel⟩, wim_yX5_init, rfl⟩
abbrev Y_X6_above : jY := (yX6_above, cX6_above, 4, (some .int), 4, 0, 0)
theorem m_X6_above : jMV Y_X6_above 2 := ⟨⟨wi_ShapeMinima, wc_yX6_above, by decide +kernel, by decide +kernel, by decide +kernel⟩, wim_yX6_above, wse_yX6_above⟩
abbrev Y_X6_alike : jY := (yX6_alike, cX6_alike, 4, (some .int), 3, 0, 0)
theorem m_X6_alike : jMV Y_X6_alike 3 := ⟨⟨wi_ShapeMinima, wc_yX6_alike, by decide +kernel, by decide +kernel, by decide +kernel⟩, wim_yX6_alike, wse_yX6_alike⟩
abbrev Y_X6_apart : jY := (yX6_apart, cX6_apart, 5, (some .int), 2, 0, 0)
theorem m_X6_apart : jMV Y_X6_apart 2 := ⟨⟨wi_ShapeMinima, wc_yX6_apart, by decide +kernel, by decide +kernel, by decide +kernel⟩, wim_yX6_apart, wse_yX6_apart⟩
abbrev Y_X6_asked : jY := (yX6_asked, cX6_asked, 1, (some .int), 0, 0, 0)
theorem m_X6_asked : jMV Y_X6_asked 0 := ⟨⟨wi_ShapeMinima, wc_yX6_asked, by decide +kernel, by decide +kernel, by decide +kernel⟩, wim_yX6_asked, wse_yX6_asked⟩
abbrev Y_X6_at : jY := (yX6_at, cX6_at, 4, (some .int), 2, 0, 0)
theorem m_X6_at : jMV Y_X6_at 2 := ⟨⟨wi_ShapeMinima, wc_yX6_at, by decide +kernel, by decide +kernel, by decide +kernel⟩, wim_yX6_at, wse_yX6_at⟩
abbrev Y_X6_build : jY := (yX6_build, cX6_build, 3, (some .int), 3, 0, 0)
theorem m_X6_build : jMV Y_X6_build 2 := ⟨⟨wi_ShapeMinima, wc_yX6_build, by decide +kernel, by decide +kernel, by decide +kernel⟩, wim_yX6_build, wse_yX6_build⟩
abbrev Y_X6_copy : jY := (yX6_copy, cX6_copy, 6, (some .int), 1, 0, 0)
theorem m_X6_copy : jMV Y_X6_copy 5 := ⟨⟨wi_ShapeMinima, wc_yX6_copy, by decide +kernel, by decide +kernel, by decide +kernel⟩, wim_yX6_copy, wse_yX6_copy⟩
abbrev Y_X6_count : jY := (yX6_count, cX6_count, 2, (some .int), 2, 0, 0)
theorem m_X6_count : jMV Y_X6_count 1 := ⟨⟨wi_ShapeMinima, wc_yX6_count, by decide +kernel, by decide +kernel, by decide +kernel⟩, wim_yX6_count, wse_yX6_count⟩
abbrev Y_X6_depth : jY := (yX6_depth, cX6_depth, 3, (some .int), 4, 0, 0)
theorem m_X6_depth : jMV Y_X6_depth 1 := ⟨⟨wi_ShapeMinima, wc_yX6_depth, by decide +kernel, by decide +kernel, by decide +kernel⟩, wim_yX6_depth, wse_yX6_depth⟩
abbrev Y_X6_digest : jY := (yX6_digest, cX6_digest, 4, (some .long), 3, 0, 0)
theorem m_X6_digest : jMV Y_X6_digest 0 := ⟨⟨wi_ShapeMinima, wc_yX6_digest, by decide +kernel, by decide +kernel, by decide +kernel⟩, wim_yX6_digest, wse_yX6_digest⟩
abbrev Y_X6_entry : jY := (yX6_entry, cX6_entry, 5, (some .int), 2, 0, 0)
theorem m_X6_entry : jMV Y_X6_entry 3 := ⟨⟨wi_ShapeMinima, wc_yX6_entry, by decide +kernel, by decide +kernel, by decide +kernel⟩, wim_yX6_entry, wse_yX6_entry⟩
abbrev Y_X6_finding : jY := (yX6_finding, cX6_finding, 1, (some .int), 0, 0, 0)
theorem m_X6_finding : jMV Y_X6_finding 0 := ⟨⟨wi_ShapeMinima, wc_yX6_finding, by decide +kernel, by decide +kernel, by decide +kernel⟩, wim_yX6_finding, wse_yX6_finding⟩
abbrev Y_X6_findings : jY := (yX6_findings, cX6_findings, 2, (some .int), 0, 0, 0)
theorem m_X6_findings : jMV Y_X6_findings 1 := ⟨⟨wi_ShapeMinima, wc_yX6_findings, by decide +kernel, by decide +kernel, by decide +kernel⟩, wim_yX6_findings, wse_yX6_findings⟩
abbrev Y_X6_init : jY := (yX6_init, cX6_init, 2, none, 4, 42, 891)
theorem m_X6_init : jMI Y_X6_init 0 := ⟨⟨wi_ShapeMinima, wc_yX6_init, by decide +kernel, by decide +kernel, by decide +kernel⟩, wim_yX6_init, rfl⟩
abbrev Y_X6_isNoImage : jY := (yX6_isNoImage, cX6_isNoImage, 1, (some .boolean), 0, 0, 0)
theorem m_X6_isNoImage : jMS Y_X6_isNoImage 1 := ⟨⟨wi_ShapeMinima, wc_yX6_isNoImage, by decide +kernel, by decide +kernel, by decide +kernel⟩, wst_yX6_isNoImage⟩
abbrev Y_X6_isNoRow : jY := (yX6_isNoRow, cX6_isNoRow, 1, (some .boolean), 0, 0, 0)
theorem m_X6_isNoRow : jMS Y_X6_isNoRow 1 := ⟨⟨wi_ShapeMinima, wc_yX6_isNoRow, by decide +kernel, by decide +kernel, by decide +kernel⟩, wst_yX6_isNoRow⟩
abbrev Y_X6_item : jY := (yX6_item, cX6_item, 3, (some .int), 4, 0, 0)
theorem m_X6_item : jMV Y_X6_item 1 := ⟨⟨wi_ShapeMinima, wc_yX6_item, by decide +kernel, by decide +kernel, by decide +kernel⟩, wim_yX6_item, wse_yX6_item⟩
abbrev Y_X6_keep : jY := (yX6_keep, cX6_keep, 2, (some .int), 2, 0, 0)
theorem m_X6_keep : jMV Y_X6_keep 1 := ⟨⟨wi_ShapeMinima, wc_yX6_keep, by decide +kernel, by decide +kernel, by decide +kernel⟩, wim_yX6_keep, wse_yX6_keep⟩
abbrev Y_X6_kth : jY := (yX6_kth, cX6_kth, 6, (some .int), 3, 0, 0)
theorem m_X6_kth : jMV Y_X6_kth 3 := ⟨⟨wi_ShapeMinima, wc_yX6_kth, by decide +kernel, by decide +kernel, by decide +kernel⟩, wim_yX6_kth, wse_yX6_kth⟩
abbrev Y_X6_lay : jY := (yX6_lay, cX6_lay, 5, (some .int), 2, 0, 0)
theorem m_X6_lay : jMV Y_X6_lay 3 := ⟨⟨wi_ShapeMinima, wc_yX6_lay, by decide +kernel, by decide +kernel, by decide +kernel⟩, wim_yX6_lay, wse_yX6_lay⟩
abbrev Y_X6_least : jY := (yX6_least, cX6_least, 5, (some .int), 3, 0, 0)
theorem m_X6_least : jMV Y_X6_least 2 := ⟨⟨wi_ShapeMinima, wc_yX6_least, by decide +kernel, by decide +kernel, by decide +kernel⟩, wim_yX6_least, wse_yX6_least⟩
abbrev Y_X6_left : jY := (yX6_left, cX6_left, 4, (some .int), 4, 0, 0)
theorem m_X6_left : jMV Y_X6_left 1 := ⟨⟨wi_ShapeMinima, wc_yX6_left, by decide +kernel, by decide +kernel, by decide +kernel⟩, wim_yX6_left, wse_yX6_left⟩
abbrev Y_X6_meet : jY := (yX6_meet, cX6_meet, 4, (some .int), 2, 0, 0)
theorem m_X6_meet : jMV Y_X6_meet 2 := ⟨⟨wi_ShapeMinima, wc_yX6_meet, by decide +kernel, by decide +kernel, by decide +kernel⟩, wim_yX6_meet, wse_yX6_meet⟩
abbrev Y_X6_node : jY := (yX6_node, cX6_node, 3, (some .int), 1, 0, 0)
theorem m_X6_node : jMV Y_X6_node 2 := ⟨⟨wi_ShapeMinima, wc_yX6_node, by decide +kernel, by decide +kernel, by decide +kernel⟩, wim_yX6_node, wse_yX6_node⟩
abbrev Y_X6_on : jY := (yX6_on, cX6_on, 2, (some .int), 3, 0, 0)
theorem m_X6_on : jMV Y_X6_on 1 := ⟨⟨wi_ShapeMinima, wc_yX6_on, by decide +kernel, by decide +kernel, by decide +kernel⟩, wim_yX6_on, wse_yX6_on⟩
abbrev Y_X6_owns : jY := (yX6_owns, cX6_owns, 3, (some .int), 4, 0, 0)
theorem m_X6_owns : jMV Y_X6_owns 1 := ⟨⟨wi_ShapeMinima, wc_yX6_owns, by decide +kernel, by decide +kernel, by decide +kernel⟩, wim_yX6_owns, wse_yX6_owns⟩
abbrev Y_X6_parent : jY := (yX6_parent, cX6_parent, 3, (some .int), 4, 0, 0)
theorem m_X6_parent : jMV Y_X6_parent 1 := ⟨⟨wi_ShapeMinima, wc_yX6_parent, by decide +kernel, by decide +kernel, by decide +kernel⟩, wim_yX6_parent, wse_yX6_parent⟩
abbrev Y_X6_put : jY := (yX6_put, cX6_put, 4, (some .int), 4, 0, 0)
theorem m_X6_put : jMV Y_X6_put 2 := ⟨⟨wi_ShapeMinima, wc_yX6_put, by decide +kernel, by decide +kernel, by decide +kernel⟩, wim_yX6_put, wse_yX6_put⟩
abbrev Y_X6_refusalOfItem : jY := (yX6_refusalOfItem, cX6_refusalOfItem, 2, (some .int), 3, 0, 0)
theorem m_X6_refusalOfItem : jMV Y_X6_refusalOfItem 1 := ⟨⟨wi_ShapeMinima, wc_yX6_refusalOfItem, by decide +kernel, by decide +kernel, by decide +kernel⟩, wim_yX6_refusalOfItem, wse_yX6_refusalOfItem⟩
abbrev Y_X6_refusalOfNodes : jY := (yX6_refusalOfNodes, cX6_refusalOfNodes, 3, (some .int), 1, 0, 0)
theorem m_X6_refusalOfNodes : jMV Y_X6_refusalOfNodes 2 := ⟨⟨wi_ShapeMinima, wc_yX6_refusalOfNodes, by decide +kernel, by decide +kernel, by decide +kernel⟩, wim_yX6_refusalOfNodes, wse_yX6_refusalOfNodes⟩
abbrev Y_X6_refusalOfPlace : jY := (yX6_refusalOfPlace, cX6_refusalOfPlace, 3, (some .int), 1, 0, 0)
theorem m_X6_refusalOfPlace : jMV Y_X6_refusalOfPlace 2 := ⟨⟨wi_ShapeMinima, wc_yX6_refusalOfPlace, by decide +kernel, by decide +kernel, by decide +kernel⟩, wim_yX6_refusalOfPlace, wse_yX6_refusalOfPlace⟩
abbrev Y_X6_refusalOfRun : jY := (yX6_refusalOfRun, cX6_refusalOfRun, 3, (some .int), 2, 0, 0)
theorem m_X6_refusalOfRun : jMV Y_X6_refusalOfRun 2 := ⟨⟨wi_ShapeMinima, wc_yX6_refusalOfRun, by decide +kernel, by decide +kernel, by decide +kernel⟩, wim_yX6_refusalOfRun, wse_yX6_refusalOfRun⟩
abbrev Y_X6_refuse : jY := (yX6_refuse, cX6_refuse, 2, (some .int), 0, 0, 0)
theorem m_X6_refuse : jMV Y_X6_refuse 1 := ⟨⟨wi_ShapeMinima, wc_yX6_refuse, by decide +kernel, by decide +kernel, by decide +kernel⟩, wim_yX6_refuse, wse_yX6_refuse⟩
abbrev Y_X6_right : jY := (yX6_right, cX6_right, 4, (some .int), 4, 0, 0)
theorem m_X6_right : jMV Y_X6_right 1 := ⟨⟨wi_ShapeMinima, wc_yX6_right, by decide +kernel, by decide +kernel, by decide +kernel⟩, wim_yX6_right, wse_yX6_right⟩
abbrev Y_X6_row : jY := (yX6_row, cX6_row, 3, (some .int), 2, 0, 0)
theorem m_X6_row : jMV Y_X6_row 2 := ⟨⟨wi_ShapeMinima, wc_yX6_row, by decide +kernel, by decide +kernel, by decide +kernel⟩, wim_yX6_row, wse_yX6_row⟩
abbrev Y_X6_rowsThere : jY := (yX6_rowsThere, cX6_rowsThere, 3, (some .int), 1, 0, 0)
theorem m_X6_rowsThere : jMV Y_X6_rowsThere 0 := ⟨⟨wi_ShapeMinima, wc_yX6_rowsThere, by decide +kernel, by decide +kernel, by decide +kernel⟩, wim_yX6_rowsThere, wse_yX6_rowsThere⟩
abbrev Y_X6_shape : jY := (yX6_shape, cX6_shape, 2, (some .int), 2, 0, 0)
theorem m_X6_shape : jMV Y_X6_shape 1 := ⟨⟨wi_ShapeMinima, wc_yX6_shape, by decide +kernel, by decide +kernel, by decide +kernel⟩, wim_yX6_shape, wse_yX6_shape⟩
abbrev Y_X6_size : jY := (yX6_size, cX6_size, 3, (some .int), 4, 0, 0)
theorem m_X6_size : jMV Y_X6_size 1 := ⟨⟨wi_ShapeMinima, wc_yX6_size, by decide +kernel, by decide +kernel, by decide +kernel⟩, wim_yX6_size, wse_yX6_size⟩
abbrev Y_X6_sum : jY := (yX6_sum, cX6_sum, 4, (some .long), 2, 0, 0)
theorem m_X6_sum : jMV Y_X6_sum 0 := ⟨⟨wi_ShapeMinima, wc_yX6_sum, by decide +kernel, by decide +kernel, by decide +kernel⟩, wim_yX6_sum, wse_yX6_sum⟩
abbrev Y_X6_tear : jY := (yX6_tear, cX6_tear, 3, (some .int), 1, 0, 0)
theorem m_X6_tear : jMV Y_X6_tear 1 := ⟨⟨wi_ShapeMinima, wc_yX6_tear, by decide +kernel, by decide +kernel, by decide +kernel⟩, wim_yX6_tear, wse_yX6_tear⟩
abbrev Y_X6_tree : jY := (yX6_tree, cX6_tree, 2, (some .int), 5, 0, 0)
theorem m_X6_tree : jMV Y_X6_tree 1 := ⟨⟨wi_ShapeMinima, wc_yX6_tree, by decide +kernel, by decide +kernel, by decide +kernel⟩, wim_yX6_tree, wse_yX6_tree⟩
abbrev Y_X6_undo : jY := (yX6_undo, cX6_undo, 2, (some .int), 3, 0, 0)
theorem m_X6_undo : jMV Y_X6_undo 0 := ⟨⟨wi_ShapeMinima, wc_yX6_undo, by decide +kernel, by decide +kernel, by decide +kernel⟩, wim_yX6_undo, wse_yX6_undo⟩
abbrev Y_X6_up : jY := (yX6_up, cX6_up, 4, (some .int), 2, 0, 0)
theorem m_X6_up : jMV Y_X6_up 2 := ⟨⟨wi_ShapeMinima, wc_yX6_up, by decide +kernel, by decide +kernel, by decide +kernel⟩, wim_yX6_up, wse_yX6_up⟩
abbrev Y_X7_above : jY := (yX7_above, cX7_above, 6, (some .int), 2, 0, 0)
theorem m_X7_above : jMV Y_X7_above 2 := ⟨⟨wi_ShapeMinimaModel, wc_yX7_above, by decide +kernel, by decide +kernel, by decide +kernel⟩, wim_yX7_above, wse_yX7_above⟩
abbrev Y_X7_against : jY := (yX7_against, cX7_against, 3, (some .int), 2, 0, 0)
theorem m_X7_against : jMV Y_X7_against 2 := ⟨⟨wi_ShapeMinimaModel, wc_yX7_against, by decide +kernel, by decide +kernel, by decide +kernel⟩, wim_yX7_against, wse_yX7_against⟩
abbrev Y_X7_againstNodes : jY := (yX7_againstNodes, cX7_againstNodes, 3, (some .int), 2, 0, 0)
theorem m_X7_againstNodes : jMV Y_X7_againstNodes 2 := ⟨⟨wi_ShapeMinimaModel, wc_yX7_againstNodes, by decide +kernel, by decide +kernel, by decide +kernel⟩, wim_yX7_againstNodes, wse_yX7_againstNodes⟩
abbrev Y_X7_againstRun : jY := (yX7_againstRun, cX7_againstRun, 3, (some .int), 1, 0, 0)
theorem m_X7_againstRun : jMV Y_X7_againstRun 2 := ⟨⟨wi_ShapeMinimaModel, wc_yX7_againstRun, by decide +kernel, by decide +kernel, by decide +kernel⟩, wim_yX7_againstRun, wse_yX7_againstRun⟩
abbrev Y_X7_alike : jY := (yX7_alike, cX7_alike, 5, (some .int), 1, 0, 0)
theorem m_X7_alike : jMV Y_X7_alike 3 := ⟨⟨wi_ShapeMinimaModel, wc_yX7_alike, by decide +kernel, by decide +kernel, by decide +kernel⟩, wim_yX7_alike, wse_yX7_alike⟩
abbrev Y_X7_apart : jY := (yX7_apart, cX7_apart, 4, (some .int), 3, 0, 0)
theorem m_X7_apart : jMV Y_X7_apart 2 := ⟨⟨wi_ShapeMinimaModel, wc_yX7_apart, by decide +kernel, by decide +kernel, by decide +kernel⟩, wim_yX7_apart, wse_yX7_apart⟩
abbrev Y_X7_asked : jY := (yX7_asked, cX7_asked, 1, (some .int), 0, 0, 0)
theorem m_X7_asked : jMV Y_X7_asked 0 := ⟨⟨wi_ShapeMinimaModel, wc_yX7_asked, by decide +kernel, by decide +kernel, by decide +kernel⟩, wim_yX7_asked, wse_yX7_asked⟩
abbrev Y_X7_at : jY := (yX7_at, cX7_at, 4, (some .int), 3, 0, 0)
theorem m_X7_at : jMV Y_X7_at 2 := ⟨⟨wi_ShapeMinimaModel, wc_yX7_at, by decide +kernel, by decide +kernel, by decide +kernel⟩, wim_yX7_at, wse_yX7_at⟩
abbrev Y_X7_below : jY := (yX7_below, cX7_below, 4, (some .int), 3, 0, 0)
theorem m_X7_below : jMV Y_X7_below 1 := ⟨⟨wi_ShapeMinimaModel, wc_yX7_below, by decide +kernel, by decide +kernel, by decide +kernel⟩, wim_yX7_below, wse_yX7_below⟩
abbrev Y_X7_bits : jY := (yX7_bits, cX7_bits, 3, (some .int), 3, 0, 0)
theorem m_X7_bits : jMV Y_X7_bits 0 := ⟨⟨wi_ShapeMinimaModel, wc_yX7_bits, by decide +kernel, by decide +kernel, by decide +kernel⟩, wim_yX7_bits, wse_yX7_bits⟩
abbrev Y_X7_blocks : jY := (yX7_blocks, cX7_blocks, 1, (some .int), 0, 0, 0)
theorem m_X7_blocks : jMV Y_X7_blocks 0 := ⟨⟨wi_ShapeMinimaModel, wc_yX7_blocks, by decide +kernel, by decide +kernel, by decide +kernel⟩, wim_yX7_blocks, wse_yX7_blocks⟩
abbrev Y_X7_build : jY := (yX7_build, cX7_build, 4, (some .int), 4, 0, 0)
theorem m_X7_build : jMV Y_X7_build 2 := ⟨⟨wi_ShapeMinimaModel, wc_yX7_build, by decide +kernel, by decide +kernel, by decide +kernel⟩, wim_yX7_build, wse_yX7_build⟩
abbrev Y_X7_copy : jY := (yX7_copy, cX7_copy, 10, (some .int), 2, 0, 0)
theorem m_X7_copy : jMV Y_X7_copy 5 := ⟨⟨wi_ShapeMinimaModel, wc_yX7_copy, by decide +kernel, by decide +kernel, by decide +kernel⟩, wim_yX7_copy, wse_yX7_copy⟩
abbrev Y_X7_count : jY := (yX7_count, cX7_count, 2, (some .int), 5, 0, 0)
theorem m_X7_count : jMV Y_X7_count 1 := ⟨⟨wi_ShapeMinimaModel, wc_yX7_count, by decide +kernel, by decide +kernel, by decide +kernel⟩, wim_yX7_count, wse_yX7_count⟩
abbrev Y_X7_countOf : jY := (yX7_countOf, cX7_countOf, 2, (some .int), 4, 0, 0)
theorem m_X7_countOf : jMV Y_X7_countOf 1 := ⟨⟨wi_ShapeMinimaModel, wc_yX7_countOf, by decide +kernel, by decide +kernel, by decide +kernel⟩, wim_yX7_countOf, wse_yX7_countOf⟩
abbrev Y_X7_deepness : jY := (yX7_deepness, cX7_deepness, 4, (some .int), 0, 0, 0)
theorem m_X7_deepness : jMV Y_X7_deepness 1 := ⟨⟨wi_ShapeMinimaModel, wc_yX7_deepness, by decide +kernel, by decide +kernel, by decide +kernel⟩, wim_yX7_deepness, wse_yX7_deepness⟩
abbrev Y_X7_depth : jY := (yX7_depth, cX7_depth, 3, (some .int), 2, 0, 0)
theorem m_X7_depth : jMV Y_X7_depth 1 := ⟨⟨wi_ShapeMinimaModel, wc_yX7_depth, by decide +kernel, by decide +kernel, by decide +kernel⟩, wim_yX7_depth, wse_yX7_depth⟩
abbrev Y_X7_depthOf : jY := (yX7_depthOf, cX7_depthOf, 6, (some .int), 1, 0, 0)
theorem m_X7_depthOf : jMV Y_X7_depthOf 1 := ⟨⟨wi_ShapeMinimaModel, wc_yX7_depthOf, by decide +kernel, by decide +kernel, by decide +kernel⟩, wim_yX7_depthOf, wse_yX7_depthOf⟩
abbrev Y_X7_digest : jY := (yX7_digest, cX7_digest, 5, (some .long), 5, 0, 0)
theorem m_X7_digest : jMV Y_X7_digest 0 := ⟨⟨wi_ShapeMinimaModel, wc_yX7_digest, by decide +kernel, by decide +kernel, by decide +kernel⟩, wim_yX7_digest, wse_yX7_digest⟩
abbrev Y_X7_entry : jY := (yX7_entry, cX7_entry, 9, (some .int), 2, 0, 0)
theorem m_X7_entry : jMV Y_X7_entry 3 := ⟨⟨wi_ShapeMinimaModel, wc_yX7_entry, by decide +kernel, by decide +kernel, by decide +kernel⟩, wim_yX7_entry, wse_yX7_entry⟩
abbrev Y_X7_finding : jY := (yX7_finding, cX7_finding, 1, (some .int), 0, 0, 0)
theorem m_X7_finding : jMV Y_X7_finding 0 := ⟨⟨wi_ShapeMinimaModel, wc_yX7_finding, by decide +kernel, by decide +kernel, by decide +kernel⟩, wim_yX7_finding, wse_yX7_finding⟩
abbrev Y_X7_findings : jY := (yX7_findings, cX7_findings, 2, (some .int), 1, 0, 0)
theorem m_X7_findings : jMV Y_X7_findings 1 := ⟨⟨wi_ShapeMinimaModel, wc_yX7_findings, by decide +kernel, by decide +kernel, by decide +kernel⟩, wim_yX7_findings, wse_yX7_findings⟩
abbrev Y_X7_firstMet : jY := (yX7_firstMet, cX7_firstMet, 5, (some .int), 4, 0, 0)
theorem m_X7_firstMet : jMV Y_X7_firstMet 1 := ⟨⟨wi_ShapeMinimaModel, wc_yX7_firstMet, by decide +kernel, by decide +kernel, by decide +kernel⟩, wim_yX7_firstMet, wse_yX7_firstMet⟩
abbrev Y_X7_found : jY := (yX7_found, cX7_found, 2, (some .int), 0, 0, 0)
theorem m_X7_found : jMV Y_X7_found 1 := ⟨⟨wi_ShapeMinimaModel, wc_yX7_found, by decide +kernel, by decide +kernel, by decide +kernel⟩, wim_yX7_found, wse_yX7_found⟩
abbrev Y_X7_in : jY := (yX7_in, cX7_in, 3, (some .boolean), 0, 0, 0)
theorem m_X7_in : jMS Y_X7_in 3 := ⟨⟨wi_ShapeMinimaModel, wc_yX7_in, by decide +kernel, by decide +kernel, by decide +kernel⟩, wst_yX7_in⟩
abbrev Y_X7_init : jY := (yX7_init, cX7_init, 2, none, 1, 12, 697)
theorem m_X7_init : jMI Y_X7_init 0 := ⟨⟨wi_ShapeMinimaModel, wc_yX7_init, by decide +kernel, by decide +kernel, by decide +kernel⟩, wim_yX7_init, rfl⟩
abbrev Y_X7_isBelow : jY := (yX7_isBelow, cX7_isBelow, 3, (some .boolean), 2, 0, 0)
theorem m_X7_isBelow : jMV Y_X7_isBelow 2 := ⟨⟨wi_ShapeMinimaModel, wc_yX7_isBelow, by decide +kernel, by decide +kernel, by decide +kernel⟩, wim_yX7_isBelow, wse_yX7_isBelow⟩
abbrev Y_X7_isMade : jY := (yX7_isMade, cX7_isMade, 2, (some .boolean), 1, 0, 0)
theorem m_X7_isMade : jMV Y_X7_isMade 1 := ⟨⟨wi_ShapeMinimaModel, wc_yX7_isMade, by decide +kernel, by decide +kernel, by decide +kernel⟩, wim_yX7_isMade, wse_yX7_isMade⟩
abbrev Y_X7_isNode : jY := (yX7_isNode, cX7_isNode, 2, (some .boolean), 1, 0, 0)
theorem m_X7_isNode : jMV Y_X7_isNode 1 := ⟨⟨wi_ShapeMinimaModel, wc_yX7_isNode, by decide +kernel, by decide +kernel, by decide +kernel⟩, wim_yX7_isNode, wse_yX7_isNode⟩
abbrev Y_X7_isPart : jY := (yX7_isPart, cX7_isPart, 4, (some .boolean), 1, 0, 0)
theorem m_X7_isPart : jMV Y_X7_isPart 3 := ⟨⟨wi_ShapeMinimaModel, wc_yX7_isPart, by decide +kernel, by decide +kernel, by decide +kernel⟩, wim_yX7_isPart, wse_yX7_isPart⟩
abbrev Y_X7_isRow : jY := (yX7_isRow, cX7_isRow, 1, (some .boolean), 1, 0, 0)
theorem m_X7_isRow : jMS Y_X7_isRow 1 := ⟨⟨wi_ShapeMinimaModel, wc_yX7_isRow, by decide +kernel, by decide +kernel, by decide +kernel⟩, wst_yX7_isRow⟩
abbrev Y_X7_isTree : jY := (yX7_isTree, cX7_isTree, 8, (some .boolean), 1, 0, 0)
theorem m_X7_isTree : jMV Y_X7_isTree 1 := ⟨⟨wi_ShapeMinimaModel, wc_yX7_isTree, by decide +kernel, by decide +kernel, by decide +kernel⟩, wim_yX7_isTree, wse_yX7_isTree⟩
abbrev Y_X7_item : jY := (yX7_item, cX7_item, 3, (some .int), 2, 0, 0)
theorem m_X7_item : jMV Y_X7_item 1 := ⟨⟨wi_ShapeMinimaModel, wc_yX7_item, by decide +kernel, by decide +kernel, by decide +kernel⟩, wim_yX7_item, wse_yX7_item⟩
abbrev Y_X7_keep : jY := (yX7_keep, cX7_keep, 3, (some .int), 1, 0, 0)
theorem m_X7_keep : jMV Y_X7_keep 1 := ⟨⟨wi_ShapeMinimaModel, wc_yX7_keep, by decide +kernel, by decide +kernel, by decide +kernel⟩, wim_yX7_keep, wse_yX7_keep⟩
abbrev Y_X7_kth : jY := (yX7_kth, cX7_kth, 8, (some .int), 2, 0, 0)
theorem m_X7_kth : jMV Y_X7_kth 3 := ⟨⟨wi_ShapeMinimaModel, wc_yX7_kth, by decide +kernel, by decide +kernel, by decide +kernel⟩, wim_yX7_kth, wse_yX7_kth⟩
abbrev Y_X7_lay : jY := (yX7_lay, cX7_lay, 6, (some .int), 3, 0, 0)
theorem m_X7_lay : jMV Y_X7_lay 3 := ⟨⟨wi_ShapeMinimaModel, wc_yX7_lay, by decide +kernel, by decide +kernel, by decide +kernel⟩, wim_yX7_lay, wse_yX7_lay⟩
abbrev Y_X7_least : jY := (yX7_least, cX7_least, 5, (some .int), 2, 0, 0)
theorem m_X7_least : jMV Y_X7_least 2 := ⟨⟨wi_ShapeMinimaModel, wc_yX7_least, by decide +kernel, by decide +kernel, by decide +kernel⟩, wim_yX7_least, wse_yX7_least⟩
abbrev Y_X7_leastOf : jY := (yX7_leastOf, cX7_leastOf, 5, (some .int), 0, 0, 0)
theorem m_X7_leastOf : jMV Y_X7_leastOf 2 := ⟨⟨wi_ShapeMinimaModel, wc_yX7_leastOf, by decide +kernel, by decide +kernel, by decide +kernel⟩, wim_yX7_leastOf, wse_yX7_leastOf⟩
abbrev Y_X7_left : jY := (yX7_left, cX7_left, 4, (some .int), 2, 0, 0)
theorem m_X7_left : jMV Y_X7_left 1 := ⟨⟨wi_ShapeMinimaModel, wc_yX7_left, by decide +kernel, by decide +kernel, by decide +kernel⟩, wim_yX7_left, wse_yX7_left⟩
abbrev Y_X7_leftOf : jY := (yX7_leftOf, cX7_leftOf, 3, (some .int), 0, 0, 0)
theorem m_X7_leftOf : jMV Y_X7_leftOf 1 := ⟨⟨wi_ShapeMinimaModel, wc_yX7_leftOf, by decide +kernel, by decide +kernel, by decide +kernel⟩, wim_yX7_leftOf, wse_yX7_leftOf⟩
abbrev Y_X7_levels : jY := (yX7_levels, cX7_levels, 3, (some .int), 1, 0, 0)
theorem m_X7_levels : jMV Y_X7_levels 0 := ⟨⟨wi_ShapeMinimaModel, wc_yX7_levels, by decide +kernel, by decide +kernel, by decide +kernel⟩, wim_yX7_levels, wse_yX7_levels⟩
abbrev Y_X7_makes : jY := (yX7_makes, cX7_makes, 2, none, 2, 0, 0)
theorem m_X7_makes : jMV Y_X7_makes 1 := ⟨⟨wi_ShapeMinimaModel, wc_yX7_makes, by decide +kernel, by decide +kernel, by decide +kernel⟩, wim_yX7_makes, wse_yX7_makes⟩
abbrev Y_X7_makesAll : jY := (yX7_makesAll, cX7_makesAll, 2, none, 3, 0, 0)
theorem m_X7_makesAll : jMV Y_X7_makesAll 0 := ⟨⟨wi_ShapeMinimaModel, wc_yX7_makesAll, by decide +kernel, by decide +kernel, by decide +kernel⟩, wim_yX7_makesAll, wse_yX7_makesAll⟩
abbrev Y_X7_meet : jY := (yX7_meet, cX7_meet, 4, (some .int), 3, 0, 0)
theorem m_X7_meet : jMV Y_X7_meet 2 := ⟨⟨wi_ShapeMinimaModel, wc_yX7_meet, by decide +kernel, by decide +kernel, by decide +kernel⟩, wim_yX7_meet, wse_yX7_meet⟩
abbrev Y_X7_meeting : jY := (yX7_meeting, cX7_meeting, 6, (some .int), 2, 0, 0)
theorem m_X7_meeting : jMV Y_X7_meeting 2 := ⟨⟨wi_ShapeMinimaModel, wc_yX7_meeting, by decide +kernel, by decide +kernel, by decide +kernel⟩, wim_yX7_meeting, wse_yX7_meeting⟩
abbrev Y_X7_node : jY := (yX7_node, cX7_node, 3, (some .int), 5, 0, 0)
theorem m_X7_node : jMV Y_X7_node 2 := ⟨⟨wi_ShapeMinimaModel, wc_yX7_node, by decide +kernel, by decide +kernel, by decide +kernel⟩, wim_yX7_node, wse_yX7_node⟩
abbrev Y_X7_on : jY := (yX7_on, cX7_on, 3, (some .int), 4, 0, 0)
theorem m_X7_on : jMV Y_X7_on 1 := ⟨⟨wi_ShapeMinimaModel, wc_yX7_on, by decide +kernel, by decide +kernel, by decide +kernel⟩, wim_yX7_on, wse_yX7_on⟩
abbrev Y_X7_owns : jY := (yX7_owns, cX7_owns, 3, (some .int), 2, 0, 0)
theorem m_X7_owns : jMV Y_X7_owns 1 := ⟨⟨wi_ShapeMinimaModel, wc_yX7_owns, by decide +kernel, by decide +kernel, by decide +kernel⟩, wim_yX7_owns, wse_yX7_owns⟩
abbrev Y_X7_ownsOf : jY := (yX7_ownsOf, cX7_ownsOf, 2, (some .int), 1, 0, 0)
theorem m_X7_ownsOf : jMV Y_X7_ownsOf 1 := ⟨⟨wi_ShapeMinimaModel, wc_yX7_ownsOf, by decide +kernel, by decide +kernel, by decide +kernel⟩, wim_yX7_ownsOf, wse_yX7_ownsOf⟩
abbrev Y_X7_parent : jY := (yX7_parent, cX7_parent, 3, (some .int), 2, 0, 0)
theorem m_X7_parent : jMV Y_X7_parent 1 := ⟨⟨wi_ShapeMinimaModel, wc_yX7_parent, by decide +kernel, by decide +kernel, by decide +kernel⟩, wim_yX7_parent, wse_yX7_parent⟩
abbrev Y_X7_put : jY := (yX7_put, cX7_put, 7, (some .int), 3, 0, 0)
theorem m_X7_put : jMV Y_X7_put 2 := ⟨⟨wi_ShapeMinimaModel, wc_yX7_put, by decide +kernel, by decide +kernel, by decide +kernel⟩, wim_yX7_put, wse_yX7_put⟩
abbrev Y_X7_right : jY := (yX7_right, cX7_right, 4, (some .int), 2, 0, 0)
theorem m_X7_right : jMV Y_X7_right 1 := ⟨⟨wi_ShapeMinimaModel, wc_yX7_right, by decide +kernel, by decide +kernel, by decide +kernel⟩, wim_yX7_right, wse_yX7_right⟩
abbrev Y_X7_rightOf : jY := (yX7_rightOf, cX7_rightOf, 3, (some .int), 0, 0, 0)
theorem m_X7_rightOf : jMV Y_X7_rightOf 1 := ⟨⟨wi_ShapeMinimaModel, wc_yX7_rightOf, by decide +kernel, by decide +kernel, by decide +kernel⟩, wim_yX7_rightOf, wse_yX7_rightOf⟩
abbrev Y_X7_row : jY := (yX7_row, cX7_row, 4, (some .int), 2, 0, 0)
theorem m_X7_row : jMV Y_X7_row 2 := ⟨⟨wi_ShapeMinimaModel, wc_yX7_row, by decide +kernel, by decide +kernel, by decide +kernel⟩, wim_yX7_row, wse_yX7_row⟩
abbrev Y_X7_rowsThere : jY := (yX7_rowsThere, cX7_rowsThere, 3, (some .int), 0, 0, 0)
theorem m_X7_rowsThere : jMV Y_X7_rowsThere 0 := ⟨⟨wi_ShapeMinimaModel, wc_yX7_rowsThere, by decide +kernel, by decide +kernel, by decide +kernel⟩, wim_yX7_rowsThere, wse_yX7_rowsThere⟩
abbrev Y_X7_shape : jY := (yX7_shape, cX7_shape, 2, (some .int), 2, 0, 0)
theorem m_X7_shape : jMV Y_X7_shape 1 := ⟨⟨wi_ShapeMinimaModel, wc_yX7_shape, by decide +kernel, by decide +kernel, by decide +kernel⟩, wim_yX7_shape, wse_yX7_shape⟩
abbrev Y_X7_shapeOf : jY := (yX7_shapeOf, cX7_shapeOf, 5, (some .int), 0, 0, 0)
theorem m_X7_shapeOf : jMV Y_X7_shapeOf 2 := ⟨⟨wi_ShapeMinimaModel, wc_yX7_shapeOf, by decide +kernel, by decide +kernel, by decide +kernel⟩, wim_yX7_shapeOf, wse_yX7_shapeOf⟩
abbrev Y_X7_shapeOfBlock : jY := (yX7_shapeOfBlock, cX7_shapeOfBlock, 4, (some .int), 1, 0, 0)
theorem m_X7_shapeOfBlock : jMV Y_X7_shapeOfBlock 1 := ⟨⟨wi_ShapeMinimaModel, wc_yX7_shapeOfBlock, by decide +kernel, by decide +kernel, by decide +kernel⟩, wim_yX7_shapeOfBlock, wse_yX7_shapeOfBlock⟩
abbrev Y_X7_shapesNow : jY := (yX7_shapesNow, cX7_shapesNow, 6, (some .int), 2, 0, 0)
theorem m_X7_shapesNow : jMV Y_X7_shapesNow 0 := ⟨⟨wi_ShapeMinimaModel, wc_yX7_shapesNow, by decide +kernel, by decide +kernel, by decide +kernel⟩, wim_yX7_shapesNow, wse_yX7_shapesNow⟩
abbrev Y_X7_size : jY := (yX7_size, cX7_size, 3, (some .int), 2, 0, 0)
theorem m_X7_size : jMV Y_X7_size 1 := ⟨⟨wi_ShapeMinimaModel, wc_yX7_size, by decide +kernel, by decide +kernel, by decide +kernel⟩, wim_yX7_size, wse_yX7_size⟩
abbrev Y_X7_sum : jY := (yX7_sum, cX7_sum, 4, (some .long), 2, 0, 0)
theorem m_X7_sum : jMV Y_X7_sum 0 := ⟨⟨wi_ShapeMinimaModel, wc_yX7_sum, by decide +kernel, by decide +kernel, by decide +kernel⟩, wim_yX7_sum, wse_yX7_sum⟩
abbrev Y_X7_takenOff : jY := (yX7_takenOff, cX7_takenOff, 5, (some .int), 0, 0, 0)
theorem m_X7_takenOff : jMV Y_X7_takenOff 2 := ⟨⟨wi_ShapeMinimaModel, wc_yX7_takenOff, by decide +kernel, by decide +kernel, by decide +kernel⟩, wim_yX7_takenOff, wse_yX7_takenOff⟩
abbrev Y_X7_tear : jY := (yX7_tear, cX7_tear, 3, (some .int), 2, 0, 0)
theorem m_X7_tear : jMV Y_X7_tear 1 := ⟨⟨wi_ShapeMinimaModel, wc_yX7_tear, by decide +kernel, by decide +kernel, by decide +kernel⟩, wim_yX7_tear, wse_yX7_tear⟩
abbrev Y_X7_tells : jY := (yX7_tells, cX7_tells, 3, (some .int), 0, 0, 0)
theorem m_X7_tells : jMV Y_X7_tells 2 := ⟨⟨wi_ShapeMinimaModel, wc_yX7_tells, by decide +kernel, by decide +kernel, by decide +kernel⟩, wim_yX7_tells, wse_yX7_tells⟩
abbrev Y_X7_tree : jY := (yX7_tree, cX7_tree, 3, (some .int), 2, 0, 0)
theorem m_X7_tree : jMV Y_X7_tree 1 := ⟨⟨wi_ShapeMinimaModel, wc_yX7_tree, by decide +kernel, by decide +kernel, by decide +kernel⟩, wim_yX7_tree, wse_yX7_tree⟩
abbrev Y_X7_undo : jY := (yX7_undo, cX7_undo, 1, (some .int), 0, 0, 0)
theorem m_X7_undo : jMV Y_X7_undo 0 := ⟨⟨wi_ShapeMinimaModel, wc_yX7_undo, by decide +kernel, by decide +kernel, by decide +kernel⟩, wim_yX7_undo, wse_yX7_undo⟩
abbrev Y_X7_up : jY := (yX7_up, cX7_up, 4, (some .int), 3, 0, 0)
theorem m_X7_up : jMV Y_X7_up 2 := ⟨⟨wi_ShapeMinimaModel, wc_yX7_up, by decide +kernel, by decide +kernel, by decide +kernel⟩, wim_yX7_up, wse_yX7_up⟩
abbrev Y_X7_upTo : jY := (yX7_upTo, cX7_upTo, 5, (some .int), 1, 0, 0)
theorem m_X7_upTo : jMV Y_X7_upTo 2 := ⟨⟨wi_ShapeMinimaModel, wc_yX7_upTo, by decide +kernel, by decide +kernel, by decide +kernel⟩, wim_yX7_upTo, wse_yX7_upTo⟩
theorem gf_X4_9 : jFG RX4 9 4 0 := ⟨RX4, TX4, 2, rfl, by decide, inX4, wf_X4_9⟩
theorem pf_X4_9 : jFP RX4 9 4 0 (.array .int) true := ⟨RX4, TX4, 2, tyX4, rfl, by decide, inX4, wf_X4_9, tyX4_ok, nmX4, by decide +kernel, rfl, rfl⟩
theorem gf_X0_48 : jFG RX0 48 4 0 := ⟨RX4, TX4, 2, rfl, by decide, inX4, wf_X0_48⟩
theorem pf_X0_48 : jFP RX0 48 4 0 (.array .int) true := ⟨RX4, TX4, 2, tyX4, rfl, by decide, inX4, wf_X0_48, tyX4_ok, nmX4, by decide +kernel, rfl, rfl⟩
theorem gf_X6_71 : jFG RX6 71 4 0 := ⟨RX4, TX4, 2, rfl, by decide, inX4, wf_X6_71⟩
theorem pf_X6_71 : jFP RX6 71 4 0 (.array .int) true := ⟨RX4, TX4, 2, tyX4, rfl, by decide, inX4, wf_X6_71, tyX4_ok, nmX4, by decide +kernel, rfl, rfl⟩
theorem gf_X3_65 : jFG RX3 65 4 0 := ⟨RX4, TX4, 2, rfl, by decide, inX4, wf_X3_65⟩
theorem pf_X3_65 : jFP RX3 65 4 0 (.array .int) true := ⟨RX4, TX4, 2, tyX4, rfl, by decide, inX4, wf_X3_65, tyX4_ok, nmX4, by decide +kernel, rfl, rfl⟩
theorem gf_X4_15 : jFG RX4 15 4 1 := ⟨RX4, TX4, 2, rfl, by decide, inX4, wf_X4_15⟩
theorem pf_X4_15 : jFP RX4 15 4 1 .int false := ⟨RX4, TX4, 2, tyX4, rfl, by decide, inX4, wf_X4_15, tyX4_ok, nmX4, by decide +kernel, rfl, rfl⟩
theorem gf_X0_45 : jFG RX0 45 4 1 := ⟨RX4, TX4, 2, rfl, by decide, inX4, wf_X0_45⟩
theorem pf_X0_45 : jFP RX0 45 4 1 .int false := ⟨RX4, TX4, 2, tyX4, rfl, by decide, inX4, wf_X0_45, tyX4_ok, nmX4, by decide +kernel, rfl, rfl⟩
theorem gf_X3_47 : jFG RX3 47 4 1 := ⟨RX4, TX4, 2, rfl, by decide, inX4, wf_X3_47⟩
theorem pf_X3_47 : jFP RX3 47 4 1 .int false := ⟨RX4, TX4, 2, tyX4, rfl, by decide, inX4, wf_X3_47, tyX4_ok, nmX4, by decide +kernel, rfl, rfl⟩
theorem gf_X6_78 : jFG RX6 78 4 1 := ⟨RX4, TX4, 2, rfl, by decide, inX4, wf_X6_78⟩
theorem pf_X6_78 : jFP RX6 78 4 1 .int false := ⟨RX4, TX4, 2, tyX4, rfl, by decide, inX4, wf_X6_78, tyX4_ok, nmX4, by decide +kernel, rfl, rfl⟩
theorem gf_X2_10 : jFG RX2 10 2 0 := ⟨RX2, TX2, 2, rfl, by decide, inX2, wf_X2_10⟩
theorem pf_X2_10 : jFP RX2 10 2 0 (.object RX4) true := ⟨RX2, TX2, 2, tyX2, rfl, by decide, inX2, wf_X2_10, tyX2_ok, nmX2, by decide +kernel, rfl, rfl⟩
theorem gf_X6_128 : jFG RX6 128 2 0 := ⟨RX2, TX2, 2, rfl, by decide, inX2, wf_X6_128⟩
theorem pf_X6_128 : jFP RX6 128 2 0 (.object RX4) true := ⟨RX2, TX2, 2, tyX2, rfl, by decide, inX2, wf_X6_128, tyX2_ok, nmX2, by decide +kernel, rfl, rfl⟩
theorem gf_X2_16 : jFG RX2 16 2 1 := ⟨RX2, TX2, 2, rfl, by decide, inX2, wf_X2_16⟩
theorem pf_X2_16 : jFP RX2 16 2 1 .int false := ⟨RX2, TX2, 2, tyX2, rfl, by decide, inX2, wf_X2_16, tyX2_ok, nmX2, by decide +kernel, rfl, rfl⟩
theorem gf_X6_136 : jFG RX6 136 2 1 := ⟨RX2, TX2, 2, rfl, by decide, inX2, wf_X6_136⟩
theorem pf_X6_136 : jFP RX6 136 2 1 .int false := ⟨RX2, TX2, 2, tyX2, rfl, by decide, inX2, wf_X6_136, tyX2_ok, nmX2, by decide +kernel, rfl, rfl⟩
theorem gf_X5_9 : jFG RX5 9 5 0 := ⟨RX5, TX5, 2, rfl, by decide, inX5, wf_X5_9⟩
theorem pf_X5_9 : jFP RX5 9 5 0 (.array .long) true := ⟨RX5, TX5, 2, tyX5, rfl, by decide, inX5, wf_X5_9, tyX5_ok, nmX5, by decide +kernel, rfl, rfl⟩
theorem gf_X5_15 : jFG RX5 15 5 1 := ⟨RX5, TX5, 2, rfl, by decide, inX5, wf_X5_15⟩
theorem pf_X5_15 : jFP RX5 15 5 1 .int false := ⟨RX5, TX5, 2, tyX5, rfl, by decide, inX5, wf_X5_15, tyX5_ok, nmX5, by decide +kernel, rfl, rfl⟩
theorem gf_X6_227 : jFG RX6 227 5 1 := ⟨RX5, TX5, 2, rfl, by decide, inX5, wf_X6_227⟩
theorem pf_X6_227 : jFP RX6 227 5 1 .int false := ⟨RX5, TX5, 2, tyX5, rfl, by decide, inX5, wf_X6_227, tyX5_ok, nmX5, by decide +kernel, rfl, rfl⟩
theorem gf_X3_12 : jFG RX3 12 3 0 := ⟨RX3, TX3, 6, rfl, by decide, inX3, wf_X3_12⟩
theorem pf_X3_12 : jFP RX3 12 3 0 (.object RX4) true := ⟨RX3, TX3, 6, tyX3, rfl, by decide, inX3, wf_X3_12, tyX3_ok, nmX3, by decide +kernel, rfl, rfl⟩
theorem gf_X6_104 : jFG RX6 104 3 0 := ⟨RX3, TX3, 6, rfl, by decide, inX3, wf_X6_104⟩
theorem pf_X6_104 : jFP RX6 104 3 0 (.object RX4) true := ⟨RX3, TX3, 6, tyX3, rfl, by decide, inX3, wf_X6_104, tyX3_ok, nmX3, by decide +kernel, rfl, rfl⟩
theorem gf_X3_18 : jFG RX3 18 3 1 := ⟨RX3, TX3, 6, rfl, by decide, inX3, wf_X3_18⟩
theorem pf_X3_18 : jFP RX3 18 3 1 (.array .int) true := ⟨RX3, TX3, 6, tyX3, rfl, by decide, inX3, wf_X3_18, tyX3_ok, nmX3, by decide +kernel, rfl, rfl⟩
theorem gf_X6_137 : jFG RX6 137 3 1 := ⟨RX3, TX3, 6, rfl, by decide, inX3, wf_X6_137⟩
theorem pf_X6_137 : jFP RX6 137 3 1 (.array .int) true := ⟨RX3, TX3, 6, tyX3, rfl, by decide, inX3, wf_X6_137, tyX3_ok, nmX3, by decide +kernel, rfl, rfl⟩
theorem gf_X3_25 : jFG RX3 25 3 2 := ⟨RX3, TX3, 6, rfl, by decide, inX3, wf_X3_25⟩
theorem pf_X3_25 : jFP RX3 25 3 2 (.object RX5) true := ⟨RX3, TX3, 6, tyX3, rfl, by decide, inX3, wf_X3_25, tyX3_ok, nmX3, by decide +kernel, rfl, rfl⟩
theorem gf_X6_140 : jFG RX6 140 3 2 := ⟨RX3, TX3, 6, rfl, by decide, inX3, wf_X6_140⟩
theorem pf_X6_140 : jFP RX6 140 3 2 (.object RX5) true := ⟨RX3, TX3, 6, tyX3, rfl, by decide, inX3, wf_X6_140, tyX3_ok, nmX3, by decide +kernel, rfl, rfl⟩
theorem gf_X3_29 : jFG RX3 29 3 3 := ⟨RX3, TX3, 6, rfl, by decide, inX3, wf_X3_29⟩
theorem pf_X3_29 : jFP RX3 29 3 3 (.array .int) true := ⟨RX3, TX3, 6, tyX3, rfl, by decide, inX3, wf_X3_29, tyX3_ok, nmX3, by decide +kernel, rfl, rfl⟩
theorem gf_X3_32 : jFG RX3 32 3 4 := ⟨RX3, TX3, 6, rfl, by decide, inX3, wf_X3_32⟩
theorem pf_X3_32 : jFP RX3 32 3 4 .int false := ⟨RX3, TX3, 6, tyX3, rfl, by decide, inX3, wf_X3_32, tyX3_ok, nmX3, by decide +kernel, rfl, rfl⟩
theorem gf_X6_133 : jFG RX6 133 3 4 := ⟨RX3, TX3, 6, rfl, by decide, inX3, wf_X6_133⟩
theorem pf_X6_133 : jFP RX6 133 3 4 .int false := ⟨RX3, TX3, 6, tyX3, rfl, by decide, inX3, wf_X6_133, tyX3_ok, nmX3, by decide +kernel, rfl, rfl⟩
theorem gf_X3_36 : jFG RX3 36 3 5 := ⟨RX3, TX3, 6, rfl, by decide, inX3, wf_X3_36⟩
theorem pf_X3_36 : jFP RX3 36 3 5 .int false := ⟨RX3, TX3, 6, tyX3, rfl, by decide, inX3, wf_X3_36, tyX3_ok, nmX3, by decide +kernel, rfl, rfl⟩
theorem gf_X6_98 : jFG RX6 98 3 5 := ⟨RX3, TX3, 6, rfl, by decide, inX3, wf_X6_98⟩
theorem pf_X6_98 : jFP RX6 98 3 5 .int false := ⟨RX3, TX3, 6, tyX3, rfl, by decide, inX3, wf_X6_98, tyX3_ok, nmX3, by decide +kernel, rfl, rfl⟩
theorem gf_X1_9 : jFG RX1 9 1 0 := ⟨RX1, TX1, 3, rfl, by decide, inX1, wf_X1_9⟩
theorem pf_X1_9 : jFP RX1 9 1 0 (.array .int) true := ⟨RX1, TX1, 3, tyX1, rfl, by decide, inX1, wf_X1_9, tyX1_ok, nmX1, by decide +kernel, rfl, rfl⟩
theorem gf_X6_116 : jFG RX6 116 1 0 := ⟨RX1, TX1, 3, rfl, by decide, inX1, wf_X6_116⟩
theorem pf_X6_116 : jFP RX6 116 1 0 (.array .int) true := ⟨RX1, TX1, 3, tyX1, rfl, by decide, inX1, wf_X6_116, tyX1_ok, nmX1, by decide +kernel, rfl, rfl⟩
theorem gf_X1_15 : jFG RX1 15 1 1 := ⟨RX1, TX1, 3, rfl, by decide, inX1, wf_X1_15⟩
theorem pf_X1_15 : jFP RX1 15 1 1 (.array .int) true := ⟨RX1, TX1, 3, tyX1, rfl, by decide, inX1, wf_X1_15, tyX1_ok, nmX1, by decide +kernel, rfl, rfl⟩
theorem gf_X6_119 : jFG RX6 119 1 1 := ⟨RX1, TX1, 3, rfl, by decide, inX1, wf_X6_119⟩
theorem pf_X6_119 : jFP RX6 119 1 1 (.array .int) true := ⟨RX1, TX1, 3, tyX1, rfl, by decide, inX1, wf_X6_119, tyX1_ok, nmX1, by decide +kernel, rfl, rfl⟩
theorem gf_X1_18 : jFG RX1 18 1 2 := ⟨RX1, TX1, 3, rfl, by decide, inX1, wf_X1_18⟩
theorem pf_X1_18 : jFP RX1 18 1 2 .int false := ⟨RX1, TX1, 3, tyX1, rfl, by decide, inX1, wf_X1_18, tyX1_ok, nmX1, by decide +kernel, rfl, rfl⟩
theorem gf_X6_115 : jFG RX6 115 1 2 := ⟨RX1, TX1, 3, rfl, by decide, inX1, wf_X6_115⟩
theorem pf_X6_115 : jFP RX6 115 1 2 .int false := ⟨RX1, TX1, 3, tyX1, rfl, by decide, inX1, wf_X6_115, tyX1_ok, nmX1, by decide +kernel, rfl, rfl⟩
theorem gf_X0_9 : jFG RX0 9 0 0 := ⟨RX0, TX0, 8, rfl, by decide, inX0, wf_X0_9⟩
theorem pf_X0_9 : jFP RX0 9 0 0 (.array .int) true := ⟨RX0, TX0, 8, tyX0, rfl, by decide, inX0, wf_X0_9, tyX0_ok, nmX0, by decide +kernel, rfl, rfl⟩
theorem gf_X0_15 : jFG RX0 15 0 1 := ⟨RX0, TX0, 8, rfl, by decide, inX0, wf_X0_15⟩
theorem pf_X0_15 : jFP RX0 15 0 1 (.array .int) true := ⟨RX0, TX0, 8, tyX0, rfl, by decide, inX0, wf_X0_15, tyX0_ok, nmX0, by decide +kernel, rfl, rfl⟩
theorem gf_X6_205 : jFG RX6 205 0 1 := ⟨RX0, TX0, 8, rfl, by decide, inX0, wf_X6_205⟩
theorem pf_X6_205 : jFP RX6 205 0 1 (.array .int) true := ⟨RX0, TX0, 8, tyX0, rfl, by decide, inX0, wf_X6_205, tyX0_ok, nmX0, by decide +kernel, rfl, rfl⟩
theorem gf_X0_18 : jFG RX0 18 0 2 := ⟨RX0, TX0, 8, rfl, by decide, inX0, wf_X0_18⟩
theorem pf_X0_18 : jFP RX0 18 0 2 (.array .int) true := ⟨RX0, TX0, 8, tyX0, rfl, by decide, inX0, wf_X0_18, tyX0_ok, nmX0, by decide +kernel, rfl, rfl⟩
theorem gf_X6_214 : jFG RX6 214 0 2 := ⟨RX0, TX0, 8, rfl, by decide, inX0, wf_X6_214⟩
theorem pf_X6_214 : jFP RX6 214 0 2 (.array .int) true := ⟨RX0, TX0, 8, tyX0, rfl, by decide, inX0, wf_X6_214, tyX0_ok, nmX0, by decide +kernel, rfl, rfl⟩
theorem gf_X0_21 : jFG RX0 21 0 3 := ⟨RX0, TX0, 8, rfl, by decide, inX0, wf_X0_21⟩
theorem pf_X0_21 : jFP RX0 21 0 3 (.array .int) true := ⟨RX0, TX0, 8, tyX0, rfl, by decide, inX0, wf_X0_21, tyX0_ok, nmX0, by decide +kernel, rfl, rfl⟩
theorem gf_X6_217 : jFG RX6 217 0 3 := ⟨RX0, TX0, 8, rfl, by decide, inX0, wf_X6_217⟩
theorem pf_X6_217 : jFP RX6 217 0 3 (.array .int) true := ⟨RX0, TX0, 8, tyX0, rfl, by decide, inX0, wf_X6_217, tyX0_ok, nmX0, by decide +kernel, rfl, rfl⟩
theorem gf_X0_24 : jFG RX0 24 0 4 := ⟨RX0, TX0, 8, rfl, by decide, inX0, wf_X0_24⟩
theorem pf_X0_24 : jFP RX0 24 0 4 (.array .int) true := ⟨RX0, TX0, 8, tyX0, rfl, by decide, inX0, wf_X0_24, tyX0_ok, nmX0, by decide +kernel, rfl, rfl⟩
theorem gf_X0_30 : jFG RX0 30 0 5 := ⟨RX0, TX0, 8, rfl, by decide, inX0, wf_X0_30⟩
theorem pf_X0_30 : jFP RX0 30 0 5 (.object RX4) true := ⟨RX0, TX0, 8, tyX0, rfl, by decide, inX0, wf_X0_30, tyX0_ok, nmX0, by decide +kernel, rfl, rfl⟩
theorem gf_X0_37 : jFG RX0 37 0 6 := ⟨RX0, TX0, 8, rfl, by decide, inX0, wf_X0_37⟩
theorem pf_X0_37 : jFP RX0 37 0 6 (.object RX3) true := ⟨RX0, TX0, 8, tyX0, rfl, by decide, inX0, wf_X0_37, tyX0_ok, nmX0, by decide +kernel, rfl, rfl⟩
theorem gf_X0_41 : jFG RX0 41 0 7 := ⟨RX0, TX0, 8, rfl, by decide, inX0, wf_X0_41⟩
theorem pf_X0_41 : jFP RX0 41 0 7 .int false := ⟨RX0, TX0, 8, tyX0, rfl, by decide, inX0, wf_X0_41, tyX0_ok, nmX0, by decide +kernel, rfl, rfl⟩
theorem gf_X6_196 : jFG RX6 196 0 7 := ⟨RX0, TX0, 8, rfl, by decide, inX0, wf_X6_196⟩
theorem pf_X6_196 : jFP RX6 196 0 7 .int false := ⟨RX0, TX0, 8, tyX0, rfl, by decide, inX0, wf_X6_196, tyX0_ok, nmX0, by decide +kernel, rfl, rfl⟩
theorem gf_X6_11 : jFG RX6 11 6 0 := ⟨RX6, TX6, 8, rfl, by decide, inX6, wf_X6_11⟩
theorem pf_X6_11 : jFP RX6 11 6 0 (.array (.object RX4)) true := ⟨RX6, TX6, 8, tyX6, rfl, by decide, inX6, wf_X6_11, tyX6_ok, nmX6, by decide +kernel, rfl, rfl⟩
theorem gf_X6_26 : jFG RX6 26 6 1 := ⟨RX6, TX6, 8, rfl, by decide, inX6, wf_X6_26⟩
theorem pf_X6_26 : jFP RX6 26 6 1 (.object RX3) true := ⟨RX6, TX6, 8, tyX6, rfl, by decide, inX6, wf_X6_26, tyX6_ok, nmX6, by decide +kernel, rfl, rfl⟩
theorem gf_X6_33 : jFG RX6 33 6 2 := ⟨RX6, TX6, 8, rfl, by decide, inX6, wf_X6_33⟩
theorem pf_X6_33 : jFP RX6 33 6 2 (.object RX1) true := ⟨RX6, TX6, 8, tyX6, rfl, by decide, inX6, wf_X6_33, tyX6_ok, nmX6, by decide +kernel, rfl, rfl⟩
theorem gf_X6_18 : jFG RX6 18 6 3 := ⟨RX6, TX6, 8, rfl, by decide, inX6, wf_X6_18⟩
theorem pf_X6_18 : jFP RX6 18 6 3 (.array (.object RX2)) true := ⟨RX6, TX6, 8, tyX6, rfl, by decide, inX6, wf_X6_18, tyX6_ok, nmX6, by decide +kernel, rfl, rfl⟩
theorem gf_X6_40 : jFG RX6 40 6 4 := ⟨RX6, TX6, 8, rfl, by decide, inX6, wf_X6_40⟩
theorem pf_X6_40 : jFP RX6 40 6 4 (.object RX0) true := ⟨RX6, TX6, 8, tyX6, rfl, by decide, inX6, wf_X6_40, tyX6_ok, nmX6, by decide +kernel, rfl, rfl⟩
theorem gf_X6_44 : jFG RX6 44 6 5 := ⟨RX6, TX6, 8, rfl, by decide, inX6, wf_X6_44⟩
theorem pf_X6_44 : jFP RX6 44 6 5 (.array .int) true := ⟨RX6, TX6, 8, tyX6, rfl, by decide, inX6, wf_X6_44, tyX6_ok, nmX6, by decide +kernel, rfl, rfl⟩
theorem gf_X6_48 : jFG RX6 48 6 6 := ⟨RX6, TX6, 8, rfl, by decide, inX6, wf_X6_48⟩
theorem pf_X6_48 : jFP RX6 48 6 6 .int false := ⟨RX6, TX6, 8, tyX6, rfl, by decide, inX6, wf_X6_48, tyX6_ok, nmX6, by decide +kernel, rfl, rfl⟩
theorem gf_X6_52 : jFG RX6 52 6 7 := ⟨RX6, TX6, 8, rfl, by decide, inX6, wf_X6_52⟩
theorem pf_X6_52 : jFP RX6 52 6 7 .int false := ⟨RX6, TX6, 8, tyX6, rfl, by decide, inX6, wf_X6_52, tyX6_ok, nmX6, by decide +kernel, rfl, rfl⟩
theorem gf_X7_46 : jFG RX7 46 7 0 := ⟨RX7, TX7, 22, rfl, by decide, inX7, wf_X7_46⟩
theorem pf_X7_46 : jFP RX7 46 7 0 .int false := ⟨RX7, TX7, 22, tyX7, rfl, by decide, inX7, wf_X7_46, tyX7_ok, nmX7, by decide +kernel, rfl, rfl⟩
theorem gf_X7_53 : jFG RX7 53 7 1 := ⟨RX7, TX7, 22, rfl, by decide, inX7, wf_X7_53⟩
theorem pf_X7_53 : jFP RX7 53 7 1 .int false := ⟨RX7, TX7, 22, tyX7, rfl, by decide, inX7, wf_X7_53, tyX7_ok, nmX7, by decide +kernel, rfl, rfl⟩
theorem gf_X7_50 : jFG RX7 50 7 2 := ⟨RX7, TX7, 22, rfl, by decide, inX7, wf_X7_50⟩
theorem pf_X7_50 : jFP RX7 50 7 2 .int false := ⟨RX7, TX7, 22, tyX7, rfl, by decide, inX7, wf_X7_50, tyX7_ok, nmX7, by decide +kernel, rfl, rfl⟩
theorem gf_X7_7 : jFG RX7 7 7 3 := ⟨RX7, TX7, 22, rfl, by decide, inX7, wf_X7_7⟩
theorem pf_X7_7 : jFP RX7 7 7 3 (.array .int) true := ⟨RX7, TX7, 22, tyX7, rfl, by decide, inX7, wf_X7_7, tyX7_ok, nmX7, by decide +kernel, rfl, rfl⟩
theorem gf_X7_13 : jFG RX7 13 7 4 := ⟨RX7, TX7, 22, rfl, by decide, inX7, wf_X7_13⟩
theorem pf_X7_13 : jFP RX7 13 7 4 (.array .int) true := ⟨RX7, TX7, 22, tyX7, rfl, by decide, inX7, wf_X7_13, tyX7_ok, nmX7, by decide +kernel, rfl, rfl⟩
theorem gf_X7_16 : jFG RX7 16 7 5 := ⟨RX7, TX7, 22, rfl, by decide, inX7, wf_X7_16⟩
theorem pf_X7_16 : jFP RX7 16 7 5 (.array .int) true := ⟨RX7, TX7, 22, tyX7, rfl, by decide, inX7, wf_X7_16, tyX7_ok, nmX7, by decide +kernel, rfl, rfl⟩
theorem gf_X7_81 : jFG RX7 81 7 6 := ⟨RX7, TX7, 22, rfl, by decide, inX7, wf_X7_81⟩
theorem pf_X7_81 : jFP RX7 81 7 6 .int false := ⟨RX7, TX7, 22, tyX7, rfl, by decide, inX7, wf_X7_81, tyX7_ok, nmX7, by decide +kernel, rfl, rfl⟩
theorem gf_X7_78 : jFG RX7 78 7 7 := ⟨RX7, TX7, 22, rfl, by decide, inX7, wf_X7_78⟩
theorem pf_X7_78 : jFP RX7 78 7 7 .int false := ⟨RX7, TX7, 22, tyX7, rfl, by decide, inX7, wf_X7_78, tyX7_ok, nmX7, by decide +kernel, rfl, rfl⟩
theorem gf_X7_19 : jFG RX7 19 7 8 := ⟨RX7, TX7, 22, rfl, by decide, inX7, wf_X7_19⟩
theorem pf_X7_19 : jFP RX7 19 7 8 (.array .int) true := ⟨RX7, TX7, 22, tyX7, rfl, by decide, inX7, wf_X7_19, tyX7_ok, nmX7, by decide +kernel, rfl, rfl⟩
theorem gf_X7_22 : jFG RX7 22 7 9 := ⟨RX7, TX7, 22, rfl, by decide, inX7, wf_X7_22⟩
theorem pf_X7_22 : jFP RX7 22 7 9 (.array .int) true := ⟨RX7, TX7, 22, tyX7, rfl, by decide, inX7, wf_X7_22, tyX7_ok, nmX7, by decide +kernel, rfl, rfl⟩
theorem gf_X7_93 : jFG RX7 93 7 10 := ⟨RX7, TX7, 22, rfl, by decide, inX7, wf_X7_93⟩
theorem pf_X7_93 : jFP RX7 93 7 10 .int false := ⟨RX7, TX7, 22, tyX7, rfl, by decide, inX7, wf_X7_93, tyX7_ok, nmX7, by decide +kernel, rfl, rfl⟩
theorem gf_X7_25 : jFG RX7 25 7 11 := ⟨RX7, TX7, 22, rfl, by decide, inX7, wf_X7_25⟩
theorem pf_X7_25 : jFP RX7 25 7 11 (.array .int) true := ⟨RX7, TX7, 22, tyX7, rfl, by decide, inX7, wf_X7_25, tyX7_ok, nmX7, by decide +kernel, rfl, rfl⟩
theorem gf_X7_28 : jFG RX7 28 7 12 := ⟨RX7, TX7, 22, rfl, by decide, inX7, wf_X7_28⟩
theorem pf_X7_28 : jFP RX7 28 7 12 (.array .int) true := ⟨RX7, TX7, 22, tyX7, rfl, by decide, inX7, wf_X7_28, tyX7_ok, nmX7, by decide +kernel, rfl, rfl⟩
theorem gf_X7_96 : jFG RX7 96 7 13 := ⟨RX7, TX7, 22, rfl, by decide, inX7, wf_X7_96⟩
theorem pf_X7_96 : jFP RX7 96 7 13 .int false := ⟨RX7, TX7, 22, tyX7, rfl, by decide, inX7, wf_X7_96, tyX7_ok, nmX7, by decide +kernel, rfl, rfl⟩
theorem gf_X7_31 : jFG RX7 31 7 14 := ⟨RX7, TX7, 22, rfl, by decide, inX7, wf_X7_31⟩
theorem pf_X7_31 : jFP RX7 31 7 14 (.array .int) true := ⟨RX7, TX7, 22, tyX7, rfl, by decide, inX7, wf_X7_31, tyX7_ok, nmX7, by decide +kernel, rfl, rfl⟩
theorem gf_X7_34 : jFG RX7 34 7 15 := ⟨RX7, TX7, 22, rfl, by decide, inX7, wf_X7_34⟩
theorem pf_X7_34 : jFP RX7 34 7 15 (.array .int) true := ⟨RX7, TX7, 22, tyX7, rfl, by decide, inX7, wf_X7_34, tyX7_ok, nmX7, by decide +kernel, rfl, rfl⟩
theorem gf_X7_37 : jFG RX7 37 7 16 := ⟨RX7, TX7, 22, rfl, by decide, inX7, wf_X7_37⟩
theorem pf_X7_37 : jFP RX7 37 7 16 (.array .int) true := ⟨RX7, TX7, 22, tyX7, rfl, by decide, inX7, wf_X7_37, tyX7_ok, nmX7, by decide +kernel, rfl, rfl⟩
theorem gf_X7_40 : jFG RX7 40 7 17 := ⟨RX7, TX7, 22, rfl, by decide, inX7, wf_X7_40⟩
theorem pf_X7_40 : jFP RX7 40 7 17 (.array .int) true := ⟨RX7, TX7, 22, tyX7, rfl, by decide, inX7, wf_X7_40, tyX7_ok, nmX7, by decide +kernel, rfl, rfl⟩
theorem gf_X7_84 : jFG RX7 84 7 18 := ⟨RX7, TX7, 22, rfl, by decide, inX7, wf_X7_84⟩
theorem pf_X7_84 : jFP RX7 84 7 18 .int false := ⟨RX7, TX7, 22, tyX7, rfl, by decide, inX7, wf_X7_84, tyX7_ok, nmX7, by decide +kernel, rfl, rfl⟩
theorem gf_X7_140 : jFG RX7 140 7 19 := ⟨RX7, TX7, 22, rfl, by decide, inX7, wf_X7_140⟩
theorem pf_X7_140 : jFP RX7 140 7 19 .int false := ⟨RX7, TX7, 22, tyX7, rfl, by decide, inX7, wf_X7_140, tyX7_ok, nmX7, by decide +kernel, rfl, rfl⟩
theorem gf_X7_43 : jFG RX7 43 7 20 := ⟨RX7, TX7, 22, rfl, by decide, inX7, wf_X7_43⟩
theorem pf_X7_43 : jFP RX7 43 7 20 (.array .int) true := ⟨RX7, TX7, 22, tyX7, rfl, by decide, inX7, wf_X7_43, tyX7_ok, nmX7, by decide +kernel, rfl, rfl⟩
theorem gf_X7_128 : jFG RX7 128 7 21 := ⟨RX7, TX7, 22, rfl, by decide, inX7, wf_X7_128⟩
theorem pf_X7_128 : jFP RX7 128 7 21 .int false := ⟨RX7, TX7, 22, tyX7, rfl, by decide, inX7, wf_X7_128, tyX7_ok, nmX7, by decide +kernel, rfl, rfl⟩
def bI (c : Prop) [Decidable c] : Int := if c then 1 else 0
theorem bI_t {c : Prop} [Decidable c] (h : c) : bI c = 1 := if_pos h
theorem bI_f {c : Prop} [Decidable c] (h : ¬ c) : bI c = 0 := if_neg h
theorem bI_r (c : Prop) [Decidable c] : jr (bI c) := by unfold bI; split <;> exact ⟨by decide, by decide⟩
theorem bI_0 {c : Prop} [Decidable c] : bI c = 0 ↔ ¬ c := by unfold bI; split <;> simp_all
theorem bI_n (c : Prop) [Decidable c] : narrow .boolean (.int (iI (bI c))) = .int (iI (bI c)) := by unfold bI; split <;> decide +kernel
theorem bI_n0 : narrow .boolean (.int (iI 0)) = .int (iI 0) := by decide +kernel
theorem bI_n1 : narrow .boolean (.int (iI 1)) = .int (iI 1) := by decide +kernel
theorem j_bif_eq {E : jD} {Y : jY} {Z : jZ} {k n pc : Nat} {lv : List (Nat × Value)} {st : List Value} {M : va_W} (tgt pc' : Nat) {c : Prop} [Decidable c] {off : Int} (hdg : decode Y.2.1 pc = .ok (.ifCond .eq off, 3)) (kt : ¬ c → J E Y Z k n tgt lv st M) (kf : c → J E Y Z k n pc' lv st M) (ht : (pc : Int) + off = (tgt : Int) := by decide) (hpc : pc + 3 = pc' := by rfl) : J E Y Z k n pc lv (.int (iI (bI c)) :: st) M :=
  j_if_eq tgt pc' hdg (bI_r c) (fun h => kt (bI_0.mp h)) (fun h => kf (Decidable.not_not.mp (fun q => h (bI_0.mpr q)))) ht hpc
theorem j_bif_ne {E : jD} {Y : jY} {Z : jZ} {k n pc : Nat} {lv : List (Nat × Value)} {st : List Value} {M : va_W} (tgt pc' : Nat) {c : Prop} [Decidable c] {off : Int} (hdg : decode Y.2.1 pc = .ok (.ifCond .ne off, 3)) (kt : c → J E Y Z k n tgt lv st M) (kf : ¬ c → J E Y Z k n pc' lv st M) (ht : (pc : Int) + off = (tgt : Int) := by decide) (hpc : pc + 3 = pc' := by rfl) : J E Y Z k n pc lv (.int (iI (bI c)) :: st) M :=
  j_if_ne tgt pc' hdg (bI_r c) (fun h => kt (Decidable.not_not.mp (fun q => h (bI_0.mpr q)))) (fun h => kf (bI_0.mp h)) ht hpc
end
section
theorem lg_cmp_0 {x y : Int64} : lg_cmp x y = 0 ↔ x = y := by
  unfold lg_cmp
  by_cases h1 : x > y
  · rw [if_pos h1]
    refine ⟨fun h => absurd h (by decide +kernel), fun h => ?_⟩
    subst h
    exact absurd h1 (Int64.lt_irrefl)
  · rw [if_neg h1]
    by_cases h2 : x = y
    · simp [h2]
    · rw [if_neg h2]
      exact ⟨fun h => absurd h (by decide +kernel), fun h => absurd h h2⟩
/-- two longs compared, the answer asked for 0 -/
theorem j_lif_eq {E : jD} {Y : jY} {Z : jZ} {k n pc : Nat} {lv : List (Nat × Value)} {st : List Value} {M : va_W} (tgt pc' : Nat) {x y : Int64} {off : Int} (hdc : decode Y.2.1 pc = .ok (.lcmp, 1)) (hdg : decode Y.2.1 (pc + 1) = .ok (.ifCond .eq off, 3)) (kt : x = y → J E Y Z k n tgt lv st M) (kf : ¬ x = y → J E Y Z k n pc' lv st M) (ht : ((pc + 1 : Nat) : Int) + off = (tgt : Int) := by decide) (hpc : pc + 4 = pc' := by rfl) : J E Y Z k n pc lv (.long y :: .long x :: st) M := by
  subst hpc
  refine j_lcmp (pc + 1) hdc ?_
  intro p l e s m args below meth c A C H locs ls hl hP hD hS
  obtain ⟨hx, hb, hml, hr, hlk, ho, hnm, hts, hK, hA, hX⟩ := id C
  refine lv_if_eq hx hb hdg ht (fun h => ?_) (fun h => ?_)
  · exact kt (lg_cmp_0.mp h) p l e s m args below meth c A C H locs ls hl hP hD hS
  · exact kf (fun q => h (lg_cmp_0.mpr q)) p l e s m args below meth c A C H locs ls hl hP hD hS
theorem j_lif_ne {E : jD} {Y : jY} {Z : jZ} {k n pc : Nat} {lv : List (Nat × Value)} {st : List Value} {M : va_W} (tgt pc' : Nat) {x y : Int64} {off : Int} (hdc : decode Y.2.1 pc = .ok (.lcmp, 1)) (hdg : decode Y.2.1 (pc + 1) = .ok (.ifCond .ne off, 3)) (kt : ¬ x = y → J E Y Z k n tgt lv st M) (kf : x = y → J E Y Z k n pc' lv st M) (ht : ((pc + 1 : Nat) : Int) + off = (tgt : Int) := by decide) (hpc : pc + 4 = pc' := by rfl) : J E Y Z k n pc lv (.long y :: .long x :: st) M := by
  subst hpc
  refine j_lcmp (pc + 1) hdc ?_
  intro p l e s m args below meth c A C H locs ls hl hP hD hS
  obtain ⟨hx, hb, hml, hr, hlk, ho, hnm, hts, hK, hA, hX⟩ := id C
  refine lv_if_ne hx hb hdg ht (fun h => ?_) (fun h => ?_)
  · exact kt (fun q => h (lg_cmp_0.mpr q)) p l e s m args below meth c A C H locs ls hl hP hD hS
  · exact kf (lg_cmp_0.mp h) p l e s m args below meth c A C H locs ls hl hP hD hS
/-! bits (ts_bit is kit/laws/BITS.to-paste's) -/
theorem ts_bit {w : Int64} {s : UInt64} {j : Nat} (hj : j < 64) (hs : s.toNat = j) : ((w.toUInt64 >>> s).toInt64 &&& 1) = 0 ↔ w.toBitVec.getLsbD j = false := by
  have e : (w.toUInt64 >>> s).toInt64.toBitVec = w.toBitVec >>> j := by
    apply BitVec.eq_of_toNat_eq
    show (w.toUInt64 >>> s).toNat = _
    rw [UInt64.toNat_shiftRight, hs, Nat.mod_eq_of_lt hj, BitVec.toNat_ushiftRight]
    rfl
  rw [← Int64.toBitVec_inj, Int64.toBitVec_and, e]
  show w.toBitVec >>> j &&& 1#64 = 0#64 ↔ _
  constructor
  · intro h
    have t := congrArg (fun x => x.getLsbD 0) h
    simpa using t
  · intro h
    apply BitVec.eq_of_getLsbD_eq
    intro i hi
    simp only [BitVec.getLsbD_and, BitVec.getLsbD_ushiftRight, BitVec.getLsbD_one, BitVec.getLsbD_zero]
    by_cases h0 : i = 0
    · subst h0; simp [h]
    · simp [h0]
theorem sh_cnt : ∀ k, k < 64 → ((iI ((k : Nat) : Int)).toInt64.toUInt64 &&& Int64.toUInt64 63).toNat = k := by decide +kernel
theorem sh_one : ∀ k, k < 64 → ((1 : Int64) <<< ((iI ((k : Nat) : Int)).toInt64 &&& 63)).toBitVec = BitVec.twoPow 64 k := by decide +kernel
theorem iI_shr {s : Nat} (c : Int) (k : Nat) (h : s < 2147483648) (hs : (((iI c) &&& 31).toBitVec.smod 32).toNat = k) : iI (s : Int) >>> (iI c &&& 31) = iI ((s / 2 ^ k : Nat) : Int) := pk_shrN (n := s) (by omega) (iI c &&& 31) k hs
theorem iI_and {s : Nat} (c : Int) (k : Nat) (h : s < 2147483648) (hs : (iI c).toBitVec.toNat = 2 ^ k - 1) : iI (s : Int) &&& iI c = iI ((s % 2 ^ k : Nat) : Int) := pk_andN (n := s) (by omega) k hs
/-- is a number in the set that the words hold -/
def wB (w : Nat → Int64) (s : Nat) : Bool := (w (s / 64)).toBitVec.getLsbD (s % 64)
def incW (w : Nat → Int64) (s : Nat) : Nat → Int64 := vp_updL w (s / 64) (w (s / 64) ||| ((1 : Int64) <<< ((iI ((s % 64 : Nat) : Int)).toInt64 &&& 63)))
theorem wB_inc (w : Nat → Int64) (s t : Nat) : wB (incW w s) t = (wB w t || decide (t = s)) := by
  unfold wB incW vp_updL
  by_cases h : t / 64 = s / 64
  · rw [if_pos h, Int64.toBitVec_or, BitVec.getLsbD_or, sh_one _ (Nat.mod_lt _ (by decide)), BitVec.getLsbD_twoPow, h]
    congr 1
    by_cases h2 : t = s
    · subst h2; simp [Nat.mod_lt]
    · have h3 : ¬ s % 64 = t % 64 := by omega
      simp [h2, h3]
  · rw [if_neg h]
    have h2 : ¬ t = s := fun e => h (by rw [e])
    simp [h2]
theorem wB_fill (w : Nat → Int64) (s : Nat) (h : s < 4096) : wB (fun j => if j < 64 then 0 else w j) s = false := by
  have h2 : s / 64 < 64 := by omega
  simp [wB, h2]
/-- moved down by one, the first i of them -/
def shF (p : Nat → Int32) (i : Nat) : Nat → Int32 := fun j => if j < i then p (j + 1) else p j
theorem shF_0 (p : Nat → Int32) : shF p 0 = p := by funext j; simp [shF]
theorem shF_s (p : Nat → Int32) (i : Nat) : upd (shF p i) i (p (i + 1)) = shF p (i + 1) := by
  funext j
  unfold upd shF
  by_cases h : j = i
  · subst h; simp
  · by_cases h2 : j < i
    · simp [h, h2, Nat.lt_succ_of_lt h2]
    · have h3 : ¬ j < i + 1 := by omega
      simp [h, h2, h3]
theorem j_take {E : jD} {Y : jY} {Z : jZ} {k n pc : Nat} {lv : List (Nat × Value)} {st : List Value} {M : va_W} (t : Nat) (kk : J E Y Z k n pc (lv.take t) st M) : J E Y Z k n pc lv st M := j_sub (fun _ hq => List.mem_of_mem_take hq) kk
end
section
/-! plain functions: what loops compute -/
abbrev tI (f : Nat → Int32) : Nat → Int := fun k => (f k).toInt
/-- filled up to k -/
def fa {α : Type} (v : α) (k : Nat) (f : Nat → α) : Nat → α := fun j => if j < k then v else f j
theorem fa_0 {α : Type} (v : α) (f : Nat → α) : fa v 0 f = f := by
  funext j; simp [fa]
theorem fa_s (v : Int32) (k : Nat) (f : Nat → Int32) : upd (fa v k f) k v = fa v (k + 1) f := by
  funext j
  by_cases h : j = k
  · subst h; simp [upd, fa]
  · by_cases h2 : j < k
    · simp [upd, fa, h, h2, Nat.lt_succ_of_lt h2]
    · have h3 : ¬ j < k + 1 := by omega
      simp [upd, fa, h, h2, h3]
theorem fa_sL (v : Int64) (k : Nat) (f : Nat → Int64) : vp_updL (fa v k f) k v = fa v (k + 1) f := by
  funext j
  by_cases h : j = k
  · subst h; simp [vp_updL, fa]
  · by_cases h2 : j < k
    · simp [vp_updL, fa, h, h2, Nat.lt_succ_of_lt h2]
    · have h3 : ¬ j < k + 1 := by omega
      simp [vp_updL, fa, h, h2, h3]
theorem upd_at (f : Nat → Int32) (k : Nat) (x : Int32) : upd f k x k = x := by simp [upd]
theorem upd_ne {f : Nat → Int32} {k j : Nat} {x : Int32} (h : j ≠ k) : upd f k x j = f j := by simp [upd, h]
/-- 31 h + .. -/
def dgF (h : Int64) (f : Nat → Int32) : Nat → Int64
  | 0 => h
  | k + 1 => 31 * dgF h f k + (f k).toInt64
/-- the place of the least of i .. i + d, the first of several -/
def lsF (g : Nat → Int) (i : Nat) : Nat → Nat
  | 0 => i
  | d + 1 => if g (i + d + 1) < g (lsF g i d) then i + d + 1 else lsF g i d
theorem lsF_in (g : Nat → Int) (i : Nat) : ∀ d, i ≤ lsF g i d ∧ lsF g i d ≤ i + d
  | 0 => ⟨Nat.le_refl _, Nat.le_refl _⟩
  | d + 1 => by
    have ih := lsF_in g i d
    unfold lsF
    split <;> omega
/-- nearest place ahead of k whose item is no more than v; -1 -/
def lfF (g : Nat → Int) (v : Int) : Nat → Int
  | 0 => -1
  | k + 1 => if v < g k then lfF g v k else (k : Int)
theorem lfF_in (g : Nat → Int) (v : Int) : ∀ k, -1 ≤ lfF g v k ∧ lfF g v k < k
  | 0 => by simp [lfF]
  | k + 1 => by
    have ih := lfF_in g v k
    unfold lfF
    split <;> omega
/-- nearest place from k on whose item is less than v; k + d -/
def rtF (g : Nat → Int) (v : Int) : Nat → Nat → Nat
  | 0, k => k
  | d + 1, k => if v ≤ g k then rtF g v d (k + 1) else k
theorem rtF_in (g : Nat → Int) (v : Int) : ∀ d k, k ≤ rtF g v d k ∧ rtF g v d k ≤ k + d
  | 0, k => ⟨Nat.le_refl _, Nat.le_refl _⟩
  | d + 1, k => by
    have ih := rtF_in g v d (k + 1)
    unfold rtF
    split <;> omega
abbrev lfE (g : Nat → Int) (i : Nat) : Int := lfF g (g i) i
abbrev rtE (g : Nat → Int) (n i : Nat) : Nat := rtF g (g i) (n - (i + 1)) (i + 1)
def ownF (g : Nat → Int) (n i : Nat) : Int := ((i : Int) - lfE g i) * ((rtE g n i : Int) - i)
end
section
set_option maxRecDepth 100000 in
set_option maxHeartbeats 4000000 in
theorem lp_fillI (E : jD) (a n : Nat) (f : Nat → Int32) (v : Int32) (hn : n < 65536) : ∀ d k, n - k = d → k ≤ n → J E Y_J7_fill_53178 (jZm E Y_J7_fill_53178 (fun r N0 => r = none ∧ N0 = [(a, jA E n (fa v n f))])) 0 0 5 [(0, .ref a), (1, .int v), (2, .int (iI (k : Int))), (3, .int (iI (n : Int)))] [] [(a, jA E n (fa v k f))] := by
  intro d
  induction d with
  | zero =>
    intro k hd hk
    refine j_iload_2 6 dJ7_fill_53178_5 rfl ?_
    refine j_iload_3 7 dJ7_fill_53178_6 rfl ?_
    refine j_icmp_ge 20 10 dJ7_fill_53178_7 (by first | exact iI_rng _ | exact bI_r _ | exact ⟨by omega, by omega⟩) (by first | exact iI_rng _ | exact bI_r _ | exact ⟨by omega, by omega⟩) (fun h7 => ?_) (fun h7 => ?_)
    · exact j_vret dJ7_fill_53178_20 rfl rfl ⟨rfl, by rw [show k = n by omega]⟩
    · omega
  | succ d ih =>
    intro k hd hk
    refine j_iload_2 6 dJ7_fill_53178_5 rfl ?_
    refine j_iload_3 7 dJ7_fill_53178_6 rfl ?_
    refine j_icmp_ge 20 10 dJ7_fill_53178_7 (by first | exact iI_rng _ | exact bI_r _ | exact ⟨by omega, by omega⟩) (by first | exact iI_rng _ | exact bI_r _ | exact ⟨by omega, by omega⟩) (fun h7 => ?_) (fun h7 => ?_)
    · omega
    · refine j_aload_0 11 dJ7_fill_53178_10 rfl ?_
      refine j_iload_2 12 dJ7_fill_53178_11 rfl ?_
      refine j_iload_1 13 dJ7_fill_53178_12 rfl ?_
      refine j_iast 14 0 _ dJ7_fill_53178_13 rfl (Nat.ble_eq_true_of_le (by omega)) rfl (by omega) ?_
      refine j_iinc 17 (lv' := [(0, _), (1, _), (2, _), (3, _)]) dJ7_fill_53178_14 rfl rfl ⟨rfl, rfl⟩ ?_
      refine j_goto 5 dJ7_fill_53178_17 ?_
      exact j_eqM (congrArg (fun g => [(a, jA E n g)]) (fa_s v k f)) (ih (k + 1) (by omega) (by omega))

set_option maxRecDepth 100000 in
set_option maxHeartbeats 4000000 in
theorem c_J7_fill_53178 (E : jD) (a n : Nat) (f : Nat → Int32) (v : Int32) (hn : n < 65536) : MC E Y_J7_fill_53178 [.ref a, .int v] [(a, jA E n f)] (fun r N0 => r = none ∧ N0 = [(a, jA E n (fa v n f))]) := by
  refine MC.of (by decide) rfl rfl ?_
  refine j_iconst 1 dJ7_fill_53178_0 ?_
  refine j_istore_2 2 (lv' := [(0, _), (1, _), (2, _)]) dJ7_fill_53178_1 rfl ⟨rfl, rfl⟩ ?_
  refine j_aload_0 3 dJ7_fill_53178_2 rfl ?_
  refine j_alen 4 0 dJ7_fill_53178_3 rfl ?_
  refine j_istore_3 5 (lv' := [(0, _), (1, _), (2, _), (3, _)]) dJ7_fill_53178_4 rfl ⟨rfl, rfl⟩ ?_
  exact j_eqM (congrArg (fun g => [(a, jA E n g)]) (fa_0 v f).symm) (lp_fillI E a n f v hn n 0 (by omega) (by omega))

set_option maxRecDepth 100000 in
set_option maxHeartbeats 4000000 in
theorem lp_fillJ (E : jD) (a n : Nat) (f : Nat → Int64) (v : Int64) (hn : n < 65536) : ∀ d k, n - k = d → k ≤ n → J E Y_J7_fill_d0a16 (jZm E Y_J7_fill_d0a16 (fun r N0 => r = none ∧ N0 = [(a, jL E n (fa v n f))])) 0 0 6 [(0, .ref a), (1, .long v), (3, .int (iI (k : Int))), (4, .int (iI (n : Int)))] [] [(a, jL E n (fa v k f))] := by
  intro d
  induction d with
  | zero =>
    intro k hd hk
    refine j_iload_3 7 dJ7_fill_d0a16_6 rfl ?_
    refine j_iload 9 dJ7_fill_d0a16_7 rfl ?_
    refine j_icmp_ge 22 12 dJ7_fill_d0a16_9 (by first | exact iI_rng _ | exact bI_r _ | exact ⟨by omega, by omega⟩) (by first | exact iI_rng _ | exact bI_r _ | exact ⟨by omega, by omega⟩) (fun h9 => ?_) (fun h9 => ?_)
    · exact j_vret dJ7_fill_d0a16_22 rfl rfl ⟨rfl, by rw [show k = n by omega]⟩
    · omega
  | succ d ih =>
    intro k hd hk
    refine j_iload_3 7 dJ7_fill_d0a16_6 rfl ?_
    refine j_iload 9 dJ7_fill_d0a16_7 rfl ?_
    refine j_icmp_ge 22 12 dJ7_fill_d0a16_9 (by first | exact iI_rng _ | exact bI_r _ | exact ⟨by omega, by omega⟩) (by first | exact iI_rng _ | exact bI_r _ | exact ⟨by omega, by omega⟩) (fun h9 => ?_) (fun h9 => ?_)
    · omega
    · refine j_aload_0 13 dJ7_fill_d0a16_12 rfl ?_
      refine j_iload_3 14 dJ7_fill_d0a16_13 rfl ?_
      refine j_lload_1 15 dJ7_fill_d0a16_14 rfl ?_
      refine j_last 16 0 _ dJ7_fill_d0a16_15 rfl (Nat.ble_eq_true_of_le (by omega)) rfl (by omega) ?_
      refine j_iinc 19 (lv' := [(0, _), (1, _), (3, _), (4, _)]) dJ7_fill_d0a16_16 rfl rfl ⟨rfl, rfl⟩ ?_
      refine j_goto 6 dJ7_fill_d0a16_19 ?_
      exact j_eqM (congrArg (fun g => [(a, jL E n g)]) (fa_sL v k f)) (ih (k + 1) (by omega) (by omega))

set_option maxRecDepth 100000 in
set_option maxHeartbeats 4000000 in
theorem c_J7_fill_d0a16 (E : jD) (a n : Nat) (f : Nat → Int64) (v : Int64) (hn : n < 65536) : MC E Y_J7_fill_d0a16 [.ref a, .long v] [(a, jL E n f)] (fun r N0 => r = none ∧ N0 = [(a, jL E n (fa v n f))]) := by
  refine MC.of (by decide) rfl rfl ?_
  refine j_iconst 1 dJ7_fill_d0a16_0 ?_
  refine j_istore_3 2 (lv' := [(0, _), (1, _), (3, _)]) dJ7_fill_d0a16_1 rfl ⟨rfl, rfl⟩ ?_
  refine j_aload_0 3 dJ7_fill_d0a16_2 rfl ?_
  refine j_alenL 4 0 dJ7_fill_d0a16_3 rfl ?_
  refine j_istore 6 (lv' := [(0, _), (1, _), (3, _), (4, _)]) dJ7_fill_d0a16_4 rfl ⟨rfl, rfl⟩ ?_
  exact j_eqM (congrArg (fun g => [(a, jL E n g)]) (fa_0 v f).symm) (lp_fillJ E a n f v hn n 0 (by omega) (by omega))

def us (x y : Int32) : Int32 := (x.toUInt32 >>> (y.toUInt32 &&& Int32.toUInt32 31)).toInt32
def bcX (x0 : Int32) : Int32 :=
  let x1 := x0 - (us x0 (iI 1) &&& 1431655765)
  let x2 := (x1 &&& 858993459) + (us x1 (iI 2) &&& 858993459)
  let x3 := (x2 + us x2 (iI 4)) &&& 252645135
  let x4 := x3 + us x3 (iI 8)
  let x5 := x4 + us x4 (iI 16)
  x5 &&& iI 63

set_option maxRecDepth 100000 in
set_option maxHeartbeats 4000000 in
theorem c_J6_bitCount_0f7a4 (E : jD) (x : Int32)  : MC E Y_J6_bitCount_0f7a4 [.int x] [] (fun r N0 => r = some (.int (bcX x)) ∧ N0 = []) := by
  refine MC.of (by decide) rfl rfl ?_
  refine j_iload_0 1 dJ6_bitCount_0f7a4_0 rfl ?_
  refine j_iload_0 2 dJ6_bitCount_0f7a4_1 rfl ?_
  refine j_iconst 3 dJ6_bitCount_0f7a4_2 ?_
  refine j_iushr 4 dJ6_bitCount_0f7a4_3 ?_
  refine j_ldcw 7 wk_J6_265 dJ6_bitCount_0f7a4_4 ?_
  refine j_iand 8 dJ6_bitCount_0f7a4_7 ?_
  refine j_isubx 9 dJ6_bitCount_0f7a4_8 ?_
  refine j_istore_0 10 (lv' := [(0, _)]) dJ6_bitCount_0f7a4_9 rfl ⟨rfl, rfl⟩ ?_
  refine j_iload_0 11 dJ6_bitCount_0f7a4_10 rfl ?_
  refine j_ldcw 14 wk_J6_266 dJ6_bitCount_0f7a4_11 ?_
  refine j_iand 15 dJ6_bitCount_0f7a4_14 ?_
  refine j_iload_0 16 dJ6_bitCount_0f7a4_15 rfl ?_
  refine j_iconst 17 dJ6_bitCount_0f7a4_16 ?_
  refine j_iushr 18 dJ6_bitCount_0f7a4_17 ?_
  refine j_ldcw 21 wk_J6_266 dJ6_bitCount_0f7a4_18 ?_
  refine j_iand 22 dJ6_bitCount_0f7a4_21 ?_
  refine j_iaddx 23 dJ6_bitCount_0f7a4_22 ?_
  refine j_istore_0 24 (lv' := [(0, _)]) dJ6_bitCount_0f7a4_23 rfl ⟨rfl, rfl⟩ ?_
  refine j_iload_0 25 dJ6_bitCount_0f7a4_24 rfl ?_
  refine j_iload_0 26 dJ6_bitCount_0f7a4_25 rfl ?_
  refine j_iconst 27 dJ6_bitCount_0f7a4_26 ?_
  refine j_iushr 28 dJ6_bitCount_0f7a4_27 ?_
  refine j_iaddx 29 dJ6_bitCount_0f7a4_28 ?_
  refine j_ldcw 32 wk_J6_267 dJ6_bitCount_0f7a4_29 ?_
  refine j_iand 33 dJ6_bitCount_0f7a4_32 ?_
  refine j_istore_0 34 (lv' := [(0, _)]) dJ6_bitCount_0f7a4_33 rfl ⟨rfl, rfl⟩ ?_
  refine j_iload_0 35 dJ6_bitCount_0f7a4_34 rfl ?_
  refine j_iload_0 36 dJ6_bitCount_0f7a4_35 rfl ?_
  refine j_bipush 38 dJ6_bitCount_0f7a4_36 (by decide +kernel) ?_
  refine j_iushr 39 dJ6_bitCount_0f7a4_38 ?_
  refine j_iaddx 40 dJ6_bitCount_0f7a4_39 ?_
  refine j_istore_0 41 (lv' := [(0, _)]) dJ6_bitCount_0f7a4_40 rfl ⟨rfl, rfl⟩ ?_
  refine j_iload_0 42 dJ6_bitCount_0f7a4_41 rfl ?_
  refine j_iload_0 43 dJ6_bitCount_0f7a4_42 rfl ?_
  refine j_bipush 45 dJ6_bitCount_0f7a4_43 (by decide +kernel) ?_
  refine j_iushr 46 dJ6_bitCount_0f7a4_45 ?_
  refine j_iaddx 47 dJ6_bitCount_0f7a4_46 ?_
  refine j_istore_0 48 (lv' := [(0, _)]) dJ6_bitCount_0f7a4_47 rfl ⟨rfl, rfl⟩ ?_
  refine j_iload_0 49 dJ6_bitCount_0f7a4_48 rfl ?_
  refine j_bipush 51 dJ6_bitCount_0f7a4_49 (by decide +kernel) ?_
  refine j_iand 52 dJ6_bitCount_0f7a4_51 ?_
  exact j_iret dJ6_bitCount_0f7a4_52 rfl rfl ⟨rfl, rfl⟩
end
section
set_option maxRecDepth 100000 in
set_option maxHeartbeats 4000000 in
theorem c_X4_isMissing (E : jD) (a b : Nat) (N : Int) (hN : jr N) : MC E Y_X4_isMissing [.ref a] [(a, jO 4 [.ref b, .int (iI N)])] (fun r N0 => r = some (.int (iI (bI (N < 0)))) ∧ N0 = [(a, jO 4 [.ref b, .int (iI N)])]) := by
  refine MC.of (by decide) rfl rfl ?_
  refine j_aload_0 1 dX4_isMissing_0 rfl ?_
  refine j_get 4 0 gf_X4_15 dX4_isMissing_1 rfl rfl ?_
  refine j_if_ge 11 7 dX4_isMissing_4 (by first | exact iI_rng _ | exact bI_r _ | exact ⟨by omega, by omega⟩) (fun h4 => ?_) (fun h4 => ?_)
  · refine j_iconst 12 dX4_isMissing_11 ?_
    exact j_zret (by first | exact bI_n _ | decide +kernel) dX4_isMissing_12 rfl rfl ⟨congrArg (fun z => some (Value.int (iI z))) (by first | exact (bI_t (by omega)).symm | exact (bI_f (by omega)).symm), rfl⟩
  · refine j_iconst 8 dX4_isMissing_7 ?_
    refine j_goto 12 dX4_isMissing_8 ?_
    exact j_zret (by first | exact bI_n _ | decide +kernel) dX4_isMissing_12 rfl rfl ⟨congrArg (fun z => some (Value.int (iI z))) (by first | exact (bI_t (by omega)).symm | exact (bI_f (by omega)).symm), rfl⟩

set_option maxRecDepth 100000 in
set_option maxHeartbeats 4000000 in
theorem c_X4_lacks (E : jD) (a b : Nat) (N : Int) (i : Int) (hN : jr N) (hi : jr i) : MC E Y_X4_lacks [.ref a, .int (iI i)] [(a, jO 4 [.ref b, .int (iI N)])] (fun r N0 => r = some (.int (iI (bI (i < 0 ∨ N ≤ i)))) ∧ N0 = [(a, jO 4 [.ref b, .int (iI N)])]) := by
  refine MC.of (by decide) rfl rfl ?_
  refine j_iload_1 1 dX4_lacks_0 rfl ?_
  refine j_if_lt 12 4 dX4_lacks_1 (by first | exact iI_rng _ | exact bI_r _ | exact ⟨by omega, by omega⟩) (fun h1 => ?_) (fun h1 => ?_)
  · refine j_iconst 13 dX4_lacks_12 ?_
    refine j_goto 17 dX4_lacks_13 ?_
    exact j_zret (by first | exact bI_n _ | decide +kernel) dX4_lacks_17 rfl rfl ⟨congrArg (fun z => some (Value.int (iI z))) (by first | exact (bI_t (by omega)).symm | exact (bI_f (by omega)).symm), rfl⟩
  · refine j_iload_1 5 dX4_lacks_4 rfl ?_
    refine j_aload_0 6 dX4_lacks_5 rfl ?_
    refine j_get 9 0 gf_X4_15 dX4_lacks_6 rfl rfl ?_
    refine j_icmp_lt 16 12 dX4_lacks_9 (by first | exact iI_rng _ | exact bI_r _ | exact ⟨by omega, by omega⟩) (by first | exact iI_rng _ | exact bI_r _ | exact ⟨by omega, by omega⟩) (fun h9 => ?_) (fun h9 => ?_)
    · refine j_iconst 17 dX4_lacks_16 ?_
      exact j_zret (by first | exact bI_n _ | decide +kernel) dX4_lacks_17 rfl rfl ⟨congrArg (fun z => some (Value.int (iI z))) (by first | exact (bI_t (by omega)).symm | exact (bI_f (by omega)).symm), rfl⟩
    · refine j_iconst 13 dX4_lacks_12 ?_
      refine j_goto 17 dX4_lacks_13 ?_
      exact j_zret (by first | exact bI_n _ | decide +kernel) dX4_lacks_17 rfl rfl ⟨congrArg (fun z => some (Value.int (iI z))) (by first | exact (bI_t (by omega)).symm | exact (bI_f (by omega)).symm), rfl⟩

set_option maxRecDepth 100000 in
set_option maxHeartbeats 4000000 in
theorem c_X4_lacksSome (E : jD) (a b : Nat) (N : Int) (i n : Int) (hN : -1 ≤ N ∧ N ≤ 48) (hi : jr i) (hn : jr n) : MC E Y_X4_lacksSome [.ref a, .int (iI i), .int (iI n)] [(a, jO 4 [.ref b, .int (iI N)])] (fun r N0 => r = some (.int (iI (bI (i < 0 ∨ n < 0 ∨ N - i < n)))) ∧ N0 = [(a, jO 4 [.ref b, .int (iI N)])]) := by
  refine MC.of (by decide) rfl rfl ?_
  refine j_iload_1 1 dX4_lacksSome_0 rfl ?_
  refine j_if_lt 18 4 dX4_lacksSome_1 (by first | exact iI_rng _ | exact bI_r _ | exact ⟨by omega, by omega⟩) (fun h1 => ?_) (fun h1 => ?_)
  · refine j_iconst 19 dX4_lacksSome_18 ?_
    refine j_goto 23 dX4_lacksSome_19 ?_
    exact j_zret (by first | exact bI_n _ | decide +kernel) dX4_lacksSome_23 rfl rfl ⟨congrArg (fun z => some (Value.int (iI z))) (by first | exact (bI_t (by omega)).symm | exact (bI_f (by omega)).symm), rfl⟩
  · refine j_iload_2 5 dX4_lacksSome_4 rfl ?_
    refine j_if_lt 18 8 dX4_lacksSome_5 (by first | exact iI_rng _ | exact bI_r _ | exact ⟨by omega, by omega⟩) (fun h5 => ?_) (fun h5 => ?_)
    · refine j_iconst 19 dX4_lacksSome_18 ?_
      refine j_goto 23 dX4_lacksSome_19 ?_
      exact j_zret (by first | exact bI_n _ | decide +kernel) dX4_lacksSome_23 rfl rfl ⟨congrArg (fun z => some (Value.int (iI z))) (by first | exact (bI_t (by omega)).symm | exact (bI_f (by omega)).symm), rfl⟩
    · refine j_iload_2 9 dX4_lacksSome_8 rfl ?_
      refine j_aload_0 10 dX4_lacksSome_9 rfl ?_
      refine j_get 13 0 gf_X4_15 dX4_lacksSome_10 rfl rfl ?_
      refine j_iload_1 14 dX4_lacksSome_13 rfl ?_
      refine j_isub 15 dX4_lacksSome_14 ?_
      refine j_icmp_le 22 18 dX4_lacksSome_15 (by first | exact iI_rng _ | exact bI_r _ | exact ⟨by omega, by omega⟩) (by first | exact iI_rng _ | exact bI_r _ | exact ⟨by omega, by omega⟩) (fun h15 => ?_) (fun h15 => ?_)
      · refine j_iconst 23 dX4_lacksSome_22 ?_
        exact j_zret (by first | exact bI_n _ | decide +kernel) dX4_lacksSome_23 rfl rfl ⟨congrArg (fun z => some (Value.int (iI z))) (by first | exact (bI_t (by omega)).symm | exact (bI_f (by omega)).symm), rfl⟩
      · refine j_iconst 19 dX4_lacksSome_18 ?_
        refine j_goto 23 dX4_lacksSome_19 ?_
        exact j_zret (by first | exact bI_n _ | decide +kernel) dX4_lacksSome_23 rfl rfl ⟨congrArg (fun z => some (Value.int (iI z))) (by first | exact (bI_t (by omega)).symm | exact (bI_f (by omega)).symm), rfl⟩

set_option maxRecDepth 100000 in
set_option maxHeartbeats 4000000 in
theorem c_X4_becomeZeros (E : jD) (a b : Nat) (N : Int) (f : Nat → Int32) (n : Int)  : MC E Y_X4_becomeZeros [.ref a, .int (iI n)] [(a, jO 4 [.ref b, .int (iI N)]), (b, jA E 48 f)] (fun r N0 => r = none ∧ N0 = [(a, jO 4 [.ref b, .int (iI n)]), (b, jA E 48 (fa (iI 0) 48 f))]) := by
  refine MC.of (by decide) rfl rfl ?_
  refine j_aload_0 1 dX4_becomeZeros_0 rfl ?_
  refine j_get 4 0 gf_X4_9 dX4_becomeZeros_1 rfl rfl ?_
  refine j_iconst 5 dX4_becomeZeros_4 ?_
  refine j_callS 8 Y_J7_fill_53178 [1] [_, _] (c_J7_fill_53178 E _ _ _ _ (by decide)) m_J7_fill_53178 wml_X4_19 dX4_becomeZeros_5 rfl rfl rfl rfl rfl rfl (fun r N h => by obtain ⟨rfl, rfl⟩ := h; rfl) (fun r N h => ?_)
  obtain ⟨rfl, rfl⟩ := h
  refine j_aload_0 9 dX4_becomeZeros_8 rfl ?_
  refine j_iload_1 10 dX4_becomeZeros_9 rfl ?_
  refine j_put 13 0 pf_X4_15 dX4_becomeZeros_10 rfl ⟨rfl, rfl, rfl⟩ ?_
  exact j_vret dX4_becomeZeros_13 rfl rfl ⟨rfl, rfl⟩

set_option maxRecDepth 100000 in
set_option maxHeartbeats 4000000 in
theorem c_X4_become (E : jD) (a b : Nat) (N : Int) (f : Nat → Int32) (a2 b2 : Nat) (N2 : Int) (f2 : Nat → Int32)  : MC E Y_X4_become [.ref a, .ref a2] [(a, jO 4 [.ref b, .int (iI N)]), (b, jA E 48 f), (a2, jO 4 [.ref b2, .int (iI N2)]), (b2, jA E 48 f2)] (fun r N0 => r = none ∧ N0 = [(a, jO 4 [.ref b, .int (iI N2)]), (b, jA E 48 (va_cpy f2 f 0 0 48)), (a2, jO 4 [.ref b2, .int (iI N2)]), (b2, jA E 48 f2)]) := by
  refine MC.of (by decide) rfl rfl ?_
  refine j_aload_1 1 dX4_become_0 rfl ?_
  refine j_get 4 2 gf_X4_9 dX4_become_1 rfl rfl ?_
  refine j_iconst 5 dX4_become_4 ?_
  refine j_aload_0 6 dX4_become_5 rfl ?_
  refine j_get 9 0 gf_X4_9 dX4_become_6 rfl rfl ?_
  refine j_iconst 10 dX4_become_9 ?_
  refine j_bipush 12 dX4_become_10 (by decide +kernel) ?_
  refine j_copy 15 3 1 0 0 48 wml_X4_25 dX4_become_12 rfl rfl rfl rfl rfl rfl (by omega) (by omega) rfl ?_
  refine j_aload_0 16 dX4_become_15 rfl ?_
  refine j_aload_1 17 dX4_become_16 rfl ?_
  refine j_get 20 2 gf_X4_15 dX4_become_17 rfl rfl ?_
  refine j_put 23 0 pf_X4_15 dX4_become_20 rfl ⟨rfl, rfl, rfl⟩ ?_
  exact j_vret dX4_become_23 rfl rfl ⟨rfl, rfl⟩

set_option maxRecDepth 100000 in
set_option maxHeartbeats 4000000 in
theorem lp_digestOn (E : jD) (a b : Nat) (n : Nat) (f : Nat → Int32) (h : Int64) (hn : n ≤ 48) : ∀ (d : Nat) (k : Nat), n - k < d → k ≤ n → J E Y_X4_digestOn (jZm E Y_X4_digestOn (fun r N0 => r = some (.long (dgF h f n)) ∧ N0 = [(a, jO 4 [.ref b, .int (iI (n : Int))]), (b, jA E 48 f)])) 0 0 5 [(0, .ref a), (1, .long h), (3, .long (dgF h f k)), (5, .int (iI (k : Int)))] [] [(a, jO 4 [.ref b, .int (iI (n : Int))]), (b, jA E 48 f)] := by
  intro d
  induction d with
  | zero => intros; omega
  | succ d ih =>
    intro k hd hk
    refine j_iload 7 dX4_digestOn_5 rfl ?_
    refine j_aload_0 8 dX4_digestOn_7 rfl ?_
    refine j_get 11 0 gf_X4_15 dX4_digestOn_8 rfl rfl ?_
    refine j_icmp_ge 35 14 dX4_digestOn_11 (by first | exact iI_rng _ | exact bI_r _ | exact ⟨by omega, by omega⟩) (by first | exact iI_rng _ | exact bI_r _ | exact ⟨by omega, by omega⟩) (fun h11 => ?_) (fun h11 => ?_)
    · have e : k = n := by omega
      subst e
      refine j_lload_3 36 dX4_digestOn_35 rfl ?_
      exact j_lret dX4_digestOn_36 rfl rfl ⟨rfl, rfl⟩
    · refine j_ldc2 17 wk_X4_31 dX4_digestOn_14 ?_
      refine j_lload_3 18 dX4_digestOn_17 rfl ?_
      refine j_lmul 19 dX4_digestOn_18 ?_
      refine j_aload_0 20 dX4_digestOn_19 rfl ?_
      refine j_get 23 0 gf_X4_9 dX4_digestOn_20 rfl rfl ?_
      refine j_iload 25 dX4_digestOn_23 rfl ?_
      refine j_ialdx 26 1 _ dX4_digestOn_25 rfl rfl rfl (by omega) ?_
      refine j_i2l 27 dX4_digestOn_26 ?_
      refine j_ladd 28 dX4_digestOn_27 ?_
      refine j_lstore_3 29 (lv' := [(0, _), (1, _), (3, _), (5, _)]) dX4_digestOn_28 rfl ⟨rfl, rfl, rfl⟩ ?_
      refine j_iinc 32 (lv' := [(0, _), (1, _), (3, _), (5, _)]) dX4_digestOn_29 rfl rfl ⟨rfl, rfl⟩ ?_
      refine j_goto 5 dX4_digestOn_32 ?_
      exact ih (k + 1) (by omega) (by omega)

set_option maxRecDepth 100000 in
set_option maxHeartbeats 4000000 in
theorem c_X4_digestOn (E : jD) (a b : Nat) (n : Nat) (f : Nat → Int32) (h : Int64) (hn : n ≤ 48)  : MC E Y_X4_digestOn [.ref a, .long h] [(a, jO 4 [.ref b, .int (iI (n : Int))]), (b, jA E 48 f)] (fun r N0 => r = some (.long (dgF h f n)) ∧ N0 = [(a, jO 4 [.ref b, .int (iI (n : Int))]), (b, jA E 48 f)]) := by
  refine MC.of (by decide) rfl rfl ?_
  refine j_lload_1 1 dX4_digestOn_0 rfl ?_
  refine j_lstore_3 2 (lv' := [(0, _), (1, _), (3, _)]) dX4_digestOn_1 rfl ⟨rfl, rfl, rfl⟩ ?_
  refine j_iconst 3 dX4_digestOn_2 ?_
  refine j_istore 5 (lv' := [(0, _), (1, _), (3, _), (5, _)]) dX4_digestOn_3 rfl ⟨rfl, rfl⟩ ?_
  exact lp_digestOn E a b n f h hn (n + 1) 0 (by omega) (by omega)

set_option maxRecDepth 100000 in
set_option maxHeartbeats 4000000 in
theorem c_X4_digestOn_m (E : jD) (a b : Nat) (f : Nat → Int32) (h : Int64)  : MC E Y_X4_digestOn [.ref a, .long h] [(a, jO 4 [.ref b, .int (iI (-1))]), (b, jA E 48 f)] (fun r N0 => r = some (.long (h)) ∧ N0 = [(a, jO 4 [.ref b, .int (iI (-1))]), (b, jA E 48 f)]) := by
  refine MC.of (by decide) rfl rfl ?_
  refine j_lload_1 1 dX4_digestOn_0 rfl ?_
  refine j_lstore_3 2 (lv' := [(0, _), (1, _), (3, _)]) dX4_digestOn_1 rfl ⟨rfl, rfl, rfl⟩ ?_
  refine j_iconst 3 dX4_digestOn_2 ?_
  refine j_istore 5 (lv' := [(0, _), (1, _), (3, _), (5, _)]) dX4_digestOn_3 rfl ⟨rfl, rfl⟩ ?_
  refine j_iload 7 dX4_digestOn_5 rfl ?_
  refine j_aload_0 8 dX4_digestOn_7 rfl ?_
  refine j_get 11 0 gf_X4_15 dX4_digestOn_8 rfl rfl ?_
  refine j_icmp_ge 35 14 dX4_digestOn_11 (by first | exact iI_rng _ | exact bI_r _ | exact ⟨by omega, by omega⟩) (by first | exact iI_rng _ | exact bI_r _ | exact ⟨by omega, by omega⟩) (fun h11 => ?_) (fun h11 => ?_)
  · refine j_lload_3 36 dX4_digestOn_35 rfl ?_
    exact j_lret dX4_digestOn_36 rfl rfl ⟨rfl, rfl⟩
  · omega

set_option maxRecDepth 100000 in
set_option maxHeartbeats 4000000 in
theorem c_X4_init (E : jD) (a : Nat)  : MC E Y_X4_init [.ref a] [(a, jO 4 [.null, .int 0])] (fun r N0 => ∃ b, r = none ∧ N0 = [(a, jO 4 [.ref b, .int (iI (-1))]), (b, jA E 48 (fun _ => 0))]) := by
  refine MC.of (by decide) rfl rfl ?_
  refine j_aload_0 1 dX4_init_0 rfl ?_
  refine j_obj 4 wml_X4_3 dX4_init_1 rfl ?_
  refine j_aload_0 5 dX4_init_4 rfl ?_
  refine j_bipush 7 dX4_init_5 (by decide +kernel) ?_
  refine j_newa 9 48 rfl rfl dX4_init_7 rfl (fun b => ?_)
  refine j_putF 12 0 pf_X4_9 rfl rfl dX4_init_9 rfl ⟨rfl, rfl, rfl⟩ ?_
  refine j_aload_0 13 dX4_init_12 rfl ?_
  refine j_iconst 14 dX4_init_13 ?_
  refine j_put 17 0 pf_X4_15 dX4_init_14 rfl ⟨rfl, rfl, rfl⟩ ?_
  exact j_vret dX4_init_17 rfl rfl ⟨b, rfl, rfl⟩
end
section
set_option maxRecDepth 100000 in
set_option maxHeartbeats 4000000 in
theorem c_X5_init (E : jD) (a : Nat)  : MC E Y_X5_init [.ref a] [(a, jO 5 [.null, .int 0])] (fun r N0 => ∃ b, r = none ∧ N0 = [(a, jO 5 [.ref b, .int (iI 0)]), (b, jL E 64 (fun _ => 0))]) := by
  refine MC.of (by decide) rfl rfl ?_
  refine j_aload_0 1 dX5_init_0 rfl ?_
  refine j_obj 4 wml_X5_3 dX5_init_1 rfl ?_
  refine j_aload_0 5 dX5_init_4 rfl ?_
  refine j_bipush 7 dX5_init_5 (by decide +kernel) ?_
  refine j_newl 9 64 rfl rfl dX5_init_7 rfl (fun b => ?_)
  refine j_putF 12 0 pf_X5_9 rfl rfl dX5_init_9 rfl ⟨rfl, rfl, rfl⟩ ?_
  refine j_aload_0 13 dX5_init_12 rfl ?_
  refine j_iconst 14 dX5_init_13 ?_
  refine j_put 17 0 pf_X5_15 dX5_init_14 rfl ⟨rfl, rfl, rfl⟩ ?_
  exact j_vret dX5_init_17 rfl rfl ⟨b, rfl, rfl⟩

set_option maxRecDepth 100000 in
set_option maxHeartbeats 4000000 in
theorem c_X5_becomeEmpty (E : jD) (a b : Nat) (m : Int) (w : Nat → Int64)  : MC E Y_X5_becomeEmpty [.ref a] [(a, jO 5 [.ref b, .int (iI m)]), (b, jL E 64 w)] (fun r N0 => r = none ∧ N0 = [(a, jO 5 [.ref b, .int (iI 0)]), (b, jL E 64 (fa 0 64 w))]) := by
  refine MC.of (by decide) rfl rfl ?_
  refine j_aload_0 1 dX5_becomeEmpty_0 rfl ?_
  refine j_get 4 0 gf_X5_9 dX5_becomeEmpty_1 rfl rfl ?_
  refine j_lconst 5 0 dX5_becomeEmpty_4 rfl ?_
  refine j_callS 8 Y_J7_fill_d0a16 [1] [_, _] (c_J7_fill_d0a16 E _ _ _ _ (by decide)) m_J7_fill_d0a16 wml_X5_19 dX5_becomeEmpty_5 rfl rfl rfl rfl rfl rfl (fun r N h => by obtain ⟨rfl, rfl⟩ := h; rfl) (fun r N h => ?_)
  obtain ⟨rfl, rfl⟩ := h
  refine j_aload_0 9 dX5_becomeEmpty_8 rfl ?_
  refine j_iconst 10 dX5_becomeEmpty_9 ?_
  refine j_put 13 0 pf_X5_15 dX5_becomeEmpty_10 rfl ⟨rfl, rfl, rfl⟩ ?_
  exact j_vret dX5_becomeEmpty_13 rfl rfl ⟨rfl, rfl⟩

set_option maxRecDepth 100000 in
set_option maxHeartbeats 4000000 in
theorem c_X5_has (E : jD) (a b : Nat) (m : Int) (w : Nat → Int64) (i : Int) (hi : jr i) : MC E Y_X5_has [.ref a, .int (iI i)] [(a, jO 5 [.ref b, .int (iI m)]), (b, jL E 64 w)] (fun r N0 => r = some (.int (iI (bI (0 ≤ i ∧ i < 4096 ∧ wB w i.toNat = true)))) ∧ N0 = [(a, jO 5 [.ref b, .int (iI m)]), (b, jL E 64 w)]) := by
  refine MC.of (by decide) rfl rfl ?_
  refine j_iload_1 1 dX5_has_0 rfl ?_
  refine j_if_lt 36 4 dX5_has_1 (by first | exact iI_rng _ | exact bI_r _ | exact ⟨by omega, by omega⟩) (fun h1 => ?_) (fun h1 => ?_)
  · refine j_iconst 37 dX5_has_36 ?_
    exact j_zret (by first | exact bI_n _ | decide +kernel) dX5_has_37 rfl rfl ⟨congrArg (fun z => some (Value.int (iI z))) (by first | exact (bI_t (by omega)).symm | exact (bI_f (by omega)).symm), rfl⟩
  · refine j_iload_1 5 dX5_has_4 rfl ?_
    refine j_sipush 8 dX5_has_5 (by decide +kernel) ?_
    refine j_icmp_ge 36 11 dX5_has_8 (by first | exact iI_rng _ | exact bI_r _ | exact ⟨by omega, by omega⟩) (by first | exact iI_rng _ | exact bI_r _ | exact ⟨by omega, by omega⟩) (fun h8 => ?_) (fun h8 => ?_)
    · refine j_iconst 37 dX5_has_36 ?_
      exact j_zret (by first | exact bI_n _ | decide +kernel) dX5_has_37 rfl rfl ⟨congrArg (fun z => some (Value.int (iI z))) (by first | exact (bI_t (by omega)).symm | exact (bI_f (by omega)).symm), rfl⟩
    · obtain ⟨s, rfl⟩ : ∃ s : Nat, i = (s : Int) := ⟨i.toNat, by omega⟩
      have hs : s < 4096 := by omega
      have hb := ts_bit (w := w (s / 64)) (Nat.mod_lt s (by decide)) (sh_cnt (s % 64) (Nat.mod_lt s (by decide)))
      refine j_aload_0 12 dX5_has_11 rfl ?_
      refine j_get 15 0 gf_X5_9 dX5_has_12 rfl rfl ?_
      refine j_iload_1 16 dX5_has_15 rfl ?_
      refine j_bipush 18 dX5_has_16 (by decide +kernel) ?_
      refine j_ishr 19 dX5_has_18 ?_
      refine j_top ((s / 64 : Nat) : Int) (iI_shr 6 6 (by omega) (by decide +kernel)) ?_
      refine j_lald 20 1 (s / 64) dX5_has_19 rfl rfl rfl (by omega) ?_
      refine j_iload_1 21 dX5_has_20 rfl ?_
      refine j_bipush 23 dX5_has_21 (by decide +kernel) ?_
      refine j_iand 24 dX5_has_23 ?_
      refine j_top ((s % 64 : Nat) : Int) (iI_and 63 6 (by omega) (by decide +kernel)) ?_
      refine j_lushr 25 dX5_has_24 ?_
      refine j_lconst 26 1 dX5_has_25 rfl ?_
      refine j_land 27 dX5_has_26 ?_
      refine j_lconst 28 0 dX5_has_27 rfl ?_
      refine j_lif_eq 36 32 dX5_has_28 dX5_has_29 (fun h28 => ?_) (fun h28 => ?_)
      · refine j_iconst 37 dX5_has_36 ?_
        exact j_zret (by decide +kernel) dX5_has_37 rfl rfl ⟨congrArg (fun z => some (Value.int (iI z))) (bI_f (fun q => by have h1 := hb.mp h28; have h2 : wB w s = true := q.2.2; unfold wB at h2; rw [h1] at h2; exact absurd h2 (by decide))).symm, rfl⟩
      · refine j_iconst 33 dX5_has_32 ?_
        refine j_goto 37 dX5_has_33 ?_
        exact j_zret (by decide +kernel) dX5_has_37 rfl rfl ⟨congrArg (fun z => some (Value.int (iI z))) (bI_t ⟨by omega, by omega, by show wB w s = true; unfold wB; cases hq : (w (s / 64)).toBitVec.getLsbD (s % 64) with | true => rfl | false => exact absurd (hb.mpr hq) h28⟩).symm, rfl⟩

set_option maxRecDepth 100000 in
set_option maxHeartbeats 4000000 in
theorem c_X5_include_n (E : jD) (a b : Nat) (m : Int) (w : Nat → Int64) (s : Nat) (hs : s < 4096) (hw : wB w s = false) : MC E Y_X5_include [.ref a, .int (iI (s : Int))] [(a, jO 5 [.ref b, .int (iI m)]), (b, jL E 64 w)] (fun r N0 => r = none ∧ N0 = [(a, jO 5 [.ref b, .int (iI (m + 1))]), (b, jL E 64 (incW w s))]) := by
  refine MC.of (by decide) rfl rfl ?_
  refine j_iload_1 1 dX5_include_0 rfl ?_
  refine j_if_lt 47 4 dX5_include_1 (by first | exact iI_rng _ | exact bI_r _ | exact ⟨by omega, by omega⟩) (fun h1 => ?_) (fun h1 => ?_)
  · omega
  · refine j_iload_1 5 dX5_include_4 rfl ?_
    refine j_sipush 8 dX5_include_5 (by decide +kernel) ?_
    refine j_icmp_ge 47 11 dX5_include_8 (by first | exact iI_rng _ | exact bI_r _ | exact ⟨by omega, by omega⟩) (by first | exact iI_rng _ | exact bI_r _ | exact ⟨by omega, by omega⟩) (fun h8 => ?_) (fun h8 => ?_)
    · omega
    · refine j_aload_0 12 dX5_include_11 rfl ?_
      refine j_iload_1 13 dX5_include_12 rfl ?_
      refine j_callVi 16 Y_X5_has [0, 1] [_] (c_X5_has E _ _ _ _ _ (by exact ⟨by omega, by omega⟩)) m_X5_has wml_X5_25 dX5_include_13 0 rfl rfl rfl rfl rfl rfl rfl rfl rfl rfl ?_
      refine j_bif_ne 47 19 dX5_include_16 (fun h16 => ?_) (fun h16 => ?_)
      · exact absurd (show wB w s = true from h16.2.2) (by rw [hw]; decide)
      · refine j_aload_0 20 dX5_include_19 rfl ?_
        refine j_get 23 0 gf_X5_9 dX5_include_20 rfl rfl ?_
        refine j_iload_1 24 dX5_include_23 rfl ?_
        refine j_bipush 26 dX5_include_24 (by decide +kernel) ?_
        refine j_ishr 27 dX5_include_26 ?_
        refine j_top ((s / 64 : Nat) : Int) (iI_shr 6 6 (by omega) (by decide +kernel)) ?_
        refine j_dup2 28 dX5_include_27 rfl rfl ?_
        refine j_lald 29 1 (s / 64) dX5_include_28 rfl rfl rfl (by omega) ?_
        refine j_lconst 30 1 dX5_include_29 rfl ?_
        refine j_iload_1 31 dX5_include_30 rfl ?_
        refine j_bipush 33 dX5_include_31 (by decide +kernel) ?_
        refine j_iand 34 dX5_include_33 ?_
        refine j_top ((s % 64 : Nat) : Int) (iI_and 63 6 (by omega) (by decide +kernel)) ?_
        refine j_lshl 35 dX5_include_34 ?_
        refine j_lor 36 dX5_include_35 ?_
        refine j_last 37 1 (s / 64) dX5_include_36 rfl rfl rfl (by omega) ?_
        refine j_aload_0 38 dX5_include_37 rfl ?_
        refine j_dup 39 dX5_include_38 rfl ?_
        refine j_get 42 0 gf_X5_15 dX5_include_39 rfl rfl ?_
        refine j_iconst 43 dX5_include_42 ?_
        refine j_iadd 44 dX5_include_43 ?_
        refine j_put 47 0 pf_X5_15 dX5_include_44 rfl ⟨rfl, rfl, rfl⟩ ?_
        exact j_vret dX5_include_47 rfl rfl ⟨rfl, rfl⟩

set_option maxRecDepth 100000 in
set_option maxHeartbeats 4000000 in
theorem c_X5_include_y (E : jD) (a b : Nat) (m : Int) (w : Nat → Int64) (s : Nat) (hs : s < 4096) (hw : wB w s = true) : MC E Y_X5_include [.ref a, .int (iI (s : Int))] [(a, jO 5 [.ref b, .int (iI m)]), (b, jL E 64 w)] (fun r N0 => r = none ∧ N0 = [(a, jO 5 [.ref b, .int (iI m)]), (b, jL E 64 w)]) := by
  refine MC.of (by decide) rfl rfl ?_
  refine j_iload_1 1 dX5_include_0 rfl ?_
  refine j_if_lt 47 4 dX5_include_1 (by first | exact iI_rng _ | exact bI_r _ | exact ⟨by omega, by omega⟩) (fun h1 => ?_) (fun h1 => ?_)
  · omega
  · refine j_iload_1 5 dX5_include_4 rfl ?_
    refine j_sipush 8 dX5_include_5 (by decide +kernel) ?_
    refine j_icmp_ge 47 11 dX5_include_8 (by first | exact iI_rng _ | exact bI_r _ | exact ⟨by omega, by omega⟩) (by first | exact iI_rng _ | exact bI_r _ | exact ⟨by omega, by omega⟩) (fun h8 => ?_) (fun h8 => ?_)
    · omega
    · refine j_aload_0 12 dX5_include_11 rfl ?_
      refine j_iload_1 13 dX5_include_12 rfl ?_
      refine j_callVi 16 Y_X5_has [0, 1] [_] (c_X5_has E _ _ _ _ _ (by exact ⟨by omega, by omega⟩)) m_X5_has wml_X5_25 dX5_include_13 0 rfl rfl rfl rfl rfl rfl rfl rfl rfl rfl ?_
      refine j_bif_ne 47 19 dX5_include_16 (fun h16 => ?_) (fun h16 => ?_)
      · exact j_vret dX5_include_47 rfl rfl ⟨rfl, rfl⟩
      · exact absurd ⟨by omega, by omega, hw⟩ h16

set_option maxRecDepth 100000 in
set_option maxHeartbeats 4000000 in
theorem c_X1_init (E : jD) (a : Nat)  : MC E Y_X1_init [.ref a] [(a, jO 1 [.null, .null, .int 0])] (fun r N0 => ∃ b c, r = none ∧ N0 = [(a, jO 1 [.ref b, .ref c, .int (iI 0)]), (b, jA E 10 (fun _ => 0)), (c, jA E 10 (fun _ => 0))]) := by
  refine MC.of (by decide) rfl rfl ?_
  refine j_aload_0 1 dX1_init_0 rfl ?_
  refine j_obj 4 wml_X1_3 dX1_init_1 rfl ?_
  refine j_aload_0 5 dX1_init_4 rfl ?_
  refine j_bipush 7 dX1_init_5 (by decide +kernel) ?_
  refine j_newa 9 10 rfl rfl dX1_init_7 rfl (fun b => ?_)
  refine j_putF 12 0 pf_X1_9 rfl rfl dX1_init_9 rfl ⟨rfl, rfl, rfl⟩ ?_
  refine j_aload_0 13 dX1_init_12 rfl ?_
  refine j_bipush 15 dX1_init_13 (by decide +kernel) ?_
  refine j_newa 17 10 rfl rfl dX1_init_15 rfl (fun c => ?_)
  refine j_putF 20 0 pf_X1_15 rfl rfl dX1_init_17 rfl ⟨rfl, rfl, rfl⟩ ?_
  refine j_aload_0 21 dX1_init_20 rfl ?_
  refine j_iconst 22 dX1_init_21 ?_
  refine j_put 25 0 pf_X1_18 dX1_init_22 rfl ⟨rfl, rfl, rfl⟩ ?_
  exact j_vret dX1_init_25 rfl rfl ⟨b, c, rfl, rfl⟩

set_option maxRecDepth 100000 in
set_option maxHeartbeats 4000000 in
theorem c_X1_forget (E : jD) (a b c : Nat) (m : Int) (p q : Nat → Int32)  : MC E Y_X1_forget [.ref a] [(a, jO 1 [.ref b, .ref c, .int (iI m)]), (b, jA E 10 p), (c, jA E 10 q)] (fun r N0 => r = none ∧ N0 = [(a, jO 1 [.ref b, .ref c, .int (iI 0)]), (b, jA E 10 p), (c, jA E 10 q)]) := by
  refine MC.of (by decide) rfl rfl ?_
  refine j_aload_0 1 dX1_forget_0 rfl ?_
  refine j_iconst 2 dX1_forget_1 ?_
  refine j_put 5 0 pf_X1_18 dX1_forget_2 rfl ⟨rfl, rfl, rfl⟩ ?_
  exact j_vret dX1_forget_5 rfl rfl ⟨rfl, rfl⟩

set_option maxRecDepth 100000 in
set_option maxHeartbeats 4000000 in
theorem lp_loseOldest (E : jD) (a b c : Nat) (m : Int) (p q : Nat → Int32) : ∀ (d : Nat) (k : Nat), 9 - k < d → k ≤ 9 → J E Y_X1_loseOldest (jZm E Y_X1_loseOldest (fun r N0 => r = none ∧ N0 = [(a, jO 1 [.ref b, .ref c, .int (iI 9)]), (b, jA E 10 (shF p 9)), (c, jA E 10 (shF q 9))])) 0 0 2 [(0, .ref a), (1, .int (iI ((k : Int) + 1)))] [] [(a, jO 1 [.ref b, .ref c, .int (iI m)]), (b, jA E 10 (shF p k)), (c, jA E 10 (shF q k))] := by
  intro d
  induction d with
  | zero => intros; omega
  | succ d ih =>
    intro k hd hk
    refine j_iload_1 3 dX1_loseOldest_2 rfl ?_
    refine j_bipush 5 dX1_loseOldest_3 (by decide +kernel) ?_
    refine j_icmp_ge 42 8 dX1_loseOldest_5 (by first | exact iI_rng _ | exact bI_r _ | exact ⟨by omega, by omega⟩) (by first | exact iI_rng _ | exact bI_r _ | exact ⟨by omega, by omega⟩) (fun h5 => ?_) (fun h5 => ?_)
    · have e : k = 9 := by omega
      subst e
      refine j_aload_0 43 dX1_loseOldest_42 rfl ?_
      refine j_bipush 45 dX1_loseOldest_43 (by decide +kernel) ?_
      refine j_put 48 0 pf_X1_18 dX1_loseOldest_45 rfl ⟨rfl, rfl, rfl⟩ ?_
      exact j_vret dX1_loseOldest_48 rfl rfl ⟨rfl, rfl⟩
    · refine j_aload_0 9 dX1_loseOldest_8 rfl ?_
      refine j_get 12 0 gf_X1_9 dX1_loseOldest_9 rfl rfl ?_
      refine j_iload_1 13 dX1_loseOldest_12 rfl ?_
      refine j_iconst 14 dX1_loseOldest_13 ?_
      refine j_isub 15 dX1_loseOldest_14 ?_
      refine j_aload_0 16 dX1_loseOldest_15 rfl ?_
      refine j_get 19 0 gf_X1_9 dX1_loseOldest_16 rfl rfl ?_
      refine j_iload_1 20 dX1_loseOldest_19 rfl ?_
      refine j_ialdx 21 1 (k + 1) dX1_loseOldest_20 rfl rfl (by omega) (by omega) ?_
      rw [show shF p k (k + 1) = p (k + 1) by unfold shF; rw [if_neg (by omega)]]
      refine j_iast 22 1 (k) dX1_loseOldest_21 rfl rfl (by omega) (by omega) ?_
      rw [shF_s]
      refine j_aload_0 23 dX1_loseOldest_22 rfl ?_
      refine j_get 26 0 gf_X1_15 dX1_loseOldest_23 rfl rfl ?_
      refine j_iload_1 27 dX1_loseOldest_26 rfl ?_
      refine j_iconst 28 dX1_loseOldest_27 ?_
      refine j_isub 29 dX1_loseOldest_28 ?_
      refine j_aload_0 30 dX1_loseOldest_29 rfl ?_
      refine j_get 33 0 gf_X1_15 dX1_loseOldest_30 rfl rfl ?_
      refine j_iload_1 34 dX1_loseOldest_33 rfl ?_
      refine j_ialdx 35 2 (k + 1) dX1_loseOldest_34 rfl rfl (by omega) (by omega) ?_
      rw [show shF q k (k + 1) = q (k + 1) by unfold shF; rw [if_neg (by omega)]]
      refine j_iast 36 2 (k) dX1_loseOldest_35 rfl rfl (by omega) (by omega) ?_
      rw [shF_s]
      refine j_iinc 39 (lv' := [(0, _), (1, _)]) dX1_loseOldest_36 rfl rfl ⟨rfl, rfl⟩ ?_
      refine j_goto 2 dX1_loseOldest_39 ?_
      exact ih (k + 1) (by omega) (by omega)

set_option maxRecDepth 100000 in
set_option maxHeartbeats 4000000 in
theorem c_X1_loseOldest (E : jD) (a b c : Nat) (m : Int) (p q : Nat → Int32)  : MC E Y_X1_loseOldest [.ref a] [(a, jO 1 [.ref b, .ref c, .int (iI m)]), (b, jA E 10 p), (c, jA E 10 q)] (fun r N0 => r = none ∧ N0 = [(a, jO 1 [.ref b, .ref c, .int (iI 9)]), (b, jA E 10 (shF p 9)), (c, jA E 10 (shF q 9))]) := by
  refine MC.of (by decide) rfl rfl ?_
  refine j_iconst 1 dX1_loseOldest_0 ?_
  refine j_istore_1 2 (lv' := [(0, _), (1, _)]) dX1_loseOldest_1 rfl ⟨rfl, rfl⟩ ?_
  exact j_eqM (by rw [shF_0, shF_0]) (lp_loseOldest E a b c m p q 10 0 (by omega) (by omega))

set_option maxRecDepth 100000 in
set_option maxHeartbeats 4000000 in
theorem c_X1_remember_lo (E : jD) (a b c : Nat) (m : Nat) (p q : Nat → Int32) (x y : Int32) (hm : m < 10) : MC E Y_X1_remember [.ref a, .int x, .int y] [(a, jO 1 [.ref b, .ref c, .int (iI (m : Int))]), (b, jA E 10 p), (c, jA E 10 q)] (fun r N0 => r = none ∧ N0 = [(a, jO 1 [.ref b, .ref c, .int (iI ((m : Int) + 1))]), (b, jA E 10 (upd p m x)), (c, jA E 10 (upd q m y))]) := by
  refine MC.of (by decide) rfl rfl ?_
  refine j_aload_0 1 dX1_remember_0 rfl ?_
  refine j_get 4 0 gf_X1_18 dX1_remember_1 rfl rfl ?_
  refine j_bipush 6 dX1_remember_4 (by decide +kernel) ?_
  refine j_icmp_lt 13 9 dX1_remember_6 (by first | exact iI_rng _ | exact bI_r _ | exact ⟨by omega, by omega⟩) (by first | exact iI_rng _ | exact bI_r _ | exact ⟨by omega, by omega⟩) (fun h6 => ?_) (fun h6 => ?_)
  · refine j_aload_0 14 dX1_remember_13 rfl ?_
    refine j_get 17 0 gf_X1_9 dX1_remember_14 rfl rfl ?_
    refine j_aload_0 18 dX1_remember_17 rfl ?_
    refine j_get 21 0 gf_X1_18 dX1_remember_18 rfl rfl ?_
    refine j_iload_1 22 dX1_remember_21 rfl ?_
    refine j_iast 23 1 _ dX1_remember_22 rfl rfl rfl (by omega) ?_
    refine j_aload_0 24 dX1_remember_23 rfl ?_
    refine j_get 27 0 gf_X1_15 dX1_remember_24 rfl rfl ?_
    refine j_aload_0 28 dX1_remember_27 rfl ?_
    refine j_get 31 0 gf_X1_18 dX1_remember_28 rfl rfl ?_
    refine j_iload_2 32 dX1_remember_31 rfl ?_
    refine j_iast 33 2 _ dX1_remember_32 rfl rfl rfl (by omega) ?_
    refine j_aload_0 34 dX1_remember_33 rfl ?_
    refine j_dup 35 dX1_remember_34 rfl ?_
    refine j_get 38 0 gf_X1_18 dX1_remember_35 rfl rfl ?_
    refine j_iconst 39 dX1_remember_38 ?_
    refine j_iadd 40 dX1_remember_39 ?_
    refine j_put 43 0 pf_X1_18 dX1_remember_40 rfl ⟨rfl, rfl, rfl⟩ ?_
    exact j_vret dX1_remember_43 rfl rfl ⟨rfl, rfl⟩
  · omega

set_option maxRecDepth 100000 in
set_option maxHeartbeats 4000000 in
theorem c_X1_remember_hi (E : jD) (a b c : Nat) (p q : Nat → Int32) (x y : Int32)  : MC E Y_X1_remember [.ref a, .int x, .int y] [(a, jO 1 [.ref b, .ref c, .int (iI 10)]), (b, jA E 10 p), (c, jA E 10 q)] (fun r N0 => r = none ∧ N0 = [(a, jO 1 [.ref b, .ref c, .int (iI 10)]), (b, jA E 10 (upd (shF p 9) 9 x)), (c, jA E 10 (upd (shF q 9) 9 y))]) := by
  refine MC.of (by decide) rfl rfl ?_
  refine j_aload_0 1 dX1_remember_0 rfl ?_
  refine j_get 4 0 gf_X1_18 dX1_remember_1 rfl rfl ?_
  refine j_bipush 6 dX1_remember_4 (by decide +kernel) ?_
  refine j_icmp_lt 13 9 dX1_remember_6 (by first | exact iI_rng _ | exact bI_r _ | exact ⟨by omega, by omega⟩) (by first | exact iI_rng _ | exact bI_r _ | exact ⟨by omega, by omega⟩) (fun h6 => ?_) (fun h6 => ?_)
  · omega
  · refine j_aload_0 10 dX1_remember_9 rfl ?_
    refine j_callV 13 Y_X1_loseOldest [0, 1, 2] [] (c_X1_loseOldest E _ _ _ _ _ _) m_X1_loseOldest wml_X1_22 dX1_remember_10 0 rfl rfl rfl rfl rfl rfl rfl rfl rfl (fun r N h => by obtain ⟨rfl, rfl⟩ := h; rfl) (fun r N h => ?_)
    obtain ⟨rfl, rfl⟩ := h
    refine j_aload_0 14 dX1_remember_13 rfl ?_
    refine j_get 17 0 gf_X1_9 dX1_remember_14 rfl rfl ?_
    refine j_aload_0 18 dX1_remember_17 rfl ?_
    refine j_get 21 0 gf_X1_18 dX1_remember_18 rfl rfl ?_
    refine j_iload_1 22 dX1_remember_21 rfl ?_
    refine j_iast 23 1 (9) dX1_remember_22 rfl rfl (by omega) (by omega) ?_
    refine j_aload_0 24 dX1_remember_23 rfl ?_
    refine j_get 27 0 gf_X1_15 dX1_remember_24 rfl rfl ?_
    refine j_aload_0 28 dX1_remember_27 rfl ?_
    refine j_get 31 0 gf_X1_18 dX1_remember_28 rfl rfl ?_
    refine j_iload_2 32 dX1_remember_31 rfl ?_
    refine j_iast 33 2 (9) dX1_remember_32 rfl rfl (by omega) (by omega) ?_
    refine j_aload_0 34 dX1_remember_33 rfl ?_
    refine j_dup 35 dX1_remember_34 rfl ?_
    refine j_get 38 0 gf_X1_18 dX1_remember_35 rfl rfl ?_
    refine j_iconst 39 dX1_remember_38 ?_
    refine j_iadd 40 dX1_remember_39 ?_
    refine j_put 43 0 pf_X1_18 dX1_remember_40 rfl ⟨rfl, rfl, rfl⟩ ?_
    exact j_vret dX1_remember_43 rfl rfl ⟨rfl, rfl⟩

set_option maxRecDepth 100000 in
set_option maxHeartbeats 4000000 in
theorem c_X2_init (E : jD) (a : Nat)  : MC E Y_X2_init [.ref a] [(a, jO 2 [.null, .int 0])] (fun r N0 => ∃ b c, r = none ∧ N0 = [(a, jO 2 [.ref b, .int (iI 0)]), (b, jO 4 [.ref c, .int (iI (-1))]), (c, jA E 48 (fun _ => 0))]) := by
  refine MC.of (by decide) rfl rfl ?_
  refine j_aload_0 1 dX2_init_0 rfl ?_
  refine j_obj 4 wml_X2_1 dX2_init_1 rfl ?_
  refine j_aload_0 5 dX2_init_4 rfl ?_
  refine j_new 8 (fs := [.null, .int 0]) tyX4 (ci := 4) rfl inX4 tyX4_ok wcl_X2_7 wn_X4 wi_ShapeMinima_Row (by decide +kernel) dX2_init_5 rfl (fun b => ?_)
  refine j_dup 9 dX2_init_8 rfl ?_
  refine j_callI 12 Y_X4_init [1] [] (c_X4_init E b) m_X4_init wml_X2_9 dX2_init_9 rfl rfl rfl rfl rfl rfl rfl (fun r N h => by obtain ⟨c, rfl, rfl⟩ := h; rfl) (fun r N h => ?_)
  obtain ⟨c, rfl, rfl⟩ := h
  refine j_putF 15 0 pf_X2_10 rfl rfl dX2_init_12 rfl ⟨rfl, rfl, rfl⟩ ?_
  refine j_aload_0 16 dX2_init_15 rfl ?_
  refine j_iconst 17 dX2_init_16 ?_
  refine j_put 20 0 pf_X2_16 dX2_init_17 rfl ⟨rfl, rfl, rfl⟩ ?_
  exact j_vret dX2_init_20 rfl rfl ⟨b, c, rfl, rfl⟩
end
section
/-! the index's functions -/
theorem lfE_in (g : Nat → Int) (i : Nat) : -1 ≤ lfE g i ∧ lfE g i < i := lfF_in g (g i) i
theorem rtE_in (g : Nat → Int) {n i : Nat} (h : i < n) : i + 1 ≤ rtE g n i ∧ rtE g n i ≤ n := by
  have h2 := rtF_in g (g i) (n - (i + 1)) (i + 1)
  unfold rtE
  omega
def pick (g : Nat → Int) (n : Nat) (lf : Int) (rt : Nat) : Int := if n ≤ rt then (if lf < 0 then -9 else lf) else if lf < 0 then (rt : Int) else if g rt < g lf.toNat then lf else (rt : Int)
def paF (g : Nat → Int) (n i : Nat) : Int := pick g n (lfE g i) (rtE g n i)
theorem paF_in (g : Nat → Int) {n i : Nat} (h : i < n) : paF g n i = -9 ∨ (0 ≤ paF g n i ∧ paF g n i < n) := by
  have h1 := lfE_in g i
  have h2 := rtE_in g h
  unfold paF pick
  split
  · split <;> omega
  · split
    · omega
    · split <;> omega
/-- steps up to the one above all -/
def dpF (g : Nat → Int) (n : Nat) : Nat → Int → Nat
  | 0, _ => 0
  | d + 1, p => if p = -9 then 0 else dpF g n d (paF g n p.toNat) + 1
theorem dpF_le (g : Nat → Int) (n : Nat) : ∀ d p, dpF g n d p ≤ d
  | 0, _ => Nat.le_refl _
  | d + 1, p => by
    have := dpF_le g n d (paF g n p.toNat)
    unfold dpF
    split <;> omega
def anF (g : Nat → Int) (n : Nat) : Nat → Int → Int
  | 0, p => p
  | d + 1, p => if p = -9 then p else anF g n d (paF g n p.toNat)
/-- steps to the left edge, within a run -/
def stF (g : Nat → Int) (a p : Nat) : Int := (p : Int) - max ((a : Int) - 1) (lfE g p)
def rkC (g : Nat → Int) (p k : Nat) : Prop := g k < g p ∨ (k < p ∧ g k = g p)
def rkF (g : Nat → Int) (p a : Nat) : Nat → Int
  | 0 => 0
  | c + 1 => rkF g p a c + (if g (a + c) < g p ∨ (a + c < p ∧ g (a + c) = g p) then 1 else 0)
theorem rkF_in (g : Nat → Int) (p a : Nat) : ∀ c, 0 ≤ rkF g p a c ∧ rkF g p a c ≤ c
  | 0 => by simp [rkF]
  | c + 1 => by
    have ih := rkF_in g p a c
    unfold rkF
    split <;> omega
/-- from p on, the first of rank k, or p + d -/
def ktF (g : Nat → Int) (a w : Nat) (k : Int) : Nat → Nat → Nat
  | 0, p => p
  | d + 1, p => if rkF g p a w = k then p else ktF g a w k d (p + 1)
theorem ktF_in (g : Nat → Int) (a w : Nat) (k : Int) : ∀ d p, p ≤ ktF g a w k d p ∧ ktF g a w k d p ≤ p + d
  | 0, p => ⟨Nat.le_refl _, Nat.le_refl _⟩
  | d + 1, p => by
    have ih := ktF_in g a w k d (p + 1)
    unfold ktF
    split <;> omega
/-! shapes: a pile, its top first -/
def popF (v : Int) : List Int → Nat → List Int × Nat
  | [], m => ([], m)
  | t :: P, m => if v < t then popF v P (2 * m) else (t :: P, m)
theorem popF_len (v : Int) : ∀ P m, (popF v P m).1.length ≤ P.length
  | [], _ => Nat.le_refl _
  | t :: P, m => by
    unfold popF
    split
    · exact Nat.le_succ_of_le (popF_len v P (2 * m))
    · exact Nat.le_refl _
def shG (g : Nat → Int) (a : Nat) : Nat → List Int × Nat
  | 0 => ([], 1)
  | c + 1 => (g (a + c) :: (popF (g (a + c)) (shG g a c).1 (shG g a c).2).1, 2 * (popF (g (a + c)) (shG g a c).1 (shG g a c).2).2 + 1)
theorem shG_len (g : Nat → Int) (a : Nat) : ∀ c, (shG g a c).1.length ≤ c
  | 0 => Nat.le_refl _
  | c + 1 => by
    have h1 := shG_len g a c
    have h2 := popF_len (g (a + c)) (shG g a c).1 (shG g a c).2
    show (_ :: _).length ≤ _
    rw [List.length_cons]
    omega
/-- the shape of a block -/
def shB (g : Nat → Int) (n w b : Nat) : Nat := (shG g (b * w) (min w (n - b * w))).2
/-- the row pl holds the pile P -/
def pileIs (pl : Nat → Int32) : List Int → Prop
  | [] => True
  | t :: P => (pl P.length).toInt = t ∧ pileIs pl P
theorem pileIs_upd {pl : Nat → Int32} {k : Nat} {x : Int32} : ∀ {P : List Int}, P.length ≤ k → pileIs pl P → pileIs (upd pl k x) P
  | [], _, _ => trivial
  | t :: P, hk, h => by
    rw [List.length_cons] at hk
    refine ⟨?_, pileIs_upd (by omega) h.2⟩
    rw [upd_ne (by omega)]
    exact h.1
theorem pileIs_pop {pl : Nat → Int32} (v : Int) : ∀ {P : List Int} {m : Nat}, pileIs pl P → pileIs pl (popF v P m).1
  | [], _, _ => trivial
  | t :: P, m, h => by
    unfold popF
    split
    · exact pileIs_pop v h.2
    · exact h
theorem pileIs_push {pl : Nat → Int32} {P : List Int} {x : Int32} (h : pileIs pl P) : pileIs (upd pl P.length x) (x.toInt :: P) := ⟨by rw [upd_at], pileIs_upd (Nat.le_refl _) h⟩
/-! tables -/
def ldF (s : Nat) : Nat → Nat
  | 0 => 0
  | d + 1 => if s / 2 ^ (d + 1) = 0 then ldF s d else d + 1
theorem ldF_le (s : Nat) : ∀ d, ldF s d ≤ d
  | 0 => Nat.le_refl _
  | d + 1 => by
    have := ldF_le s d
    unfold ldF
    split <;> omega
def teS (s : Nat) (j : Int) : Nat → List Int → Int → List Int × Int
  | 0, P, p => (P, p)
  | d + 1, P, p => if j < p then (P, p) else if s / 2 ^ d % 2 = 0 then teS s j d P.tail p else if P.length < 6 then teS s j d (p :: P) (p + 1) else teS s j d P p
/-- the lowest on a pile that is no less than i -/
def scT (i : Int) : Int → List Int → Int
  | z, [] => z
  | z, t :: P => scT i (if i ≤ t then t else z) P
def fsF (q : Nat → Int) (i z : Int) : Nat → Nat → Int
  | 0, _ => z
  | d + 1, k => if i ≤ q k then q k else fsF q i z d (k + 1)
theorem fsF_last (q : Nat → Int) (i z : Int) : ∀ d k, fsF q i z (d + 1) k = fsF q i (if i ≤ q (k + d) then q (k + d) else z) d k
  | 0, k => by simp [fsF]
  | d + 1, k => by
    rw [fsF, fsF_last q i z d (k + 1)]
    conv => rhs; rw [fsF]
    rw [show k + 1 + d = k + (d + 1) by omega]
theorem fsF_sc {pl : Nat → Int32} (i : Int) : ∀ (P : List Int) (z : Int), pileIs pl P → fsF (tI pl) i z P.length 0 = scT i z P
  | [], _, _ => rfl
  | t :: P, z, h => by
    rw [List.length_cons, fsF_last, scT, Nat.zero_add]
    have h1 : tI pl P.length = t := h.1
    rw [h1]
    exact fsF_sc i P _ h.2
def teF (s : Nat) (i j : Int) : Int := scT i j (teS s j (ldF s 11) [] 0).1
/-! counts of blocks -/
def newB (q : Nat → Int) (b : Nat) : Prop := ∀ k, k < b → q k ≠ q b
def unF (q : Nat → Int) : Nat → Nat
  | 0 => 0
  | b + 1 => unF q b + (if ∀ k, k < b → q k ≠ q b then 1 else 0)
theorem unF_le (q : Nat → Int) : ∀ b, unF q b ≤ b
  | 0 => Nat.le_refl _
  | b + 1 => by
    have := unF_le q b
    unfold unF
    split <;> omega
/-- the first k from k on, up to b, that is as b is -/
def saF (q : Nat → Int) (b : Nat) : Nat → Nat → Nat
  | 0, k => k
  | d + 1, k => if q k = q b then k else saF q b d (k + 1)
theorem saF_in (q : Nat → Int) (b : Nat) : ∀ d k, k ≤ saF q b d k ∧ saF q b d k ≤ k + d
  | 0, k => ⟨Nat.le_refl _, Nat.le_refl _⟩
  | d + 1, k => by
    have ih := saF_in q b d (k + 1)
    unfold saF
    split <;> omega
theorem saF_new (q : Nat → Int) (b : Nat) : ∀ d k, k + d = b → (saF q b d k = b ↔ ∀ j, k ≤ j → j < b → q j ≠ q b)
  | 0, k, h => by
    unfold saF
    exact ⟨fun _ j h1 h2 => by omega, fun _ => by omega⟩
  | d + 1, k, h => by
    have ih := saF_new q b d (k + 1) (by omega)
    unfold saF
    split
    · rename_i hq
      exact ⟨fun e => by omega, fun e => absurd hq (e k (Nat.le_refl _) (by omega))⟩
    · rename_i hq
      rw [ih]
      refine ⟨fun e j h1 h2 => ?_, fun e j h1 h2 => e j (by omega) h2⟩
      by_cases hj : j = k
      · subst hj; exact hq
      · exact e j (by omega) h2
/-- levels, entries: over 1, 2, 4, .. -/
def lvF (b : Nat) : Nat → Nat → Nat
  | 0, _ => 0
  | d + 1, r => if b < r then 0 else lvF b d (2 * r) + 1
def enF (b : Nat) : Nat → Nat → Int
  | 0, _ => 0
  | d + 1, r => if b < r then 0 else enF b d (2 * r) + ((b : Int) - r + 1)
def biF (q : Nat → Int) (w b : Nat) : Int := 2 * (w : Int) * b + 6 * enF b 7 1 + 3 * (w : Int) * w * (unF q b : Int)
end
section
set_option maxRecDepth 100000 in
set_option maxHeartbeats 4000000 in
theorem c_X3_isNone (E : jD) (x0 x1 x2 x3 x4 x6 : Nat) (wd bl N : Int) (hN : jr N) : MC E Y_X3_isNone [.ref x0] [(x0, jO 3 [.ref x1, .ref x3, .ref x4, .ref x6, .int (iI wd), .int (iI bl)]), (x1, jO 4 [.ref x2, .int (iI N)])] (fun r N0 => r = some (.int (iI (bI (N < 0)))) ∧ N0 = [(x0, jO 3 [.ref x1, .ref x3, .ref x4, .ref x6, .int (iI wd), .int (iI bl)]), (x1, jO 4 [.ref x2, .int (iI N)])]) := by
  refine MC.of (by decide) rfl rfl ?_
  refine j_aload_0 1 dX3_isNone_0 rfl ?_
  refine j_get 4 0 gf_X3_12 dX3_isNone_1 rfl rfl ?_
  refine j_callVi 7 Y_X4_isMissing [1] [] (c_X4_isMissing E _ _ _ hN) m_X4_isMissing wml_X3_39 dX3_isNone_4 0 rfl rfl rfl rfl rfl rfl rfl rfl rfl rfl ?_
  exact j_zret (by first | exact bI_n _ | decide +kernel) dX3_isNone_7 rfl rfl ⟨rfl, rfl⟩

set_option maxRecDepth 100000 in
set_option maxHeartbeats 4000000 in
theorem lp_leastPlace (E : jD) (x0 x1 x2 x3 x4 x6 : Nat) (wd bl : Int) (n : Nat) (f : Nat → Int32) (i j : Nat) (hj : j < 48) (hij : i ≤ j) : ∀ (d : Nat) (d0 : Nat), j - i - d0 < d → (d0 ≤ j - i) → J E Y_X3_leastPlace (jZm E Y_X3_leastPlace (fun r N0 => r = some (.int (iI ((lsF (tI f) i (j - i) : Nat)))) ∧ N0 = [(x0, jO 3 [.ref x1, .ref x3, .ref x4, .ref x6, .int (iI wd), .int (iI bl)]), (x1, jO 4 [.ref x2, .int (iI (n : Int))]), (x2, jA E 48 f)])) 0 0 7 [(0, .ref x0), (1, .int (iI (i : Int))), (2, .int (iI (j : Int))), (3, .int (iI ((lsF (tI f) i d0 : Nat) : Int))), (4, .int (iI ((i + d0 + 1 : Nat) : Int)))] [] [(x0, jO 3 [.ref x1, .ref x3, .ref x4, .ref x6, .int (iI wd), .int (iI bl)]), (x1, jO 4 [.ref x2, .int (iI (n : Int))]), (x2, jA E 48 f)] := by
  intro d
  induction d with
  | zero => intros; omega
  | succ d ih =>
    intro d0 hd hk
    have hl0 := lsF_in (tI f) i d0
    refine j_iload 9 dX3_leastPlace_7 rfl ?_
    refine j_iload_2 10 dX3_leastPlace_9 rfl ?_
    refine j_icmp_gt 44 13 dX3_leastPlace_10 (by first | exact iI_rng _ | exact bI_r _ | exact ⟨by omega, by omega⟩) (by first | exact iI_rng _ | exact bI_r _ | exact ⟨by omega, by omega⟩) (fun h10 => ?_) (fun h10 => ?_)
    · have e : d0 = j - i := by omega
      subst e
      refine j_iload_3 45 dX3_leastPlace_44 rfl ?_
      exact j_iret dX3_leastPlace_45 rfl rfl ⟨rfl, rfl⟩
    · have hl := lsF_in (tI f) i d0
      refine j_aload_0 14 dX3_leastPlace_13 rfl ?_
      refine j_get 17 0 gf_X3_12 dX3_leastPlace_14 rfl rfl ?_
      refine j_get 20 1 gf_X3_65 dX3_leastPlace_17 rfl rfl ?_
      refine j_iload 22 dX3_leastPlace_20 rfl ?_
      refine j_iald 23 2 _ dX3_leastPlace_22 rfl rfl rfl (by omega) ?_
      refine j_aload_0 24 dX3_leastPlace_23 rfl ?_
      refine j_get 27 0 gf_X3_12 dX3_leastPlace_24 rfl rfl ?_
      refine j_get 30 1 gf_X3_65 dX3_leastPlace_27 rfl rfl ?_
      refine j_iload_3 31 dX3_leastPlace_30 rfl ?_
      refine j_iald 32 2 _ dX3_leastPlace_31 rfl rfl rfl (by omega) ?_
      refine j_icmp_ge 38 35 dX3_leastPlace_32 (by first | exact iI_rng _ | exact bI_r _ | exact ⟨by omega, by omega⟩) (by first | exact iI_rng _ | exact bI_r _ | exact ⟨by omega, by omega⟩) (fun h32 => ?_) (fun h32 => ?_)
      · have e : lsF (tI f) i (d0 + 1) = lsF (tI f) i d0 := if_neg (by show ¬ (f (i + d0 + 1)).toInt < (f (lsF (tI f) i d0)).toInt; omega)
        refine j_iinc 41 (lv' := [(0, _), (1, _), (2, _), (3, _), (4, _)]) dX3_leastPlace_38 rfl rfl ⟨rfl, rfl⟩ ?_
        refine j_goto 7 dX3_leastPlace_41 ?_
        have h := ih (d0 + 1) (by omega) (by omega)
        rw [e] at h
        exact h
      · have e : lsF (tI f) i (d0 + 1) = i + d0 + 1 := if_pos (by show (f (i + d0 + 1)).toInt < (f (lsF (tI f) i d0)).toInt; omega)
        refine j_iload 37 dX3_leastPlace_35 rfl ?_
        refine j_istore_3 38 (lv' := [(0, _), (1, _), (2, _), (3, _), (4, _)]) dX3_leastPlace_37 rfl ⟨rfl, rfl⟩ ?_
        refine j_iinc 41 (lv' := [(0, _), (1, _), (2, _), (3, _), (4, _)]) dX3_leastPlace_38 rfl rfl ⟨rfl, rfl⟩ ?_
        refine j_goto 7 dX3_leastPlace_41 ?_
        have h := ih (d0 + 1) (by omega) (by omega)
        rw [e] at h
        exact h

set_option maxRecDepth 100000 in
set_option maxHeartbeats 4000000 in
theorem c_X3_leastPlace (E : jD) (x0 x1 x2 x3 x4 x6 : Nat) (wd bl : Int) (n : Nat) (f : Nat → Int32) (i j : Nat) (hj : j < 48) (hij : i ≤ j) : MC E Y_X3_leastPlace [.ref x0, .int (iI (i : Int)), .int (iI (j : Int))] [(x0, jO 3 [.ref x1, .ref x3, .ref x4, .ref x6, .int (iI wd), .int (iI bl)]), (x1, jO 4 [.ref x2, .int (iI (n : Int))]), (x2, jA E 48 f)] (fun r N0 => r = some (.int (iI ((lsF (tI f) i (j - i) : Nat)))) ∧ N0 = [(x0, jO 3 [.ref x1, .ref x3, .ref x4, .ref x6, .int (iI wd), .int (iI bl)]), (x1, jO 4 [.ref x2, .int (iI (n : Int))]), (x2, jA E 48 f)]) := by
  refine MC.of (by decide) rfl rfl ?_
  refine j_iload_1 1 dX3_leastPlace_0 rfl ?_
  refine j_istore_3 2 (lv' := [(0, _), (1, _), (2, _), (3, _)]) dX3_leastPlace_1 rfl ⟨rfl, rfl⟩ ?_
  refine j_iload_1 3 dX3_leastPlace_2 rfl ?_
  refine j_iconst 4 dX3_leastPlace_3 ?_
  refine j_iadd 5 dX3_leastPlace_4 ?_
  refine j_istore 7 (lv' := [(0, _), (1, _), (2, _), (3, _), (4, _)]) dX3_leastPlace_5 rfl ⟨rfl, rfl⟩ ?_
  exact lp_leastPlace E x0 x1 x2 x3 x4 x6 wd bl n f i j hj hij (j - i + 1) 0 (by omega) (by omega)

set_option maxRecDepth 100000 in
set_option maxHeartbeats 4000000 in
theorem lp_leftEdge (E : jD) (x0 x1 x2 x3 x4 x6 : Nat) (wd bl : Int) (n : Nat) (f : Nat → Int32) (i : Nat) (hi : i < 48) : ∀ (d : Nat) (m : Nat), m < d → (m ≤ i) → (lfF (tI f) ((tI f) i) m = lfE (tI f) i) → J E Y_X3_leftEdge (jZm E Y_X3_leftEdge (fun r N0 => r = some (.int (iI (lfE (tI f) i))) ∧ N0 = [(x0, jO 3 [.ref x1, .ref x3, .ref x4, .ref x6, .int (iI wd), .int (iI bl)]), (x1, jO 4 [.ref x2, .int (iI (n : Int))]), (x2, jA E 48 f)])) 0 0 4 [(0, .ref x0), (1, .int (iI (i : Int))), (2, .int (iI ((m : Int) - 1)))] [] [(x0, jO 3 [.ref x1, .ref x3, .ref x4, .ref x6, .int (iI wd), .int (iI bl)]), (x1, jO 4 [.ref x2, .int (iI (n : Int))]), (x2, jA E 48 f)] := by
  intro d
  induction d with
  | zero => intros; omega
  | succ d ih =>
    intro m hd hm he
    refine j_iload_2 5 dX3_leftEdge_4 rfl ?_
    refine j_if_lt 35 8 dX3_leftEdge_5 (by first | exact iI_rng _ | exact bI_r _ | exact ⟨by omega, by omega⟩) (fun h5 => ?_) (fun h5 => ?_)
    · have e : m = 0 := by omega
      subst e
      refine j_iload_2 36 dX3_leftEdge_35 rfl ?_
      exact j_iret dX3_leftEdge_36 rfl rfl ⟨congrArg (fun z => some (Value.int (iI z))) (by rw [← he]; first | rfl | (rw [e2]; omega)), rfl⟩
    · obtain ⟨m, rfl⟩ : ∃ m2, m = m2 + 1 := ⟨m - 1, by omega⟩
      refine j_aload_0 9 dX3_leftEdge_8 rfl ?_
      refine j_get 12 0 gf_X3_12 dX3_leftEdge_9 rfl rfl ?_
      refine j_get 15 1 gf_X3_65 dX3_leftEdge_12 rfl rfl ?_
      refine j_iload_2 16 dX3_leftEdge_15 rfl ?_
      refine j_iald 17 2 (m) dX3_leftEdge_16 rfl rfl (by omega) (by omega) ?_
      refine j_aload_0 18 dX3_leftEdge_17 rfl ?_
      refine j_get 21 0 gf_X3_12 dX3_leftEdge_18 rfl rfl ?_
      refine j_get 24 1 gf_X3_65 dX3_leftEdge_21 rfl rfl ?_
      refine j_iload_1 25 dX3_leftEdge_24 rfl ?_
      refine j_iald 26 2 _ dX3_leftEdge_25 rfl rfl rfl (by omega) ?_
      refine j_icmp_le 35 29 dX3_leftEdge_26 (by first | exact iI_rng _ | exact bI_r _ | exact ⟨by omega, by omega⟩) (by first | exact iI_rng _ | exact bI_r _ | exact ⟨by omega, by omega⟩) (fun h26 => ?_) (fun h26 => ?_)
      · have e2 : lfF (tI f) (tI f i) (m + 1) = (m : Int) := if_neg (by show ¬ (f i).toInt < (f m).toInt; omega)
        refine j_iload_2 36 dX3_leftEdge_35 rfl ?_
        exact j_iret dX3_leftEdge_36 rfl rfl ⟨congrArg (fun z => some (Value.int (iI z))) (by rw [← he]; first | rfl | (rw [e2]; omega)), rfl⟩
      · have e2 : lfF (tI f) (tI f i) (m + 1) = lfF (tI f) (tI f i) m := if_pos (by show (f i).toInt < (f m).toInt; omega)
        refine j_iinc 32 (lv' := [(0, _), (1, _), (2, _)]) dX3_leftEdge_29 rfl rfl ⟨rfl, rfl⟩ ?_
        refine j_goto 4 dX3_leftEdge_32 ?_
        have h := ih m (by omega) (by omega) (by rw [← he, e2])
        rw [show ((m : Nat) : Int) - 1 = ((m + 1 : Nat) : Int) - 1 + -1 by omega] at h
        exact h

set_option maxRecDepth 100000 in
set_option maxHeartbeats 4000000 in
theorem c_X3_leftEdge (E : jD) (x0 x1 x2 x3 x4 x6 : Nat) (wd bl : Int) (n : Nat) (f : Nat → Int32) (i : Nat) (hi : i < 48) : MC E Y_X3_leftEdge [.ref x0, .int (iI (i : Int))] [(x0, jO 3 [.ref x1, .ref x3, .ref x4, .ref x6, .int (iI wd), .int (iI bl)]), (x1, jO 4 [.ref x2, .int (iI (n : Int))]), (x2, jA E 48 f)] (fun r N0 => r = some (.int (iI (lfE (tI f) i))) ∧ N0 = [(x0, jO 3 [.ref x1, .ref x3, .ref x4, .ref x6, .int (iI wd), .int (iI bl)]), (x1, jO 4 [.ref x2, .int (iI (n : Int))]), (x2, jA E 48 f)]) := by
  refine MC.of (by decide) rfl rfl ?_
  refine j_iload_1 1 dX3_leftEdge_0 rfl ?_
  refine j_iconst 2 dX3_leftEdge_1 ?_
  refine j_isub 3 dX3_leftEdge_2 ?_
  refine j_istore_2 4 (lv' := [(0, _), (1, _), (2, _)]) dX3_leftEdge_3 rfl ⟨rfl, rfl⟩ ?_
  exact lp_leftEdge E x0 x1 x2 x3 x4 x6 wd bl n f i hi (i + 1) i (by omega) (by omega) rfl

set_option maxRecDepth 100000 in
set_option maxHeartbeats 4000000 in
theorem lp_rightEdge (E : jD) (x0 x1 x2 x3 x4 x6 : Nat) (wd bl : Int) (n : Nat) (f : Nat → Int32) (hn : n ≤ 48) (i : Nat) (hi : i < n) : ∀ (d : Nat) (k : Nat), n - k < d → (k ≤ n) → (rtF (tI f) ((tI f) i) (n - k) k = rtE (tI f) n i) → J E Y_X3_rightEdge (jZm E Y_X3_rightEdge (fun r N0 => r = some (.int (iI ((rtE (tI f) n i : Nat)))) ∧ N0 = [(x0, jO 3 [.ref x1, .ref x3, .ref x4, .ref x6, .int (iI wd), .int (iI bl)]), (x1, jO 4 [.ref x2, .int (iI (n : Int))]), (x2, jA E 48 f)])) 0 0 4 [(0, .ref x0), (1, .int (iI (i : Int))), (2, .int (iI (k : Int)))] [] [(x0, jO 3 [.ref x1, .ref x3, .ref x4, .ref x6, .int (iI wd), .int (iI bl)]), (x1, jO 4 [.ref x2, .int (iI (n : Int))]), (x2, jA E 48 f)] := by
  intro d
  induction d with
  | zero => intros; omega
  | succ d ih =>
    intro k hd hk he
    refine j_iload_2 5 dX3_rightEdge_4 rfl ?_
    refine j_aload_0 6 dX3_rightEdge_5 rfl ?_
    refine j_get 9 0 gf_X3_12 dX3_rightEdge_6 rfl rfl ?_
    refine j_get 12 1 gf_X3_47 dX3_rightEdge_9 rfl rfl ?_
    refine j_icmp_ge 42 15 dX3_rightEdge_12 (by first | exact iI_rng _ | exact bI_r _ | exact ⟨by omega, by omega⟩) (by first | exact iI_rng _ | exact bI_r _ | exact ⟨by omega, by omega⟩) (fun h12 => ?_) (fun h12 => ?_)
    · have e : k = n := by omega
      subst e
      rw [Nat.sub_self] at he
      refine j_iload_2 43 dX3_rightEdge_42 rfl ?_
      exact j_iret dX3_rightEdge_43 rfl rfl ⟨congrArg (fun z => some (Value.int (iI z))) (by rw [← he]; first | rfl | rw [e2]), rfl⟩
    · obtain ⟨c, hc⟩ : ∃ c, n - k = c + 1 := ⟨n - k - 1, by omega⟩
      rw [hc] at he
      refine j_aload_0 16 dX3_rightEdge_15 rfl ?_
      refine j_get 19 0 gf_X3_12 dX3_rightEdge_16 rfl rfl ?_
      refine j_get 22 1 gf_X3_65 dX3_rightEdge_19 rfl rfl ?_
      refine j_iload_2 23 dX3_rightEdge_22 rfl ?_
      refine j_iald 24 2 _ dX3_rightEdge_23 rfl rfl rfl (by omega) ?_
      refine j_aload_0 25 dX3_rightEdge_24 rfl ?_
      refine j_get 28 0 gf_X3_12 dX3_rightEdge_25 rfl rfl ?_
      refine j_get 31 1 gf_X3_65 dX3_rightEdge_28 rfl rfl ?_
      refine j_iload_1 32 dX3_rightEdge_31 rfl ?_
      refine j_iald 33 2 _ dX3_rightEdge_32 rfl rfl rfl (by omega) ?_
      refine j_icmp_lt 42 36 dX3_rightEdge_33 (by first | exact iI_rng _ | exact bI_r _ | exact ⟨by omega, by omega⟩) (by first | exact iI_rng _ | exact bI_r _ | exact ⟨by omega, by omega⟩) (fun h33 => ?_) (fun h33 => ?_)
      · have e2 : rtF (tI f) (tI f i) (c + 1) k = k := if_neg (by show ¬ (f i).toInt ≤ (f k).toInt; omega)
        refine j_iload_2 43 dX3_rightEdge_42 rfl ?_
        exact j_iret dX3_rightEdge_43 rfl rfl ⟨congrArg (fun z => some (Value.int (iI z))) (by rw [← he]; first | rfl | rw [e2]), rfl⟩
      · have e2 : rtF (tI f) (tI f i) (c + 1) k = rtF (tI f) (tI f i) c (k + 1) := if_pos (by show (f i).toInt ≤ (f k).toInt; omega)
        refine j_iinc 39 (lv' := [(0, _), (1, _), (2, _)]) dX3_rightEdge_36 rfl rfl ⟨rfl, rfl⟩ ?_
        refine j_goto 4 dX3_rightEdge_39 ?_
        exact ih (k + 1) (by omega) (by omega) (by rw [show n - (k + 1) = c by omega, ← e2, he])

set_option maxRecDepth 100000 in
set_option maxHeartbeats 4000000 in
theorem c_X3_rightEdge (E : jD) (x0 x1 x2 x3 x4 x6 : Nat) (wd bl : Int) (n : Nat) (f : Nat → Int32) (i : Nat) (hn : n ≤ 48) (hi : i < n) : MC E Y_X3_rightEdge [.ref x0, .int (iI (i : Int))] [(x0, jO 3 [.ref x1, .ref x3, .ref x4, .ref x6, .int (iI wd), .int (iI bl)]), (x1, jO 4 [.ref x2, .int (iI (n : Int))]), (x2, jA E 48 f)] (fun r N0 => r = some (.int (iI ((rtE (tI f) n i : Nat)))) ∧ N0 = [(x0, jO 3 [.ref x1, .ref x3, .ref x4, .ref x6, .int (iI wd), .int (iI bl)]), (x1, jO 4 [.ref x2, .int (iI (n : Int))]), (x2, jA E 48 f)]) := by
  refine MC.of (by decide) rfl rfl ?_
  refine j_iload_1 1 dX3_rightEdge_0 rfl ?_
  refine j_iconst 2 dX3_rightEdge_1 ?_
  refine j_iadd 3 dX3_rightEdge_2 ?_
  refine j_istore_2 4 (lv' := [(0, _), (1, _), (2, _)]) dX3_rightEdge_3 rfl ⟨rfl, rfl⟩ ?_
  exact lp_rightEdge E x0 x1 x2 x3 x4 x6 wd bl n f hn i hi (n + 1) (i + 1) (by omega) (by omega) rfl

set_option maxRecDepth 100000 in
set_option maxHeartbeats 4000000 in
theorem c_X3_runsOwned (E : jD) (x0 x1 x2 x3 x4 x6 : Nat) (wd bl : Int) (n : Nat) (f : Nat → Int32) (i : Nat) (hn : n ≤ 48) (hi : i < n) : MC E Y_X3_runsOwned [.ref x0, .int (iI (i : Int))] [(x0, jO 3 [.ref x1, .ref x3, .ref x4, .ref x6, .int (iI wd), .int (iI bl)]), (x1, jO 4 [.ref x2, .int (iI (n : Int))]), (x2, jA E 48 f)] (fun r N0 => r = some (.int (iI (ownF (tI f) n i))) ∧ N0 = [(x0, jO 3 [.ref x1, .ref x3, .ref x4, .ref x6, .int (iI wd), .int (iI bl)]), (x1, jO 4 [.ref x2, .int (iI (n : Int))]), (x2, jA E 48 f)]) := by
  refine MC.of (by decide) rfl rfl ?_
  refine j_iload_1 1 dX3_runsOwned_0 rfl ?_
  refine j_aload_0 2 dX3_runsOwned_1 rfl ?_
  refine j_iload_1 3 dX3_runsOwned_2 rfl ?_
  refine j_callVi 6 Y_X3_leftEdge [0, 1, 2] [_] (c_X3_leftEdge E _ _ _ _ _ _ _ _ _ _ _ (by omega)) m_X3_leftEdge wml_X3_91 dX3_runsOwned_3 0 rfl rfl rfl rfl rfl rfl rfl rfl rfl rfl ?_
  refine j_isub 7 dX3_runsOwned_6 ?_
  refine j_aload_0 8 dX3_runsOwned_7 rfl ?_
  refine j_iload_1 9 dX3_runsOwned_8 rfl ?_
  refine j_callVi 12 Y_X3_rightEdge [0, 1, 2] [_] (c_X3_rightEdge E _ _ _ _ _ _ _ _ _ _ _ hn (by omega)) m_X3_rightEdge wml_X3_94 dX3_runsOwned_9 0 rfl rfl rfl rfl rfl rfl rfl rfl rfl rfl ?_
  refine j_iload_1 13 dX3_runsOwned_12 rfl ?_
  refine j_isub 14 dX3_runsOwned_13 ?_
  refine j_imul 15 dX3_runsOwned_14 ?_
  exact j_iret dX3_runsOwned_15 rfl rfl ⟨rfl, rfl⟩

set_option maxRecDepth 100000 in
set_option maxHeartbeats 4000000 in
theorem c_X3_parentPlace (E : jD) (x0 x1 x2 x3 x4 x6 : Nat) (wd bl : Int) (n : Nat) (f : Nat → Int32) (i : Nat) (hn : n ≤ 48) (hi : i < n) : MC E Y_X3_parentPlace [.ref x0, .int (iI (i : Int))] [(x0, jO 3 [.ref x1, .ref x3, .ref x4, .ref x6, .int (iI wd), .int (iI bl)]), (x1, jO 4 [.ref x2, .int (iI (n : Int))]), (x2, jA E 48 f)] (fun r N0 => r = some (.int (iI (paF (tI f) n i))) ∧ N0 = [(x0, jO 3 [.ref x1, .ref x3, .ref x4, .ref x6, .int (iI wd), .int (iI bl)]), (x1, jO 4 [.ref x2, .int (iI (n : Int))]), (x2, jA E 48 f)]) := by
  refine MC.of (by decide) rfl rfl ?_
  have h1 := lfE_in (tI f) i
  have h2 := rtE_in (tI f) hi
  refine j_aload_0 1 dX3_parentPlace_0 rfl ?_
  refine j_iload_1 2 dX3_parentPlace_1 rfl ?_
  refine j_callVi 5 Y_X3_leftEdge [0, 1, 2] [_] (c_X3_leftEdge E _ _ _ _ _ _ _ _ _ _ _ (by omega)) m_X3_leftEdge wml_X3_91 dX3_parentPlace_2 0 rfl rfl rfl rfl rfl rfl rfl rfl rfl rfl ?_
  refine j_istore_2 6 (lv' := [(0, _), (1, _), (2, _)]) dX3_parentPlace_5 rfl ⟨rfl, rfl⟩ ?_
  refine j_aload_0 7 dX3_parentPlace_6 rfl ?_
  refine j_iload_1 8 dX3_parentPlace_7 rfl ?_
  refine j_callVi 11 Y_X3_rightEdge [0, 1, 2] [_] (c_X3_rightEdge E _ _ _ _ _ _ _ _ _ _ _ hn (by omega)) m_X3_rightEdge wml_X3_94 dX3_parentPlace_8 0 rfl rfl rfl rfl rfl rfl rfl rfl rfl rfl ?_
  refine j_istore_3 12 (lv' := [(0, _), (1, _), (2, _), (3, _)]) dX3_parentPlace_11 rfl ⟨rfl, rfl⟩ ?_
  refine j_iload_3 13 dX3_parentPlace_12 rfl ?_
  refine j_aload_0 14 dX3_parentPlace_13 rfl ?_
  refine j_get 17 0 gf_X3_12 dX3_parentPlace_14 rfl rfl ?_
  refine j_get 20 1 gf_X3_47 dX3_parentPlace_17 rfl rfl ?_
  refine j_icmp_lt 34 23 dX3_parentPlace_20 (by first | exact iI_rng _ | exact bI_r _ | exact ⟨by omega, by omega⟩) (by first | exact iI_rng _ | exact bI_r _ | exact ⟨by omega, by omega⟩) (fun h20 => ?_) (fun h20 => ?_)
  · refine j_iload_2 35 dX3_parentPlace_34 rfl ?_
    refine j_if_ge 40 38 dX3_parentPlace_35 (by first | exact iI_rng _ | exact bI_r _ | exact ⟨by omega, by omega⟩) (fun h35 => ?_) (fun h35 => ?_)
    · refine j_aload_0 41 dX3_parentPlace_40 rfl ?_
      refine j_get 44 0 gf_X3_12 dX3_parentPlace_41 rfl rfl ?_
      refine j_get 47 1 gf_X3_65 dX3_parentPlace_44 rfl rfl ?_
      refine j_iload_2 48 dX3_parentPlace_47 rfl ?_
      refine j_iald 49 2 ((lfE (tI f) i).toNat) dX3_parentPlace_48 rfl rfl (by omega) (by omega) ?_
      refine j_aload_0 50 dX3_parentPlace_49 rfl ?_
      refine j_get 53 0 gf_X3_12 dX3_parentPlace_50 rfl rfl ?_
      refine j_get 56 1 gf_X3_65 dX3_parentPlace_53 rfl rfl ?_
      refine j_iload_3 57 dX3_parentPlace_56 rfl ?_
      refine j_iald 58 2 _ dX3_parentPlace_57 rfl rfl rfl (by omega) ?_
      refine j_icmp_le 65 61 dX3_parentPlace_58 (by first | exact iI_rng _ | exact bI_r _ | exact ⟨by omega, by omega⟩) (by first | exact iI_rng _ | exact bI_r _ | exact ⟨by omega, by omega⟩) (fun h58 => ?_) (fun h58 => ?_)
      · refine j_iload_3 66 dX3_parentPlace_65 rfl ?_
        exact j_iret dX3_parentPlace_66 rfl rfl ⟨congrArg (fun z => some (Value.int (iI z))) (by unfold paF pick; rw [if_neg (by omega), if_neg (by omega)]; first | exact (if_pos (show (f (rtE (tI f) n i)).toInt < (f (lfE (tI f) i).toNat).toInt by omega)).symm | exact (if_neg (show ¬ (f (rtE (tI f) n i)).toInt < (f (lfE (tI f) i).toNat).toInt by omega)).symm), rfl⟩
      · refine j_iload_2 62 dX3_parentPlace_61 rfl ?_
        refine j_goto 66 dX3_parentPlace_62 ?_
        exact j_iret dX3_parentPlace_66 rfl rfl ⟨congrArg (fun z => some (Value.int (iI z))) (by unfold paF pick; rw [if_neg (by omega), if_neg (by omega)]; first | exact (if_pos (show (f (rtE (tI f) n i)).toInt < (f (lfE (tI f) i).toNat).toInt by omega)).symm | exact (if_neg (show ¬ (f (rtE (tI f) n i)).toInt < (f (lfE (tI f) i).toNat).toInt by omega)).symm), rfl⟩
    · refine j_iload_3 39 dX3_parentPlace_38 rfl ?_
      exact j_iret dX3_parentPlace_39 rfl rfl ⟨congrArg (fun z => some (Value.int (iI z))) (by unfold paF pick; rw [if_neg (by omega), if_pos (by omega)]), rfl⟩
  · refine j_iload_2 24 dX3_parentPlace_23 rfl ?_
    refine j_if_ge 32 27 dX3_parentPlace_24 (by first | exact iI_rng _ | exact bI_r _ | exact ⟨by omega, by omega⟩) (fun h24 => ?_) (fun h24 => ?_)
    · refine j_iload_2 33 dX3_parentPlace_32 rfl ?_
      exact j_iret dX3_parentPlace_33 rfl rfl ⟨congrArg (fun z => some (Value.int (iI z))) (by unfold paF pick; rw [if_pos (by omega)]; first | rw [if_pos (by omega)] | rw [if_neg (by omega)]), rfl⟩
    · refine j_bipush 29 dX3_parentPlace_27 (by decide +kernel) ?_
      refine j_goto 33 dX3_parentPlace_29 ?_
      exact j_iret dX3_parentPlace_33 rfl rfl ⟨congrArg (fun z => some (Value.int (iI z))) (by unfold paF pick; rw [if_pos (by omega)]; first | rw [if_pos (by omega)] | rw [if_neg (by omega)]), rfl⟩

set_option maxRecDepth 100000 in
set_option maxHeartbeats 4000000 in
theorem lp_depthOf (E : jD) (x0 x1 x2 x3 x4 x6 : Nat) (wd bl : Int) (n : Nat) (f : Nat → Int32) (hn : n ≤ 48) (i : Nat) : ∀ (d : Nat) (s : Nat) (p : Int), n - s < d → (s ≤ n) → ((p = -9 ∨ (0 ≤ p ∧ p < n))) → (s + dpF (tI f) n (n - s) p = dpF (tI f) n n (paF (tI f) n i)) → J E Y_X3_depthOf (jZm E Y_X3_depthOf (fun r N0 => r = some (.int (iI ((dpF (tI f) n n (paF (tI f) n i) : Nat)))) ∧ N0 = [(x0, jO 3 [.ref x1, .ref x3, .ref x4, .ref x6, .int (iI wd), .int (iI bl)]), (x1, jO 4 [.ref x2, .int (iI (n : Int))]), (x2, jA E 48 f)])) 0 0 8 [(0, .ref x0), (1, .int (iI (i : Int))), (2, .int (iI (s : Int))), (3, .int (iI p))] [] [(x0, jO 3 [.ref x1, .ref x3, .ref x4, .ref x6, .int (iI wd), .int (iI bl)]), (x1, jO 4 [.ref x2, .int (iI (n : Int))]), (x2, jA E 48 f)] := by
  intro d
  induction d with
  | zero => intros; omega
  | succ d ih =>
    intro s p hd hs hp he
    refine j_iload_2 9 dX3_depthOf_8 rfl ?_
    refine j_aload_0 10 dX3_depthOf_9 rfl ?_
    refine j_get 13 0 gf_X3_12 dX3_depthOf_10 rfl rfl ?_
    refine j_get 16 1 gf_X3_47 dX3_depthOf_13 rfl rfl ?_
    refine j_icmp_ge 37 19 dX3_depthOf_16 (by first | exact iI_rng _ | exact bI_r _ | exact ⟨by omega, by omega⟩) (by first | exact iI_rng _ | exact bI_r _ | exact ⟨by omega, by omega⟩) (fun h16 => ?_) (fun h16 => ?_)
    · have e : s = n := by omega
      subst e
      rw [Nat.sub_self] at he
      refine j_iload_2 38 dX3_depthOf_37 rfl ?_
      exact j_iret dX3_depthOf_38 rfl rfl ⟨congrArg (fun z => some (Value.int (iI z))) (by rw [← he]; rfl), rfl⟩
    · obtain ⟨c, hc⟩ : ∃ c, n - s = c + 1 := ⟨n - s - 1, by omega⟩
      rw [hc] at he
      refine j_iload_3 20 dX3_depthOf_19 rfl ?_
      refine j_bipush 22 dX3_depthOf_20 (by decide +kernel) ?_
      refine j_icmp_eq 37 25 dX3_depthOf_22 (by first | exact iI_rng _ | exact bI_r _ | exact ⟨by omega, by omega⟩) (by first | exact iI_rng _ | exact bI_r _ | exact ⟨by omega, by omega⟩) (fun h22 => ?_) (fun h22 => ?_)
      · subst h22
        refine j_iload_2 38 dX3_depthOf_37 rfl ?_
        exact j_iret dX3_depthOf_38 rfl rfl ⟨congrArg (fun z => some (Value.int (iI z))) (by rw [← he]; rfl), rfl⟩
      · obtain ⟨p, rfl⟩ : ∃ q : Nat, p = (q : Int) := ⟨p.toNat, by omega⟩
        have hpi := paF_in (tI f) (show p < n by omega)
        have e2 : dpF (tI f) n (c + 1) (p : Int) = dpF (tI f) n c (paF (tI f) n p) + 1 := if_neg h22
        refine j_aload_0 26 dX3_depthOf_25 rfl ?_
        refine j_iload_3 27 dX3_depthOf_26 rfl ?_
        refine j_callVi 30 Y_X3_parentPlace [0, 1, 2] [_] (c_X3_parentPlace E _ _ _ _ _ _ _ _ _ _ _ hn (by omega)) m_X3_parentPlace wml_X3_97 dX3_depthOf_27 0 rfl rfl rfl rfl rfl rfl rfl rfl rfl rfl ?_
        refine j_istore_3 31 (lv' := [(0, _), (1, _), (2, _), (3, _)]) dX3_depthOf_30 rfl ⟨rfl, rfl⟩ ?_
        refine j_iinc 34 (lv' := [(0, _), (1, _), (2, _), (3, _)]) dX3_depthOf_31 rfl rfl ⟨rfl, rfl⟩ ?_
        refine j_goto 8 dX3_depthOf_34 ?_
        exact ih (s + 1) _ (by omega) (by omega) hpi (by rw [show n - (s + 1) = c by omega, ← he, e2]; omega)

set_option maxRecDepth 100000 in
set_option maxHeartbeats 4000000 in
theorem c_X3_depthOf (E : jD) (x0 x1 x2 x3 x4 x6 : Nat) (wd bl : Int) (n : Nat) (f : Nat → Int32) (i : Nat) (hn : n ≤ 48) (hi : i < n) : MC E Y_X3_depthOf [.ref x0, .int (iI (i : Int))] [(x0, jO 3 [.ref x1, .ref x3, .ref x4, .ref x6, .int (iI wd), .int (iI bl)]), (x1, jO 4 [.ref x2, .int (iI (n : Int))]), (x2, jA E 48 f)] (fun r N0 => r = some (.int (iI ((dpF (tI f) n n (paF (tI f) n i) : Nat)))) ∧ N0 = [(x0, jO 3 [.ref x1, .ref x3, .ref x4, .ref x6, .int (iI wd), .int (iI bl)]), (x1, jO 4 [.ref x2, .int (iI (n : Int))]), (x2, jA E 48 f)]) := by
  refine MC.of (by decide) rfl rfl ?_
  refine j_iconst 1 dX3_depthOf_0 ?_
  refine j_istore_2 2 (lv' := [(0, _), (1, _), (2, _)]) dX3_depthOf_1 rfl ⟨rfl, rfl⟩ ?_
  refine j_aload_0 3 dX3_depthOf_2 rfl ?_
  refine j_iload_1 4 dX3_depthOf_3 rfl ?_
  refine j_callVi 7 Y_X3_parentPlace [0, 1, 2] [_] (c_X3_parentPlace E _ _ _ _ _ _ _ _ _ _ _ hn (by omega)) m_X3_parentPlace wml_X3_97 dX3_depthOf_4 0 rfl rfl rfl rfl rfl rfl rfl rfl rfl rfl ?_
  refine j_istore_3 8 (lv' := [(0, _), (1, _), (2, _), (3, _)]) dX3_depthOf_7 rfl ⟨rfl, rfl⟩ ?_
  exact lp_depthOf E x0 x1 x2 x3 x4 x6 wd bl n f hn i (n + 1) 0 _ (by omega) (by omega) (paF_in (tI f) hi) (by rw [Nat.zero_add, Nat.sub_zero])

set_option maxRecDepth 100000 in
set_option maxHeartbeats 4000000 in
theorem lp_ancestor (E : jD) (x0 x1 x2 x3 x4 x6 : Nat) (wd bl : Int) (n : Nat) (f : Nat → Int32) (hn : n ≤ 48) (i : Nat) (D : Nat) (dd : Int) (hD : D ≤ n) : ∀ (d : Nat) (s : Nat) (p : Int), D - s < d → (s ≤ D) → ((p = -9 ∨ (0 ≤ p ∧ p < n))) → (anF (tI f) n (D - s) p = anF (tI f) n D i) → J E Y_X3_ancestor (jZm E Y_X3_ancestor (fun r N0 => r = some (.int (iI (anF (tI f) n D i))) ∧ N0 = [(x0, jO 3 [.ref x1, .ref x3, .ref x4, .ref x6, .int (iI wd), .int (iI bl)]), (x1, jO 4 [.ref x2, .int (iI (n : Int))]), (x2, jA E 48 f)])) 0 0 18 [(0, .ref x0), (1, .int (iI (i : Int))), (2, .int (iI dd)), (3, .int (iI (D : Int))), (4, .int (iI p)), (5, .int (iI (s : Int)))] [] [(x0, jO 3 [.ref x1, .ref x3, .ref x4, .ref x6, .int (iI wd), .int (iI bl)]), (x1, jO 4 [.ref x2, .int (iI (n : Int))]), (x2, jA E 48 f)] := by
  intro d
  induction d with
  | zero => intros; omega
  | succ d ih =>
    intro s p hd hs hp he
    refine j_iload 20 dX3_ancestor_18 rfl ?_
    refine j_iload_3 21 dX3_ancestor_20 rfl ?_
    refine j_icmp_ge 45 24 dX3_ancestor_21 (by first | exact iI_rng _ | exact bI_r _ | exact ⟨by omega, by omega⟩) (by first | exact iI_rng _ | exact bI_r _ | exact ⟨by omega, by omega⟩) (fun h21 => ?_) (fun h21 => ?_)
    · have e : s = D := by omega
      subst e
      rw [Nat.sub_self] at he
      refine j_iload 47 dX3_ancestor_45 rfl ?_
      exact j_iret dX3_ancestor_47 rfl rfl ⟨congrArg (fun z => some (Value.int (iI z))) (by rw [← he]; rfl), rfl⟩
    · obtain ⟨c, hc⟩ : ∃ c, D - s = c + 1 := ⟨D - s - 1, by omega⟩
      rw [hc] at he
      refine j_iload 26 dX3_ancestor_24 rfl ?_
      refine j_bipush 28 dX3_ancestor_26 (by decide +kernel) ?_
      refine j_icmp_eq 45 31 dX3_ancestor_28 (by first | exact iI_rng _ | exact bI_r _ | exact ⟨by omega, by omega⟩) (by first | exact iI_rng _ | exact bI_r _ | exact ⟨by omega, by omega⟩) (fun h28 => ?_) (fun h28 => ?_)
      · subst h28
        refine j_iload 47 dX3_ancestor_45 rfl ?_
        exact j_iret dX3_ancestor_47 rfl rfl ⟨congrArg (fun z => some (Value.int (iI z))) (by rw [← he]; rfl), rfl⟩
      · obtain ⟨p, rfl⟩ : ∃ q : Nat, p = (q : Int) := ⟨p.toNat, by omega⟩
        have hpi := paF_in (tI f) (show p < n by omega)
        have e2 : anF (tI f) n (c + 1) (p : Int) = anF (tI f) n c (paF (tI f) n p) := if_neg h28
        refine j_aload_0 32 dX3_ancestor_31 rfl ?_
        refine j_iload 34 dX3_ancestor_32 rfl ?_
        refine j_callVi 37 Y_X3_parentPlace [0, 1, 2] [_] (c_X3_parentPlace E _ _ _ _ _ _ _ _ _ _ _ hn (by omega)) m_X3_parentPlace wml_X3_97 dX3_ancestor_34 0 rfl rfl rfl rfl rfl rfl rfl rfl rfl rfl ?_
        refine j_istore 39 (lv' := [(0, _), (1, _), (2, _), (3, _), (4, _), (5, _)]) dX3_ancestor_37 rfl ⟨rfl, rfl⟩ ?_
        refine j_iinc 42 (lv' := [(0, _), (1, _), (2, _), (3, _), (4, _), (5, _)]) dX3_ancestor_39 rfl rfl ⟨rfl, rfl⟩ ?_
        refine j_goto 18 dX3_ancestor_42 ?_
        exact ih (s + 1) _ (by omega) (by omega) hpi (by rw [show D - (s + 1) = c by omega, ← he, e2])

set_option maxRecDepth 100000 in
set_option maxHeartbeats 4000000 in
theorem c_X3_ancestor (E : jD) (x0 x1 x2 x3 x4 x6 : Nat) (wd bl : Int) (n : Nat) (f : Nat → Int32) (i : Nat) (dd : Int) (hn : n ≤ 48) (hi : i < n) (hd : 0 ≤ dd) (hr : jr dd) : MC E Y_X3_ancestor [.ref x0, .int (iI (i : Int)), .int (iI dd)] [(x0, jO 3 [.ref x1, .ref x3, .ref x4, .ref x6, .int (iI wd), .int (iI bl)]), (x1, jO 4 [.ref x2, .int (iI (n : Int))]), (x2, jA E 48 f)] (fun r N0 => r = some (.int (iI (anF (tI f) n (min dd.toNat n) i))) ∧ N0 = [(x0, jO 3 [.ref x1, .ref x3, .ref x4, .ref x6, .int (iI wd), .int (iI bl)]), (x1, jO 4 [.ref x2, .int (iI (n : Int))]), (x2, jA E 48 f)]) := by
  refine MC.of (by decide) rfl rfl ?_
  refine j_iload_2 1 dX3_ancestor_0 rfl ?_
  refine j_aload_0 2 dX3_ancestor_1 rfl ?_
  refine j_get 5 0 gf_X3_12 dX3_ancestor_2 rfl rfl ?_
  refine j_get 8 1 gf_X3_47 dX3_ancestor_5 rfl rfl ?_
  refine j_min 11 wml_X3_68 dX3_ancestor_8 (by first | exact iI_rng _ | exact bI_r _ | exact ⟨by omega, by omega⟩) (by first | exact iI_rng _ | exact bI_r _ | exact ⟨by omega, by omega⟩) rfl ?_
  refine j_top ((min dd.toNat n : Nat) : Int) (congrArg iI (by omega)) ?_
  refine j_istore_3 12 (lv' := [(0, _), (1, _), (2, _), (3, _)]) dX3_ancestor_11 rfl ⟨rfl, rfl⟩ ?_
  refine j_iload_1 13 dX3_ancestor_12 rfl ?_
  refine j_istore 15 (lv' := [(0, _), (1, _), (2, _), (3, _), (4, _)]) dX3_ancestor_13 rfl ⟨rfl, rfl⟩ ?_
  refine j_iconst 16 dX3_ancestor_15 ?_
  refine j_istore 18 (lv' := [(0, _), (1, _), (2, _), (3, _), (4, _), (5, _)]) dX3_ancestor_16 rfl ⟨rfl, rfl⟩ ?_
  exact lp_ancestor E x0 x1 x2 x3 x4 x6 wd bl n f hn i (min dd.toNat n) dd (by omega) (n + 1) 0 _ (by omega) (by omega) (Or.inr ⟨by omega, by omega⟩) (by rw [Nat.sub_zero])

set_option maxRecDepth 100000 in
set_option maxHeartbeats 4000000 in
theorem c_X3_stepsToLeftWithin (E : jD) (x0 x1 x2 x3 x4 x6 : Nat) (wd bl : Int) (n : Nat) (f : Nat → Int32) (a p : Nat) (ha : a ≤ 48) (hp : p < 48) : MC E Y_X3_stepsToLeftWithin [.ref x0, .int (iI (a : Int)), .int (iI (p : Int))] [(x0, jO 3 [.ref x1, .ref x3, .ref x4, .ref x6, .int (iI wd), .int (iI bl)]), (x1, jO 4 [.ref x2, .int (iI (n : Int))]), (x2, jA E 48 f)] (fun r N0 => r = some (.int (iI (stF (tI f) a p))) ∧ N0 = [(x0, jO 3 [.ref x1, .ref x3, .ref x4, .ref x6, .int (iI wd), .int (iI bl)]), (x1, jO 4 [.ref x2, .int (iI (n : Int))]), (x2, jA E 48 f)]) := by
  refine MC.of (by decide) rfl rfl ?_
  have h1 := lfE_in (tI f) p
  refine j_iload_2 1 dX3_stepsToLeftWithin_0 rfl ?_
  refine j_iload_1 2 dX3_stepsToLeftWithin_1 rfl ?_
  refine j_iconst 3 dX3_stepsToLeftWithin_2 ?_
  refine j_isub 4 dX3_stepsToLeftWithin_3 ?_
  refine j_aload_0 5 dX3_stepsToLeftWithin_4 rfl ?_
  refine j_iload_2 6 dX3_stepsToLeftWithin_5 rfl ?_
  refine j_callVi 9 Y_X3_leftEdge [0, 1, 2] [_] (c_X3_leftEdge E _ _ _ _ _ _ _ _ _ _ _ (by omega)) m_X3_leftEdge wml_X3_91 dX3_stepsToLeftWithin_6 0 rfl rfl rfl rfl rfl rfl rfl rfl rfl rfl ?_
  refine j_max 12 wml_X3_77 dX3_stepsToLeftWithin_9 (by first | exact iI_rng _ | exact bI_r _ | exact ⟨by omega, by omega⟩) (by first | exact iI_rng _ | exact bI_r _ | exact ⟨by omega, by omega⟩) rfl ?_
  refine j_isub 13 dX3_stepsToLeftWithin_12 ?_
  exact j_iret dX3_stepsToLeftWithin_13 rfl rfl ⟨rfl, rfl⟩

theorem stF_in (g : Nat → Int) (a p : Nat) : -1 - (a : Int) ≤ stF g a p ∧ stF g a p ≤ (p : Int) + 1 := by
  have h1 := lfE_in g p
  unfold stF
  omega

set_option maxRecDepth 100000 in
set_option maxHeartbeats 4000000 in
theorem lp_areAlike (E : jD) (x0 x1 x2 x3 x4 x6 : Nat) (wd bl : Int) (n : Nat) (f : Nat → Int32) (i j m : Nat) (hi : i + m ≤ 48) (hj : j + m ≤ 48) : ∀ (d : Nat) (c : Nat), m - c < d → (c ≤ m) → (∀ k, k < c → stF (tI f) i (i + k) = stF (tI f) j (j + k)) → J E Y_X3_areAlike (jZm E Y_X3_areAlike (fun r N0 => r = some (.int (iI (bI (∀ k, k < m → stF (tI f) i (i + k) = stF (tI f) j (j + k))))) ∧ N0 = [(x0, jO 3 [.ref x1, .ref x3, .ref x4, .ref x6, .int (iI wd), .int (iI bl)]), (x1, jO 4 [.ref x2, .int (iI (n : Int))]), (x2, jA E 48 f)])) 0 0 3 [(0, .ref x0), (1, .int (iI (i : Int))), (2, .int (iI (j : Int))), (3, .int (iI (m : Int))), (4, .int (iI (c : Int)))] [] [(x0, jO 3 [.ref x1, .ref x3, .ref x4, .ref x6, .int (iI wd), .int (iI bl)]), (x1, jO 4 [.ref x2, .int (iI (n : Int))]), (x2, jA E 48 f)] := by
  intro d
  induction d with
  | zero => intros; omega
  | succ d ih =>
    intro c hd hc he
    refine j_iload 5 dX3_areAlike_3 rfl ?_
    refine j_iload_3 6 dX3_areAlike_5 rfl ?_
    refine j_icmp_ge 38 9 dX3_areAlike_6 (by first | exact iI_rng _ | exact bI_r _ | exact ⟨by omega, by omega⟩) (by first | exact iI_rng _ | exact bI_r _ | exact ⟨by omega, by omega⟩) (fun h6 => ?_) (fun h6 => ?_)
    · have e : c = m := by omega
      subst e
      refine j_iconst 39 dX3_areAlike_38 ?_
      exact j_zret (by first | exact bI_n _ | decide +kernel) dX3_areAlike_39 rfl rfl ⟨congrArg (fun z => some (Value.int (iI z))) ((bI_t he).symm), rfl⟩
    · refine j_aload_0 10 dX3_areAlike_9 rfl ?_
      refine j_iload_1 11 dX3_areAlike_10 rfl ?_
      refine j_iload_1 12 dX3_areAlike_11 rfl ?_
      refine j_iload 14 dX3_areAlike_12 rfl ?_
      refine j_iadd 15 dX3_areAlike_14 ?_
      refine j_callVi 18 Y_X3_stepsToLeftWithin [0, 1, 2] [_, _] (c_X3_stepsToLeftWithin E _ _ _ _ _ _ _ _ _ _ i (i + c) (by omega) (by omega)) m_X3_stepsToLeftWithin wml_X3_100 dX3_areAlike_15 0 rfl rfl rfl rfl rfl rfl rfl rfl rfl rfl ?_
      refine j_aload_0 19 dX3_areAlike_18 rfl ?_
      refine j_iload_2 20 dX3_areAlike_19 rfl ?_
      refine j_iload_2 21 dX3_areAlike_20 rfl ?_
      refine j_iload 23 dX3_areAlike_21 rfl ?_
      refine j_iadd 24 dX3_areAlike_23 ?_
      refine j_callVi 27 Y_X3_stepsToLeftWithin [0, 1, 2] [_, _] (c_X3_stepsToLeftWithin E _ _ _ _ _ _ _ _ _ _ j (j + c) (by omega) (by omega)) m_X3_stepsToLeftWithin wml_X3_100 dX3_areAlike_24 0 rfl rfl rfl rfl rfl rfl rfl rfl rfl rfl ?_
      refine j_icmp_eq 32 30 dX3_areAlike_27 (by have := stF_in (tI f) i (i + c); exact ⟨by omega, by omega⟩) (by have := stF_in (tI f) j (j + c); exact ⟨by omega, by omega⟩) (fun h27 => ?_) (fun h27 => ?_)
      · refine j_iinc 35 (lv' := [(0, _), (1, _), (2, _), (3, _), (4, _)]) dX3_areAlike_32 rfl rfl ⟨rfl, rfl⟩ ?_
        refine j_goto 3 dX3_areAlike_35 ?_
        exact ih (c + 1) (by omega) (by omega) (fun k hk => by
          by_cases hkc : k = c
          · subst hkc; exact h27
          · exact he k (by omega))
      · refine j_iconst 31 dX3_areAlike_30 ?_
        exact j_zret (by first | exact bI_n _ | decide +kernel) dX3_areAlike_31 rfl rfl ⟨congrArg (fun z => some (Value.int (iI z))) ((bI_f (fun q => h27 (q c (by omega)))).symm), rfl⟩

set_option maxRecDepth 100000 in
set_option maxHeartbeats 4000000 in
theorem c_X3_areAlike (E : jD) (x0 x1 x2 x3 x4 x6 : Nat) (wd bl : Int) (n : Nat) (f : Nat → Int32) (i j m : Nat) (hi : i + m ≤ 48) (hj : j + m ≤ 48) : MC E Y_X3_areAlike [.ref x0, .int (iI (i : Int)), .int (iI (j : Int)), .int (iI (m : Int))] [(x0, jO 3 [.ref x1, .ref x3, .ref x4, .ref x6, .int (iI wd), .int (iI bl)]), (x1, jO 4 [.ref x2, .int (iI (n : Int))]), (x2, jA E 48 f)] (fun r N0 => r = some (.int (iI (bI (∀ k, k < m → stF (tI f) i (i + k) = stF (tI f) j (j + k))))) ∧ N0 = [(x0, jO 3 [.ref x1, .ref x3, .ref x4, .ref x6, .int (iI wd), .int (iI bl)]), (x1, jO 4 [.ref x2, .int (iI (n : Int))]), (x2, jA E 48 f)]) := by
  refine MC.of (by decide) rfl rfl ?_
  refine j_iconst 1 dX3_areAlike_0 ?_
  refine j_istore 3 (lv' := [(0, _), (1, _), (2, _), (3, _), (4, _)]) dX3_areAlike_1 rfl ⟨rfl, rfl⟩ ?_
  exact lp_areAlike E x0 x1 x2 x3 x4 x6 wd bl n f i j m hi hj (m + 1) 0 (by omega) (by omega) (fun k hk => by omega)

set_option maxRecDepth 100000 in
set_option maxHeartbeats 4000000 in
theorem lp_rank (E : jD) (x0 x1 x2 x3 x4 x6 : Nat) (wd bl : Int) (n : Nat) (f : Nat → Int32) (a b p : Nat) (hb : b < 48) (hab : a ≤ b) (hp : p < 48) : ∀ (d : Nat) (c : Nat), b + 1 - a - c < d → (c ≤ b + 1 - a) → J E Y_X3_rank (jZm E Y_X3_rank (fun r N0 => r = some (.int (iI (rkF (tI f) p a (b + 1 - a)))) ∧ N0 = [(x0, jO 3 [.ref x1, .ref x3, .ref x4, .ref x6, .int (iI wd), .int (iI bl)]), (x1, jO 4 [.ref x2, .int (iI (n : Int))]), (x2, jA E 48 f)])) 0 0 6 [(0, .ref x0), (1, .int (iI (a : Int))), (2, .int (iI (b : Int))), (3, .int (iI (p : Int))), (4, .int (iI (rkF (tI f) p a c))), (5, .int (iI ((a + c : Nat) : Int)))] [] [(x0, jO 3 [.ref x1, .ref x3, .ref x4, .ref x6, .int (iI wd), .int (iI bl)]), (x1, jO 4 [.ref x2, .int (iI (n : Int))]), (x2, jA E 48 f)] := by
  intro d
  induction d with
  | zero => intros; omega
  | succ d ih =>
    intro c hd hc
    refine j_iload 8 dX3_rank_6 rfl ?_
    refine j_iload_2 9 dX3_rank_8 rfl ?_
    refine j_icmp_gt 83 12 dX3_rank_9 (by first | exact iI_rng _ | exact bI_r _ | exact ⟨by omega, by omega⟩) (by first | exact iI_rng _ | exact bI_r _ | exact ⟨by omega, by omega⟩) (fun h9 => ?_) (fun h9 => ?_)
    · have e : c = b + 1 - a := by omega
      subst e
      refine j_iload 85 dX3_rank_83 rfl ?_
      exact j_iret dX3_rank_85 rfl rfl ⟨rfl, rfl⟩
    · refine j_aload_0 13 dX3_rank_12 rfl ?_
      refine j_get 16 0 gf_X3_12 dX3_rank_13 rfl rfl ?_
      refine j_get 19 1 gf_X3_65 dX3_rank_16 rfl rfl ?_
      refine j_iload 21 dX3_rank_19 rfl ?_
      refine j_iald 22 2 _ dX3_rank_21 rfl rfl rfl (by omega) ?_
      refine j_aload_0 23 dX3_rank_22 rfl ?_
      refine j_get 26 0 gf_X3_12 dX3_rank_23 rfl rfl ?_
      refine j_get 29 1 gf_X3_65 dX3_rank_26 rfl rfl ?_
      refine j_iload_3 30 dX3_rank_29 rfl ?_
      refine j_iald 31 2 _ dX3_rank_30 rfl rfl rfl (by omega) ?_
      refine j_icmp_ge 38 34 dX3_rank_31 (by first | exact iI_rng _ | exact bI_r _ | exact ⟨by omega, by omega⟩) (by first | exact iI_rng _ | exact bI_r _ | exact ⟨by omega, by omega⟩) (fun h31 => ?_) (fun h31 => ?_)
      · refine j_iconst 39 dX3_rank_38 ?_
        refine j_istore 41 (lv' := [(0, _), (1, _), (2, _), (3, _), (4, _), (5, _), (6, _)]) dX3_rank_39 rfl ⟨rfl, rfl⟩ ?_
        refine j_iload 43 dX3_rank_41 rfl ?_
        refine j_if_ne 74 46 dX3_rank_43 (by first | exact iI_rng _ | exact bI_r _ | exact ⟨by omega, by omega⟩) (fun h43 => ?_) (fun h43 => ?_)
        · refine j_iinc 77 (lv' := [(0, _), (1, _), (2, _), (3, _), (4, _), (5, _), (6, _)]) dX3_rank_74 rfl rfl ⟨rfl, rfl⟩ ?_
          refine j_iinc 80 (lv' := [(0, _), (1, _), (2, _), (3, _), (4, _), (5, _), (6, _)]) dX3_rank_77 rfl rfl ⟨rfl, rfl⟩ ?_
          refine j_goto 6 dX3_rank_80 ?_
          refine j_take 6 ?_
          have h := ih (c + 1) (by omega) (by omega)
          rw [show rkF (tI f) p a (c + 1) = rkF (tI f) p a c + (if (tI f) (a + c) < (tI f) p ∨ (a + c < p ∧ (tI f) (a + c) = (tI f) p) then 1 else 0) from rfl] at h
          first
            | (rw [if_pos (by show (f (a + c)).toInt < (f p).toInt ∨ (a + c < p ∧ (f (a + c)).toInt = (f p).toInt); omega)] at h; exact h)
            | (rw [if_neg (by show ¬ ((f (a + c)).toInt < (f p).toInt ∨ (a + c < p ∧ (f (a + c)).toInt = (f p).toInt)); omega), Int.add_zero] at h; exact h)
            | omega
        · refine j_iload 48 dX3_rank_46 rfl ?_
          refine j_iload_3 49 dX3_rank_48 rfl ?_
          refine j_icmp_ge 77 52 dX3_rank_49 (by first | exact iI_rng _ | exact bI_r _ | exact ⟨by omega, by omega⟩) (by first | exact iI_rng _ | exact bI_r _ | exact ⟨by omega, by omega⟩) (fun h49 => ?_) (fun h49 => ?_)
          · refine j_iinc 80 (lv' := [(0, _), (1, _), (2, _), (3, _), (4, _), (5, _), (6, _)]) dX3_rank_77 rfl rfl ⟨rfl, rfl⟩ ?_
            refine j_goto 6 dX3_rank_80 ?_
            refine j_take 6 ?_
            have h := ih (c + 1) (by omega) (by omega)
            rw [show rkF (tI f) p a (c + 1) = rkF (tI f) p a c + (if (tI f) (a + c) < (tI f) p ∨ (a + c < p ∧ (tI f) (a + c) = (tI f) p) then 1 else 0) from rfl] at h
            first
              | (rw [if_pos (by show (f (a + c)).toInt < (f p).toInt ∨ (a + c < p ∧ (f (a + c)).toInt = (f p).toInt); omega)] at h; exact h)
              | (rw [if_neg (by show ¬ ((f (a + c)).toInt < (f p).toInt ∨ (a + c < p ∧ (f (a + c)).toInt = (f p).toInt)); omega), Int.add_zero] at h; exact h)
              | omega
          · refine j_aload_0 53 dX3_rank_52 rfl ?_
            refine j_get 56 0 gf_X3_12 dX3_rank_53 rfl rfl ?_
            refine j_get 59 1 gf_X3_65 dX3_rank_56 rfl rfl ?_
            refine j_iload 61 dX3_rank_59 rfl ?_
            refine j_iald 62 2 _ dX3_rank_61 rfl rfl rfl (by omega) ?_
            refine j_aload_0 63 dX3_rank_62 rfl ?_
            refine j_get 66 0 gf_X3_12 dX3_rank_63 rfl rfl ?_
            refine j_get 69 1 gf_X3_65 dX3_rank_66 rfl rfl ?_
            refine j_iload_3 70 dX3_rank_69 rfl ?_
            refine j_iald 71 2 _ dX3_rank_70 rfl rfl rfl (by omega) ?_
            refine j_icmp_ne 77 74 dX3_rank_71 (by first | exact iI_rng _ | exact bI_r _ | exact ⟨by omega, by omega⟩) (by first | exact iI_rng _ | exact bI_r _ | exact ⟨by omega, by omega⟩) (fun h71 => ?_) (fun h71 => ?_)
            · refine j_iinc 80 (lv' := [(0, _), (1, _), (2, _), (3, _), (4, _), (5, _), (6, _)]) dX3_rank_77 rfl rfl ⟨rfl, rfl⟩ ?_
              refine j_goto 6 dX3_rank_80 ?_
              refine j_take 6 ?_
              have h := ih (c + 1) (by omega) (by omega)
              rw [show rkF (tI f) p a (c + 1) = rkF (tI f) p a c + (if (tI f) (a + c) < (tI f) p ∨ (a + c < p ∧ (tI f) (a + c) = (tI f) p) then 1 else 0) from rfl] at h
              first
                | (rw [if_pos (by show (f (a + c)).toInt < (f p).toInt ∨ (a + c < p ∧ (f (a + c)).toInt = (f p).toInt); omega)] at h; exact h)
                | (rw [if_neg (by show ¬ ((f (a + c)).toInt < (f p).toInt ∨ (a + c < p ∧ (f (a + c)).toInt = (f p).toInt)); omega), Int.add_zero] at h; exact h)
                | omega
            · refine j_iinc 77 (lv' := [(0, _), (1, _), (2, _), (3, _), (4, _), (5, _), (6, _)]) dX3_rank_74 rfl rfl ⟨rfl, rfl⟩ ?_
              refine j_iinc 80 (lv' := [(0, _), (1, _), (2, _), (3, _), (4, _), (5, _), (6, _)]) dX3_rank_77 rfl rfl ⟨rfl, rfl⟩ ?_
              refine j_goto 6 dX3_rank_80 ?_
              refine j_take 6 ?_
              have h := ih (c + 1) (by omega) (by omega)
              rw [show rkF (tI f) p a (c + 1) = rkF (tI f) p a c + (if (tI f) (a + c) < (tI f) p ∨ (a + c < p ∧ (tI f) (a + c) = (tI f) p) then 1 else 0) from rfl] at h
              first
                | (rw [if_pos (by show (f (a + c)).toInt < (f p).toInt ∨ (a + c < p ∧ (f (a + c)).toInt = (f p).toInt); omega)] at h; exact h)
                | (rw [if_neg (by show ¬ ((f (a + c)).toInt < (f p).toInt ∨ (a + c < p ∧ (f (a + c)).toInt = (f p).toInt)); omega), Int.add_zero] at h; exact h)
                | omega
      · refine j_iconst 35 dX3_rank_34 ?_
        refine j_goto 39 dX3_rank_35 ?_
        refine j_istore 41 (lv' := [(0, _), (1, _), (2, _), (3, _), (4, _), (5, _), (6, _)]) dX3_rank_39 rfl ⟨rfl, rfl⟩ ?_
        refine j_iload 43 dX3_rank_41 rfl ?_
        refine j_if_ne 74 46 dX3_rank_43 (by first | exact iI_rng _ | exact bI_r _ | exact ⟨by omega, by omega⟩) (fun h43 => ?_) (fun h43 => ?_)
        · refine j_iinc 77 (lv' := [(0, _), (1, _), (2, _), (3, _), (4, _), (5, _), (6, _)]) dX3_rank_74 rfl rfl ⟨rfl, rfl⟩ ?_
          refine j_iinc 80 (lv' := [(0, _), (1, _), (2, _), (3, _), (4, _), (5, _), (6, _)]) dX3_rank_77 rfl rfl ⟨rfl, rfl⟩ ?_
          refine j_goto 6 dX3_rank_80 ?_
          refine j_take 6 ?_
          have h := ih (c + 1) (by omega) (by omega)
          rw [show rkF (tI f) p a (c + 1) = rkF (tI f) p a c + (if (tI f) (a + c) < (tI f) p ∨ (a + c < p ∧ (tI f) (a + c) = (tI f) p) then 1 else 0) from rfl] at h
          first
            | (rw [if_pos (by show (f (a + c)).toInt < (f p).toInt ∨ (a + c < p ∧ (f (a + c)).toInt = (f p).toInt); omega)] at h; exact h)
            | (rw [if_neg (by show ¬ ((f (a + c)).toInt < (f p).toInt ∨ (a + c < p ∧ (f (a + c)).toInt = (f p).toInt)); omega), Int.add_zero] at h; exact h)
            | omega
        · refine j_iload 48 dX3_rank_46 rfl ?_
          refine j_iload_3 49 dX3_rank_48 rfl ?_
          refine j_icmp_ge 77 52 dX3_rank_49 (by first | exact iI_rng _ | exact bI_r _ | exact ⟨by omega, by omega⟩) (by first | exact iI_rng _ | exact bI_r _ | exact ⟨by omega, by omega⟩) (fun h49 => ?_) (fun h49 => ?_)
          · refine j_iinc 80 (lv' := [(0, _), (1, _), (2, _), (3, _), (4, _), (5, _), (6, _)]) dX3_rank_77 rfl rfl ⟨rfl, rfl⟩ ?_
            refine j_goto 6 dX3_rank_80 ?_
            refine j_take 6 ?_
            have h := ih (c + 1) (by omega) (by omega)
            rw [show rkF (tI f) p a (c + 1) = rkF (tI f) p a c + (if (tI f) (a + c) < (tI f) p ∨ (a + c < p ∧ (tI f) (a + c) = (tI f) p) then 1 else 0) from rfl] at h
            first
              | (rw [if_pos (by show (f (a + c)).toInt < (f p).toInt ∨ (a + c < p ∧ (f (a + c)).toInt = (f p).toInt); omega)] at h; exact h)
              | (rw [if_neg (by show ¬ ((f (a + c)).toInt < (f p).toInt ∨ (a + c < p ∧ (f (a + c)).toInt = (f p).toInt)); omega), Int.add_zero] at h; exact h)
              | omega
          · refine j_aload_0 53 dX3_rank_52 rfl ?_
            refine j_get 56 0 gf_X3_12 dX3_rank_53 rfl rfl ?_
            refine j_get 59 1 gf_X3_65 dX3_rank_56 rfl rfl ?_
            refine j_iload 61 dX3_rank_59 rfl ?_
            refine j_iald 62 2 _ dX3_rank_61 rfl rfl rfl (by omega) ?_
            refine j_aload_0 63 dX3_rank_62 rfl ?_
            refine j_get 66 0 gf_X3_12 dX3_rank_63 rfl rfl ?_
            refine j_get 69 1 gf_X3_65 dX3_rank_66 rfl rfl ?_
            refine j_iload_3 70 dX3_rank_69 rfl ?_
            refine j_iald 71 2 _ dX3_rank_70 rfl rfl rfl (by omega) ?_
            refine j_icmp_ne 77 74 dX3_rank_71 (by first | exact iI_rng _ | exact bI_r _ | exact ⟨by omega, by omega⟩) (by first | exact iI_rng _ | exact bI_r _ | exact ⟨by omega, by omega⟩) (fun h71 => ?_) (fun h71 => ?_)
            · refine j_iinc 80 (lv' := [(0, _), (1, _), (2, _), (3, _), (4, _), (5, _), (6, _)]) dX3_rank_77 rfl rfl ⟨rfl, rfl⟩ ?_
              refine j_goto 6 dX3_rank_80 ?_
              refine j_take 6 ?_
              have h := ih (c + 1) (by omega) (by omega)
              rw [show rkF (tI f) p a (c + 1) = rkF (tI f) p a c + (if (tI f) (a + c) < (tI f) p ∨ (a + c < p ∧ (tI f) (a + c) = (tI f) p) then 1 else 0) from rfl] at h
              first
                | (rw [if_pos (by show (f (a + c)).toInt < (f p).toInt ∨ (a + c < p ∧ (f (a + c)).toInt = (f p).toInt); omega)] at h; exact h)
                | (rw [if_neg (by show ¬ ((f (a + c)).toInt < (f p).toInt ∨ (a + c < p ∧ (f (a + c)).toInt = (f p).toInt)); omega), Int.add_zero] at h; exact h)
                | omega
            · refine j_iinc 77 (lv' := [(0, _), (1, _), (2, _), (3, _), (4, _), (5, _), (6, _)]) dX3_rank_74 rfl rfl ⟨rfl, rfl⟩ ?_
              refine j_iinc 80 (lv' := [(0, _), (1, _), (2, _), (3, _), (4, _), (5, _), (6, _)]) dX3_rank_77 rfl rfl ⟨rfl, rfl⟩ ?_
              refine j_goto 6 dX3_rank_80 ?_
              refine j_take 6 ?_
              have h := ih (c + 1) (by omega) (by omega)
              rw [show rkF (tI f) p a (c + 1) = rkF (tI f) p a c + (if (tI f) (a + c) < (tI f) p ∨ (a + c < p ∧ (tI f) (a + c) = (tI f) p) then 1 else 0) from rfl] at h
              first
                | (rw [if_pos (by show (f (a + c)).toInt < (f p).toInt ∨ (a + c < p ∧ (f (a + c)).toInt = (f p).toInt); omega)] at h; exact h)
                | (rw [if_neg (by show ¬ ((f (a + c)).toInt < (f p).toInt ∨ (a + c < p ∧ (f (a + c)).toInt = (f p).toInt)); omega), Int.add_zero] at h; exact h)
                | omega

set_option maxRecDepth 100000 in
set_option maxHeartbeats 4000000 in
theorem c_X3_rank (E : jD) (x0 x1 x2 x3 x4 x6 : Nat) (wd bl : Int) (n : Nat) (f : Nat → Int32) (a b p : Nat) (hb : b < 48) (hab : a ≤ b) (hp : p < 48) : MC E Y_X3_rank [.ref x0, .int (iI (a : Int)), .int (iI (b : Int)), .int (iI (p : Int))] [(x0, jO 3 [.ref x1, .ref x3, .ref x4, .ref x6, .int (iI wd), .int (iI bl)]), (x1, jO 4 [.ref x2, .int (iI (n : Int))]), (x2, jA E 48 f)] (fun r N0 => r = some (.int (iI (rkF (tI f) p a (b + 1 - a)))) ∧ N0 = [(x0, jO 3 [.ref x1, .ref x3, .ref x4, .ref x6, .int (iI wd), .int (iI bl)]), (x1, jO 4 [.ref x2, .int (iI (n : Int))]), (x2, jA E 48 f)]) := by
  refine MC.of (by decide) rfl rfl ?_
  refine j_iconst 1 dX3_rank_0 ?_
  refine j_istore 3 (lv' := [(0, _), (1, _), (2, _), (3, _), (4, _)]) dX3_rank_1 rfl ⟨rfl, rfl⟩ ?_
  refine j_iload_1 4 dX3_rank_3 rfl ?_
  refine j_istore 6 (lv' := [(0, _), (1, _), (2, _), (3, _), (4, _), (5, _)]) dX3_rank_4 rfl ⟨rfl, rfl⟩ ?_
  exact lp_rank E x0 x1 x2 x3 x4 x6 wd bl n f a b p hb hab hp (b + 2 - a) 0 (by omega) (by omega)

set_option maxRecDepth 100000 in
set_option maxHeartbeats 4000000 in
theorem lp_kthPlace (E : jD) (x0 x1 x2 x3 x4 x6 : Nat) (wd bl : Int) (n : Nat) (f : Nat → Int32) (a b : Nat) (k : Int) (hb : b < 48) (hab : a ≤ b) (hk : jr k) : ∀ (d : Nat) (p : Nat), b - p < d → (p ≤ b) → (a ≤ p) → (ktF (tI f) a (b + 1 - a) k (b - p) p = ktF (tI f) a (b + 1 - a) k (b - a) a) → J E Y_X3_kthPlace (jZm E Y_X3_kthPlace (fun r N0 => r = some (.int (iI ((ktF (tI f) a (b + 1 - a) k (b - a) a : Nat)))) ∧ N0 = [(x0, jO 3 [.ref x1, .ref x3, .ref x4, .ref x6, .int (iI wd), .int (iI bl)]), (x1, jO 4 [.ref x2, .int (iI (n : Int))]), (x2, jA E 48 f)])) 0 0 3 [(0, .ref x0), (1, .int (iI (a : Int))), (2, .int (iI (b : Int))), (3, .int (iI k)), (4, .int (iI (p : Int)))] [] [(x0, jO 3 [.ref x1, .ref x3, .ref x4, .ref x6, .int (iI wd), .int (iI bl)]), (x1, jO 4 [.ref x2, .int (iI (n : Int))]), (x2, jA E 48 f)] := by
  intro d
  induction d with
  | zero => intros; omega
  | succ d ih =>
    intro p hd hp hp2 he
    refine j_iload 5 dX3_kthPlace_3 rfl ?_
    refine j_iload_2 6 dX3_kthPlace_5 rfl ?_
    refine j_icmp_ge 27 9 dX3_kthPlace_6 (by first | exact iI_rng _ | exact bI_r _ | exact ⟨by omega, by omega⟩) (by first | exact iI_rng _ | exact bI_r _ | exact ⟨by omega, by omega⟩) (fun h6 => ?_) (fun h6 => ?_)
    · have e : p = b := by omega
      subst e
      rw [Nat.sub_self] at he
      refine j_iload 29 dX3_kthPlace_27 rfl ?_
      exact j_iret dX3_kthPlace_29 rfl rfl ⟨congrArg (fun z => some (Value.int (iI z))) (by rw [← he]; first | rfl | rw [e2]), rfl⟩
    · obtain ⟨c, hc⟩ : ∃ c, b - p = c + 1 := ⟨b - p - 1, by omega⟩
      rw [hc] at he
      refine j_aload_0 10 dX3_kthPlace_9 rfl ?_
      refine j_iload_1 11 dX3_kthPlace_10 rfl ?_
      refine j_iload_2 12 dX3_kthPlace_11 rfl ?_
      refine j_iload 14 dX3_kthPlace_12 rfl ?_
      refine j_callVi 17 Y_X3_rank [0, 1, 2] [_, _, _] (c_X3_rank E _ _ _ _ _ _ _ _ _ _ a b p hb hab (by omega)) m_X3_rank wml_X3_87 dX3_kthPlace_14 0 rfl rfl rfl rfl rfl rfl rfl rfl rfl rfl ?_
      refine j_iload_3 18 dX3_kthPlace_17 rfl ?_
      refine j_icmp_eq 27 21 dX3_kthPlace_18 (by have := rkF_in (tI f) p a (b + 1 - a); exact ⟨by omega, by omega⟩) (by first | exact iI_rng _ | exact bI_r _ | exact ⟨by omega, by omega⟩) (fun h18 => ?_) (fun h18 => ?_)
      · have e2 : ktF (tI f) a (b + 1 - a) k (c + 1) p = p := if_pos h18
        refine j_iload 29 dX3_kthPlace_27 rfl ?_
        exact j_iret dX3_kthPlace_29 rfl rfl ⟨congrArg (fun z => some (Value.int (iI z))) (by rw [← he]; first | rfl | rw [e2]), rfl⟩
      · have e2 : ktF (tI f) a (b + 1 - a) k (c + 1) p = ktF (tI f) a (b + 1 - a) k c (p + 1) := if_neg h18
        refine j_iinc 24 (lv' := [(0, _), (1, _), (2, _), (3, _), (4, _)]) dX3_kthPlace_21 rfl rfl ⟨rfl, rfl⟩ ?_
        refine j_goto 3 dX3_kthPlace_24 ?_
        exact ih (p + 1) (by omega) (by omega) (by omega) (by rw [show b - (p + 1) = c by omega, ← e2, he])

set_option maxRecDepth 100000 in
set_option maxHeartbeats 4000000 in
theorem c_X3_kthPlace (E : jD) (x0 x1 x2 x3 x4 x6 : Nat) (wd bl : Int) (n : Nat) (f : Nat → Int32) (a b : Nat) (k : Int) (hb : b < 48) (hab : a ≤ b) (hk : jr k) : MC E Y_X3_kthPlace [.ref x0, .int (iI (a : Int)), .int (iI (b : Int)), .int (iI k)] [(x0, jO 3 [.ref x1, .ref x3, .ref x4, .ref x6, .int (iI wd), .int (iI bl)]), (x1, jO 4 [.ref x2, .int (iI (n : Int))]), (x2, jA E 48 f)] (fun r N0 => r = some (.int (iI ((ktF (tI f) a (b + 1 - a) k (b - a) a : Nat)))) ∧ N0 = [(x0, jO 3 [.ref x1, .ref x3, .ref x4, .ref x6, .int (iI wd), .int (iI bl)]), (x1, jO 4 [.ref x2, .int (iI (n : Int))]), (x2, jA E 48 f)]) := by
  refine MC.of (by decide) rfl rfl ?_
  refine j_iload_1 1 dX3_kthPlace_0 rfl ?_
  refine j_istore 3 (lv' := [(0, _), (1, _), (2, _), (3, _), (4, _)]) dX3_kthPlace_1 rfl ⟨rfl, rfl⟩ ?_
  exact lp_kthPlace E x0 x1 x2 x3 x4 x6 wd bl n f a b k hb hab hk (b + 1) a (by omega) (by omega) (by omega) rfl
end
section
set_option maxRecDepth 100000 in
set_option maxHeartbeats 4000000 in
theorem lp_shapeNow_in (E : jD) (x0 x1 x2 x3 x4 x6 : Nat) (wd : Nat) (bl : Int) (n : Nat) (f pl : Nat → Int32) (Z : jZ) (b fr len c : Nat) (hc : fr + c < 48) : ∀ (P : List Int) (m : Nat), pileIs pl P → P.length ≤ 6 →
    J E Y_X3_shapeNow Z 0 0 85 [(0, .ref x0), (1, .int (iI (b : Int))), (2, .int (iI (fr : Int))), (3, .int (iI ((fr + len : Nat) : Int))), (4, .int (iI (((popF ((tI f) (fr + c)) P m).2 : Nat) : Int))), (5, .int (iI (((popF ((tI f) (fr + c)) P m).1.length : Nat) : Int))), (6, .int (iI ((fr + c : Nat) : Int)))] [] [(x0, jO 3 [.ref x1, .ref x3, .ref x4, .ref x6, .int (iI (wd : Int)), .int (iI bl)]), (x1, jO 4 [.ref x2, .int (iI (n : Int))]), (x2, jA E 48 f), (x6, jA E 6 pl)] → J E Y_X3_shapeNow Z 0 0 46 [(0, .ref x0), (1, .int (iI (b : Int))), (2, .int (iI (fr : Int))), (3, .int (iI ((fr + len : Nat) : Int))), (4, .int (iI (m : Int))), (5, .int (iI ((P.length : Nat) : Int))), (6, .int (iI ((fr + c : Nat) : Int)))] [] [(x0, jO 3 [.ref x1, .ref x3, .ref x4, .ref x6, .int (iI (wd : Int)), .int (iI bl)]), (x1, jO 4 [.ref x2, .int (iI (n : Int))]), (x2, jA E 48 f), (x6, jA E 6 pl)] := by
  intro P
  induction P with
  | nil =>
    intro m hp hl kk
    refine j_iload 48 dX3_shapeNow_46 rfl ?_
    refine j_if_le 85 51 dX3_shapeNow_48 (by first | exact iI_rng _ | exact bI_r _ | exact ⟨by omega, by omega⟩) (fun h48 => ?_) (fun h48 => ?_)
    · exact kk
    · exact absurd (show ((List.length ([] : List Int) : Nat) : Int) ≤ 0 from by simp) h48
  | cons t P ih =>
    intro m hp hl kk
    rw [List.length_cons] at hl
    refine j_iload 48 dX3_shapeNow_46 rfl ?_
    refine j_if_le 85 51 dX3_shapeNow_48 (by rw [List.length_cons]; exact ⟨by omega, by omega⟩) (fun h48 => ?_) (fun h48 => ?_)
    · rw [List.length_cons] at h48; omega
    · refine j_aload_0 52 dX3_shapeNow_51 rfl ?_
      refine j_get 55 0 gf_X3_29 dX3_shapeNow_52 rfl rfl ?_
      refine j_iload 57 dX3_shapeNow_55 rfl ?_
      refine j_iconst 58 dX3_shapeNow_57 ?_
      refine j_isub 59 dX3_shapeNow_58 ?_
      refine j_ialdw 60 3 (P.length) (t) dX3_shapeNow_59 rfl rfl (by rw [List.length_cons]; omega) (by omega) (by rw [← hp.1, iI_x]) ?_
      refine j_aload_0 61 dX3_shapeNow_60 rfl ?_
      refine j_get 64 0 gf_X3_12 dX3_shapeNow_61 rfl rfl ?_
      refine j_get 67 1 gf_X3_65 dX3_shapeNow_64 rfl rfl ?_
      refine j_iload 69 dX3_shapeNow_67 rfl ?_
      refine j_iald 70 2 _ dX3_shapeNow_69 rfl rfl rfl (by omega) ?_
      refine j_icmp_le 85 73 dX3_shapeNow_70 (by rw [← hp.1]; exact iI_rng _) (by first | exact iI_rng _ | exact bI_r _ | exact ⟨by omega, by omega⟩) (fun h70 => ?_) (fun h70 => ?_)
      · have e : popF ((tI f) (fr + c)) (t :: P) m = (t :: P, m) := if_neg (by show ¬ (f (fr + c)).toInt < t; omega)
        rw [e] at kk
        exact kk
      · have e : popF ((tI f) (fr + c)) (t :: P) m = popF ((tI f) (fr + c)) P (2 * m) := if_pos (by show (f (fr + c)).toInt < t; omega)
        rw [e] at kk
        refine j_iinc 76 (lv' := [(0, _), (1, _), (2, _), (3, _), (4, _), (5, _), (6, _)]) dX3_shapeNow_73 rfl rfl ⟨rfl, rfl⟩ ?_
        refine j_iconst 77 dX3_shapeNow_76 ?_
        refine j_iload 79 dX3_shapeNow_77 rfl ?_
        refine j_imul 80 dX3_shapeNow_79 ?_
        refine j_istore 82 (lv' := [(0, _), (1, _), (2, _), (3, _), (4, _), (5, _), (6, _)]) dX3_shapeNow_80 rfl ⟨rfl, rfl⟩ ?_
        refine j_goto 46 dX3_shapeNow_82 ?_
        refine j_eqL (lv' := [(0, .ref x0), (1, .int (iI (b : Int))), (2, .int (iI (fr : Int))), (3, .int (iI ((fr + len : Nat) : Int))), (4, .int (iI (((2 * m : Nat) : Int) : Int))), (5, .int (iI ((P.length : Nat) : Int))), (6, .int (iI ((fr + c : Nat) : Int)))]) (by rw [List.length_cons, show ((P.length + 1 : Nat) : Int) + -1 = (P.length : Int) by omega]; rfl) ?_
        exact ih (2 * m) hp.2 (by omega) kk

set_option maxRecDepth 100000 in
set_option maxHeartbeats 4000000 in
theorem lp_shapeNow (E : jD) (x0 x1 x2 x3 x4 x6 : Nat) (wd : Nat) (bl : Int) (n : Nat) (f : Nat → Int32) (b fr len : Nat) (hl : len ≤ 6) (hf : fr + len ≤ 48) : ∀ (d : Nat) (c : Nat) (pl : Nat → Int32), len - c < d → (c ≤ len) → (pileIs pl (shG (tI f) fr c).1) → J E Y_X3_shapeNow (jZm E Y_X3_shapeNow (fun r N0 => ∃ pl2, r = some (.int (iI ((shG (tI f) fr len).2 : Nat))) ∧ N0 = [(x0, jO 3 [.ref x1, .ref x3, .ref x4, .ref x6, .int (iI (wd : Int)), .int (iI bl)]), (x1, jO 4 [.ref x2, .int (iI (n : Int))]), (x2, jA E 48 f), (x6, jA E 6 pl2)])) 0 0 33 [(0, .ref x0), (1, .int (iI (b : Int))), (2, .int (iI (fr : Int))), (3, .int (iI ((fr + len : Nat) : Int))), (4, .int (iI (((shG (tI f) fr c).2 : Nat) : Int))), (5, .int (iI (((shG (tI f) fr c).1.length : Nat) : Int))), (6, .int (iI ((fr + c : Nat) : Int)))] [] [(x0, jO 3 [.ref x1, .ref x3, .ref x4, .ref x6, .int (iI (wd : Int)), .int (iI bl)]), (x1, jO 4 [.ref x2, .int (iI (n : Int))]), (x2, jA E 48 f), (x6, jA E 6 pl)] := by
  intro d
  induction d with
  | zero => intros; omega
  | succ d ih =>
    intro c pl hd hc hp
    have hs := shG_len (tI f) fr c
    refine j_iload 35 dX3_shapeNow_33 rfl ?_
    refine j_iload_3 36 dX3_shapeNow_35 rfl ?_
    refine j_icmp_ge 119 39 dX3_shapeNow_36 (by first | exact iI_rng _ | exact bI_r _ | exact ⟨by omega, by omega⟩) (by first | exact iI_rng _ | exact bI_r _ | exact ⟨by omega, by omega⟩) (fun h36 => ?_) (fun h36 => ?_)
    · have e : c = len := by omega
      subst e
      refine j_iload 121 dX3_shapeNow_119 rfl ?_
      exact j_iret dX3_shapeNow_121 rfl rfl ⟨pl, rfl, rfl⟩
    · refine j_iload 41 dX3_shapeNow_39 rfl ?_
      refine j_bipush 43 dX3_shapeNow_41 (by decide +kernel) ?_
      refine j_icmp_ge 119 46 dX3_shapeNow_43 (by first | exact iI_rng _ | exact bI_r _ | exact ⟨by omega, by omega⟩) (by first | exact iI_rng _ | exact bI_r _ | exact ⟨by omega, by omega⟩) (fun h43 => ?_) (fun h43 => ?_)
      · omega
      · refine lp_shapeNow_in E x0 x1 x2 x3 x4 x6 wd bl n f pl _ b fr len c (by omega) _ _ hp (by omega) ?_
        have hq := popF_len ((tI f) (fr + c)) (shG (tI f) fr c).1 (shG (tI f) fr c).2
        refine j_aload_0 86 dX3_shapeNow_85 rfl ?_
        refine j_get 89 0 gf_X3_29 dX3_shapeNow_86 rfl rfl ?_
        refine j_iload 91 dX3_shapeNow_89 rfl ?_
        refine j_aload_0 92 dX3_shapeNow_91 rfl ?_
        refine j_get 95 0 gf_X3_12 dX3_shapeNow_92 rfl rfl ?_
        refine j_get 98 1 gf_X3_65 dX3_shapeNow_95 rfl rfl ?_
        refine j_iload 100 dX3_shapeNow_98 rfl ?_
        refine j_ialdx 101 2 _ dX3_shapeNow_100 rfl rfl rfl (by omega) ?_
        refine j_iast 102 3 ((popF ((tI f) (fr + c)) (shG (tI f) fr c).1 (shG (tI f) fr c).2).1.length) dX3_shapeNow_101 rfl rfl rfl (by omega) ?_
        refine j_iinc 105 (lv' := [(0, _), (1, _), (2, _), (3, _), (4, _), (5, _), (6, _)]) dX3_shapeNow_102 rfl rfl ⟨rfl, rfl⟩ ?_
        refine j_iconst 106 dX3_shapeNow_105 ?_
        refine j_iload 108 dX3_shapeNow_106 rfl ?_
        refine j_imul 109 dX3_shapeNow_108 ?_
        refine j_iconst 110 dX3_shapeNow_109 ?_
        refine j_iadd 111 dX3_shapeNow_110 ?_
        refine j_istore 113 (lv' := [(0, _), (1, _), (2, _), (3, _), (4, _), (5, _), (6, _)]) dX3_shapeNow_111 rfl ⟨rfl, rfl⟩ ?_
        refine j_iinc 116 (lv' := [(0, _), (1, _), (2, _), (3, _), (4, _), (5, _), (6, _)]) dX3_shapeNow_113 rfl rfl ⟨rfl, rfl⟩ ?_
        refine j_goto 33 dX3_shapeNow_116 ?_
        refine ih (c + 1) _ (by omega) (by omega) ?_
        exact pileIs_push (x := f (fr + c)) (pileIs_pop _ hp)

set_option maxRecDepth 100000 in
set_option maxHeartbeats 4000000 in
theorem c_X3_shapeNow (E : jD) (x0 x1 x2 x3 x4 x6 : Nat) (wd : Nat) (bl : Int) (n : Nat) (f pl : Nat → Int32) (b fr : Nat) (hw : 1 ≤ wd ∧ wd ≤ 6) (hn : n ≤ 48) (hfr : b * wd = fr) (hb : fr ≤ n) (hbb : b ≤ 48) : MC E Y_X3_shapeNow [.ref x0, .int (iI (b : Int))] [(x0, jO 3 [.ref x1, .ref x3, .ref x4, .ref x6, .int (iI (wd : Int)), .int (iI bl)]), (x1, jO 4 [.ref x2, .int (iI (n : Int))]), (x2, jA E 48 f), (x6, jA E 6 pl)] (fun r N0 => ∃ pl2, r = some (.int (iI ((shG (tI f) fr (min wd (n - fr))).2 : Nat))) ∧ N0 = [(x0, jO 3 [.ref x1, .ref x3, .ref x4, .ref x6, .int (iI (wd : Int)), .int (iI bl)]), (x1, jO 4 [.ref x2, .int (iI (n : Int))]), (x2, jA E 48 f), (x6, jA E 6 pl2)]) := by
  refine MC.of (by decide) rfl rfl ?_
  refine j_iload_1 1 dX3_shapeNow_0 rfl ?_
  refine j_aload_0 2 dX3_shapeNow_1 rfl ?_
  refine j_get 5 0 gf_X3_32 dX3_shapeNow_2 rfl rfl ?_
  refine j_imul 6 dX3_shapeNow_5 ?_
  refine j_top ((fr : Nat) : Int) (congrArg iI (by rw [← hfr]; rfl)) ?_
  refine j_istore_2 7 (lv' := [(0, _), (1, _), (2, _)]) dX3_shapeNow_6 rfl ⟨rfl, rfl⟩ ?_
  refine j_iload_2 8 dX3_shapeNow_7 rfl ?_
  refine j_aload_0 9 dX3_shapeNow_8 rfl ?_
  refine j_get 12 0 gf_X3_32 dX3_shapeNow_9 rfl rfl ?_
  refine j_iadd 13 dX3_shapeNow_12 ?_
  refine j_aload_0 14 dX3_shapeNow_13 rfl ?_
  refine j_get 17 0 gf_X3_12 dX3_shapeNow_14 rfl rfl ?_
  refine j_get 20 1 gf_X3_47 dX3_shapeNow_17 rfl rfl ?_
  refine j_min 23 wml_X3_68 dX3_shapeNow_20 (by first | exact iI_rng _ | exact bI_r _ | exact ⟨by omega, by omega⟩) (by first | exact iI_rng _ | exact bI_r _ | exact ⟨by omega, by omega⟩) rfl ?_
  refine j_top ((fr + min wd (n - fr) : Nat) : Int) (congrArg iI (by omega)) ?_
  refine j_istore_3 24 (lv' := [(0, _), (1, _), (2, _), (3, _)]) dX3_shapeNow_23 rfl ⟨rfl, rfl⟩ ?_
  refine j_iconst 25 dX3_shapeNow_24 ?_
  refine j_istore 27 (lv' := [(0, _), (1, _), (2, _), (3, _), (4, _)]) dX3_shapeNow_25 rfl ⟨rfl, rfl⟩ ?_
  refine j_iconst 28 dX3_shapeNow_27 ?_
  refine j_istore 30 (lv' := [(0, _), (1, _), (2, _), (3, _), (4, _), (5, _)]) dX3_shapeNow_28 rfl ⟨rfl, rfl⟩ ?_
  refine j_iload_2 31 dX3_shapeNow_30 rfl ?_
  refine j_istore 33 (lv' := [(0, _), (1, _), (2, _), (3, _), (4, _), (5, _), (6, _)]) dX3_shapeNow_31 rfl ⟨rfl, rfl⟩ ?_
  exact lp_shapeNow E x0 x1 x2 x3 x4 x6 wd bl n f b fr (min wd (n - fr)) (by omega) (by omega) (min wd (n - fr) + 1) 0 pl (by omega) (by omega) trivial

theorem jr_nat {n : Nat} (h : n < 2147483648) : jr (n : Int) := ⟨by omega, by omega⟩
theorem dg_shr : ∀ k, k < 32 → (((iI ((k : Nat) : Int)) &&& 31).toBitVec.smod 32).toNat = k := by decide +kernel
theorem iI_shrk {s k : Nat} (h : s < 2147483648) (hk : k < 32) : iI (s : Int) >>> (iI (k : Int) &&& 31) = iI ((s / 2 ^ k : Nat) : Int) := iI_shr (k : Int) k h (dg_shr k hk)

set_option maxRecDepth 100000 in
set_option maxHeartbeats 4000000 in
theorem lp_leadingDigit (E : jD) (s : Nat) (hs : s < 4096) : ∀ (d : Nat) (k : Nat), k < d → (k ≤ 11) → (ldF s k = ldF s 11) → J E Y_X3_leadingDigit (jZm E Y_X3_leadingDigit (fun r N0 => r = some (.int (iI ((ldF s 11 : Nat)))) ∧ N0 = [])) 0 0 3 [(0, .int (iI (s : Int))), (1, .int (iI (k : Int)))] [] [] := by
  intro d
  induction d with
  | zero => intros; omega
  | succ d ih =>
    intro k hd hk he
    refine j_iload_1 4 dX3_leadingDigit_3 rfl ?_
    refine j_if_le 19 7 dX3_leadingDigit_4 (by first | exact iI_rng _ | exact bI_r _ | exact ⟨by omega, by omega⟩) (fun h4 => ?_) (fun h4 => ?_)
    · have e : k = 0 := by omega
      subst e
      refine j_iload_1 20 dX3_leadingDigit_19 rfl ?_
      exact j_iret dX3_leadingDigit_20 rfl rfl ⟨congrArg (fun z => some (Value.int (iI z))) (by rw [← he]; first | rfl | rw [e2]), rfl⟩
    · obtain ⟨k, rfl⟩ : ∃ q, k = q + 1 := ⟨k - 1, by omega⟩
      have hle := Nat.div_le_self s (2 ^ (k + 1))
      refine j_iload_0 8 dX3_leadingDigit_7 rfl ?_
      refine j_iload_1 9 dX3_leadingDigit_8 rfl ?_
      refine j_ishr 10 dX3_leadingDigit_9 ?_
      refine j_top _ (iI_shrk (by omega) (by omega)) ?_
      refine j_if_ne 19 13 dX3_leadingDigit_10 (jr_nat (by omega)) (fun h10 => ?_) (fun h10 => ?_)
      · have e2 : ldF s (k + 1) = k + 1 := if_neg (by omega)
        refine j_iload_1 20 dX3_leadingDigit_19 rfl ?_
        exact j_iret dX3_leadingDigit_20 rfl rfl ⟨congrArg (fun z => some (Value.int (iI z))) (by rw [← he]; first | rfl | rw [e2]), rfl⟩
      · have e2 : ldF s (k + 1) = ldF s k := if_pos (by omega)
        refine j_iinc 16 (lv' := [(0, _), (1, _)]) dX3_leadingDigit_13 rfl rfl ⟨rfl, rfl⟩ ?_
        refine j_goto 3 dX3_leadingDigit_16 ?_
        have h := ih k (by omega) (by omega) (by rw [← he, e2])
        rw [show ((k : Nat) : Int) = ((k + 1 : Nat) : Int) + -1 by omega] at h
        exact h

set_option maxRecDepth 100000 in
set_option maxHeartbeats 4000000 in
theorem c_X3_leadingDigit (E : jD) (s : Nat) (hs : s < 4096) : MC E Y_X3_leadingDigit [.int (iI (s : Int))] [] (fun r N0 => r = some (.int (iI ((ldF s 11 : Nat)))) ∧ N0 = []) := by
  refine MC.of (by decide) rfl rfl ?_
  refine j_bipush 2 dX3_leadingDigit_0 (by decide +kernel) ?_
  refine j_istore_1 3 (lv' := [(0, _), (1, _)]) dX3_leadingDigit_2 rfl ⟨rfl, rfl⟩ ?_
  exact lp_leadingDigit E s hs 12 11 (by omega) (by omega) rfl

set_option maxRecDepth 100000 in
set_option maxHeartbeats 4000000 in
theorem lp_tableEntry2 (E : jD) (x0 x1 x3 x4 x6 : Nat) (wd bl : Int) (pl : Nat → Int32) (s : Nat) (i j p : Int) (hi : jr i) (h : Nat) (hh : h ≤ 6) : ∀ (d : Nat) (k : Nat), h - k < d → (k ≤ h) → (fsF (tI pl) i j (h - k) k = teF s i j) → J E Y_X3_tableEntry (jZm E Y_X3_tableEntry (fun r N0 => ∃ pl2, r = some (.int (iI (teF s i j))) ∧ N0 = [(x0, jO 3 [.ref x1, .ref x3, .ref x4, .ref x6, .int (iI wd), .int (iI bl)]), (x6, jA E 6 pl2)])) 0 0 78 [(0, .ref x0), (1, .int (iI (s : Int))), (2, .int (iI i)), (3, .int (iI j)), (4, .int (iI (h : Int))), (5, .int (iI p)), (6, .int (iI (k : Int)))] [] [(x0, jO 3 [.ref x1, .ref x3, .ref x4, .ref x6, .int (iI wd), .int (iI bl)]), (x6, jA E 6 pl)] := by
  intro d
  induction d with
  | zero => intros; omega
  | succ d ih =>
    intro k hd hk he
    refine j_iload 80 dX3_tableEntry_78 rfl ?_
    refine j_iload 82 dX3_tableEntry_80 rfl ?_
    refine j_icmp_ge 110 85 dX3_tableEntry_82 (by first | exact iI_rng _ | exact bI_r _ | exact ⟨by omega, by omega⟩) (by first | exact iI_rng _ | exact bI_r _ | exact ⟨by omega, by omega⟩) (fun h82 => ?_) (fun h82 => ?_)
    · have e : k = h := by omega
      subst e
      rw [Nat.sub_self] at he
      refine j_iload_3 111 dX3_tableEntry_110 rfl ?_
      exact j_iret dX3_tableEntry_111 rfl rfl ⟨pl, congrArg (fun z => some (Value.int (iI z))) (by rw [← he]; rfl), rfl⟩
    · obtain ⟨c, hc⟩ : ∃ c, h - k = c + 1 := ⟨h - k - 1, by omega⟩
      rw [hc] at he
      refine j_aload_0 86 dX3_tableEntry_85 rfl ?_
      refine j_get 89 0 gf_X3_29 dX3_tableEntry_86 rfl rfl ?_
      refine j_iload 91 dX3_tableEntry_89 rfl ?_
      refine j_iald 92 1 _ dX3_tableEntry_91 rfl rfl rfl (by omega) ?_
      refine j_iload_2 93 dX3_tableEntry_92 rfl ?_
      refine j_icmp_lt 104 96 dX3_tableEntry_93 (by first | exact iI_rng _ | exact bI_r _ | exact ⟨by omega, by omega⟩) (by first | exact iI_rng _ | exact bI_r _ | exact ⟨by omega, by omega⟩) (fun h93 => ?_) (fun h93 => ?_)
      · have e2 : fsF (tI pl) i j (c + 1) k = fsF (tI pl) i j c (k + 1) := if_neg (by show ¬ i ≤ (pl k).toInt; omega)
        refine j_iinc 107 (lv' := [(0, _), (1, _), (2, _), (3, _), (4, _), (5, _), (6, _)]) dX3_tableEntry_104 rfl rfl ⟨rfl, rfl⟩ ?_
        refine j_goto 78 dX3_tableEntry_107 ?_
        exact ih (k + 1) (by omega) (by omega) (by rw [show h - (k + 1) = c by omega, ← e2, he])
      · have e2 : fsF (tI pl) i j (c + 1) k = (pl k).toInt := if_pos (by show i ≤ (pl k).toInt; omega)
        refine j_aload_0 97 dX3_tableEntry_96 rfl ?_
        refine j_get 100 0 gf_X3_29 dX3_tableEntry_97 rfl rfl ?_
        refine j_iload 102 dX3_tableEntry_100 rfl ?_
        refine j_iald 103 1 _ dX3_tableEntry_102 rfl rfl rfl (by omega) ?_
        exact j_iret dX3_tableEntry_103 rfl rfl ⟨pl, congrArg (fun z => some (Value.int (iI z))) (by rw [← he, e2]), rfl⟩

set_option maxRecDepth 100000 in
set_option maxHeartbeats 4000000 in
theorem lp_tableEntry (E : jD) (x0 x1 x3 x4 x6 : Nat) (wd bl : Int) (s : Nat) (hs : s < 4096) (i j : Int) (hi : jr i) (hj : 0 ≤ j ∧ j ≤ 6) : ∀ (d : Nat) (d0 : Nat) (P : List Int) (p : Int) (pl : Nat → Int32), d0 < d → (d0 ≤ 11) → (0 ≤ p ∧ p ≤ 7) → (P.length ≤ 6) → (pileIs pl P) → (teS s j d0 P p = teS s j (ldF s 11) [] 0) → J E Y_X3_tableEntry (jZm E Y_X3_tableEntry (fun r N0 => ∃ pl2, r = some (.int (iI (teF s i j))) ∧ N0 = [(x0, jO 3 [.ref x1, .ref x3, .ref x4, .ref x6, .int (iI wd), .int (iI bl)]), (x6, jA E 6 pl2)])) 0 0 14 [(0, .ref x0), (1, .int (iI (s : Int))), (2, .int (iI i)), (3, .int (iI j)), (4, .int (iI ((P.length : Nat) : Int))), (5, .int (iI p)), (6, .int (iI ((d0 : Int) - 1)))] [] [(x0, jO 3 [.ref x1, .ref x3, .ref x4, .ref x6, .int (iI wd), .int (iI bl)]), (x6, jA E 6 pl)] := by
  intro d
  induction d with
  | zero => intros; omega
  | succ d ih =>
    intro d0 P p pl hd hd0 hp0 hl hp he
    refine j_iload 16 dX3_tableEntry_14 rfl ?_
    refine j_if_lt 75 19 dX3_tableEntry_16 (by first | exact iI_rng _ | exact bI_r _ | exact ⟨by omega, by omega⟩) (fun h16 => ?_) (fun h16 => ?_)
    · have e : d0 = 0 := by omega
      subst e
      have e3 : teS s j 0 P p = (P, p) := rfl
      rw [e3] at he
      refine j_iconst 76 dX3_tableEntry_75 ?_
      refine j_istore 78 (lv' := [(0, _), (1, _), (2, _), (3, _), (4, _), (5, _), (6, _)]) dX3_tableEntry_76 rfl ⟨rfl, rfl⟩ ?_
      refine lp_tableEntry2 E x0 x1 x3 x4 x6 wd bl pl s i j p hi P.length hl (P.length + 1) 0 (by omega) (by omega) ?_
      rw [Nat.sub_zero, fsF_sc i P j hp]
      unfold teF
      rw [← he]
    · obtain ⟨d0, rfl⟩ : ∃ q, d0 = q + 1 := ⟨d0 - 1, by omega⟩
      refine j_iload 21 dX3_tableEntry_19 rfl ?_
      refine j_iload_3 22 dX3_tableEntry_21 rfl ?_
      refine j_icmp_gt 75 25 dX3_tableEntry_22 (by first | exact iI_rng _ | exact bI_r _ | exact ⟨by omega, by omega⟩) (by first | exact iI_rng _ | exact bI_r _ | exact ⟨by omega, by omega⟩) (fun h22 => ?_) (fun h22 => ?_)
      · have e3 : teS s j (d0 + 1) P p = (P, p) := if_pos (by omega)
        rw [e3] at he
        refine j_iconst 76 dX3_tableEntry_75 ?_
        refine j_istore 78 (lv' := [(0, _), (1, _), (2, _), (3, _), (4, _), (5, _), (6, _)]) dX3_tableEntry_76 rfl ⟨rfl, rfl⟩ ?_
        refine lp_tableEntry2 E x0 x1 x3 x4 x6 wd bl pl s i j p hi P.length hl (P.length + 1) 0 (by omega) (by omega) ?_
        rw [Nat.sub_zero, fsF_sc i P j hp]
        unfold teF
        rw [← he]
      · rw [show teS s j (d0 + 1) P p = if s / 2 ^ d0 % 2 = 0 then teS s j d0 P.tail p else if P.length < 6 then teS s j d0 (p :: P) (p + 1) else teS s j d0 P p from if_neg (by omega)] at he
        refine j_iload_1 26 dX3_tableEntry_25 rfl ?_
        refine j_iload 28 dX3_tableEntry_26 rfl ?_
        refine j_eqS (st' := [.int (iI ((d0 : Nat) : Int)), .int (iI (s : Int))]) (by rw [show ((d0 + 1 : Nat) : Int) - 1 = (d0 : Int) by omega]) ?_
        refine j_ishr 29 dX3_tableEntry_28 ?_
        refine j_top _ (iI_shrk (by omega) (by omega)) ?_
        have hle := Nat.div_le_self s (2 ^ d0)
        refine j_iconst 30 dX3_tableEntry_29 ?_
        refine j_iand 31 dX3_tableEntry_30 ?_
        refine j_top _ (iI_and 1 1 (by omega) (by decide +kernel)) ?_
        refine j_if_ne 47 34 dX3_tableEntry_31 (by first | exact iI_rng _ | exact bI_r _ | exact ⟨by omega, by omega⟩) (fun h31 => ?_) (fun h31 => ?_)
        · rw [if_neg (show ¬ s / 2 ^ d0 % 2 = 0 by omega)] at he
          refine j_iload 49 dX3_tableEntry_47 rfl ?_
          refine j_bipush 51 dX3_tableEntry_49 (by decide +kernel) ?_
          refine j_icmp_ge 69 54 dX3_tableEntry_51 (by first | exact iI_rng _ | exact bI_r _ | exact ⟨by omega, by omega⟩) (by first | exact iI_rng _ | exact bI_r _ | exact ⟨by omega, by omega⟩) (fun h51 => ?_) (fun h51 => ?_)
          · rw [if_neg (by omega)] at he
            have hq : P.length = 6 := by omega
            refine j_iinc 72 (lv' := [(0, _), (1, _), (2, _), (3, _), (4, _), (5, _), (6, _)]) dX3_tableEntry_69 rfl rfl ⟨rfl, rfl⟩ ?_
            refine j_goto 14 dX3_tableEntry_72 ?_
            have h := ih d0 P (p) pl (by omega) (by omega) (by omega) (by first | omega | (rw [List.length_tail]; omega) | (rw [List.length_cons]; omega)) hp he
            rw [show ((d0 : Nat) : Int) - 1 = ((d0 + 1 : Nat) : Int) - 1 + -1 by omega] at h
            exact h
          · rw [if_pos (by omega)] at he
            refine j_aload_0 55 dX3_tableEntry_54 rfl ?_
            refine j_get 58 0 gf_X3_29 dX3_tableEntry_55 rfl rfl ?_
            refine j_iload 60 dX3_tableEntry_58 rfl ?_
            refine j_iload 62 dX3_tableEntry_60 rfl ?_
            refine j_iast 63 1 (P.length) dX3_tableEntry_62 rfl rfl rfl (by omega) ?_
            refine j_iinc 66 (lv' := [(0, _), (1, _), (2, _), (3, _), (4, _), (5, _), (6, _)]) dX3_tableEntry_63 rfl rfl ⟨rfl, rfl⟩ ?_
            refine j_iinc 69 (lv' := [(0, _), (1, _), (2, _), (3, _), (4, _), (5, _), (6, _)]) dX3_tableEntry_66 rfl rfl ⟨rfl, rfl⟩ ?_
            refine j_iinc 72 (lv' := [(0, _), (1, _), (2, _), (3, _), (4, _), (5, _), (6, _)]) dX3_tableEntry_69 rfl rfl ⟨rfl, rfl⟩ ?_
            refine j_goto 14 dX3_tableEntry_72 ?_
            have h := ih d0 (p :: P) (p + 1) _ (by omega) (by omega) (by omega) (by first | omega | (rw [List.length_tail]; omega) | (rw [List.length_cons]; omega)) (by have h0 := pileIs_push (x := iI p) hp; rw [iI_t ⟨by omega, by omega⟩] at h0; exact h0) he
            rw [show ((d0 : Nat) : Int) - 1 = ((d0 + 1 : Nat) : Int) - 1 + -1 by omega] at h
            exact h
        · rw [if_pos (show s / 2 ^ d0 % 2 = 0 by omega)] at he
          refine j_iconst 35 dX3_tableEntry_34 ?_
          refine j_iload 37 dX3_tableEntry_35 rfl ?_
          refine j_iconst 38 dX3_tableEntry_37 ?_
          refine j_isub 39 dX3_tableEntry_38 ?_
          refine j_max 42 wml_X3_77 dX3_tableEntry_39 (by first | exact iI_rng _ | exact bI_r _ | exact ⟨by omega, by omega⟩) (by first | exact iI_rng _ | exact bI_r _ | exact ⟨by omega, by omega⟩) rfl ?_
          refine j_top ((P.tail.length : Nat) : Int) (congrArg iI (by rw [List.length_tail]; omega)) ?_
          refine j_istore 44 (lv' := [(0, _), (1, _), (2, _), (3, _), (4, _), (5, _), (6, _)]) dX3_tableEntry_42 rfl ⟨rfl, rfl⟩ ?_
          refine j_goto 69 dX3_tableEntry_44 ?_
          refine j_iinc 72 (lv' := [(0, _), (1, _), (2, _), (3, _), (4, _), (5, _), (6, _)]) dX3_tableEntry_69 rfl rfl ⟨rfl, rfl⟩ ?_
          refine j_goto 14 dX3_tableEntry_72 ?_
          have h := ih d0 P.tail (p) pl (by omega) (by omega) (by omega) (by first | omega | (rw [List.length_tail]; omega) | (rw [List.length_cons]; omega)) (by cases P with | nil => exact trivial | cons t P => exact hp.2) he
          rw [show ((d0 : Nat) : Int) - 1 = ((d0 + 1 : Nat) : Int) - 1 + -1 by omega] at h
          exact h

set_option maxRecDepth 100000 in
set_option maxHeartbeats 4000000 in
theorem c_X3_tableEntry (E : jD) (x0 x1 x3 x4 x6 : Nat) (wd bl : Int) (pl : Nat → Int32) (s : Nat) (i j : Int) (hs : s < 4096) (hi : jr i) (hj : 0 ≤ j ∧ j ≤ 6) : MC E Y_X3_tableEntry [.ref x0, .int (iI (s : Int)), .int (iI i), .int (iI j)] [(x0, jO 3 [.ref x1, .ref x3, .ref x4, .ref x6, .int (iI wd), .int (iI bl)]), (x6, jA E 6 pl)] (fun r N0 => ∃ pl2, r = some (.int (iI (teF s i j))) ∧ N0 = [(x0, jO 3 [.ref x1, .ref x3, .ref x4, .ref x6, .int (iI wd), .int (iI bl)]), (x6, jA E 6 pl2)]) := by
  refine MC.of (by decide) rfl rfl ?_
  refine j_iconst 1 dX3_tableEntry_0 ?_
  refine j_istore 3 (lv' := [(0, _), (1, _), (2, _), (3, _), (4, _)]) dX3_tableEntry_1 rfl ⟨rfl, rfl⟩ ?_
  refine j_iconst 4 dX3_tableEntry_3 ?_
  refine j_istore 6 (lv' := [(0, _), (1, _), (2, _), (3, _), (4, _), (5, _)]) dX3_tableEntry_4 rfl ⟨rfl, rfl⟩ ?_
  refine j_iload_1 7 dX3_tableEntry_6 rfl ?_
  refine j_callSi 10 Y_X3_leadingDigit [] [_] (c_X3_leadingDigit E s hs) m_X3_leadingDigit wml_X3_74 dX3_tableEntry_7 rfl rfl rfl rfl rfl rfl rfl ?_
  refine j_iconst 11 dX3_tableEntry_10 ?_
  refine j_isub 12 dX3_tableEntry_11 ?_
  refine j_istore 14 (lv' := [(0, _), (1, _), (2, _), (3, _), (4, _), (5, _), (6, _)]) dX3_tableEntry_12 rfl ⟨rfl, rfl⟩ ?_
  have hld := ldF_le s 11
  exact lp_tableEntry E x0 x1 x3 x4 x6 wd bl s hs i j hi hj 12 (ldF s 11) [] 0 pl (by omega) (by omega) (by omega) (by simp) trivial rfl
end
section
/-! how large a shape is -/
theorem popF_w (v : Int) : ∀ (P : List Int) (m : Nat), ((popF v P m).2 + 1) * 2 ^ (popF v P m).1.length ≤ (m + 1) * 2 ^ P.length
  | [], m => Nat.le_refl _
  | t :: P, m => by
    unfold popF
    split
    · refine Nat.le_trans (popF_w v P (2 * m)) ?_
      rw [List.length_cons, Nat.pow_succ, ← Nat.mul_assoc, Nat.mul_right_comm]
      exact Nat.mul_le_mul_right _ (by omega)
    · exact Nat.le_refl _
theorem shG_w (g : Nat → Int) (a : Nat) : ∀ c, ((shG g a c).2 + 1) * 2 ^ (shG g a c).1.length ≤ 2 ^ (2 * c + 1)
  | 0 => Nat.le_refl _
  | c + 1 => by
    have h1 := shG_w g a c
    have h2 := popF_w (g (a + c)) (shG g a c).1 (shG g a c).2
    have h3 := Nat.le_trans h2 h1
    show (2 * (popF (g (a + c)) (shG g a c).1 (shG g a c).2).2 + 1 + 1) * 2 ^ ((popF (g (a + c)) (shG g a c).1 (shG g a c).2).1.length + 1) ≤ _
    generalize (popF (g (a + c)) (shG g a c).1 (shG g a c).2).2 = m at h3 ⊢
    generalize (popF (g (a + c)) (shG g a c).1 (shG g a c).2).1.length = k at h3 ⊢
    have e1 : (2 * m + 1 + 1) * 2 ^ (k + 1) = 4 * ((m + 1) * 2 ^ k) := by
      rw [Nat.pow_succ, show 2 * m + 1 + 1 = 2 * (m + 1) by omega, Nat.mul_comm (2 ^ k) 2, ← Nat.mul_assoc, Nat.mul_right_comm 2 (m + 1) 2, ← Nat.mul_assoc]
    have e2 : 2 ^ (2 * (c + 1) + 1) = 4 * 2 ^ (2 * c + 1) := by
      rw [show 2 * (c + 1) + 1 = (2 * c + 1) + 1 + 1 by omega, Nat.pow_succ, Nat.pow_succ]; omega
    rw [e1, e2]
    exact Nat.mul_le_mul_left 4 h3
theorem shG_lt (g : Nat → Int) (a : Nat) {c : Nat} (hc : c ≤ 6) : (shG g a c).2 < 4096 := by
  cases c with
  | zero => show 1 < 4096; decide
  | succ c =>
    have h := shG_w g a (c + 1)
    have e : (shG g a (c + 1)).1.length = (popF (g (a + c)) (shG g a c).1 (shG g a c).2).1.length + 1 := rfl
    rw [e, Nat.pow_succ, ← Nat.mul_assoc] at h
    have h2 : 2 ^ (2 * (c + 1) + 1) ≤ 2 ^ 13 := Nat.pow_le_pow_right (by decide) (by omega)
    have h3 : (shG g a (c + 1)).2 + 1 ≤ ((shG g a (c + 1)).2 + 1) * 2 ^ (popF (g (a + c)) (shG g a c).1 (shG g a c).2).1.length := Nat.le_mul_of_pos_right _ (Nat.pow_pos (by decide))
    omega
theorem shB_lt (g : Nat → Int) (n : Nat) {w : Nat} (b : Nat) (hw : w ≤ 6) : shB g n w b < 4096 := shG_lt g _ (by omega)
/-! blocks -/
def nB (n w : Nat) : Nat := (n + w - 1) / w
theorem nB_in {n w b : Nat} (hw : 1 ≤ w) (hb : b < nB n w) : b * w < n := by
  unfold nB at hb
  have h1 : (b + 1) * w ≤ (n + w - 1) / w * w := Nat.mul_le_mul_right w hb
  have h2 := Nat.div_mul_le_self (n + w - 1) w
  rw [Nat.succ_mul] at h1
  omega
theorem nB_le {n w : Nat} (hw : 1 ≤ w) : nB n w ≤ n := by
  unfold nB
  by_cases hn : n = 0
  · subst hn
    rw [Nat.div_eq_of_lt (by omega)]
    exact Nat.le_refl _
  · refine Nat.div_le_of_le_mul ?_
    have h : n + w ≤ w * n + 1 := by
      obtain ⟨a, rfl⟩ : ∃ a, n = a + 1 := ⟨n - 1, by omega⟩
      obtain ⟨c, rfl⟩ : ∃ c, w = c + 1 := ⟨w - 1, by omega⟩
      rw [Nat.succ_mul, Nat.mul_succ]
      omega
    omega
theorem nB_div {n w i : Nat} (hw : 1 ≤ w) (hi : i < n) : i / w < nB n w := by
  unfold nB
  rw [Nat.lt_div_iff_mul_lt (by omega)]
  have := Nat.div_mul_le_self i w
  omega
/-! sets -/
def inW (w : Nat → Int64) (s : Nat) : Nat → Int64 := if wB w s = true then w else incW w s
def inM (w : Nat → Int64) (m : Int) (s : Nat) : Int := if wB w s = true then m else m + 1
/-- all blocks' shapes, put into an empty set -/
def inB (g : Nat → Int) (n wd : Nat) (w : Nat → Int64) : Nat → (Nat → Int64) × Int
  | 0 => (w, 0)
  | b + 1 => (inW (inB g n wd w b).1 (shB g n wd b), inM (inB g n wd w b).1 (inB g n wd w b).2 (shB g n wd b))
def shU (sh : Nat → Int32) (g : Nat → Int) (n wd k : Nat) : Nat → Int32 := fun j => if j < k then iI (shB g n wd j : Nat) else sh j
theorem shU_0 (sh : Nat → Int32) (g : Nat → Int) (n wd : Nat) : shU sh g n wd 0 = sh := by funext j; simp [shU]
theorem shU_s (sh : Nat → Int32) (g : Nat → Int) (n wd k : Nat) : upd (shU sh g n wd k) k (iI (shB g n wd k : Nat)) = shU sh g n wd (k + 1) := by
  funext j
  unfold upd shU
  by_cases h : j = k
  · subst h; simp
  · by_cases h2 : j < k
    · simp [h, h2, Nat.lt_succ_of_lt h2]
    · have h3 : ¬ j < k + 1 := by omega
      simp [h, h2, h3]
theorem p2x (r d : Nat) : 2 * r * 2 ^ d = r * 2 ^ (d + 1) := by
  rw [Nat.pow_succ, Nat.mul_comm (2 ^ d) 2, ← Nat.mul_assoc, Nat.mul_comm r 2]
theorem lvF_big {b r : Nat} (h : b < r) : ∀ d, lvF b d r = 0
  | 0 => rfl
  | d + 1 => if_pos h
theorem enF_big {b r : Nat} (h : b < r) : ∀ d, enF b d r = 0
  | 0 => rfl
  | d + 1 => if_pos h
theorem lvF_le (b : Nat) : ∀ d r, lvF b d r ≤ d
  | 0, _ => Nat.le_refl _
  | d + 1, r => by
    have := lvF_le b d (2 * r)
    unfold lvF
    split <;> omega
end
section
theorem c_X5_include (E : jD) (a b : Nat) (m : Int) (w : Nat → Int64) (s : Nat) (hs : s < 4096) : MC E Y_X5_include [.ref a, .int (iI (s : Int))] [(a, jO 5 [.ref b, .int (iI m)]), (b, jL E 64 w)] (fun r N0 => r = none ∧ N0 = [(a, jO 5 [.ref b, .int (iI (inM w m s))]), (b, jL E 64 (inW w s))]) := by
  unfold inM inW
  cases hw : wB w s with
  | true =>
    rw [if_pos rfl, if_pos rfl]
    exact c_X5_include_y E a b m w s hs hw
  | false =>
    rw [if_neg (by decide), if_neg (by decide)]
    exact c_X5_include_n E a b m w s hs hw

set_option maxRecDepth 100000 in
set_option maxHeartbeats 4000000 in
theorem lp_unlike_in (E : jD) (x0 x1 x3 x4 x6 : Nat) (wd : Int) (nb : Nat) (sh : Nat → Int32) (Z : jZ) (u b : Nat) (hb : b < 48) : ∀ (d : Nat) (k : Nat), b - k < d → (k ≤ b) → (J E Y_X3_unlikeShapes Z 0 0 40 [(0, .ref x0), (1, .int (iI (u : Int))), (2, .int (iI (b : Int))), (3, .int (iI ((saF (tI sh) b (b - k) k : Nat) : Int)))] [] [(x0, jO 3 [.ref x1, .ref x3, .ref x4, .ref x6, .int (iI wd), .int (iI (nb : Int))]), (x3, jA E 48 sh)]) → J E Y_X3_unlikeShapes Z 0 0 14 [(0, .ref x0), (1, .int (iI (u : Int))), (2, .int (iI (b : Int))), (3, .int (iI (k : Int)))] [] [(x0, jO 3 [.ref x1, .ref x3, .ref x4, .ref x6, .int (iI wd), .int (iI (nb : Int))]), (x3, jA E 48 sh)] := by
  intro d
  induction d with
  | zero => intros; omega
  | succ d ih =>
    intro k hd hk kk
    refine j_iload_3 15 dX3_unlikeShapes_14 rfl ?_
    refine j_iload_2 16 dX3_unlikeShapes_15 rfl ?_
    refine j_icmp_ge 40 19 dX3_unlikeShapes_16 (by first | exact iI_rng _ | exact bI_r _ | exact ⟨by omega, by omega⟩) (by first | exact iI_rng _ | exact bI_r _ | exact ⟨by omega, by omega⟩) (fun h16 => ?_) (fun h16 => ?_)
    · have e : saF (tI sh) b (b - k) k = k := by rw [show b - k = 0 by omega]; rfl
      rw [e] at kk
      exact kk
    · obtain ⟨c, hc⟩ : ∃ c, b - k = c + 1 := ⟨b - k - 1, by omega⟩
      rw [hc] at kk
      refine j_aload_0 20 dX3_unlikeShapes_19 rfl ?_
      refine j_get 23 0 gf_X3_18 dX3_unlikeShapes_20 rfl rfl ?_
      refine j_iload_3 24 dX3_unlikeShapes_23 rfl ?_
      refine j_iald 25 1 _ dX3_unlikeShapes_24 rfl rfl rfl (by omega) ?_
      refine j_aload_0 26 dX3_unlikeShapes_25 rfl ?_
      refine j_get 29 0 gf_X3_18 dX3_unlikeShapes_26 rfl rfl ?_
      refine j_iload_2 30 dX3_unlikeShapes_29 rfl ?_
      refine j_iald 31 1 _ dX3_unlikeShapes_30 rfl rfl rfl (by omega) ?_
      refine j_icmp_eq 40 34 dX3_unlikeShapes_31 (by first | exact iI_rng _ | exact bI_r _ | exact ⟨by omega, by omega⟩) (by first | exact iI_rng _ | exact bI_r _ | exact ⟨by omega, by omega⟩) (fun h31 => ?_) (fun h31 => ?_)
      · rw [show saF (tI sh) b (c + 1) k = k from if_pos h31] at kk
        exact kk
      · rw [show saF (tI sh) b (c + 1) k = saF (tI sh) b c (k + 1) from if_neg h31] at kk
        refine j_iinc 37 (lv' := [(0, _), (1, _), (2, _), (3, _)]) dX3_unlikeShapes_34 rfl rfl ⟨rfl, rfl⟩ ?_
        refine j_goto 14 dX3_unlikeShapes_37 ?_
        exact ih (k + 1) (by omega) (by omega) (by rw [show b - (k + 1) = c by omega]; exact kk)

set_option maxRecDepth 100000 in
set_option maxHeartbeats 4000000 in
theorem lp_unlike (E : jD) (x0 x1 x3 x4 x6 : Nat) (wd : Int) (nb : Nat) (sh : Nat → Int32) (hn : nb ≤ 48) : ∀ (d : Nat) (b : Nat), nb - b < d → (b ≤ nb) → J E Y_X3_unlikeShapes (jZm E Y_X3_unlikeShapes (fun r N0 => r = some (.int (iI ((unF (tI sh) nb : Nat)))) ∧ N0 = [(x0, jO 3 [.ref x1, .ref x3, .ref x4, .ref x6, .int (iI wd), .int (iI (nb : Int))]), (x3, jA E 48 sh)])) 0 0 4 [(0, .ref x0), (1, .int (iI ((unF (tI sh) b : Nat) : Int))), (2, .int (iI (b : Int)))] [] [(x0, jO 3 [.ref x1, .ref x3, .ref x4, .ref x6, .int (iI wd), .int (iI (nb : Int))]), (x3, jA E 48 sh)] := by
  intro d
  induction d with
  | zero => intros; omega
  | succ d ih =>
    intro b hd hb
    have hu := unF_le (tI sh) b
    refine j_iload_2 5 dX3_unlikeShapes_4 rfl ?_
    refine j_aload_0 6 dX3_unlikeShapes_5 rfl ?_
    refine j_get 9 0 gf_X3_36 dX3_unlikeShapes_6 rfl rfl ?_
    refine j_icmp_ge 54 12 dX3_unlikeShapes_9 (by first | exact iI_rng _ | exact bI_r _ | exact ⟨by omega, by omega⟩) (by first | exact iI_rng _ | exact bI_r _ | exact ⟨by omega, by omega⟩) (fun h9 => ?_) (fun h9 => ?_)
    · have e : b = nb := by omega
      subst e
      refine j_iload_1 55 dX3_unlikeShapes_54 rfl ?_
      exact j_iret dX3_unlikeShapes_55 rfl rfl ⟨rfl, rfl⟩
    · refine j_iconst 13 dX3_unlikeShapes_12 ?_
      refine j_istore_3 14 (lv' := [(0, _), (1, _), (2, _), (3, _)]) dX3_unlikeShapes_13 rfl ⟨rfl, rfl⟩ ?_
      refine lp_unlike_in E x0 x1 x3 x4 x6 wd nb sh _ (unF (tI sh) b) b (by omega) (b + 1) 0 (by omega) (by omega) ?_
      have hsa := saF_in (tI sh) b (b - 0) 0
      refine j_iload_3 41 dX3_unlikeShapes_40 rfl ?_
      refine j_iload_2 42 dX3_unlikeShapes_41 rfl ?_
      refine j_icmp_ne 48 45 dX3_unlikeShapes_42 (by first | exact iI_rng _ | exact bI_r _ | exact ⟨by omega, by omega⟩) (by first | exact iI_rng _ | exact bI_r _ | exact ⟨by omega, by omega⟩) (fun h42 => ?_) (fun h42 => ?_)
      · have e : unF (tI sh) (b + 1) = unF (tI sh) b := by
          show unF (tI sh) b + _ = _
          rw [if_neg (fun z => h42 (by rw [(saF_new (tI sh) b (b - 0) 0 (by omega)).mpr (fun j _ hj => z j hj)])), Nat.add_zero]
        refine j_iinc 51 (lv' := [(0, _), (1, _), (2, _), (3, _)]) dX3_unlikeShapes_48 rfl rfl ⟨rfl, rfl⟩ ?_
        refine j_goto 4 dX3_unlikeShapes_51 ?_
        refine j_take 3 ?_
        have h := ih (b + 1) (by omega) (by omega)
        rw [e] at h
        exact h
      · have e : unF (tI sh) (b + 1) = unF (tI sh) b + 1 := by
          show unF (tI sh) b + _ = _
          rw [if_pos (fun j hj => (saF_new (tI sh) b (b - 0) 0 (by omega)).mp (by omega) j (by omega) hj)]
        refine j_iinc 48 (lv' := [(0, _), (1, _), (2, _), (3, _)]) dX3_unlikeShapes_45 rfl rfl ⟨rfl, rfl⟩ ?_
        refine j_iinc 51 (lv' := [(0, _), (1, _), (2, _), (3, _)]) dX3_unlikeShapes_48 rfl rfl ⟨rfl, rfl⟩ ?_
        refine j_goto 4 dX3_unlikeShapes_51 ?_
        refine j_take 3 ?_
        have h := ih (b + 1) (by omega) (by omega)
        rw [e] at h
        exact h

set_option maxRecDepth 100000 in
set_option maxHeartbeats 4000000 in
theorem c_X3_unlikeShapes (E : jD) (x0 x1 x3 x4 x6 : Nat) (wd : Int) (nb : Nat) (sh : Nat → Int32) (hn : nb ≤ 48) : MC E Y_X3_unlikeShapes [.ref x0] [(x0, jO 3 [.ref x1, .ref x3, .ref x4, .ref x6, .int (iI wd), .int (iI (nb : Int))]), (x3, jA E 48 sh)] (fun r N0 => r = some (.int (iI ((unF (tI sh) nb : Nat)))) ∧ N0 = [(x0, jO 3 [.ref x1, .ref x3, .ref x4, .ref x6, .int (iI wd), .int (iI (nb : Int))]), (x3, jA E 48 sh)]) := by
  refine MC.of (by decide) rfl rfl ?_
  refine j_iconst 1 dX3_unlikeShapes_0 ?_
  refine j_istore_1 2 (lv' := [(0, _), (1, _)]) dX3_unlikeShapes_1 rfl ⟨rfl, rfl⟩ ?_
  refine j_iconst 3 dX3_unlikeShapes_2 ?_
  refine j_istore_2 4 (lv' := [(0, _), (1, _), (2, _)]) dX3_unlikeShapes_3 rfl ⟨rfl, rfl⟩ ?_
  exact lp_unlike E x0 x1 x3 x4 x6 wd nb sh hn (nb + 1) 0 (by omega) (by omega)

set_option maxRecDepth 100000 in
set_option maxHeartbeats 4000000 in
theorem lp_levels (E : jD) (x0 x1 x3 x4 x6 : Nat) (wd : Int) (nb : Nat) (hn : nb ≤ 48) : ∀ (d : Nat) (d0 : Nat) (r : Nat) (c : Nat), d0 < d → (1 ≤ r ∧ r ≤ 96) → (nb < r * 2 ^ d0) → (c + lvF nb d0 r = lvF nb 7 1) → J E Y_X3_levels (jZm E Y_X3_levels (fun r N0 => r = some (.int (iI (((lvF nb 7 1 : Nat) : Int)))) ∧ N0 = [(x0, jO 3 [.ref x1, .ref x3, .ref x4, .ref x6, .int (iI wd), .int (iI (nb : Int))])])) 0 0 4 [(0, .ref x0), (1, .int (iI (c : Int))), (2, .int (iI (r : Int)))] [] [(x0, jO 3 [.ref x1, .ref x3, .ref x4, .ref x6, .int (iI wd), .int (iI (nb : Int))])] := by
  intro d
  induction d with
  | zero => intros; omega
  | succ d ih =>
    intro d0 r c hd hr hb he
    refine j_iload_2 5 dX3_levels_4 rfl ?_
    refine j_aload_0 6 dX3_levels_5 rfl ?_
    refine j_get 9 0 gf_X3_36 dX3_levels_6 rfl rfl ?_
    refine j_icmp_gt 22 12 dX3_levels_9 (by first | exact iI_rng _ | exact bI_r _ | exact ⟨by omega, by omega⟩) (by first | exact iI_rng _ | exact bI_r _ | exact ⟨by omega, by omega⟩) (fun h9 => ?_) (fun h9 => ?_)
    · have e : lvF nb d0 r = 0 := lvF_big (by omega) d0
      rw [e] at he
      refine j_iload_1 23 dX3_levels_22 rfl ?_
      exact j_iret dX3_levels_23 rfl rfl ⟨congrArg (fun z => some (Value.int (iI z))) (by rw [← he]; omega), rfl⟩
    · obtain ⟨d0, rfl⟩ : ∃ q, d0 = q + 1 := by
        cases d0 with
        | zero => rw [Nat.pow_zero, Nat.mul_one] at hb; omega
        | succ q => exact ⟨q, rfl⟩
      have e : lvF nb (d0 + 1) r = lvF nb d0 (2 * r) + 1 := if_neg (by omega)
      rw [e] at he
      refine j_iinc 15 (lv' := [(0, _), (1, _), (2, _)]) dX3_levels_12 rfl rfl ⟨rfl, rfl⟩ ?_
      refine j_iload_2 16 dX3_levels_15 rfl ?_
      refine j_iconst 17 dX3_levels_16 ?_
      refine j_imul 18 dX3_levels_17 ?_
      refine j_istore_2 19 (lv' := [(0, _), (1, _), (2, _)]) dX3_levels_18 rfl ⟨rfl, rfl⟩ ?_
      refine j_goto 4 dX3_levels_19 ?_
      refine j_eqL (lv' := [(0, .ref x0), (1, .int (iI (((c + 1 : Nat) : Int) : Int))), (2, .int (iI ((2 * r : Nat) : Int)))]) (by rw [show ((r : Nat) : Int) * 2 = ((2 * r : Nat) : Int) by omega]; rfl) ?_
      exact ih d0 (2 * r) _ (by omega) (by omega) (by rw [p2x]; exact hb) (by omega)

set_option maxRecDepth 100000 in
set_option maxHeartbeats 4000000 in
theorem c_X3_levels (E : jD) (x0 x1 x3 x4 x6 : Nat) (wd : Int) (nb : Nat) (hn : nb ≤ 48) : MC E Y_X3_levels [.ref x0] [(x0, jO 3 [.ref x1, .ref x3, .ref x4, .ref x6, .int (iI wd), .int (iI (nb : Int))])] (fun r N0 => r = some (.int (iI (((lvF nb 7 1 : Nat) : Int)))) ∧ N0 = [(x0, jO 3 [.ref x1, .ref x3, .ref x4, .ref x6, .int (iI wd), .int (iI (nb : Int))])]) := by
  refine MC.of (by decide) rfl rfl ?_
  refine j_iconst 1 dX3_levels_0 ?_
  refine j_istore_1 2 (lv' := [(0, _), (1, _)]) dX3_levels_1 rfl ⟨rfl, rfl⟩ ?_
  refine j_iconst 3 dX3_levels_2 ?_
  refine j_istore_2 4 (lv' := [(0, _), (1, _), (2, _)]) dX3_levels_3 rfl ⟨rfl, rfl⟩ ?_
  exact lp_levels E x0 x1 x3 x4 x6 wd nb hn 8 7 1 0 (by omega) (by omega) (by omega) (by omega)

set_option maxRecDepth 100000 in
set_option maxHeartbeats 4000000 in
theorem lp_entries (E : jD) (x0 x1 x3 x4 x6 : Nat) (wd : Int) (nb : Nat) (hn : nb ≤ 48) : ∀ (d : Nat) (d0 : Nat) (r : Nat) (c : Int), d0 < d → (1 ≤ r ∧ r ≤ 96) → (nb < r * 2 ^ d0) → (c + enF nb d0 r = enF nb 7 1) → J E Y_X3_entries (jZm E Y_X3_entries (fun r N0 => r = some (.int (iI (enF nb 7 1))) ∧ N0 = [(x0, jO 3 [.ref x1, .ref x3, .ref x4, .ref x6, .int (iI wd), .int (iI (nb : Int))])])) 0 0 4 [(0, .ref x0), (1, .int (iI (c : Int))), (2, .int (iI (r : Int)))] [] [(x0, jO 3 [.ref x1, .ref x3, .ref x4, .ref x6, .int (iI wd), .int (iI (nb : Int))])] := by
  intro d
  induction d with
  | zero => intros; omega
  | succ d ih =>
    intro d0 r c hd hr hb he
    refine j_iload_2 5 dX3_entries_4 rfl ?_
    refine j_aload_0 6 dX3_entries_5 rfl ?_
    refine j_get 9 0 gf_X3_36 dX3_entries_6 rfl rfl ?_
    refine j_icmp_gt 30 12 dX3_entries_9 (by first | exact iI_rng _ | exact bI_r _ | exact ⟨by omega, by omega⟩) (by first | exact iI_rng _ | exact bI_r _ | exact ⟨by omega, by omega⟩) (fun h9 => ?_) (fun h9 => ?_)
    · have e : enF nb d0 r = 0 := enF_big (by omega) d0
      rw [e] at he
      refine j_iload_1 31 dX3_entries_30 rfl ?_
      exact j_iret dX3_entries_31 rfl rfl ⟨congrArg (fun z => some (Value.int (iI z))) (by rw [← he]; omega), rfl⟩
    · obtain ⟨d0, rfl⟩ : ∃ q, d0 = q + 1 := by
        cases d0 with
        | zero => rw [Nat.pow_zero, Nat.mul_one] at hb; omega
        | succ q => exact ⟨q, rfl⟩
      have e : enF nb (d0 + 1) r = enF nb d0 (2 * r) + ((nb : Int) - r + 1) := if_neg (by omega)
      rw [e] at he
      refine j_iload_1 13 dX3_entries_12 rfl ?_
      refine j_aload_0 14 dX3_entries_13 rfl ?_
      refine j_get 17 0 gf_X3_36 dX3_entries_14 rfl rfl ?_
      refine j_iload_2 18 dX3_entries_17 rfl ?_
      refine j_isub 19 dX3_entries_18 ?_
      refine j_iconst 20 dX3_entries_19 ?_
      refine j_iadd 21 dX3_entries_20 ?_
      refine j_iadd 22 dX3_entries_21 ?_
      refine j_istore_1 23 (lv' := [(0, _), (1, _), (2, _)]) dX3_entries_22 rfl ⟨rfl, rfl⟩ ?_
      refine j_iload_2 24 dX3_entries_23 rfl ?_
      refine j_iconst 25 dX3_entries_24 ?_
      refine j_imul 26 dX3_entries_25 ?_
      refine j_istore_2 27 (lv' := [(0, _), (1, _), (2, _)]) dX3_entries_26 rfl ⟨rfl, rfl⟩ ?_
      refine j_goto 4 dX3_entries_27 ?_
      refine j_eqL (lv' := [(0, .ref x0), (1, .int (iI ((c + ((nb : Int) - r + 1)) : Int))), (2, .int (iI ((2 * r : Nat) : Int)))]) (by rw [show ((r : Nat) : Int) * 2 = ((2 * r : Nat) : Int) by omega]) ?_
      exact ih d0 (2 * r) _ (by omega) (by omega) (by rw [p2x]; exact hb) (by omega)

set_option maxRecDepth 100000 in
set_option maxHeartbeats 4000000 in
theorem c_X3_entries (E : jD) (x0 x1 x3 x4 x6 : Nat) (wd : Int) (nb : Nat) (hn : nb ≤ 48) : MC E Y_X3_entries [.ref x0] [(x0, jO 3 [.ref x1, .ref x3, .ref x4, .ref x6, .int (iI wd), .int (iI (nb : Int))])] (fun r N0 => r = some (.int (iI (enF nb 7 1))) ∧ N0 = [(x0, jO 3 [.ref x1, .ref x3, .ref x4, .ref x6, .int (iI wd), .int (iI (nb : Int))])]) := by
  refine MC.of (by decide) rfl rfl ?_
  refine j_iconst 1 dX3_entries_0 ?_
  refine j_istore_1 2 (lv' := [(0, _), (1, _)]) dX3_entries_1 rfl ⟨rfl, rfl⟩ ?_
  refine j_iconst 3 dX3_entries_2 ?_
  refine j_istore_2 4 (lv' := [(0, _), (1, _), (2, _)]) dX3_entries_3 rfl ⟨rfl, rfl⟩ ?_
  exact lp_entries E x0 x1 x3 x4 x6 wd nb hn 8 7 1 0 (by omega) (by omega) (by omega) (by omega)

set_option maxRecDepth 100000 in
set_option maxHeartbeats 4000000 in
theorem c_X3_bits (E : jD) (x0 x1 x3 x4 x6 : Nat) (wd : Nat) (nb : Nat) (sh : Nat → Int32) (hn : nb ≤ 48) : MC E Y_X3_bits [.ref x0] [(x0, jO 3 [.ref x1, .ref x3, .ref x4, .ref x6, .int (iI (wd : Int)), .int (iI (nb : Int))]), (x3, jA E 48 sh)] (fun r N0 => r = some (.int (iI (biF (tI sh) wd nb))) ∧ N0 = [(x0, jO 3 [.ref x1, .ref x3, .ref x4, .ref x6, .int (iI (wd : Int)), .int (iI (nb : Int))]), (x3, jA E 48 sh)]) := by
  refine MC.of (by decide) rfl rfl ?_
  refine j_iconst 1 dX3_bits_0 ?_
  refine j_aload_0 2 dX3_bits_1 rfl ?_
  refine j_get 5 0 gf_X3_32 dX3_bits_2 rfl rfl ?_
  refine j_imul 6 dX3_bits_5 ?_
  refine j_aload_0 7 dX3_bits_6 rfl ?_
  refine j_get 10 0 gf_X3_32 dX3_bits_7 rfl rfl ?_
  refine j_imul 11 dX3_bits_10 ?_
  refine j_aload_0 12 dX3_bits_11 rfl ?_
  refine j_callVi 15 Y_X3_unlikeShapes [0, 1] [] (c_X3_unlikeShapes E _ _ _ _ _ _ _ _ hn) m_X3_unlikeShapes wml_X3_80 dX3_bits_12 0 rfl rfl rfl rfl rfl rfl rfl rfl rfl rfl ?_
  refine j_imul 16 dX3_bits_15 ?_
  refine j_istore_1 17 (lv' := [(0, _), (1, _)]) dX3_bits_16 rfl ⟨rfl, rfl⟩ ?_
  refine j_iconst 18 dX3_bits_17 ?_
  refine j_aload_0 19 dX3_bits_18 rfl ?_
  refine j_get 22 0 gf_X3_32 dX3_bits_19 rfl rfl ?_
  refine j_imul 23 dX3_bits_22 ?_
  refine j_aload_0 24 dX3_bits_23 rfl ?_
  refine j_get 27 0 gf_X3_36 dX3_bits_24 rfl rfl ?_
  refine j_imul 28 dX3_bits_27 ?_
  refine j_bipush 30 dX3_bits_28 (by decide +kernel) ?_
  refine j_aload_0 31 dX3_bits_30 rfl ?_
  refine j_callVi 34 Y_X3_entries [0] [] (c_X3_entries E _ _ _ _ _ _ _ hn) m_X3_entries wml_X3_84 dX3_bits_31 0 rfl rfl rfl rfl rfl rfl rfl rfl rfl rfl ?_
  refine j_imul 35 dX3_bits_34 ?_
  refine j_iadd 36 dX3_bits_35 ?_
  refine j_iload_1 37 dX3_bits_36 rfl ?_
  refine j_iadd 38 dX3_bits_37 ?_
  exact j_iret dX3_bits_38 rfl rfl ⟨rfl, rfl⟩

set_option maxRecDepth 100000 in
set_option maxHeartbeats 4000000 in
theorem c_X3_init (E : jD) (x0 : Nat)  : MC E Y_X3_init [.ref x0] [(x0, jO 3 [.null, .null, .null, .null, .int 0, .int 0])] (fun r N0 => ∃ x1 x2 x3 x4 x5 x6, r = none ∧ N0 = [(x0, jO 3 [.ref x1, .ref x3, .ref x4, .ref x6, .int (iI 0), .int (iI 0)]), (x1, jO 4 [.ref x2, .int (iI (-1))]), (x2, jA E 48 (fun _ => 0)), (x3, jA E 48 (fun _ => 0)), (x4, jO 5 [.ref x5, .int (iI 0)]), (x5, jL E 64 (fun _ => 0)), (x6, jA E 6 (fun _ => 0))]) := by
  refine MC.of (by decide) rfl rfl ?_
  refine j_aload_0 1 dX3_init_0 rfl ?_
  refine j_obj 4 wml_X3_3 dX3_init_1 rfl ?_
  refine j_aload_0 5 dX3_init_4 rfl ?_
  refine j_new 8 (fs := [.null, .int 0]) tyX4 (ci := 4) rfl inX4 tyX4_ok wcl_X3_9 wn_X4 wi_ShapeMinima_Row (by decide +kernel) dX3_init_5 rfl (fun x1 => ?_)
  refine j_dup 9 dX3_init_8 rfl ?_
  refine j_callI 12 Y_X4_init [1] [] (c_X4_init E x1) m_X4_init wml_X3_11 dX3_init_9 rfl rfl rfl rfl rfl rfl rfl (fun r N h => by obtain ⟨c, rfl, rfl⟩ := h; rfl) (fun r N h => ?_)
  obtain ⟨x2, rfl, rfl⟩ := h
  refine j_putF 15 0 pf_X3_12 rfl rfl dX3_init_12 rfl ⟨rfl, rfl, rfl⟩ ?_
  refine j_aload_0 16 dX3_init_15 rfl ?_
  refine j_bipush 18 dX3_init_16 (by decide +kernel) ?_
  refine j_newa 20 48 rfl rfl dX3_init_18 rfl (fun x3 => ?_)
  refine j_putF 23 0 pf_X3_18 rfl rfl dX3_init_20 rfl ⟨rfl, rfl, rfl⟩ ?_
  refine j_aload_0 24 dX3_init_23 rfl ?_
  refine j_new 27 (fs := [.null, .int 0]) tyX5 (ci := 5) rfl inX5 tyX5_ok wcl_X3_22 wn_X5 wi_ShapeMinima_ShapeSet (by decide +kernel) dX3_init_24 rfl (fun x4 => ?_)
  refine j_dup 28 dX3_init_27 rfl ?_
  refine j_callI 31 Y_X5_init [4] [] (c_X5_init E x4) m_X5_init wml_X3_24 dX3_init_28 rfl rfl rfl rfl rfl rfl rfl (fun r N h => by obtain ⟨c, rfl, rfl⟩ := h; rfl) (fun r N h => ?_)
  obtain ⟨x5, rfl, rfl⟩ := h
  refine j_putF 34 0 pf_X3_25 rfl rfl dX3_init_31 rfl ⟨rfl, rfl, rfl⟩ ?_
  refine j_aload_0 35 dX3_init_34 rfl ?_
  refine j_bipush 37 dX3_init_35 (by decide +kernel) ?_
  refine j_newa 39 6 rfl rfl dX3_init_37 rfl (fun x6 => ?_)
  refine j_putF 42 0 pf_X3_29 rfl rfl dX3_init_39 rfl ⟨rfl, rfl, rfl⟩ ?_
  refine j_aload_0 43 dX3_init_42 rfl ?_
  refine j_iconst 44 dX3_init_43 ?_
  refine j_put 47 0 pf_X3_32 dX3_init_44 rfl ⟨rfl, rfl, rfl⟩ ?_
  refine j_aload_0 48 dX3_init_47 rfl ?_
  refine j_iconst 49 dX3_init_48 ?_
  refine j_put 52 0 pf_X3_36 dX3_init_49 rfl ⟨rfl, rfl, rfl⟩ ?_
  exact j_vret dX3_init_52 rfl rfl ⟨x1, x2, x3, x4, x5, x6, rfl, rfl⟩

set_option maxRecDepth 100000 in
set_option maxHeartbeats 4000000 in
theorem c_X3_change (E : jD) (x0 x1 x2 x3 x4 x5 x6 : Nat) (wd : Nat) (bl : Int) (n : Nat) (f sh : Nat → Int32) (mm : Int) (w : Nat → Int64) (pl : Nat → Int32) (i : Nat) (v : Int32) (hw : 1 ≤ wd ∧ wd ≤ 6) (hn : n ≤ 48) (hi : i < n) : MC E Y_X3_change [.ref x0, .int (iI (i : Int)), .int v] [(x0, jO 3 [.ref x1, .ref x3, .ref x4, .ref x6, .int (iI (wd : Int)), .int (iI bl)]), (x1, jO 4 [.ref x2, .int (iI (n : Int))]), (x2, jA E 48 f), (x3, jA E 48 sh), (x4, jO 5 [.ref x5, .int (iI mm)]), (x5, jL E 64 w), (x6, jA E 6 pl)] (fun r N0 => ∃ pl2, r = some (.int (iI (bI (¬ ((shB (tI (upd f i v)) n wd (i / wd)) : Int) = (sh (i / wd)).toInt)))) ∧ N0 = [(x0, jO 3 [.ref x1, .ref x3, .ref x4, .ref x6, .int (iI (wd : Int)), .int (iI bl)]), (x1, jO 4 [.ref x2, .int (iI (n : Int))]), (x2, jA E 48 (upd f i v)), (x3, jA E 48 (upd sh (i / wd) (iI ((shB (tI (upd f i v)) n wd (i / wd)) : Nat)))), (x4, jO 5 [.ref x5, .int (iI (inM w mm (shB (tI (upd f i v)) n wd (i / wd))))]), (x5, jL E 64 (inW w (shB (tI (upd f i v)) n wd (i / wd)))), (x6, jA E 6 pl2)]) := by
  refine MC.of (by decide) rfl rfl ?_
  have hd1 := Nat.div_le_self i wd
  have hd2 := Nat.div_mul_le_self i wd
  have hsl := shB_lt (tI (upd f i v)) n (i / wd) hw.2
  refine j_aload_0 1 dX3_change_0 rfl ?_
  refine j_get 4 0 gf_X3_12 dX3_change_1 rfl rfl ?_
  refine j_iload_1 5 dX3_change_4 rfl ?_
  refine j_callVi 8 Y_X4_lacks [1] [_] (c_X4_lacks E _ _ _ _ (by exact ⟨by omega, by omega⟩) (by exact ⟨by omega, by omega⟩)) m_X4_lacks wml_X3_61 dX3_change_5 0 rfl rfl rfl rfl rfl rfl rfl rfl rfl rfl ?_
  refine j_bif_ne 19 11 dX3_change_8 (fun h8 => ?_) (fun h8 => ?_)
  · omega
  · refine j_aload_0 12 dX3_change_11 rfl ?_
    refine j_get 15 0 gf_X3_32 dX3_change_12 rfl rfl ?_
    refine j_iconst 16 dX3_change_15 ?_
    refine j_icmp_ge 21 19 dX3_change_16 (by first | exact iI_rng _ | exact bI_r _ | exact ⟨by omega, by omega⟩) (by first | exact iI_rng _ | exact bI_r _ | exact ⟨by omega, by omega⟩) (fun h16 => ?_) (fun h16 => ?_)
    · refine j_aload_0 22 dX3_change_21 rfl ?_
      refine j_get 25 0 gf_X3_12 dX3_change_22 rfl rfl ?_
      refine j_get 28 1 gf_X3_65 dX3_change_25 rfl rfl ?_
      refine j_iload_1 29 dX3_change_28 rfl ?_
      refine j_iload_2 30 dX3_change_29 rfl ?_
      refine j_iast 31 2 _ dX3_change_30 rfl rfl rfl (by omega) ?_
      refine j_iload_1 32 dX3_change_31 rfl ?_
      refine j_aload_0 33 dX3_change_32 rfl ?_
      refine j_get 36 0 gf_X3_32 dX3_change_33 rfl rfl ?_
      refine j_idiv 37 dX3_change_36 (by omega) (by omega) (by first | exact iI_rng _ | exact bI_r _ | exact ⟨by omega, by omega⟩) (by first | exact iI_rng _ | exact bI_r _ | exact ⟨by omega, by omega⟩) ?_
      refine j_top ((i / wd : Nat) : Int) rfl ?_
      refine j_istore_3 38 (lv' := [(0, _), (1, _), (2, _), (3, _)]) dX3_change_37 rfl ⟨rfl, rfl⟩ ?_
      refine j_aload_0 39 dX3_change_38 rfl ?_
      refine j_get 42 0 gf_X3_18 dX3_change_39 rfl rfl ?_
      refine j_iload_3 43 dX3_change_42 rfl ?_
      refine j_iald 44 3 (i / wd) dX3_change_43 rfl rfl rfl (by omega) ?_
      refine j_istore 46 (lv' := [(0, _), (1, _), (2, _), (3, _), (4, _)]) dX3_change_44 rfl ⟨rfl, rfl⟩ ?_
      refine j_aload_0 47 dX3_change_46 rfl ?_
      refine j_get 50 0 gf_X3_18 dX3_change_47 rfl rfl ?_
      refine j_iload_3 51 dX3_change_50 rfl ?_
      refine j_aload_0 52 dX3_change_51 rfl ?_
      refine j_iload_3 53 dX3_change_52 rfl ?_
      refine j_callV 56 Y_X3_shapeNow [0, 1, 2, 6] [_] (c_X3_shapeNow E _ _ _ _ _ _ _ _ _ _ _ _ _ hw hn rfl (by omega) (by omega)) m_X3_shapeNow wml_X3_53 dX3_change_53 0 rfl rfl rfl rfl rfl rfl rfl rfl rfl (fun r N h => by obtain ⟨_, rfl, rfl⟩ := h; rfl) (fun r N h => ?_)
      obtain ⟨pl2, rfl, rfl⟩ := h
      refine j_top (((shB (tI (upd f i v)) n wd (i / wd)) : Nat) : Int) rfl ?_
      refine j_iast 57 3 (i / wd) dX3_change_56 rfl rfl rfl (by omega) ?_
      refine j_aload_0 58 dX3_change_57 rfl ?_
      refine j_get 61 0 gf_X3_25 dX3_change_58 rfl rfl ?_
      refine j_aload_0 62 dX3_change_61 rfl ?_
      refine j_get 65 0 gf_X3_18 dX3_change_62 rfl rfl ?_
      refine j_iload_3 66 dX3_change_65 rfl ?_
      refine j_ialdw 67 3 (i / wd) ((((shB (tI (upd f i v)) n wd (i / wd)) : Nat) : Int)) dX3_change_66 rfl rfl rfl (by omega) (upd_at _ _ _) ?_
      refine j_callV 70 Y_X5_include [4, 5] [_] (c_X5_include E _ _ _ _ _ hsl) m_X5_include wml_X3_57 dX3_change_67 0 rfl rfl rfl rfl rfl rfl rfl rfl rfl (fun r N h => by obtain ⟨rfl, rfl⟩ := h; rfl) (fun r N h => ?_)
      obtain ⟨rfl, rfl⟩ := h
      refine j_aload_0 71 dX3_change_70 rfl ?_
      refine j_get 74 0 gf_X3_18 dX3_change_71 rfl rfl ?_
      refine j_iload_3 75 dX3_change_74 rfl ?_
      refine j_ialdw 76 3 (i / wd) ((((shB (tI (upd f i v)) n wd (i / wd)) : Nat) : Int)) dX3_change_75 rfl rfl rfl (by omega) (upd_at _ _ _) ?_
      refine j_iload 78 dX3_change_76 rfl ?_
      refine j_icmp_eq 85 81 dX3_change_78 (by first | exact iI_rng _ | exact bI_r _ | exact ⟨by omega, by omega⟩) (by first | exact iI_rng _ | exact bI_r _ | exact ⟨by omega, by omega⟩) (fun h78 => ?_) (fun h78 => ?_)
      · refine j_iconst 86 dX3_change_85 ?_
        exact j_zret (by first | exact bI_n _ | decide +kernel) dX3_change_86 rfl rfl ⟨pl2, congrArg (fun z => some (Value.int (iI z))) (by first | exact (bI_t (by omega)).symm | exact (bI_f (by omega)).symm), rfl⟩
      · refine j_iconst 82 dX3_change_81 ?_
        refine j_goto 86 dX3_change_82 ?_
        exact j_zret (by first | exact bI_n _ | decide +kernel) dX3_change_86 rfl rfl ⟨pl2, congrArg (fun z => some (Value.int (iI z))) (by first | exact (bI_t (by omega)).symm | exact (bI_f (by omega)).symm), rfl⟩
    · omega

set_option maxRecDepth 100000 in
set_option maxHeartbeats 4000000 in
theorem lp_becomeOver (E : jD) (x0 x1 x2 x3 x4 x5 x6 : Nat) (wd bl n : Int) (f sh : Nat → Int32) (mm : Int) (w : Nat → Int64) (r0 r1 : Nat) (n2 w2 : Nat) (f2 : Nat → Int32) (hw : 1 ≤ w2 ∧ w2 ≤ 6) (hn : n2 ≤ 48) : ∀ (d : Nat) (b : Nat) (pl : Nat → Int32), nB n2 w2 - b < d → (b ≤ nB n2 w2) → J E Y_X3_becomeOver (jZm E Y_X3_becomeOver (fun r N0 => ∃ pl2, r = none ∧ N0 = [(x0, jO 3 [.ref x1, .ref x3, .ref x4, .ref x6, .int (iI (w2 : Int)), .int (iI ((nB n2 w2 : Nat) : Int))]), (x1, jO 4 [.ref x2, .int (iI (n2 : Int))]), (x2, jA E 48 (va_cpy f2 f 0 0 48)), (x3, jA E 48 (shU sh (tI (va_cpy f2 f 0 0 48)) n2 w2 (nB n2 w2))), (x4, jO 5 [.ref x5, .int (iI (inB (tI (va_cpy f2 f 0 0 48)) n2 w2 (fa 0 64 w) (nB n2 w2)).2)]), (x5, jL E 64 (inB (tI (va_cpy f2 f 0 0 48)) n2 w2 (fa 0 64 w) (nB n2 w2)).1), (x6, jA E 6 pl2), (r0, jO 4 [.ref r1, .int (iI (n2 : Int))]), (r1, jA E 48 f2)])) 0 0 48 [(0, .ref x0), (1, .ref r0), (2, .int (iI (w2 : Int))), (3, .int (iI (b : Int)))] [] [(x0, jO 3 [.ref x1, .ref x3, .ref x4, .ref x6, .int (iI (w2 : Int)), .int (iI ((nB n2 w2 : Nat) : Int))]), (x1, jO 4 [.ref x2, .int (iI (n2 : Int))]), (x2, jA E 48 (va_cpy f2 f 0 0 48)), (x3, jA E 48 (shU sh (tI (va_cpy f2 f 0 0 48)) n2 w2 b)), (x4, jO 5 [.ref x5, .int (iI (inB (tI (va_cpy f2 f 0 0 48)) n2 w2 (fa 0 64 w) b).2)]), (x5, jL E 64 (inB (tI (va_cpy f2 f 0 0 48)) n2 w2 (fa 0 64 w) b).1), (x6, jA E 6 pl), (r0, jO 4 [.ref r1, .int (iI (n2 : Int))]), (r1, jA E 48 f2)] := by
  intro d
  induction d with
  | zero => intros; omega
  | succ d ih =>
    intro b pl hd hb
    have hle := nB_le (n := n2) hw.1
    refine j_iload_3 49 dX3_becomeOver_48 rfl ?_
    refine j_aload_0 50 dX3_becomeOver_49 rfl ?_
    refine j_get 53 0 gf_X3_36 dX3_becomeOver_50 rfl rfl ?_
    refine j_icmp_ge 86 56 dX3_becomeOver_53 (by first | exact iI_rng _ | exact bI_r _ | exact ⟨by omega, by omega⟩) (by first | exact iI_rng _ | exact bI_r _ | exact ⟨by omega, by omega⟩) (fun h53 => ?_) (fun h53 => ?_)
    · have e : b = nB n2 w2 := by omega
      subst e
      exact j_vret dX3_becomeOver_86 rfl rfl ⟨pl, rfl, rfl⟩
    · have hbi := nB_in hw.1 (show b < nB n2 w2 by omega)
      have hsl := shB_lt (tI (va_cpy f2 f 0 0 48)) n2 b hw.2
      refine j_aload_0 57 dX3_becomeOver_56 rfl ?_
      refine j_get 60 0 gf_X3_18 dX3_becomeOver_57 rfl rfl ?_
      refine j_iload_3 61 dX3_becomeOver_60 rfl ?_
      refine j_aload_0 62 dX3_becomeOver_61 rfl ?_
      refine j_iload_3 63 dX3_becomeOver_62 rfl ?_
      refine j_callV 66 Y_X3_shapeNow [0, 1, 2, 6] [_] (c_X3_shapeNow E _ _ _ _ _ _ _ _ _ _ _ _ _ hw hn rfl (by omega) (by omega)) m_X3_shapeNow wml_X3_53 dX3_becomeOver_63 0 rfl rfl rfl rfl rfl rfl rfl rfl rfl (fun r N h => by obtain ⟨_, rfl, rfl⟩ := h; rfl) (fun r N h => ?_)
      obtain ⟨pl2, rfl, rfl⟩ := h
      refine j_top ((shB (tI (va_cpy f2 f 0 0 48)) n2 w2 b : Nat) : Int) rfl ?_
      refine j_iast 67 3 (b) dX3_becomeOver_66 rfl rfl rfl (by omega) ?_
      rw [shU_s]
      refine j_aload_0 68 dX3_becomeOver_67 rfl ?_
      refine j_get 71 0 gf_X3_25 dX3_becomeOver_68 rfl rfl ?_
      refine j_aload_0 72 dX3_becomeOver_71 rfl ?_
      refine j_get 75 0 gf_X3_18 dX3_becomeOver_72 rfl rfl ?_
      refine j_iload_3 76 dX3_becomeOver_75 rfl ?_
      refine j_ialdw 77 3 (b) (((shB (tI (va_cpy f2 f 0 0 48)) n2 w2 b : Nat) : Int)) dX3_becomeOver_76 rfl rfl rfl (by omega) (by unfold shU; rw [if_pos (by omega)]) ?_
      refine j_callV 80 Y_X5_include [4, 5] [_] (c_X5_include E _ _ _ _ _ hsl) m_X5_include wml_X3_57 dX3_becomeOver_77 0 rfl rfl rfl rfl rfl rfl rfl rfl rfl (fun r N h => by obtain ⟨rfl, rfl⟩ := h; rfl) (fun r N h => ?_)
      obtain ⟨rfl, rfl⟩ := h
      refine j_iinc 83 (lv' := [(0, _), (1, _), (2, _), (3, _)]) dX3_becomeOver_80 rfl rfl ⟨rfl, rfl⟩ ?_
      refine j_goto 48 dX3_becomeOver_83 ?_
      exact ih (b + 1) pl2 (by omega) (by omega)

set_option maxRecDepth 100000 in
set_option maxHeartbeats 4000000 in
theorem c_X3_becomeOver (E : jD) (x0 x1 x2 x3 x4 x5 x6 : Nat) (wd bl n : Int) (f sh : Nat → Int32) (mm : Int) (w : Nat → Int64) (pl : Nat → Int32) (r0 r1 : Nat) (n2 w2 : Nat) (f2 : Nat → Int32) (hw : 1 ≤ w2 ∧ w2 ≤ 6) (hn : n2 ≤ 48) : MC E Y_X3_becomeOver [.ref x0, .ref r0, .int (iI (w2 : Int))] [(x0, jO 3 [.ref x1, .ref x3, .ref x4, .ref x6, .int (iI wd), .int (iI bl)]), (x1, jO 4 [.ref x2, .int (iI n)]), (x2, jA E 48 f), (x3, jA E 48 sh), (x4, jO 5 [.ref x5, .int (iI mm)]), (x5, jL E 64 w), (x6, jA E 6 pl), (r0, jO 4 [.ref r1, .int (iI (n2 : Int))]), (r1, jA E 48 f2)] (fun r N0 => ∃ pl2, r = none ∧ N0 = [(x0, jO 3 [.ref x1, .ref x3, .ref x4, .ref x6, .int (iI (w2 : Int)), .int (iI ((nB n2 w2 : Nat) : Int))]), (x1, jO 4 [.ref x2, .int (iI (n2 : Int))]), (x2, jA E 48 (va_cpy f2 f 0 0 48)), (x3, jA E 48 (shU sh (tI (va_cpy f2 f 0 0 48)) n2 w2 (nB n2 w2))), (x4, jO 5 [.ref x5, .int (iI (inB (tI (va_cpy f2 f 0 0 48)) n2 w2 (fa 0 64 w) (nB n2 w2)).2)]), (x5, jL E 64 (inB (tI (va_cpy f2 f 0 0 48)) n2 w2 (fa 0 64 w) (nB n2 w2)).1), (x6, jA E 6 pl2), (r0, jO 4 [.ref r1, .int (iI (n2 : Int))]), (r1, jA E 48 f2)]) := by
  refine MC.of (by decide) rfl rfl ?_
  refine j_aload_0 1 dX3_becomeOver_0 rfl ?_
  refine j_get 4 0 gf_X3_12 dX3_becomeOver_1 rfl rfl ?_
  refine j_aload_1 5 dX3_becomeOver_4 rfl ?_
  refine j_callV 8 Y_X4_become [1, 2, 7, 8] [_] (c_X4_become E _ _ _ _ _ _ _ _) m_X4_become wml_X3_43 dX3_becomeOver_5 0 rfl rfl rfl rfl rfl rfl rfl rfl rfl (fun r N h => by obtain ⟨rfl, rfl⟩ := h; rfl) (fun r N h => ?_)
  obtain ⟨rfl, rfl⟩ := h
  refine j_aload_0 9 dX3_becomeOver_8 rfl ?_
  refine j_iload_2 10 dX3_becomeOver_9 rfl ?_
  refine j_put 13 0 pf_X3_32 dX3_becomeOver_10 rfl ⟨rfl, rfl, rfl⟩ ?_
  refine j_aload_0 14 dX3_becomeOver_13 rfl ?_
  refine j_iload_2 15 dX3_becomeOver_14 rfl ?_
  refine j_iconst 16 dX3_becomeOver_15 ?_
  refine j_icmp_ge 23 19 dX3_becomeOver_16 (by first | exact iI_rng _ | exact bI_r _ | exact ⟨by omega, by omega⟩) (by first | exact iI_rng _ | exact bI_r _ | exact ⟨by omega, by omega⟩) (fun h16 => ?_) (fun h16 => ?_)
  · refine j_aload_0 24 dX3_becomeOver_23 rfl ?_
    refine j_get 27 0 gf_X3_12 dX3_becomeOver_24 rfl rfl ?_
    refine j_get 30 1 gf_X3_47 dX3_becomeOver_27 rfl rfl ?_
    refine j_iload_2 31 dX3_becomeOver_30 rfl ?_
    refine j_iadd 32 dX3_becomeOver_31 ?_
    refine j_iconst 33 dX3_becomeOver_32 ?_
    refine j_isub 34 dX3_becomeOver_33 ?_
    refine j_iload_2 35 dX3_becomeOver_34 rfl ?_
    refine j_idiv 36 dX3_becomeOver_35 (by omega) (by omega) (by first | exact iI_rng _ | exact bI_r _ | exact ⟨by omega, by omega⟩) (by first | exact iI_rng _ | exact bI_r _ | exact ⟨by omega, by omega⟩) ?_
    refine j_top ((nB n2 w2 : Nat) : Int) (congrArg iI (by rw [show (n2 : Int) + w2 - 1 = ((n2 + w2 - 1 : Nat) : Int) by omega]; rfl)) ?_
    refine j_put 39 0 pf_X3_36 dX3_becomeOver_36 rfl ⟨rfl, rfl, rfl⟩ ?_
    refine j_aload_0 40 dX3_becomeOver_39 rfl ?_
    refine j_get 43 0 gf_X3_25 dX3_becomeOver_40 rfl rfl ?_
    refine j_callV 46 Y_X5_becomeEmpty [4, 5] [] (c_X5_becomeEmpty E _ _ _ _) m_X5_becomeEmpty wml_X3_50 dX3_becomeOver_43 0 rfl rfl rfl rfl rfl rfl rfl rfl rfl (fun r N h => by obtain ⟨rfl, rfl⟩ := h; rfl) (fun r N h => ?_)
    obtain ⟨rfl, rfl⟩ := h
    refine j_iconst 47 dX3_becomeOver_46 ?_
    refine j_istore_3 48 (lv' := [(0, _), (1, _), (2, _), (3, _)]) dX3_becomeOver_47 rfl ⟨rfl, rfl⟩ ?_
    refine j_eqM (M' := [(x0, jO 3 [.ref x1, .ref x3, .ref x4, .ref x6, .int (iI (w2 : Int)), .int (iI ((nB n2 w2 : Nat) : Int))]), (x1, jO 4 [.ref x2, .int (iI (n2 : Int))]), (x2, jA E 48 (va_cpy f2 f 0 0 48)), (x3, jA E 48 (shU sh (tI (va_cpy f2 f 0 0 48)) n2 w2 0)), (x4, jO 5 [.ref x5, .int (iI (inB (tI (va_cpy f2 f 0 0 48)) n2 w2 (fa 0 64 w) 0).2)]), (x5, jL E 64 (inB (tI (va_cpy f2 f 0 0 48)) n2 w2 (fa 0 64 w) 0).1), (x6, jA E 6 pl), (r0, jO 4 [.ref r1, .int (iI (n2 : Int))]), (r1, jA E 48 f2)]) (by rw [shU_0]; rfl) ?_
    exact lp_becomeOver E x0 x1 x2 x3 x4 x5 x6 wd bl n f sh mm w r0 r1 n2 w2 f2 hw hn (nB n2 w2 + 1) 0 pl (by omega) (by omega)
  · omega
end
section
/-! trees told by parents: p k is the parent of k, -1 at the root -/
/-- an array's row may be told by another function that is the same in range -/
theorem j_ext {E : jD} {Y : jY} {Z : jZ} {k n pc : Nat} {lv : List (Nat × Value)} {st : List Value} {M : va_W} (q0 : Nat) {a N : Nat} {f : Nat → Int32} (f' : Nat → Int32) (he : M[q0]? = some (a, jA E N f)) (h : ∀ j, j < N → f j = f' j) (kk : J E Y Z k n pc lv st (M.set q0 (a, jA E N f'))) : J E Y Z k n pc lv st M := by
  intro p l e s m args below meth c A C H locs ls hl hP hD hS
  have hcell : vp_cell (E.2 0) (N, .inl f) = vp_cell (E.2 0) (N, .inl f') := by
    rw [vp_cell_i, vp_cell_i]
    unfold arrV
    congr 1
    apply Array.ext
    · simp
    · intro i h1 h2
      simp at h1
      simp [h i h1]
  have hP2 : va_P E.1 vwCl (M.set q0 (a, jA E N f')) H := hP.set hD he (show H[a]? = some (vp_cell (E.2 0) (N, .inl f')) by rw [← hcell]; exact hP q0 _ he) (fun _ _ => rfl)
  exact kk p l e s m args below meth c A C H locs ls hl hP2 (hD.set he) hS
def inT (p : Nat → Int) (n : Nat) : Prop := ∀ k, k < n → p k = -1 ∨ (0 ≤ p k ∧ p k < n)
def srF (p : Nat → Int) : Nat → Nat → Nat
  | 0, _ => 0
  | d + 1, u => if p u = -1 then 0 else srF p d (p u).toNat + 1
theorem srF_le (p : Nat → Int) : ∀ d u, srF p d u ≤ d
  | 0, _ => Nat.le_refl _
  | d + 1, u => by
    have := srF_le p d (p u).toNat
    unfold srF
    split <;> omega
def rcF (p : Nat → Int) : Nat → Nat
  | 0 => 0
  | k + 1 => rcF p k + (if p k = -1 then 1 else 0)
theorem rcF_le (p : Nat → Int) : ∀ k, rcF p k ≤ k
  | 0 => Nat.le_refl _
  | k + 1 => by
    have := rcF_le p k
    unfold rcF
    split <;> omega
/-- the ints of a row tell a tree -/
def toldP (p : Nat → Int) (n : Nat) : Prop := (∀ k, k < n → p k = -1 ∨ (0 ≤ p k ∧ p k < n)) ∧ rcF p n = 1 ∧ ∀ k, k < n → srF p n k < n
def upF (p : Nat → Int) : Nat → Nat → Nat
  | 0, u => u
  | k + 1, u => upF p k (p u).toNat
theorem up_in {p : Nat → Int} {n : Nat} (hp : inT p n) : ∀ (d u : Nat), u < n → ∀ j, j ≤ srF p d u → upF p j u < n ∧ (j < srF p d u → ¬ p (upF p j u) = -1)
  | 0, u, hu, j, hj => by
    have : j = 0 := by simpa [srF] using hj
    subst this
    exact ⟨hu, fun h => by simp [srF] at h⟩
  | d + 1, u, hu, j, hj => by
    by_cases h : p u = -1
    · have e : srF p (d + 1) u = 0 := if_pos h
      rw [e] at hj
      have : j = 0 := by omega
      subst this
      rw [e]
      exact ⟨hu, fun h => by omega⟩
    · have e : srF p (d + 1) u = srF p d (p u).toNat + 1 := if_neg h
      have hpu := hp u hu
      cases j with
      | zero => exact ⟨hu, fun _ => h⟩
      | succ j =>
        rw [e] at hj ⊢
        obtain ⟨h1, h2⟩ := up_in hp d (p u).toNat (by omega) j (by omega)
        exact ⟨h1, fun h3 => h2 (by omega)⟩
/-- one more for each on the way up -/
def ipN (p : Nat → Int) : Nat → Nat → (Nat → Nat) → (Nat → Nat)
  | 0, _, c => c
  | k + 1, u, c => ipN p k (p u).toNat (fun j => if j = u then c j + 1 else c j)
def csN (p : Nat → Int) (dep : Nat → Nat) : Nat → (Nat → Nat)
  | 0 => fun _ => 0
  | u + 1 => ipN p (dep u + 1) u (csN p dep u)
def cI (c : Nat → Nat) : Nat → Int32 := fun j => iI (c j : Nat)
theorem cI_upd (c : Nat → Nat) (u : Nat) : upd (cI c) u (iI ((c u : Nat) + 1 : Int)) = cI (fun j => if j = u then c j + 1 else c j) := by
  funext j
  unfold upd cI
  by_cases h : j = u
  · subst h; simp
  · simp [h]
/-- the first son from k on -/
def sbF (p : Nat → Int) (u : Int) : Nat → Nat → Nat
  | 0, k => k
  | d + 1, k => if p k = u then k else sbF p u d (k + 1)
theorem sbF_in (p : Nat → Int) (u : Int) : ∀ d k, k ≤ sbF p u d k ∧ sbF p u d k ≤ k + d
  | 0, k => ⟨Nat.le_refl _, Nat.le_refl _⟩
  | d + 1, k => by
    have ih := sbF_in p u d (k + 1)
    unfold sbF
    split <;> omega
def roF (p : Nat → Int) : Nat → Nat → Nat
  | 0, k => k
  | d + 1, k => if p k = -1 then k else roF p d (k + 1)
theorem roF_in (p : Nat → Int) : ∀ d k, k ≤ roF p d k ∧ roF p d k ≤ k + d
  | 0, k => ⟨Nat.le_refl _, Nat.le_refl _⟩
  | d + 1, k => by
    have ih := roF_in p d (k + 1)
    unfold roF
    split <;> omega
/-- the son behind sd -/
def soF (p : Nat → Int) (n : Nat) (u sd : Int) : Nat := sbF p u (n - (sd + 1).toNat) (sd + 1).toNat
/-- the tour: where it is at step k, and which son was done last -/
def tS (p : Nat → Int) (n : Nat) (r : Nat) : Nat → Int × Int
  | 0 => ((r : Int), -1)
  | k + 1 => if soF p n (tS p n r k).1 (tS p n r k).2 < n then ((soF p n (tS p n r k).1 (tS p n r k).2 : Nat), -1) else (p (tS p n r k).1.toNat, (tS p n r k).1)
/-- where a node is met first -/
def fxF (p : Nat → Int) (n r : Nat) (v : Nat) : Nat → Int
  | 0 => -1
  | k + 1 => if fxF p n r v k = -1 ∧ (tS p n r k).1 = v then (k : Int) else fxF p n r v k
theorem fxF_in (p : Nat → Int) (n r v : Nat) : ∀ k, -1 ≤ fxF p n r v k ∧ fxF p n r v k < k
  | 0 => by simp [fxF]
  | k + 1 => by
    have ih := fxF_in p n r v k
    unfold fxF
    split <;> omega
end
section
set_option maxRecDepth 100000 in
set_option maxHeartbeats 4000000 in
theorem lp_steps (E : jD) (a L : Nat) (f : Nat → Int32) (p : Nat → Int) (n : Nat) (hL : n ≤ L ∧ L ≤ 48) (hpk : ∀ k, k < n → (f k).toInt = p k) (hp : inT p n) (u : Nat) : ∀ (d : Nat) (s : Nat) (t : Nat), n - s < d → (s ≤ n) → (t < n) → (s + srF p (n - s) t = srF p n u) → J E Y_X0_stepsToTheRoot (jZm E Y_X0_stepsToTheRoot (fun r N0 => r = some (.int (iI ((srF p n u : Nat)))) ∧ N0 = [(a, jA E L f)])) 0 0 5 [(0, .ref a), (1, .int (iI (u : Int))), (2, .int (iI (n : Int))), (3, .int (iI (s : Int))), (4, .int (iI (t : Int)))] [] [(a, jA E L f)] := by
  intro d
  induction d with
  | zero => intros; omega
  | succ d ih =>
    intro s t hd hs ht he
    refine j_iload_3 6 dX0_stepsToTheRoot_5 rfl ?_
    refine j_iload_2 7 dX0_stepsToTheRoot_6 rfl ?_
    refine j_icmp_ge 30 10 dX0_stepsToTheRoot_7 (by first | exact iI_rng _ | exact bI_r _ | exact ⟨by omega, by omega⟩) (by first | exact iI_rng _ | exact bI_r _ | exact ⟨by omega, by omega⟩) (fun h7 => ?_) (fun h7 => ?_)
    · have e : s = n := by omega
      subst e
      rw [Nat.sub_self] at he
      refine j_iload_3 31 dX0_stepsToTheRoot_30 rfl ?_
      exact j_iret dX0_stepsToTheRoot_31 rfl rfl ⟨congrArg (fun z => some (Value.int (iI z))) (by rw [← he]; rfl), rfl⟩
    · obtain ⟨c, hc⟩ : ∃ c, n - s = c + 1 := ⟨n - s - 1, by omega⟩
      rw [hc] at he
      have hpt := hp t ht
      have hft := hpk t ht
      refine j_aload_0 11 dX0_stepsToTheRoot_10 rfl ?_
      refine j_iload 13 dX0_stepsToTheRoot_11 rfl ?_
      refine j_iald 14 0 _ dX0_stepsToTheRoot_13 rfl (Nat.ble_eq_true_of_le (by omega)) rfl (by omega) ?_
      refine j_iconst 15 dX0_stepsToTheRoot_14 ?_
      refine j_icmp_eq 30 18 dX0_stepsToTheRoot_15 (by first | exact iI_rng _ | exact bI_r _ | exact ⟨by omega, by omega⟩) (by first | exact iI_rng _ | exact bI_r _ | exact ⟨by omega, by omega⟩) (fun h15 => ?_) (fun h15 => ?_)
      · have e2 : srF p (c + 1) t = 0 := if_pos (by omega)
        rw [e2] at he
        refine j_iload_3 31 dX0_stepsToTheRoot_30 rfl ?_
        exact j_iret dX0_stepsToTheRoot_31 rfl rfl ⟨congrArg (fun z => some (Value.int (iI z))) (by rw [← he]; rfl), rfl⟩
      · have e2 : srF p (c + 1) t = srF p c (p t).toNat + 1 := if_neg (by omega)
        rw [e2] at he
        refine j_aload_0 19 dX0_stepsToTheRoot_18 rfl ?_
        refine j_iload 21 dX0_stepsToTheRoot_19 rfl ?_
        refine j_ialdw 22 0 _ (((p t).toNat : Int)) dX0_stepsToTheRoot_21 rfl (Nat.ble_eq_true_of_le (by omega)) rfl (by omega) (by rw [← iI_x (f t), hft]; exact congrArg iI (by omega)) ?_
        refine j_istore 24 (lv' := [(0, _), (1, _), (2, _), (3, _), (4, _)]) dX0_stepsToTheRoot_22 rfl ⟨rfl, rfl⟩ ?_
        refine j_iinc 27 (lv' := [(0, _), (1, _), (2, _), (3, _), (4, _)]) dX0_stepsToTheRoot_24 rfl rfl ⟨rfl, rfl⟩ ?_
        refine j_goto 5 dX0_stepsToTheRoot_27 ?_
        exact ih (s + 1) (p t).toNat (by omega) (by omega) (by omega) (by rw [show n - (s + 1) = c by omega]; omega)

set_option maxRecDepth 100000 in
set_option maxHeartbeats 4000000 in
theorem c_X0_stepsToTheRoot (E : jD) (a L : Nat) (f : Nat → Int32) (p : Nat → Int) (n : Nat) (u : Nat) (hL : n ≤ L ∧ L ≤ 48) (hpk : ∀ k, k < n → (f k).toInt = p k) (hp : inT p n) (hu : u < n) : MC E Y_X0_stepsToTheRoot [.ref a, .int (iI (u : Int)), .int (iI (n : Int))] [(a, jA E L f)] (fun r N0 => r = some (.int (iI ((srF p n u : Nat)))) ∧ N0 = [(a, jA E L f)]) := by
  refine MC.of (by decide) rfl rfl ?_
  refine j_iconst 1 dX0_stepsToTheRoot_0 ?_
  refine j_istore_3 2 (lv' := [(0, _), (1, _), (2, _), (3, _)]) dX0_stepsToTheRoot_1 rfl ⟨rfl, rfl⟩ ?_
  refine j_iload_1 3 dX0_stepsToTheRoot_2 rfl ?_
  refine j_istore 5 (lv' := [(0, _), (1, _), (2, _), (3, _), (4, _)]) dX0_stepsToTheRoot_3 rfl ⟨rfl, rfl⟩ ?_
  exact lp_steps E a L f p n hL hpk hp u (n + 1) 0 u (by omega) (by omega) hu (by rw [Nat.zero_add, Nat.sub_zero])

set_option maxRecDepth 100000 in
set_option maxHeartbeats 4000000 in
theorem lp_allCome (E : jD) (a b : Nat) (n : Nat) (f : Nat → Int32) (hn : n ≤ 48) (hp : inT (tI f) n) : ∀ (d : Nat) (k : Nat), n - k < d → (k ≤ n) → (∀ j, j < k → srF (tI f) n j < n) → J E Y_X0_allComeToTheRoot (jZm E Y_X0_allComeToTheRoot (fun r N0 => r = some (.int (iI (bI (∀ k, k < n → srF (tI f) n k < n)))) ∧ N0 = [(a, jO 4 [.ref b, .int (iI (n : Int))]), (b, jA E 48 f)])) 0 0 2 [(0, .ref a), (1, .int (iI (k : Int)))] [] [(a, jO 4 [.ref b, .int (iI (n : Int))]), (b, jA E 48 f)] := by
  intro d
  induction d with
  | zero => intros; omega
  | succ d ih =>
    intro k hd hk he
    refine j_iload_1 3 dX0_allComeToTheRoot_2 rfl ?_
    refine j_aload_0 4 dX0_allComeToTheRoot_3 rfl ?_
    refine j_get 7 0 gf_X0_45 dX0_allComeToTheRoot_4 rfl rfl ?_
    refine j_icmp_ge 37 10 dX0_allComeToTheRoot_7 (by first | exact iI_rng _ | exact bI_r _ | exact ⟨by omega, by omega⟩) (by first | exact iI_rng _ | exact bI_r _ | exact ⟨by omega, by omega⟩) (fun h7 => ?_) (fun h7 => ?_)
    · have e : k = n := by omega
      subst e
      refine j_iconst 38 dX0_allComeToTheRoot_37 ?_
      exact j_zret (by first | exact bI_n _ | decide +kernel) dX0_allComeToTheRoot_38 rfl rfl ⟨congrArg (fun z => some (Value.int (iI z))) ((bI_t he).symm), rfl⟩
    · have hsl := srF_le (tI f) n k
      refine j_aload_0 11 dX0_allComeToTheRoot_10 rfl ?_
      refine j_get 14 0 gf_X0_48 dX0_allComeToTheRoot_11 rfl rfl ?_
      refine j_iload_1 15 dX0_allComeToTheRoot_14 rfl ?_
      refine j_aload_0 16 dX0_allComeToTheRoot_15 rfl ?_
      refine j_get 19 0 gf_X0_45 dX0_allComeToTheRoot_16 rfl rfl ?_
      refine j_callSi 22 Y_X0_stepsToTheRoot [1] [_, _, _] (c_X0_stepsToTheRoot E _ _ _ (tI f) _ _ ⟨hn, by omega⟩ (fun _ _ => rfl) hp (by omega)) m_X0_stepsToTheRoot wml_X0_59 dX0_allComeToTheRoot_19 rfl rfl rfl rfl rfl rfl rfl ?_
      refine j_aload_0 23 dX0_allComeToTheRoot_22 rfl ?_
      refine j_get 26 0 gf_X0_45 dX0_allComeToTheRoot_23 rfl rfl ?_
      refine j_icmp_lt 31 29 dX0_allComeToTheRoot_26 (by first | exact iI_rng _ | exact bI_r _ | exact ⟨by omega, by omega⟩) (by first | exact iI_rng _ | exact bI_r _ | exact ⟨by omega, by omega⟩) (fun h26 => ?_) (fun h26 => ?_)
      · refine j_iinc 34 (lv' := [(0, _), (1, _)]) dX0_allComeToTheRoot_31 rfl rfl ⟨rfl, rfl⟩ ?_
        refine j_goto 2 dX0_allComeToTheRoot_34 ?_
        exact ih (k + 1) (by omega) (by omega) (fun j hj => by
          by_cases hjk : j = k
          · subst hjk; omega
          · exact he j (by omega))
      · refine j_iconst 30 dX0_allComeToTheRoot_29 ?_
        exact j_zret (by first | exact bI_n _ | decide +kernel) dX0_allComeToTheRoot_30 rfl rfl ⟨congrArg (fun z => some (Value.int (iI z))) ((bI_f (fun z => h26 (by have := z k (by omega); omega))).symm), rfl⟩

set_option maxRecDepth 100000 in
set_option maxHeartbeats 4000000 in
theorem c_X0_allComeToTheRoot (E : jD) (a b : Nat) (n : Nat) (f : Nat → Int32) (hn : n ≤ 48) (hp : inT (tI f) n) : MC E Y_X0_allComeToTheRoot [.ref a] [(a, jO 4 [.ref b, .int (iI (n : Int))]), (b, jA E 48 f)] (fun r N0 => r = some (.int (iI (bI (∀ k, k < n → srF (tI f) n k < n)))) ∧ N0 = [(a, jO 4 [.ref b, .int (iI (n : Int))]), (b, jA E 48 f)]) := by
  refine MC.of (by decide) rfl rfl ?_
  refine j_iconst 1 dX0_allComeToTheRoot_0 ?_
  refine j_istore_1 2 (lv' := [(0, _), (1, _)]) dX0_allComeToTheRoot_1 rfl ⟨rfl, rfl⟩ ?_
  exact lp_allCome E a b n f hn hp (n + 1) 0 (by omega) (by omega) (fun j hj => by omega)

noncomputable def toB (p : Nat → Int) (n : Nat) : Int := @bI (toldP p n) (Classical.propDecidable _)
theorem toB_t {p : Nat → Int} {n : Nat} (h : toldP p n) : toB p n = 1 := if_pos h
theorem toB_f {p : Nat → Int} {n : Nat} (h : ¬ toldP p n) : toB p n = 0 := if_neg h

set_option maxRecDepth 100000 in
set_option maxHeartbeats 4000000 in
theorem lp_isTold (E : jD) (a b : Nat) (n : Nat) (f : Nat → Int32) (hn : n ≤ 48) : ∀ (d : Nat) (k : Nat), n - k < d → (k ≤ n) → (∀ j, j < k → (tI f) j = -1 ∨ (0 ≤ (tI f) j ∧ (tI f) j < n)) → J E Y_X0_isTold (jZm E Y_X0_isTold (fun r N0 => r = some (.int (iI (toB (tI f) n))) ∧ N0 = [(a, jO 4 [.ref b, .int (iI (n : Int))]), (b, jA E 48 f)])) 0 0 4 [(0, .ref a), (1, .int (iI ((rcF (tI f) k : Nat) : Int))), (2, .int (iI (k : Int)))] [] [(a, jO 4 [.ref b, .int (iI (n : Int))]), (b, jA E 48 f)] := by
  intro d
  induction d with
  | zero => intros; omega
  | succ d ih =>
    intro k hd hk he
    have hrc := rcF_le (tI f) k
    refine j_iload_2 5 dX0_isTold_4 rfl ?_
    refine j_aload_0 6 dX0_isTold_5 rfl ?_
    refine j_get 9 0 gf_X0_45 dX0_isTold_6 rfl rfl ?_
    refine j_icmp_ge 49 12 dX0_isTold_9 (by first | exact iI_rng _ | exact bI_r _ | exact ⟨by omega, by omega⟩) (by first | exact iI_rng _ | exact bI_r _ | exact ⟨by omega, by omega⟩) (fun h9 => ?_) (fun h9 => ?_)
    · have e : k = n := by omega
      subst e
      refine j_iload_1 50 dX0_isTold_49 rfl ?_
      refine j_iconst 51 dX0_isTold_50 ?_
      refine j_icmp_ne 65 54 dX0_isTold_51 (by first | exact iI_rng _ | exact bI_r _ | exact ⟨by omega, by omega⟩) (by first | exact iI_rng _ | exact bI_r _ | exact ⟨by omega, by omega⟩) (fun h51 => ?_) (fun h51 => ?_)
      · refine j_iconst 66 dX0_isTold_65 ?_
        exact j_zret (by decide +kernel) dX0_isTold_66 rfl rfl ⟨congrArg (fun z => some (Value.int (iI z))) ((toB_f (fun z => h51 (by rw [z.2.1]; rfl))).symm), rfl⟩
      · refine j_aload_0 55 dX0_isTold_54 rfl ?_
        refine j_callSi 58 Y_X0_allComeToTheRoot [0, 1] [_] (c_X0_allComeToTheRoot E _ _ _ _ hn he) m_X0_allComeToTheRoot wml_X0_55 dX0_isTold_55 rfl rfl rfl rfl rfl rfl rfl ?_
        refine j_bif_eq 65 61 dX0_isTold_58 (fun h58 => ?_) (fun h58 => ?_)
        · refine j_iconst 66 dX0_isTold_65 ?_
          exact j_zret (by decide +kernel) dX0_isTold_66 rfl rfl ⟨congrArg (fun z => some (Value.int (iI z))) ((toB_f (fun z => h58 z.2.2)).symm), rfl⟩
        · refine j_iconst 62 dX0_isTold_61 ?_
          refine j_goto 66 dX0_isTold_62 ?_
          exact j_zret (by first | exact bI_n _ | decide +kernel) dX0_isTold_66 rfl rfl ⟨congrArg (fun z => some (Value.int (iI z))) ((toB_t ⟨he, by omega, h58⟩).symm), rfl⟩
    · have hst : rcF (tI f) (k + 1) = rcF (tI f) k + (if (tI f) k = -1 then 1 else 0) := rfl
      refine j_aload_0 13 dX0_isTold_12 rfl ?_
      refine j_get 16 0 gf_X0_48 dX0_isTold_13 rfl rfl ?_
      refine j_iload_2 17 dX0_isTold_16 rfl ?_
      refine j_iald 18 1 _ dX0_isTold_17 rfl rfl rfl (by omega) ?_
      refine j_iconst 19 dX0_isTold_18 ?_
      refine j_icmp_ne 28 22 dX0_isTold_19 (by first | exact iI_rng _ | exact bI_r _ | exact ⟨by omega, by omega⟩) (by first | exact iI_rng _ | exact bI_r _ | exact ⟨by omega, by omega⟩) (fun h19 => ?_) (fun h19 => ?_)
      · rw [if_neg (show ¬ (f k).toInt = -1 by omega), Nat.add_zero] at hst
        refine j_aload_0 29 dX0_isTold_28 rfl ?_
        refine j_aload_0 30 dX0_isTold_29 rfl ?_
        refine j_get 33 0 gf_X0_48 dX0_isTold_30 rfl rfl ?_
        refine j_iload_2 34 dX0_isTold_33 rfl ?_
        refine j_iald 35 1 _ dX0_isTold_34 rfl rfl rfl (by omega) ?_
        refine j_callVi 38 Y_X4_lacks [0] [_] (c_X4_lacks E _ _ _ _ (by exact ⟨by omega, by omega⟩) (iI_rng _)) m_X4_lacks wml_X0_51 dX0_isTold_35 0 rfl rfl rfl rfl rfl rfl rfl rfl rfl rfl ?_
        refine j_bif_eq 43 41 dX0_isTold_38 (fun h38 => ?_) (fun h38 => ?_)
        · refine j_iinc 46 (lv' := [(0, _), (1, _), (2, _)]) dX0_isTold_43 rfl rfl ⟨rfl, rfl⟩ ?_
          refine j_goto 4 dX0_isTold_46 ?_
          have h := ih (k + 1) (by omega) (by omega) (fun j hj => by
            by_cases hjk : j = k
            · subst hjk; first | exact Or.inl h19 | (show (f j).toInt = -1 ∨ (0 ≤ (f j).toInt ∧ (f j).toInt < n); omega)
            · exact he j (by omega))
          rw [hst] at h
          exact h
        · refine j_iconst 42 dX0_isTold_41 ?_
          exact j_zret (by first | exact bI_n _ | decide +kernel) dX0_isTold_42 rfl rfl ⟨congrArg (fun z => some (Value.int (iI z))) ((toB_f (fun z => by have h0 := z.1 k (by omega); have h1 : (f k).toInt = -1 ∨ (0 ≤ (f k).toInt ∧ (f k).toInt < n) := h0; omega)).symm), rfl⟩
      · rw [if_pos (show (f k).toInt = -1 by omega)] at hst
        refine j_iinc 25 (lv' := [(0, _), (1, _), (2, _)]) dX0_isTold_22 rfl rfl ⟨rfl, rfl⟩ ?_
        refine j_goto 43 dX0_isTold_25 ?_
        refine j_iinc 46 (lv' := [(0, _), (1, _), (2, _)]) dX0_isTold_43 rfl rfl ⟨rfl, rfl⟩ ?_
        refine j_goto 4 dX0_isTold_46 ?_
        have h := ih (k + 1) (by omega) (by omega) (fun j hj => by
          by_cases hjk : j = k
          · subst hjk; first | exact Or.inl h19 | (show (f j).toInt = -1 ∨ (0 ≤ (f j).toInt ∧ (f j).toInt < n); omega)
          · exact he j (by omega))
        rw [hst] at h
        exact h

set_option maxRecDepth 100000 in
set_option maxHeartbeats 4000000 in
theorem c_X0_isTold (E : jD) (a b : Nat) (n : Nat) (f : Nat → Int32) (hn : n ≤ 48) : MC E Y_X0_isTold [.ref a] [(a, jO 4 [.ref b, .int (iI (n : Int))]), (b, jA E 48 f)] (fun r N0 => r = some (.int (iI (toB (tI f) n))) ∧ N0 = [(a, jO 4 [.ref b, .int (iI (n : Int))]), (b, jA E 48 f)]) := by
  refine MC.of (by decide) rfl rfl ?_
  refine j_iconst 1 dX0_isTold_0 ?_
  refine j_istore_1 2 (lv' := [(0, _), (1, _)]) dX0_isTold_1 rfl ⟨rfl, rfl⟩ ?_
  refine j_iconst 3 dX0_isTold_2 ?_
  refine j_istore_2 4 (lv' := [(0, _), (1, _), (2, _)]) dX0_isTold_3 rfl ⟨rfl, rfl⟩ ?_
  exact lp_isTold E a b n f hn (n + 1) 0 (by omega) (by omega) (fun j hj => by omega)

set_option maxRecDepth 100000 in
set_option maxHeartbeats 4000000 in
theorem c_X0_lacks (E : jD) (y0 y1 y2 y3 y4 y5 y6 y8 : Nat) (nd u : Int) (hN : jr nd) (hi : jr u) : MC E Y_X0_lacks [.ref y0, .int (iI u)] [(y0, jO 0 [.ref y1, .ref y2, .ref y3, .ref y4, .ref y5, .ref y6, .ref y8, .int (iI nd)])] (fun r N0 => r = some (.int (iI (bI (u < 0 ∨ nd ≤ u)))) ∧ N0 = [(y0, jO 0 [.ref y1, .ref y2, .ref y3, .ref y4, .ref y5, .ref y6, .ref y8, .int (iI nd)])]) := by
  refine MC.of (by decide) rfl rfl ?_
  refine j_iload_1 1 dX0_lacks_0 rfl ?_
  refine j_if_lt 12 4 dX0_lacks_1 (by first | exact iI_rng _ | exact bI_r _ | exact ⟨by omega, by omega⟩) (fun h1 => ?_) (fun h1 => ?_)
  · refine j_iconst 13 dX0_lacks_12 ?_
    refine j_goto 17 dX0_lacks_13 ?_
    exact j_zret (by first | exact bI_n _ | decide +kernel) dX0_lacks_17 rfl rfl ⟨congrArg (fun z => some (Value.int (iI z))) (by first | exact (bI_t (by omega)).symm | exact (bI_f (by omega)).symm), rfl⟩
  · refine j_iload_1 5 dX0_lacks_4 rfl ?_
    refine j_aload_0 6 dX0_lacks_5 rfl ?_
    refine j_get 9 0 gf_X0_41 dX0_lacks_6 rfl rfl ?_
    refine j_icmp_lt 16 12 dX0_lacks_9 (by first | exact iI_rng _ | exact bI_r _ | exact ⟨by omega, by omega⟩) (by first | exact iI_rng _ | exact bI_r _ | exact ⟨by omega, by omega⟩) (fun h9 => ?_) (fun h9 => ?_)
    · refine j_iconst 17 dX0_lacks_16 ?_
      exact j_zret (by first | exact bI_n _ | decide +kernel) dX0_lacks_17 rfl rfl ⟨congrArg (fun z => some (Value.int (iI z))) (by first | exact (bI_t (by omega)).symm | exact (bI_f (by omega)).symm), rfl⟩
    · refine j_iconst 13 dX0_lacks_12 ?_
      refine j_goto 17 dX0_lacks_13 ?_
      exact j_zret (by first | exact bI_n _ | decide +kernel) dX0_lacks_17 rfl rfl ⟨congrArg (fun z => some (Value.int (iI z))) (by first | exact (bI_t (by omega)).symm | exact (bI_f (by omega)).symm), rfl⟩

set_option maxRecDepth 100000 in
set_option maxHeartbeats 4000000 in
theorem lp_root (E : jD) (y0 y1 y2 y3 y4 y5 y6 y8 : Nat) (n : Nat) (pa : Nat → Int32) (p : Nat → Int) (hn : 1 ≤ n ∧ n ≤ 24) (hpk : ∀ k, k < n → (pa k).toInt = p k) : ∀ (d : Nat) (k : Nat), n - 1 - k < d → (k ≤ n - 1) → (roF p (n - 1 - k) k = roF p (n - 1) 0) → J E Y_X0_root (jZm E Y_X0_root (fun r N0 => r = some (.int (iI ((roF p (n - 1) 0 : Nat)))) ∧ N0 = [(y0, jO 0 [.ref y1, .ref y2, .ref y3, .ref y4, .ref y5, .ref y6, .ref y8, .int (iI (n : Int))]), (y1, jA E 24 pa)])) 0 0 2 [(0, .ref y0), (1, .int (iI (k : Int)))] [] [(y0, jO 0 [.ref y1, .ref y2, .ref y3, .ref y4, .ref y5, .ref y6, .ref y8, .int (iI (n : Int))]), (y1, jA E 24 pa)] := by
  intro d
  induction d with
  | zero => intros; omega
  | succ d ih =>
    intro k hd hk he
    refine j_iload_1 3 dX0_root_2 rfl ?_
    refine j_aload_0 4 dX0_root_3 rfl ?_
    refine j_get 7 0 gf_X0_41 dX0_root_4 rfl rfl ?_
    refine j_iconst 8 dX0_root_7 ?_
    refine j_isub 9 dX0_root_8 ?_
    refine j_icmp_ge 28 12 dX0_root_9 (by first | exact iI_rng _ | exact bI_r _ | exact ⟨by omega, by omega⟩) (by first | exact iI_rng _ | exact bI_r _ | exact ⟨by omega, by omega⟩) (fun h9 => ?_) (fun h9 => ?_)
    · have e : n - 1 - k = 0 := by omega
      rw [e] at he
      refine j_iload_1 29 dX0_root_28 rfl ?_
      exact j_iret dX0_root_29 rfl rfl ⟨congrArg (fun z => some (Value.int (iI z))) (by first | (rw [← he]; done) | (rw [← he]; rfl)), rfl⟩
    · obtain ⟨c, hc⟩ : ∃ c, n - 1 - k = c + 1 := ⟨n - 1 - k - 1, by omega⟩
      rw [hc] at he
      have hft := hpk k (by omega)
      refine j_aload_0 13 dX0_root_12 rfl ?_
      refine j_get 16 0 gf_X0_9 dX0_root_13 rfl rfl ?_
      refine j_iload_1 17 dX0_root_16 rfl ?_
      refine j_iald 18 1 _ dX0_root_17 rfl rfl rfl (by omega) ?_
      refine j_iconst 19 dX0_root_18 ?_
      refine j_icmp_eq 28 22 dX0_root_19 (by first | exact iI_rng _ | exact bI_r _ | exact ⟨by omega, by omega⟩) (by first | exact iI_rng _ | exact bI_r _ | exact ⟨by omega, by omega⟩) (fun h19 => ?_) (fun h19 => ?_)
      · have e2 : roF p (c + 1) k = k := if_pos (by omega)
        rw [e2] at he
        refine j_iload_1 29 dX0_root_28 rfl ?_
        exact j_iret dX0_root_29 rfl rfl ⟨congrArg (fun z => some (Value.int (iI z))) (by first | (rw [← he]; done) | (rw [← he]; rfl)), rfl⟩
      · have e2 : roF p (c + 1) k = roF p c (k + 1) := if_neg (by omega)
        rw [e2] at he
        refine j_iinc 25 (lv' := [(0, _), (1, _)]) dX0_root_22 rfl rfl ⟨rfl, rfl⟩ ?_
        refine j_goto 2 dX0_root_25 ?_
        exact ih (k + 1) (by omega) (by omega) (by rw [show n - 1 - (k + 1) = c by omega, he])

set_option maxRecDepth 100000 in
set_option maxHeartbeats 4000000 in
theorem c_X0_root (E : jD) (y0 y1 y2 y3 y4 y5 y6 y8 : Nat) (n : Nat) (pa : Nat → Int32) (p : Nat → Int) (hn : 1 ≤ n ∧ n ≤ 24) (hpk : ∀ k, k < n → (pa k).toInt = p k) : MC E Y_X0_root [.ref y0] [(y0, jO 0 [.ref y1, .ref y2, .ref y3, .ref y4, .ref y5, .ref y6, .ref y8, .int (iI (n : Int))]), (y1, jA E 24 pa)] (fun r N0 => r = some (.int (iI ((roF p (n - 1) 0 : Nat)))) ∧ N0 = [(y0, jO 0 [.ref y1, .ref y2, .ref y3, .ref y4, .ref y5, .ref y6, .ref y8, .int (iI (n : Int))]), (y1, jA E 24 pa)]) := by
  refine MC.of (by decide) rfl rfl ?_
  refine j_iconst 1 dX0_root_0 ?_
  refine j_istore_1 2 (lv' := [(0, _), (1, _)]) dX0_root_1 rfl ⟨rfl, rfl⟩ ?_
  exact lp_root E y0 y1 y2 y3 y4 y5 y6 y8 n pa p hn hpk n 0 (by omega) (by omega) rfl

set_option maxRecDepth 100000 in
set_option maxHeartbeats 4000000 in
theorem lp_sonBehind (E : jD) (y0 y1 y2 y3 y4 y5 y6 y8 : Nat) (n : Nat) (pa : Nat → Int32) (p : Nat → Int) (hn : 1 ≤ n ∧ n ≤ 24) (hpk : ∀ k, k < n → (pa k).toInt = p k) (u sd : Int) (hu : jr u) (hsd : -1 ≤ sd ∧ sd < n) : ∀ (d : Nat) (k : Nat), n - k < d → (k ≤ n) → (sbF p u (n - k) k = soF p n u sd) → J E Y_X0_sonBehind (jZm E Y_X0_sonBehind (fun r N0 => r = some (.int (iI ((soF p n u sd : Nat)))) ∧ N0 = [(y0, jO 0 [.ref y1, .ref y2, .ref y3, .ref y4, .ref y5, .ref y6, .ref y8, .int (iI (n : Int))]), (y1, jA E 24 pa)])) 0 0 4 [(0, .ref y0), (1, .int (iI u)), (2, .int (iI sd)), (3, .int (iI (k : Int)))] [] [(y0, jO 0 [.ref y1, .ref y2, .ref y3, .ref y4, .ref y5, .ref y6, .ref y8, .int (iI (n : Int))]), (y1, jA E 24 pa)] := by
  intro d
  induction d with
  | zero => intros; omega
  | succ d ih =>
    intro k hd hk he
    refine j_iload_3 5 dX0_sonBehind_4 rfl ?_
    refine j_aload_0 6 dX0_sonBehind_5 rfl ?_
    refine j_get 9 0 gf_X0_41 dX0_sonBehind_6 rfl rfl ?_
    refine j_icmp_ge 28 12 dX0_sonBehind_9 (by first | exact iI_rng _ | exact bI_r _ | exact ⟨by omega, by omega⟩) (by first | exact iI_rng _ | exact bI_r _ | exact ⟨by omega, by omega⟩) (fun h9 => ?_) (fun h9 => ?_)
    · have e : n - k = 0 := by omega
      rw [e] at he
      refine j_iload_3 29 dX0_sonBehind_28 rfl ?_
      exact j_iret dX0_sonBehind_29 rfl rfl ⟨congrArg (fun z => some (Value.int (iI z))) (by first | (rw [← he]; done) | (rw [← he]; rfl)), rfl⟩
    · obtain ⟨c, hc⟩ : ∃ c, n - k = c + 1 := ⟨n - k - 1, by omega⟩
      rw [hc] at he
      have hft := hpk k (by omega)
      refine j_aload_0 13 dX0_sonBehind_12 rfl ?_
      refine j_get 16 0 gf_X0_9 dX0_sonBehind_13 rfl rfl ?_
      refine j_iload_3 17 dX0_sonBehind_16 rfl ?_
      refine j_iald 18 1 _ dX0_sonBehind_17 rfl rfl rfl (by omega) ?_
      refine j_iload_1 19 dX0_sonBehind_18 rfl ?_
      refine j_icmp_eq 28 22 dX0_sonBehind_19 (by first | exact iI_rng _ | exact bI_r _ | exact ⟨by omega, by omega⟩) (by first | exact iI_rng _ | exact bI_r _ | exact ⟨by omega, by omega⟩) (fun h19 => ?_) (fun h19 => ?_)
      · have e2 : sbF p u (c + 1) k = k := if_pos (by omega)
        rw [e2] at he
        refine j_iload_3 29 dX0_sonBehind_28 rfl ?_
        exact j_iret dX0_sonBehind_29 rfl rfl ⟨congrArg (fun z => some (Value.int (iI z))) (by first | (rw [← he]; done) | (rw [← he]; rfl)), rfl⟩
      · have e2 : sbF p u (c + 1) k = sbF p u c (k + 1) := if_neg (by omega)
        rw [e2] at he
        refine j_iinc 25 (lv' := [(0, _), (1, _), (2, _), (3, _)]) dX0_sonBehind_22 rfl rfl ⟨rfl, rfl⟩ ?_
        refine j_goto 4 dX0_sonBehind_25 ?_
        exact ih (k + 1) (by omega) (by omega) (by rw [show n - (k + 1) = c by omega, he])

set_option maxRecDepth 100000 in
set_option maxHeartbeats 4000000 in
theorem c_X0_sonBehind (E : jD) (y0 y1 y2 y3 y4 y5 y6 y8 : Nat) (n : Nat) (pa : Nat → Int32) (p : Nat → Int) (u sd : Int) (hn : 1 ≤ n ∧ n ≤ 24) (hpk : ∀ k, k < n → (pa k).toInt = p k) (hu : jr u) (hsd : -1 ≤ sd ∧ sd < n) : MC E Y_X0_sonBehind [.ref y0, .int (iI u), .int (iI sd)] [(y0, jO 0 [.ref y1, .ref y2, .ref y3, .ref y4, .ref y5, .ref y6, .ref y8, .int (iI (n : Int))]), (y1, jA E 24 pa)] (fun r N0 => r = some (.int (iI ((soF p n u sd : Nat)))) ∧ N0 = [(y0, jO 0 [.ref y1, .ref y2, .ref y3, .ref y4, .ref y5, .ref y6, .ref y8, .int (iI (n : Int))]), (y1, jA E 24 pa)]) := by
  refine MC.of (by decide) rfl rfl ?_
  refine j_iload_2 1 dX0_sonBehind_0 rfl ?_
  refine j_iconst 2 dX0_sonBehind_1 ?_
  refine j_iadd 3 dX0_sonBehind_2 ?_
  refine j_top (((sd + 1).toNat : Nat) : Int) (congrArg iI (by omega)) ?_
  refine j_istore_3 4 (lv' := [(0, _), (1, _), (2, _), (3, _)]) dX0_sonBehind_3 rfl ⟨rfl, rfl⟩ ?_
  exact lp_sonBehind E y0 y1 y2 y3 y4 y5 y6 y8 n pa p hn hpk u sd hu hsd (n + 1) (sd + 1).toNat (by omega) (by omega) rfl

theorem upF_s (p : Nat → Int) : ∀ j u, upF p (j + 1) u = (p (upF p j u)).toNat
  | 0, _ => rfl
  | j + 1, u => upF_s p j (p u).toNat

set_option maxRecDepth 100000 in
set_option maxHeartbeats 4000000 in
theorem lp_ancestorAt (E : jD) (y0 y1 y2 y3 y4 y5 y6 y8 : Nat) (n : Nat) (pa de : Nat → Int32) (p : Nat → Int) (hn : n ≤ 24) (hpk : ∀ k, k < n → (pa k).toInt = p k) (hp : inT p n) (hde : ∀ k, k < n → de k = iI (srF p n k : Nat)) (u : Nat) (hu : u < n) (dd : Int) (hd0 : 0 ≤ dd) (hle : ¬ (srF p n u : Int) < dd) : ∀ (d : Nat) (j : Nat), srF p n u - j < d → (j ≤ srF p n u - dd.toNat) → J E Y_X0_ancestorAt (jZm E Y_X0_ancestorAt (fun r N0 => r = some (.int (iI ((if (srF p n u : Int) < dd then -9 else ((upF p (srF p n u - dd.toNat) u : Nat) : Int))))) ∧ N0 = [(y0, jO 0 [.ref y1, .ref y2, .ref y3, .ref y4, .ref y5, .ref y6, .ref y8, .int (iI (n : Int))]), (y1, jA E 24 pa), (y2, jA E 24 de)])) 0 0 23 [(0, .ref y0), (1, .int (iI (u : Int))), (2, .int (iI dd)), (3, .int (iI ((upF p j u : Nat) : Int))), (4, .int (iI ((srF p n u : Int) - j)))] [] [(y0, jO 0 [.ref y1, .ref y2, .ref y3, .ref y4, .ref y5, .ref y6, .ref y8, .int (iI (n : Int))]), (y1, jA E 24 pa), (y2, jA E 24 de)] := by
  intro d
  induction d with
  | zero => intros; omega
  | succ d ih =>
    intro j hd hj
    have hsl := srF_le p n u
    refine j_iload 25 dX0_ancestorAt_23 rfl ?_
    refine j_iload_2 26 dX0_ancestorAt_25 rfl ?_
    refine j_icmp_le 42 29 dX0_ancestorAt_26 (by first | exact iI_rng _ | exact bI_r _ | exact ⟨by omega, by omega⟩) (by first | exact iI_rng _ | exact bI_r _ | exact ⟨by omega, by omega⟩) (fun h26 => ?_) (fun h26 => ?_)
    · have e : j = srF p n u - dd.toNat := by omega
      subst e
      refine j_iload_3 43 dX0_ancestorAt_42 rfl ?_
      exact j_iret dX0_ancestorAt_43 rfl rfl ⟨congrArg (fun z => some (Value.int (iI z))) ((if_neg hle).symm), rfl⟩
    · obtain ⟨hu1, hu2⟩ := up_in hp n u hu j (by omega)
      have hu3 := hu2 (by omega)
      have hu4 := hp _ hu1
      have hft := hpk _ hu1
      refine j_aload_0 30 dX0_ancestorAt_29 rfl ?_
      refine j_get 33 0 gf_X0_9 dX0_ancestorAt_30 rfl rfl ?_
      refine j_iload_3 34 dX0_ancestorAt_33 rfl ?_
      refine j_ialdw 35 1 _ (((upF p (j + 1) u : Nat) : Int)) dX0_ancestorAt_34 rfl rfl rfl (by omega) (by rw [← iI_x (pa _), hft, upF_s]; exact congrArg iI (by omega)) ?_
      refine j_istore_3 36 (lv' := [(0, _), (1, _), (2, _), (3, _), (4, _)]) dX0_ancestorAt_35 rfl ⟨rfl, rfl⟩ ?_
      refine j_iinc 39 (lv' := [(0, _), (1, _), (2, _), (3, _), (4, _)]) dX0_ancestorAt_36 rfl rfl ⟨rfl, rfl⟩ ?_
      refine j_goto 23 dX0_ancestorAt_39 ?_
      refine j_eqL (lv' := [(0, .ref y0), (1, .int (iI (u : Int))), (2, .int (iI dd)), (3, .int (iI ((upF p (j + 1) u : Nat) : Int))), (4, .int (iI ((srF p n u : Int) - ((j + 1 : Nat) : Int))))]) (by rw [show (srF p n u : Int) - j + -1 = (srF p n u : Int) - ((j + 1 : Nat) : Int) by omega]) ?_
      exact ih (j + 1) (by omega) (by omega)

set_option maxRecDepth 100000 in
set_option maxHeartbeats 4000000 in
theorem c_X0_ancestorAt (E : jD) (y0 y1 y2 y3 y4 y5 y6 y8 : Nat) (n : Nat) (pa de : Nat → Int32) (p : Nat → Int) (u : Nat) (dd : Int) (hn : n ≤ 24) (hpk : ∀ k, k < n → (pa k).toInt = p k) (hp : inT p n) (hde : ∀ k, k < n → de k = iI (srF p n k : Nat)) (hu : u < n) (hd0 : 0 ≤ dd) (hdr : jr dd) : MC E Y_X0_ancestorAt [.ref y0, .int (iI (u : Int)), .int (iI dd)] [(y0, jO 0 [.ref y1, .ref y2, .ref y3, .ref y4, .ref y5, .ref y6, .ref y8, .int (iI (n : Int))]), (y1, jA E 24 pa), (y2, jA E 24 de)] (fun r N0 => r = some (.int (iI ((if (srF p n u : Int) < dd then -9 else ((upF p (srF p n u - dd.toNat) u : Nat) : Int))))) ∧ N0 = [(y0, jO 0 [.ref y1, .ref y2, .ref y3, .ref y4, .ref y5, .ref y6, .ref y8, .int (iI (n : Int))]), (y1, jA E 24 pa), (y2, jA E 24 de)]) := by
  refine MC.of (by decide) rfl rfl ?_
  have hsl := srF_le p n u
  refine j_iload_2 1 dX0_ancestorAt_0 rfl ?_
  refine j_aload_0 2 dX0_ancestorAt_1 rfl ?_
  refine j_get 5 0 gf_X0_15 dX0_ancestorAt_2 rfl rfl ?_
  refine j_iload_1 6 dX0_ancestorAt_5 rfl ?_
  refine j_ialdw 7 2 _ ((srF p n u : Int)) dX0_ancestorAt_6 rfl rfl rfl (by omega) (hde u hu) ?_
  refine j_icmp_le 13 10 dX0_ancestorAt_7 (by first | exact iI_rng _ | exact bI_r _ | exact ⟨by omega, by omega⟩) (by first | exact iI_rng _ | exact bI_r _ | exact ⟨by omega, by omega⟩) (fun h7 => ?_) (fun h7 => ?_)
  · refine j_iload_1 14 dX0_ancestorAt_13 rfl ?_
    refine j_istore_3 15 (lv' := [(0, _), (1, _), (2, _), (3, _)]) dX0_ancestorAt_14 rfl ⟨rfl, rfl⟩ ?_
    refine j_aload_0 16 dX0_ancestorAt_15 rfl ?_
    refine j_get 19 0 gf_X0_15 dX0_ancestorAt_16 rfl rfl ?_
    refine j_iload_1 20 dX0_ancestorAt_19 rfl ?_
    refine j_ialdw 21 2 _ ((srF p n u : Int)) dX0_ancestorAt_20 rfl rfl rfl (by omega) (hde u hu) ?_
    refine j_istore 23 (lv' := [(0, _), (1, _), (2, _), (3, _), (4, _)]) dX0_ancestorAt_21 rfl ⟨rfl, rfl⟩ ?_
    refine j_eqL (lv' := [(0, .ref y0), (1, .int (iI (u : Int))), (2, .int (iI dd)), (3, .int (iI ((upF p 0 u : Nat) : Int))), (4, .int (iI ((srF p n u : Int) - ((0 : Nat) : Int))))]) (by rw [show (srF p n u : Int) - ((0 : Nat) : Int) = (srF p n u : Int) by omega]; rfl) ?_
    exact lp_ancestorAt E y0 y1 y2 y3 y4 y5 y6 y8 n pa de p hn hpk hp hde u hu dd hd0 (by omega) (srF p n u + 1) 0 (by omega) (by omega)
  · refine j_bipush 12 dX0_ancestorAt_10 (by decide +kernel) ?_
    exact j_iret dX0_ancestorAt_12 rfl rfl ⟨congrArg (fun z => some (Value.int (iI z))) ((if_pos (by omega)).symm), rfl⟩

set_option maxRecDepth 100000 in
set_option maxHeartbeats 4000000 in
theorem c_X0_meetingNode (E : jD) (y0 y1 y2 y3 y4 y5 y6 y8 : Nat) (y9 y10 y11 y12 y14 : Nat) (nd tw tb : Int) (tn : Nat) (fi mt tf : Nat → Int32) (u v a b : Nat) (hu : u < 24) (hv : v < 24) (ha : fi u = iI (a : Int)) (hb : fi v = iI (b : Int)) (ha2 : a < 47) (hb2 : b < 47) : MC E Y_X0_meetingNode [.ref y0, .int (iI (u : Int)), .int (iI (v : Int))] [(y0, jO 0 [.ref y1, .ref y2, .ref y3, .ref y4, .ref y5, .ref y6, .ref y8, .int (iI nd)]), (y4, jA E 24 fi), (y5, jA E 47 mt), (y8, jO 3 [.ref y9, .ref y11, .ref y12, .ref y14, .int (iI tw), .int (iI tb)]), (y9, jO 4 [.ref y10, .int (iI (tn : Int))]), (y10, jA E 48 tf)] (fun r N0 => r = some (.int (iI ((mt (lsF (tI tf) (min a b) (max a b - min a b))).toInt))) ∧ N0 = [(y0, jO 0 [.ref y1, .ref y2, .ref y3, .ref y4, .ref y5, .ref y6, .ref y8, .int (iI nd)]), (y4, jA E 24 fi), (y5, jA E 47 mt), (y8, jO 3 [.ref y9, .ref y11, .ref y12, .ref y14, .int (iI tw), .int (iI tb)]), (y9, jO 4 [.ref y10, .int (iI (tn : Int))]), (y10, jA E 48 tf)]) := by
  refine MC.of (by decide) rfl rfl ?_
  have hls := lsF_in (tI tf) (min a b) (max a b - min a b)
  refine j_aload_0 1 dX0_meetingNode_0 rfl ?_
  refine j_get 4 0 gf_X0_21 dX0_meetingNode_1 rfl rfl ?_
  refine j_iload_1 5 dX0_meetingNode_4 rfl ?_
  refine j_ialdw 6 1 _ ((a : Int)) dX0_meetingNode_5 rfl rfl rfl (by omega) ha ?_
  refine j_aload_0 7 dX0_meetingNode_6 rfl ?_
  refine j_get 10 0 gf_X0_21 dX0_meetingNode_7 rfl rfl ?_
  refine j_iload_2 11 dX0_meetingNode_10 rfl ?_
  refine j_ialdw 12 1 _ ((b : Int)) dX0_meetingNode_11 rfl rfl rfl (by omega) hb ?_
  refine j_min 15 wml_X0_97 dX0_meetingNode_12 (by first | exact iI_rng _ | exact bI_r _ | exact ⟨by omega, by omega⟩) (by first | exact iI_rng _ | exact bI_r _ | exact ⟨by omega, by omega⟩) rfl ?_
  refine j_top ((min a b : Nat) : Int) (congrArg iI (by omega)) ?_
  refine j_istore_3 16 (lv' := [(0, _), (1, _), (2, _), (3, _)]) dX0_meetingNode_15 rfl ⟨rfl, rfl⟩ ?_
  refine j_aload_0 17 dX0_meetingNode_16 rfl ?_
  refine j_get 20 0 gf_X0_21 dX0_meetingNode_17 rfl rfl ?_
  refine j_iload_1 21 dX0_meetingNode_20 rfl ?_
  refine j_ialdw 22 1 _ ((a : Int)) dX0_meetingNode_21 rfl rfl rfl (by omega) ha ?_
  refine j_aload_0 23 dX0_meetingNode_22 rfl ?_
  refine j_get 26 0 gf_X0_21 dX0_meetingNode_23 rfl rfl ?_
  refine j_iload_2 27 dX0_meetingNode_26 rfl ?_
  refine j_ialdw 28 1 _ ((b : Int)) dX0_meetingNode_27 rfl rfl rfl (by omega) hb ?_
  refine j_max 31 wml_X0_102 dX0_meetingNode_28 (by first | exact iI_rng _ | exact bI_r _ | exact ⟨by omega, by omega⟩) (by first | exact iI_rng _ | exact bI_r _ | exact ⟨by omega, by omega⟩) rfl ?_
  refine j_top ((max a b : Nat) : Int) (congrArg iI (by omega)) ?_
  refine j_istore 33 (lv' := [(0, _), (1, _), (2, _), (3, _), (4, _)]) dX0_meetingNode_31 rfl ⟨rfl, rfl⟩ ?_
  refine j_aload_0 34 dX0_meetingNode_33 rfl ?_
  refine j_get 37 0 gf_X0_24 dX0_meetingNode_34 rfl rfl ?_
  refine j_aload_0 38 dX0_meetingNode_37 rfl ?_
  refine j_get 41 0 gf_X0_37 dX0_meetingNode_38 rfl rfl ?_
  refine j_iload_3 42 dX0_meetingNode_41 rfl ?_
  refine j_iload 44 dX0_meetingNode_42 rfl ?_
  refine j_callVi 47 Y_X3_leastPlace [3, 4, 5] [_, _] (c_X3_leastPlace E _ _ _ _ _ _ _ _ _ _ _ _ (by omega) (by omega)) m_X3_leastPlace wml_X0_105 dX0_meetingNode_44 0 rfl rfl rfl rfl rfl rfl rfl rfl rfl rfl ?_
  refine j_iald 48 2 _ dX0_meetingNode_47 rfl rfl rfl (by omega) ?_
  exact j_iret dX0_meetingNode_48 rfl rfl ⟨rfl, rfl⟩

set_option maxRecDepth 100000 in
set_option maxHeartbeats 4000000 in
theorem c_X0_init (E : jD) (y0 : Nat)  : MC E Y_X0_init [.ref y0] [(y0, jO 0 [.null, .null, .null, .null, .null, .null, .null, .int 0])] (fun r N0 => ∃ y1 y2 y3 y4 y5 y6 y7 y8 y9 y10 y11 y12 y13 y14, r = none ∧ N0 = [(y0, jO 0 [.ref y1, .ref y2, .ref y3, .ref y4, .ref y5, .ref y6, .ref y8, .int (iI 0)]), (y1, jA E 24 (fun _ => 0)), (y2, jA E 24 (fun _ => 0)), (y3, jA E 24 (fun _ => 0)), (y4, jA E 24 (fun _ => 0)), (y5, jA E 47 (fun _ => 0)), (y6, jO 4 [.ref y7, .int (iI (-1))]), (y7, jA E 48 (fun _ => 0)), (y8, jO 3 [.ref y9, .ref y11, .ref y12, .ref y14, .int (iI 0), .int (iI 0)]), (y9, jO 4 [.ref y10, .int (iI (-1))]), (y10, jA E 48 (fun _ => 0)), (y11, jA E 48 (fun _ => 0)), (y12, jO 5 [.ref y13, .int (iI 0)]), (y13, jL E 64 (fun _ => 0)), (y14, jA E 6 (fun _ => 0))]) := by
  refine MC.of (by decide) rfl rfl ?_
  refine j_aload_0 1 dX0_init_0 rfl ?_
  refine j_obj 4 wml_X0_3 dX0_init_1 rfl ?_
  refine j_aload_0 5 dX0_init_4 rfl ?_
  refine j_bipush 7 dX0_init_5 (by decide +kernel) ?_
  refine j_newa 9 24 rfl rfl dX0_init_7 rfl (fun y1 => ?_)
  refine j_putF 12 0 pf_X0_9 rfl rfl dX0_init_9 rfl ⟨rfl, rfl, rfl⟩ ?_
  refine j_aload_0 13 dX0_init_12 rfl ?_
  refine j_bipush 15 dX0_init_13 (by decide +kernel) ?_
  refine j_newa 17 24 rfl rfl dX0_init_15 rfl (fun y2 => ?_)
  refine j_putF 20 0 pf_X0_15 rfl rfl dX0_init_17 rfl ⟨rfl, rfl, rfl⟩ ?_
  refine j_aload_0 21 dX0_init_20 rfl ?_
  refine j_bipush 23 dX0_init_21 (by decide +kernel) ?_
  refine j_newa 25 24 rfl rfl dX0_init_23 rfl (fun y3 => ?_)
  refine j_putF 28 0 pf_X0_18 rfl rfl dX0_init_25 rfl ⟨rfl, rfl, rfl⟩ ?_
  refine j_aload_0 29 dX0_init_28 rfl ?_
  refine j_bipush 31 dX0_init_29 (by decide +kernel) ?_
  refine j_newa 33 24 rfl rfl dX0_init_31 rfl (fun y4 => ?_)
  refine j_putF 36 0 pf_X0_21 rfl rfl dX0_init_33 rfl ⟨rfl, rfl, rfl⟩ ?_
  refine j_aload_0 37 dX0_init_36 rfl ?_
  refine j_bipush 39 dX0_init_37 (by decide +kernel) ?_
  refine j_newa 41 47 rfl rfl dX0_init_39 rfl (fun y5 => ?_)
  refine j_putF 44 0 pf_X0_24 rfl rfl dX0_init_41 rfl ⟨rfl, rfl, rfl⟩ ?_
  refine j_aload_0 45 dX0_init_44 rfl ?_
  refine j_new 48 (fs := [.null, .int 0]) tyX4 (ci := 4) rfl inX4 tyX4_ok wcl_X0_27 wn_X4 wi_ShapeMinima_Row (by decide +kernel) dX0_init_45 rfl (fun y6 => ?_)
  refine j_dup 49 dX0_init_48 rfl ?_
  refine j_callI 52 Y_X4_init [6] [] (c_X4_init E y6) m_X4_init wml_X0_29 dX0_init_49 rfl rfl rfl rfl rfl rfl rfl (fun r N h => by obtain ⟨c, rfl, rfl⟩ := h; rfl) (fun r N h => ?_)
  obtain ⟨y7, rfl, rfl⟩ := h
  refine j_putF 55 0 pf_X0_30 rfl rfl dX0_init_52 rfl ⟨rfl, rfl, rfl⟩ ?_
  refine j_aload_0 56 dX0_init_55 rfl ?_
  refine j_new 59 (fs := [.null, .null, .null, .null, .int 0, .int 0]) tyX3 (ci := 3) rfl inX3 tyX3_ok wcl_X0_34 wn_X3 wi_ShapeMinima_Index (by decide +kernel) dX0_init_56 rfl (fun y8 => ?_)
  refine j_dup 60 dX0_init_59 rfl ?_
  refine j_callI 63 Y_X3_init [8] [] (c_X3_init E y8) m_X3_init wml_X0_36 dX0_init_60 rfl rfl rfl rfl rfl rfl rfl (fun r N h => by obtain ⟨_, _, _, _, _, _, rfl, rfl⟩ := h; rfl) (fun r N h => ?_)
  obtain ⟨y9, y10, y11, y12, y13, y14, rfl, rfl⟩ := h
  refine j_putF 66 0 pf_X0_37 rfl rfl dX0_init_63 rfl ⟨rfl, rfl, rfl⟩ ?_
  refine j_aload_0 67 dX0_init_66 rfl ?_
  refine j_iconst 68 dX0_init_67 ?_
  refine j_put 71 0 pf_X0_41 dX0_init_68 rfl ⟨rfl, rfl, rfl⟩ ?_
  exact j_vret dX0_init_71 rfl rfl ⟨y1, y2, y3, y4, y5, y6, y7, y8, y9, y10, y11, y12, y13, y14, rfl, rfl⟩
end
