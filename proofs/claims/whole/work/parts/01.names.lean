-- PART A of kit/laws/SKELETON.whole.lean.txt, then names as claim/NAMES.whole.lean.txt prints them
-- ===== PART A: goes FIRST, ahead of the names: the tables' words, and 'selects' of the private methods out of them =====
/-- a private method of a class that the tables say can be made, by its rows of tables_1 -/
def lw_okq (q : MethodName × Nat) : Prop := (q.1.cls ≠ "java/lang/invoke/MethodHandle" ∧ q.1.cls ≠ "java/lang/invoke/VarHandle") ∧ Cond.instantiable q.1.cls q.2 ∈ tables_1 ∧ Cond.privateMethod q.1 ∈ tables_1 ∧ Cond.instanceMethod q.1 ∈ tables_1
theorem lw_p0 : lw_okq (⟨"ShapeMinima", "refuse", "(I)I"⟩, 8) := ⟨⟨by decide +kernel, by decide +kernel⟩, List.mem_of_getElem? (i := 14) (by decide +kernel), List.mem_of_getElem? (i := 198) (by decide +kernel), List.mem_of_getElem? (i := 199) (by decide +kernel)⟩
theorem lw_p1 : lw_okq (⟨"ShapeMinima", "refusalOfPlace", "(II)I"⟩, 8) := ⟨⟨by decide +kernel, by decide +kernel⟩, List.mem_of_getElem? (i := 14) (by decide +kernel), List.mem_of_getElem? (i := 213) (by decide +kernel), List.mem_of_getElem? (i := 214) (by decide +kernel)⟩
theorem lw_p2 : lw_okq (⟨"ShapeMinima$Index", "shapeNow", "(I)I"⟩, 6) := ⟨⟨by decide +kernel, by decide +kernel⟩, List.mem_of_getElem? (i := 61) (by decide +kernel), List.mem_of_getElem? (i := 264) (by decide +kernel), List.mem_of_getElem? (i := 265) (by decide +kernel)⟩
theorem lw_p3 : lw_okq (⟨"ShapeMinima", "refusalOfItem", "(I)I"⟩, 8) := ⟨⟨by decide +kernel, by decide +kernel⟩, List.mem_of_getElem? (i := 14) (by decide +kernel), List.mem_of_getElem? (i := 287) (by decide +kernel), List.mem_of_getElem? (i := 288) (by decide +kernel)⟩
theorem lw_p4 : lw_okq (⟨"ShapeMinima", "refusalOfRun", "(II)I"⟩, 8) := ⟨⟨by decide +kernel, by decide +kernel⟩, List.mem_of_getElem? (i := 14) (by decide +kernel), List.mem_of_getElem? (i := 291) (by decide +kernel), List.mem_of_getElem? (i := 292) (by decide +kernel)⟩
theorem lw_p5 : lw_okq (⟨"ShapeMinima$History", "loseOldest", "()V"⟩, 3) := ⟨⟨by decide +kernel, by decide +kernel⟩, List.mem_of_getElem? (i := 108) (by decide +kernel), List.mem_of_getElem? (i := 304) (by decide +kernel), List.mem_of_getElem? (i := 305) (by decide +kernel)⟩
theorem lw_p6 : lw_okq (⟨"ShapeMinima$Index", "rank", "(III)I"⟩, 6) := ⟨⟨by decide +kernel, by decide +kernel⟩, List.mem_of_getElem? (i := 61) (by decide +kernel), List.mem_of_getElem? (i := 374) (by decide +kernel), List.mem_of_getElem? (i := 375) (by decide +kernel)⟩
theorem lw_p7 : lw_okq (⟨"ShapeMinima$Index", "stepsToLeftWithin", "(II)I"⟩, 6) := ⟨⟨by decide +kernel, by decide +kernel⟩, List.mem_of_getElem? (i := 61) (by decide +kernel), List.mem_of_getElem? (i := 445) (by decide +kernel), List.mem_of_getElem? (i := 446) (by decide +kernel)⟩
theorem lw_p8 : lw_okq (⟨"ShapeMinima$Family", "countSizes", "()V"⟩, 8) := ⟨⟨by decide +kernel, by decide +kernel⟩, List.mem_of_getElem? (i := 127) (by decide +kernel), List.mem_of_getElem? (i := 468) (by decide +kernel), List.mem_of_getElem? (i := 469) (by decide +kernel)⟩
theorem lw_p9 : lw_okq (⟨"ShapeMinima$Family", "goTour", "()V"⟩, 8) := ⟨⟨by decide +kernel, by decide +kernel⟩, List.mem_of_getElem? (i := 127) (by decide +kernel), List.mem_of_getElem? (i := 473) (by decide +kernel), List.mem_of_getElem? (i := 474) (by decide +kernel)⟩
theorem lw_p10 : lw_okq (⟨"ShapeMinima$Family", "root", "()I"⟩, 8) := ⟨⟨by decide +kernel, by decide +kernel⟩, List.mem_of_getElem? (i := 127) (by decide +kernel), List.mem_of_getElem? (i := 477) (by decide +kernel), List.mem_of_getElem? (i := 478) (by decide +kernel)⟩
theorem lw_p11 : lw_okq (⟨"ShapeMinima$Family", "sonBehind", "(II)I"⟩, 8) := ⟨⟨by decide +kernel, by decide +kernel⟩, List.mem_of_getElem? (i := 127) (by decide +kernel), List.mem_of_getElem? (i := 482) (by decide +kernel), List.mem_of_getElem? (i := 483) (by decide +kernel)⟩
theorem lw_p12 : lw_okq (⟨"ShapeMinima", "refusalOfNodes", "(II)I"⟩, 8) := ⟨⟨by decide +kernel, by decide +kernel⟩, List.mem_of_getElem? (i := 14) (by decide +kernel), List.mem_of_getElem? (i := 491) (by decide +kernel), List.mem_of_getElem? (i := 492) (by decide +kernel)⟩
theorem lw_p13 : lw_okq (⟨"ShapeMinima$Index", "entries", "()I"⟩, 6) := ⟨⟨by decide +kernel, by decide +kernel⟩, List.mem_of_getElem? (i := 61) (by decide +kernel), List.mem_of_getElem? (i := 543) (by decide +kernel), List.mem_of_getElem? (i := 544) (by decide +kernel)⟩
theorem lw_p14 : lw_okq (⟨"ShapeMinima", "rowsThere", "()I"⟩, 8) := ⟨⟨by decide +kernel, by decide +kernel⟩, List.mem_of_getElem? (i := 14) (by decide +kernel), List.mem_of_getElem? (i := 547) (by decide +kernel), List.mem_of_getElem? (i := 548) (by decide +kernel)⟩
theorem lw_p15 : lw_okq (⟨"ShapeMinimaModel", "found", "(I)I"⟩, 22) := ⟨⟨by decide +kernel, by decide +kernel⟩, List.mem_of_getElem? (i := 571) (by decide +kernel), List.mem_of_getElem? (i := 654) (by decide +kernel), List.mem_of_getElem? (i := 655) (by decide +kernel)⟩
def lw_privs_1 : List (MethodName × Nat) := [(⟨"ShapeMinima", "refuse", "(I)I"⟩, 8), (⟨"ShapeMinima", "refusalOfPlace", "(II)I"⟩, 8), (⟨"ShapeMinima$Index", "shapeNow", "(I)I"⟩, 6), (⟨"ShapeMinima", "refusalOfItem", "(I)I"⟩, 8), (⟨"ShapeMinima", "refusalOfRun", "(II)I"⟩, 8), (⟨"ShapeMinima$History", "loseOldest", "()V"⟩, 3), (⟨"ShapeMinima$Index", "rank", "(III)I"⟩, 6), (⟨"ShapeMinima$Index", "stepsToLeftWithin", "(II)I"⟩, 6), (⟨"ShapeMinima$Family", "countSizes", "()V"⟩, 8), (⟨"ShapeMinima$Family", "goTour", "()V"⟩, 8), (⟨"ShapeMinima$Family", "root", "()I"⟩, 8), (⟨"ShapeMinima$Family", "sonBehind", "(II)I"⟩, 8), (⟨"ShapeMinima", "refusalOfNodes", "(II)I"⟩, 8), (⟨"ShapeMinima$Index", "entries", "()I"⟩, 6), (⟨"ShapeMinima", "rowsThere", "()I"⟩, 8), (⟨"ShapeMinimaModel", "found", "(I)I"⟩, 22)]
theorem lw_r1 : ∀ q ∈ lw_privs_1, lw_okq q := List.forall_mem_cons.mpr ⟨lw_p0, List.forall_mem_cons.mpr ⟨lw_p1, List.forall_mem_cons.mpr ⟨lw_p2, List.forall_mem_cons.mpr ⟨lw_p3, List.forall_mem_cons.mpr ⟨lw_p4, List.forall_mem_cons.mpr ⟨lw_p5, List.forall_mem_cons.mpr ⟨lw_p6, List.forall_mem_cons.mpr ⟨lw_p7, List.forall_mem_cons.mpr ⟨lw_p8, List.forall_mem_cons.mpr ⟨lw_p9, List.forall_mem_cons.mpr ⟨lw_p10, List.forall_mem_cons.mpr ⟨lw_p11, List.forall_mem_cons.mpr ⟨lw_p12, List.forall_mem_cons.mpr ⟨lw_p13, List.forall_mem_cons.mpr ⟨lw_p14, List.forall_mem_cons.mpr ⟨lw_p15, fun _ h => absurd h List.not_mem_nil⟩⟩⟩⟩⟩⟩⟩⟩⟩⟩⟩⟩⟩⟩⟩⟩
theorem lw_p16 : lw_okq (⟨"ShapeMinimaModel", "against", "(II)I"⟩, 22) := ⟨⟨by decide +kernel, by decide +kernel⟩, List.mem_of_getElem? (i := 571) (by decide +kernel), List.mem_of_getElem? (i := 662) (by decide +kernel), List.mem_of_getElem? (i := 663) (by decide +kernel)⟩
theorem lw_p17 : lw_okq (⟨"ShapeMinimaModel", "tells", "(II)I"⟩, 22) := ⟨⟨by decide +kernel, by decide +kernel⟩, List.mem_of_getElem? (i := 571) (by decide +kernel), List.mem_of_getElem? (i := 666) (by decide +kernel), List.mem_of_getElem? (i := 667) (by decide +kernel)⟩
theorem lw_p18 : lw_okq (⟨"ShapeMinimaModel", "isPart", "(III)Z"⟩, 22) := ⟨⟨by decide +kernel, by decide +kernel⟩, List.mem_of_getElem? (i := 571) (by decide +kernel), List.mem_of_getElem? (i := 682) (by decide +kernel), List.mem_of_getElem? (i := 683) (by decide +kernel)⟩
theorem lw_p19 : lw_okq (⟨"ShapeMinimaModel", "makesAll", "()V"⟩, 22) := ⟨⟨by decide +kernel, by decide +kernel⟩, List.mem_of_getElem? (i := 571) (by decide +kernel), List.mem_of_getElem? (i := 690) (by decide +kernel), List.mem_of_getElem? (i := 691) (by decide +kernel)⟩
theorem lw_p20 : lw_okq (⟨"ShapeMinimaModel", "blocks", "()I"⟩, 22) := ⟨⟨by decide +kernel, by decide +kernel⟩, List.mem_of_getElem? (i := 571) (by decide +kernel), List.mem_of_getElem? (i := 694) (by decide +kernel), List.mem_of_getElem? (i := 695) (by decide +kernel)⟩
theorem lw_p21 : lw_okq (⟨"ShapeMinimaModel", "shapeOfBlock", "(I)I"⟩, 22) := ⟨⟨by decide +kernel, by decide +kernel⟩, List.mem_of_getElem? (i := 571) (by decide +kernel), List.mem_of_getElem? (i := 698) (by decide +kernel), List.mem_of_getElem? (i := 699) (by decide +kernel)⟩
theorem lw_p22 : lw_okq (⟨"ShapeMinimaModel", "shapeOf", "(II)I"⟩, 22) := ⟨⟨by decide +kernel, by decide +kernel⟩, List.mem_of_getElem? (i := 571) (by decide +kernel), List.mem_of_getElem? (i := 702) (by decide +kernel), List.mem_of_getElem? (i := 703) (by decide +kernel)⟩
theorem lw_p23 : lw_okq (⟨"ShapeMinimaModel", "makes", "(I)V"⟩, 22) := ⟨⟨by decide +kernel, by decide +kernel⟩, List.mem_of_getElem? (i := 571) (by decide +kernel), List.mem_of_getElem? (i := 706) (by decide +kernel), List.mem_of_getElem? (i := 707) (by decide +kernel)⟩
theorem lw_p24 : lw_okq (⟨"ShapeMinimaModel", "isMade", "(I)Z"⟩, 22) := ⟨⟨by decide +kernel, by decide +kernel⟩, List.mem_of_getElem? (i := 571) (by decide +kernel), List.mem_of_getElem? (i := 710) (by decide +kernel), List.mem_of_getElem? (i := 711) (by decide +kernel)⟩
theorem lw_p25 : lw_okq (⟨"ShapeMinimaModel", "againstRun", "(II)I"⟩, 22) := ⟨⟨by decide +kernel, by decide +kernel⟩, List.mem_of_getElem? (i := 571) (by decide +kernel), List.mem_of_getElem? (i := 718) (by decide +kernel), List.mem_of_getElem? (i := 719) (by decide +kernel)⟩
theorem lw_p26 : lw_okq (⟨"ShapeMinimaModel", "leastOf", "(II)I"⟩, 22) := ⟨⟨by decide +kernel, by decide +kernel⟩, List.mem_of_getElem? (i := 571) (by decide +kernel), List.mem_of_getElem? (i := 750) (by decide +kernel), List.mem_of_getElem? (i := 751) (by decide +kernel)⟩
theorem lw_p27 : lw_okq (⟨"ShapeMinimaModel", "leftOf", "(I)I"⟩, 22) := ⟨⟨by decide +kernel, by decide +kernel⟩, List.mem_of_getElem? (i := 571) (by decide +kernel), List.mem_of_getElem? (i := 762) (by decide +kernel), List.mem_of_getElem? (i := 763) (by decide +kernel)⟩
theorem lw_p28 : lw_okq (⟨"ShapeMinimaModel", "rightOf", "(I)I"⟩, 22) := ⟨⟨by decide +kernel, by decide +kernel⟩, List.mem_of_getElem? (i := 571) (by decide +kernel), List.mem_of_getElem? (i := 770) (by decide +kernel), List.mem_of_getElem? (i := 771) (by decide +kernel)⟩
theorem lw_p29 : lw_okq (⟨"ShapeMinimaModel", "ownsOf", "(I)I"⟩, 22) := ⟨⟨by decide +kernel, by decide +kernel⟩, List.mem_of_getElem? (i := 571) (by decide +kernel), List.mem_of_getElem? (i := 778) (by decide +kernel), List.mem_of_getElem? (i := 779) (by decide +kernel)⟩
theorem lw_p30 : lw_okq (⟨"ShapeMinimaModel", "depthOf", "(I)I"⟩, 22) := ⟨⟨by decide +kernel, by decide +kernel⟩, List.mem_of_getElem? (i := 571) (by decide +kernel), List.mem_of_getElem? (i := 790) (by decide +kernel), List.mem_of_getElem? (i := 791) (by decide +kernel)⟩
theorem lw_p31 : lw_okq (⟨"ShapeMinimaModel", "takenOff", "(II)I"⟩, 22) := ⟨⟨by decide +kernel, by decide +kernel⟩, List.mem_of_getElem? (i := 571) (by decide +kernel), List.mem_of_getElem? (i := 810) (by decide +kernel), List.mem_of_getElem? (i := 811) (by decide +kernel)⟩
def lw_privs_2 : List (MethodName × Nat) := [(⟨"ShapeMinimaModel", "against", "(II)I"⟩, 22), (⟨"ShapeMinimaModel", "tells", "(II)I"⟩, 22), (⟨"ShapeMinimaModel", "isPart", "(III)Z"⟩, 22), (⟨"ShapeMinimaModel", "makesAll", "()V"⟩, 22), (⟨"ShapeMinimaModel", "blocks", "()I"⟩, 22), (⟨"ShapeMinimaModel", "shapeOfBlock", "(I)I"⟩, 22), (⟨"ShapeMinimaModel", "shapeOf", "(II)I"⟩, 22), (⟨"ShapeMinimaModel", "makes", "(I)V"⟩, 22), (⟨"ShapeMinimaModel", "isMade", "(I)Z"⟩, 22), (⟨"ShapeMinimaModel", "againstRun", "(II)I"⟩, 22), (⟨"ShapeMinimaModel", "leastOf", "(II)I"⟩, 22), (⟨"ShapeMinimaModel", "leftOf", "(I)I"⟩, 22), (⟨"ShapeMinimaModel", "rightOf", "(I)I"⟩, 22), (⟨"ShapeMinimaModel", "ownsOf", "(I)I"⟩, 22), (⟨"ShapeMinimaModel", "depthOf", "(I)I"⟩, 22), (⟨"ShapeMinimaModel", "takenOff", "(II)I"⟩, 22)]
theorem lw_r2 : ∀ q ∈ lw_privs_2, lw_okq q := List.forall_mem_cons.mpr ⟨lw_p16, List.forall_mem_cons.mpr ⟨lw_p17, List.forall_mem_cons.mpr ⟨lw_p18, List.forall_mem_cons.mpr ⟨lw_p19, List.forall_mem_cons.mpr ⟨lw_p20, List.forall_mem_cons.mpr ⟨lw_p21, List.forall_mem_cons.mpr ⟨lw_p22, List.forall_mem_cons.mpr ⟨lw_p23, List.forall_mem_cons.mpr ⟨lw_p24, List.forall_mem_cons.mpr ⟨lw_p25, List.forall_mem_cons.mpr ⟨lw_p26, List.forall_mem_cons.mpr ⟨lw_p27, List.forall_mem_cons.mpr ⟨lw_p28, List.forall_mem_cons.mpr ⟨lw_p29, List.forall_mem_cons.mpr ⟨lw_p30, List.forall_mem_cons.mpr ⟨lw_p31, fun _ h => absurd h List.not_mem_nil⟩⟩⟩⟩⟩⟩⟩⟩⟩⟩⟩⟩⟩⟩⟩⟩
theorem lw_p32 : lw_okq (⟨"ShapeMinimaModel", "isTree", "(I)Z"⟩, 22) := ⟨⟨by decide +kernel, by decide +kernel⟩, List.mem_of_getElem? (i := 571) (by decide +kernel), List.mem_of_getElem? (i := 818) (by decide +kernel), List.mem_of_getElem? (i := 819) (by decide +kernel)⟩
theorem lw_p33 : lw_okq (⟨"ShapeMinimaModel", "againstNodes", "(II)I"⟩, 22) := ⟨⟨by decide +kernel, by decide +kernel⟩, List.mem_of_getElem? (i := 571) (by decide +kernel), List.mem_of_getElem? (i := 826) (by decide +kernel), List.mem_of_getElem? (i := 827) (by decide +kernel)⟩
theorem lw_p34 : lw_okq (⟨"ShapeMinimaModel", "isNode", "(I)Z"⟩, 22) := ⟨⟨by decide +kernel, by decide +kernel⟩, List.mem_of_getElem? (i := 571) (by decide +kernel), List.mem_of_getElem? (i := 830) (by decide +kernel), List.mem_of_getElem? (i := 831) (by decide +kernel)⟩
theorem lw_p35 : lw_okq (⟨"ShapeMinimaModel", "meeting", "(II)I"⟩, 22) := ⟨⟨by decide +kernel, by decide +kernel⟩, List.mem_of_getElem? (i := 571) (by decide +kernel), List.mem_of_getElem? (i := 834) (by decide +kernel), List.mem_of_getElem? (i := 835) (by decide +kernel)⟩
theorem lw_p36 : lw_okq (⟨"ShapeMinimaModel", "deepness", "(I)I"⟩, 22) := ⟨⟨by decide +kernel, by decide +kernel⟩, List.mem_of_getElem? (i := 571) (by decide +kernel), List.mem_of_getElem? (i := 838) (by decide +kernel), List.mem_of_getElem? (i := 839) (by decide +kernel)⟩
theorem lw_p37 : lw_okq (⟨"ShapeMinimaModel", "upTo", "(II)I"⟩, 22) := ⟨⟨by decide +kernel, by decide +kernel⟩, List.mem_of_getElem? (i := 571) (by decide +kernel), List.mem_of_getElem? (i := 842) (by decide +kernel), List.mem_of_getElem? (i := 843) (by decide +kernel)⟩
theorem lw_p38 : lw_okq (⟨"ShapeMinimaModel", "below", "(I)I"⟩, 22) := ⟨⟨by decide +kernel, by decide +kernel⟩, List.mem_of_getElem? (i := 571) (by decide +kernel), List.mem_of_getElem? (i := 858) (by decide +kernel), List.mem_of_getElem? (i := 859) (by decide +kernel)⟩
theorem lw_p39 : lw_okq (⟨"ShapeMinimaModel", "isBelow", "(II)Z"⟩, 22) := ⟨⟨by decide +kernel, by decide +kernel⟩, List.mem_of_getElem? (i := 571) (by decide +kernel), List.mem_of_getElem? (i := 862) (by decide +kernel), List.mem_of_getElem? (i := 863) (by decide +kernel)⟩
theorem lw_p40 : lw_okq (⟨"ShapeMinimaModel", "firstMet", "(I)I"⟩, 22) := ⟨⟨by decide +kernel, by decide +kernel⟩, List.mem_of_getElem? (i := 571) (by decide +kernel), List.mem_of_getElem? (i := 866) (by decide +kernel), List.mem_of_getElem? (i := 867) (by decide +kernel)⟩
theorem lw_p41 : lw_okq (⟨"ShapeMinimaModel", "countOf", "(I)I"⟩, 22) := ⟨⟨by decide +kernel, by decide +kernel⟩, List.mem_of_getElem? (i := 571) (by decide +kernel), List.mem_of_getElem? (i := 878) (by decide +kernel), List.mem_of_getElem? (i := 879) (by decide +kernel)⟩
theorem lw_p42 : lw_okq (⟨"ShapeMinimaModel", "shapesNow", "()I"⟩, 22) := ⟨⟨by decide +kernel, by decide +kernel⟩, List.mem_of_getElem? (i := 571) (by decide +kernel), List.mem_of_getElem? (i := 882) (by decide +kernel), List.mem_of_getElem? (i := 883) (by decide +kernel)⟩
theorem lw_p43 : lw_okq (⟨"ShapeMinimaModel", "levels", "()I"⟩, 22) := ⟨⟨by decide +kernel, by decide +kernel⟩, List.mem_of_getElem? (i := 571) (by decide +kernel), List.mem_of_getElem? (i := 886) (by decide +kernel), List.mem_of_getElem? (i := 887) (by decide +kernel)⟩
theorem lw_p44 : lw_okq (⟨"ShapeMinimaModel", "bits", "()I"⟩, 22) := ⟨⟨by decide +kernel, by decide +kernel⟩, List.mem_of_getElem? (i := 571) (by decide +kernel), List.mem_of_getElem? (i := 890) (by decide +kernel), List.mem_of_getElem? (i := 891) (by decide +kernel)⟩
theorem lw_p45 : lw_okq (⟨"ShapeMinimaModel", "rowsThere", "()I"⟩, 22) := ⟨⟨by decide +kernel, by decide +kernel⟩, List.mem_of_getElem? (i := 571) (by decide +kernel), List.mem_of_getElem? (i := 894) (by decide +kernel), List.mem_of_getElem? (i := 895) (by decide +kernel)⟩
def lw_privs_3 : List (MethodName × Nat) := [(⟨"ShapeMinimaModel", "isTree", "(I)Z"⟩, 22), (⟨"ShapeMinimaModel", "againstNodes", "(II)I"⟩, 22), (⟨"ShapeMinimaModel", "isNode", "(I)Z"⟩, 22), (⟨"ShapeMinimaModel", "meeting", "(II)I"⟩, 22), (⟨"ShapeMinimaModel", "deepness", "(I)I"⟩, 22), (⟨"ShapeMinimaModel", "upTo", "(II)I"⟩, 22), (⟨"ShapeMinimaModel", "below", "(I)I"⟩, 22), (⟨"ShapeMinimaModel", "isBelow", "(II)Z"⟩, 22), (⟨"ShapeMinimaModel", "firstMet", "(I)I"⟩, 22), (⟨"ShapeMinimaModel", "countOf", "(I)I"⟩, 22), (⟨"ShapeMinimaModel", "shapesNow", "()I"⟩, 22), (⟨"ShapeMinimaModel", "levels", "()I"⟩, 22), (⟨"ShapeMinimaModel", "bits", "()I"⟩, 22), (⟨"ShapeMinimaModel", "rowsThere", "()I"⟩, 22)]
theorem lw_r3 : ∀ q ∈ lw_privs_3, lw_okq q := List.forall_mem_cons.mpr ⟨lw_p32, List.forall_mem_cons.mpr ⟨lw_p33, List.forall_mem_cons.mpr ⟨lw_p34, List.forall_mem_cons.mpr ⟨lw_p35, List.forall_mem_cons.mpr ⟨lw_p36, List.forall_mem_cons.mpr ⟨lw_p37, List.forall_mem_cons.mpr ⟨lw_p38, List.forall_mem_cons.mpr ⟨lw_p39, List.forall_mem_cons.mpr ⟨lw_p40, List.forall_mem_cons.mpr ⟨lw_p41, List.forall_mem_cons.mpr ⟨lw_p42, List.forall_mem_cons.mpr ⟨lw_p43, List.forall_mem_cons.mpr ⟨lw_p44, List.forall_mem_cons.mpr ⟨lw_p45, fun _ h => absurd h List.not_mem_nil⟩⟩⟩⟩⟩⟩⟩⟩⟩⟩⟩⟩⟩⟩
def lw_privs : List (MethodName × Nat) := lw_privs_1 ++ (lw_privs_2 ++ (lw_privs_3))
def lw_tbl : List Cond := k2_sels lw_privs ++ tables_1
theorem lw_privs_ok : ∀ q ∈ lw_privs, lw_okq q := by
  show ∀ q ∈ lw_privs_1 ++ (lw_privs_2 ++ (lw_privs_3)), lw_okq q
  exact List.forall_mem_append.mpr ⟨lw_r1, List.forall_mem_append.mpr ⟨lw_r2, lw_r3⟩⟩

def RX0 : String := "ShapeMinima$Family"
def TX0 : u_T := fun k => match k with
  | 0 => ("ShapeMinima$Family", "parents", "[I", true)
  | 1 => ("ShapeMinima$Family", "depths", "[I", true)
  | 2 => ("ShapeMinima$Family", "sizes", "[I", true)
  | 3 => ("ShapeMinima$Family", "firsts", "[I", true)
  | 4 => ("ShapeMinima$Family", "met", "[I", true)
  | 5 => ("ShapeMinima$Family", "metDepths", "LShapeMinima$Row;", true)
  | 6 => ("ShapeMinima$Family", "tour", "LShapeMinima$Index;", true)
  | _ => ("ShapeMinima$Family", "nodes", "I", false)
def tyX0 : Nat → FieldType := fun k => match k with
  | 0 => .array .int
  | 1 => .array .int
  | 2 => .array .int
  | 3 => .array .int
  | 4 => .array .int
  | 5 => .object "ShapeMinima$Row"
  | 6 => .object "ShapeMinima$Index"
  | _ => .int
theorem nmX0 : ∀ a, a < 8 → ∀ b, b < 8 → a ≠ b → (TX0 a).2.1 ≠ (TX0 b).2.1 := by decide +kernel
theorem tyX0_ok : ∀ k, k < 8 → parseFieldDescriptor (TX0 k).2.2.1 = some (tyX0 k) := by decide +kernel
abbrev cX0_init : ByteArray := prog_2_method_1_code
def yX0_init : MethodName := ⟨RX0, "<init>", "()V"⟩
abbrev cX0_lacks : ByteArray := prog_2_method_2_code
def yX0_lacks : MethodName := ⟨RX0, "lacks", "(I)Z"⟩
abbrev cX0_isTold : ByteArray := prog_2_method_3_code
def yX0_isTold : MethodName := ⟨RX0, "isTold", "(LShapeMinima$Row;)Z"⟩
abbrev cX0_allComeToTheRoot : ByteArray := prog_2_method_4_code
def yX0_allComeToTheRoot : MethodName := ⟨RX0, "allComeToTheRoot", "(LShapeMinima$Row;)Z"⟩
abbrev cX0_stepsToTheRoot : ByteArray := prog_2_method_5_code
def yX0_stepsToTheRoot : MethodName := ⟨RX0, "stepsToTheRoot", "([III)I"⟩
abbrev cX0_becomeTold : ByteArray := prog_2_method_6_code
def yX0_becomeTold : MethodName := ⟨RX0, "becomeTold", "(LShapeMinima$Row;)V"⟩
abbrev cX0_countSizes : ByteArray := prog_2_method_7_code
def yX0_countSizes : MethodName := ⟨RX0, "countSizes", "()V"⟩
abbrev cX0_root : ByteArray := prog_2_method_8_code
def yX0_root : MethodName := ⟨RX0, "root", "()I"⟩
abbrev cX0_goTour : ByteArray := prog_2_method_9_code
def yX0_goTour : MethodName := ⟨RX0, "goTour", "()V"⟩
abbrev cX0_sonBehind : ByteArray := prog_2_method_10_code
def yX0_sonBehind : MethodName := ⟨RX0, "sonBehind", "(II)I"⟩
abbrev cX0_meetingNode : ByteArray := prog_2_method_11_code
def yX0_meetingNode : MethodName := ⟨RX0, "meetingNode", "(II)I"⟩
abbrev cX0_ancestorAt : ByteArray := prog_2_method_12_code
def yX0_ancestorAt : MethodName := ⟨RX0, "ancestorAt", "(II)I"⟩
def RX1 : String := "ShapeMinima$History"
def TX1 : u_T := fun k => match k with
  | 0 => ("ShapeMinima$History", "places", "[I", true)
  | 1 => ("ShapeMinima$History", "olds", "[I", true)
  | _ => ("ShapeMinima$History", "many", "I", false)
def tyX1 : Nat → FieldType := fun k => match k with
  | 0 => .array .int
  | 1 => .array .int
  | _ => .int
theorem nmX1 : ∀ a, a < 3 → ∀ b, b < 3 → a ≠ b → (TX1 a).2.1 ≠ (TX1 b).2.1 := by decide +kernel
theorem tyX1_ok : ∀ k, k < 3 → parseFieldDescriptor (TX1 k).2.2.1 = some (tyX1 k) := by decide +kernel
abbrev cX1_init : ByteArray := prog_3_method_1_code
def yX1_init : MethodName := ⟨RX1, "<init>", "()V"⟩
abbrev cX1_forget : ByteArray := prog_3_method_2_code
def yX1_forget : MethodName := ⟨RX1, "forget", "()V"⟩
abbrev cX1_remember : ByteArray := prog_3_method_3_code
def yX1_remember : MethodName := ⟨RX1, "remember", "(II)V"⟩
abbrev cX1_loseOldest : ByteArray := prog_3_method_4_code
def yX1_loseOldest : MethodName := ⟨RX1, "loseOldest", "()V"⟩
def RX2 : String := "ShapeMinima$Image"
def TX2 : u_T := fun k => match k with
  | 0 => ("ShapeMinima$Image", "items", "LShapeMinima$Row;", true)
  | _ => ("ShapeMinima$Image", "width", "I", false)
def tyX2 : Nat → FieldType := fun k => match k with
  | 0 => .object "ShapeMinima$Row"
  | _ => .int
theorem nmX2 : ∀ a, a < 2 → ∀ b, b < 2 → a ≠ b → (TX2 a).2.1 ≠ (TX2 b).2.1 := by decide +kernel
theorem tyX2_ok : ∀ k, k < 2 → parseFieldDescriptor (TX2 k).2.2.1 = some (tyX2 k) := by decide +kernel
abbrev cX2_init : ByteArray := prog_4_method_1_code
def yX2_init : MethodName := ⟨RX2, "<init>", "()V"⟩
def RX3 : String := "ShapeMinima$Index"
def TX3 : u_T := fun k => match k with
  | 0 => ("ShapeMinima$Index", "items", "LShapeMinima$Row;", true)
  | 1 => ("ShapeMinima$Index", "shapes", "[I", true)
  | 2 => ("ShapeMinima$Index", "made", "LShapeMinima$ShapeSet;", true)
  | 3 => ("ShapeMinima$Index", "pile", "[I", true)
  | 4 => ("ShapeMinima$Index", "width", "I", false)
  | _ => ("ShapeMinima$Index", "blocks", "I", false)
def tyX3 : Nat → FieldType := fun k => match k with
  | 0 => .object "ShapeMinima$Row"
  | 1 => .array .int
  | 2 => .object "ShapeMinima$ShapeSet"
  | 3 => .array .int
  | 4 => .int
  | _ => .int
theorem nmX3 : ∀ a, a < 6 → ∀ b, b < 6 → a ≠ b → (TX3 a).2.1 ≠ (TX3 b).2.1 := by decide +kernel
theorem tyX3_ok : ∀ k, k < 6 → parseFieldDescriptor (TX3 k).2.2.1 = some (tyX3 k) := by decide +kernel
abbrev cX3_init : ByteArray := prog_5_method_1_code
def yX3_init : MethodName := ⟨RX3, "<init>", "()V"⟩
abbrev cX3_isNone : ByteArray := prog_5_method_2_code
def yX3_isNone : MethodName := ⟨RX3, "isNone", "()Z"⟩
abbrev cX3_becomeOver : ByteArray := prog_5_method_3_code
def yX3_becomeOver : MethodName := ⟨RX3, "becomeOver", "(LShapeMinima$Row;I)V"⟩
abbrev cX3_change : ByteArray := prog_5_method_4_code
def yX3_change : MethodName := ⟨RX3, "change", "(II)Z"⟩
abbrev cX3_shapeNow : ByteArray := prog_5_method_5_code
def yX3_shapeNow : MethodName := ⟨RX3, "shapeNow", "(I)I"⟩
abbrev cX3_tableEntry : ByteArray := prog_5_method_6_code
def yX3_tableEntry : MethodName := ⟨RX3, "tableEntry", "(III)I"⟩
abbrev cX3_leadingDigit : ByteArray := prog_5_method_7_code
def yX3_leadingDigit : MethodName := ⟨RX3, "leadingDigit", "(I)I"⟩
abbrev cX3_unlikeShapes : ByteArray := prog_5_method_8_code
def yX3_unlikeShapes : MethodName := ⟨RX3, "unlikeShapes", "()I"⟩
abbrev cX3_levels : ByteArray := prog_5_method_9_code
def yX3_levels : MethodName := ⟨RX3, "levels", "()I"⟩
abbrev cX3_entries : ByteArray := prog_5_method_10_code
def yX3_entries : MethodName := ⟨RX3, "entries", "()I"⟩
abbrev cX3_bits : ByteArray := prog_5_method_11_code
def yX3_bits : MethodName := ⟨RX3, "bits", "()I"⟩
abbrev cX3_leastPlace : ByteArray := prog_5_method_12_code
def yX3_leastPlace : MethodName := ⟨RX3, "leastPlace", "(II)I"⟩
abbrev cX3_kthPlace : ByteArray := prog_5_method_13_code
def yX3_kthPlace : MethodName := ⟨RX3, "kthPlace", "(III)I"⟩
abbrev cX3_rank : ByteArray := prog_5_method_14_code
def yX3_rank : MethodName := ⟨RX3, "rank", "(III)I"⟩
abbrev cX3_leftEdge : ByteArray := prog_5_method_15_code
def yX3_leftEdge : MethodName := ⟨RX3, "leftEdge", "(I)I"⟩
abbrev cX3_rightEdge : ByteArray := prog_5_method_16_code
def yX3_rightEdge : MethodName := ⟨RX3, "rightEdge", "(I)I"⟩
abbrev cX3_runsOwned : ByteArray := prog_5_method_17_code
def yX3_runsOwned : MethodName := ⟨RX3, "runsOwned", "(I)I"⟩
abbrev cX3_parentPlace : ByteArray := prog_5_method_18_code
def yX3_parentPlace : MethodName := ⟨RX3, "parentPlace", "(I)I"⟩
abbrev cX3_depthOf : ByteArray := prog_5_method_19_code
def yX3_depthOf : MethodName := ⟨RX3, "depthOf", "(I)I"⟩
abbrev cX3_ancestor : ByteArray := prog_5_method_20_code
def yX3_ancestor : MethodName := ⟨RX3, "ancestor", "(II)I"⟩
abbrev cX3_areAlike : ByteArray := prog_5_method_21_code
def yX3_areAlike : MethodName := ⟨RX3, "areAlike", "(III)Z"⟩
abbrev cX3_stepsToLeftWithin : ByteArray := prog_5_method_22_code
def yX3_stepsToLeftWithin : MethodName := ⟨RX3, "stepsToLeftWithin", "(II)I"⟩
def RX4 : String := "ShapeMinima$Row"
def TX4 : u_T := fun k => match k with
  | 0 => ("ShapeMinima$Row", "ints", "[I", true)
  | _ => ("ShapeMinima$Row", "many", "I", false)
def tyX4 : Nat → FieldType := fun k => match k with
  | 0 => .array .int
  | _ => .int
theorem nmX4 : ∀ a, a < 2 → ∀ b, b < 2 → a ≠ b → (TX4 a).2.1 ≠ (TX4 b).2.1 := by decide +kernel
theorem tyX4_ok : ∀ k, k < 2 → parseFieldDescriptor (TX4 k).2.2.1 = some (tyX4 k) := by decide +kernel
abbrev cX4_init : ByteArray := prog_6_method_1_code
def yX4_init : MethodName := ⟨RX4, "<init>", "()V"⟩
abbrev cX4_isMissing : ByteArray := prog_6_method_2_code
def yX4_isMissing : MethodName := ⟨RX4, "isMissing", "()Z"⟩
abbrev cX4_lacks : ByteArray := prog_6_method_3_code
def yX4_lacks : MethodName := ⟨RX4, "lacks", "(I)Z"⟩
abbrev cX4_lacksSome : ByteArray := prog_6_method_4_code
def yX4_lacksSome : MethodName := ⟨RX4, "lacksSome", "(II)Z"⟩
abbrev cX4_becomeZeros : ByteArray := prog_6_method_5_code
def yX4_becomeZeros : MethodName := ⟨RX4, "becomeZeros", "(I)V"⟩
abbrev cX4_become : ByteArray := prog_6_method_6_code
def yX4_become : MethodName := ⟨RX4, "become", "(LShapeMinima$Row;)V"⟩
abbrev cX4_digestOn : ByteArray := prog_6_method_7_code
def yX4_digestOn : MethodName := ⟨RX4, "digestOn", "(J)J"⟩
def RX5 : String := "ShapeMinima$ShapeSet"
def TX5 : u_T := fun k => match k with
  | 0 => ("ShapeMinima$ShapeSet", "words", "[J", true)
  | _ => ("ShapeMinima$ShapeSet", "many", "I", false)
def tyX5 : Nat → FieldType := fun k => match k with
  | 0 => .array .long
  | _ => .int
theorem nmX5 : ∀ a, a < 2 → ∀ b, b < 2 → a ≠ b → (TX5 a).2.1 ≠ (TX5 b).2.1 := by decide +kernel
theorem tyX5_ok : ∀ k, k < 2 → parseFieldDescriptor (TX5 k).2.2.1 = some (tyX5 k) := by decide +kernel
abbrev cX5_init : ByteArray := prog_7_method_1_code
def yX5_init : MethodName := ⟨RX5, "<init>", "()V"⟩
abbrev cX5_becomeEmpty : ByteArray := prog_7_method_2_code
def yX5_becomeEmpty : MethodName := ⟨RX5, "becomeEmpty", "()V"⟩
abbrev cX5_has : ByteArray := prog_7_method_3_code
def yX5_has : MethodName := ⟨RX5, "has", "(I)Z"⟩
abbrev cX5_include : ByteArray := prog_7_method_4_code
def yX5_include : MethodName := ⟨RX5, "include", "(I)V"⟩
def RX6 : String := "ShapeMinima"
def TX6 : u_T := fun k => match k with
  | 0 => ("ShapeMinima", "rows", "[LShapeMinima$Row;", true)
  | 1 => ("ShapeMinima", "index", "LShapeMinima$Index;", true)
  | 2 => ("ShapeMinima", "history", "LShapeMinima$History;", true)
  | 3 => ("ShapeMinima", "images", "[LShapeMinima$Image;", true)
  | 4 => ("ShapeMinima", "family", "LShapeMinima$Family;", true)
  | 5 => ("ShapeMinima", "findingCounts", "[I", true)
  | 6 => ("ShapeMinima", "latestFinding", "I", false)
  | _ => ("ShapeMinima", "told", "I", false)
def tyX6 : Nat → FieldType := fun k => match k with
  | 0 => .array (.object "ShapeMinima$Row")
  | 1 => .object "ShapeMinima$Index"
  | 2 => .object "ShapeMinima$History"
  | 3 => .array (.object "ShapeMinima$Image")
  | 4 => .object "ShapeMinima$Family"
  | 5 => .array .int
  | 6 => .int
  | _ => .int
theorem nmX6 : ∀ a, a < 8 → ∀ b, b < 8 → a ≠ b → (TX6 a).2.1 ≠ (TX6 b).2.1 := by decide +kernel
theorem tyX6_ok : ∀ k, k < 8 → parseFieldDescriptor (TX6 k).2.2.1 = some (tyX6 k) := by decide +kernel
abbrev cX6_init : ByteArray := prog_1_method_1_code
def yX6_init : MethodName := ⟨RX6, "<init>", "()V"⟩
abbrev cX6_row : ByteArray := prog_1_method_2_code
def yX6_row : MethodName := ⟨RX6, "row", "(II)I"⟩
abbrev cX6_lay : ByteArray := prog_1_method_3_code
def yX6_lay : MethodName := ⟨RX6, "lay", "(III)I"⟩
abbrev cX6_at : ByteArray := prog_1_method_4_code
def yX6_at : MethodName := ⟨RX6, "at", "(II)I"⟩
abbrev cX6_tear : ByteArray := prog_1_method_5_code
def yX6_tear : MethodName := ⟨RX6, "tear", "(I)I"⟩
abbrev cX6_copy : ByteArray := prog_1_method_6_code
def yX6_copy : MethodName := ⟨RX6, "copy", "(IIIII)I"⟩
abbrev cX6_build : ByteArray := prog_1_method_7_code
def yX6_build : MethodName := ⟨RX6, "build", "(II)I"⟩
abbrev cX6_put : ByteArray := prog_1_method_8_code
def yX6_put : MethodName := ⟨RX6, "put", "(II)I"⟩
abbrev cX6_undo : ByteArray := prog_1_method_9_code
def yX6_undo : MethodName := ⟨RX6, "undo", "()I"⟩
abbrev cX6_keep : ByteArray := prog_1_method_10_code
def yX6_keep : MethodName := ⟨RX6, "keep", "(I)I"⟩
abbrev cX6_on : ByteArray := prog_1_method_11_code
def yX6_on : MethodName := ⟨RX6, "on", "(I)I"⟩
abbrev cX6_item : ByteArray := prog_1_method_12_code
def yX6_item : MethodName := ⟨RX6, "item", "(I)I"⟩
abbrev cX6_shape : ByteArray := prog_1_method_13_code
def yX6_shape : MethodName := ⟨RX6, "shape", "(I)I"⟩
abbrev cX6_entry : ByteArray := prog_1_method_14_code
def yX6_entry : MethodName := ⟨RX6, "entry", "(III)I"⟩
abbrev cX6_least : ByteArray := prog_1_method_15_code
def yX6_least : MethodName := ⟨RX6, "least", "(II)I"⟩
abbrev cX6_kth : ByteArray := prog_1_method_16_code
def yX6_kth : MethodName := ⟨RX6, "kth", "(III)I"⟩
abbrev cX6_left : ByteArray := prog_1_method_17_code
def yX6_left : MethodName := ⟨RX6, "left", "(I)I"⟩
abbrev cX6_right : ByteArray := prog_1_method_18_code
def yX6_right : MethodName := ⟨RX6, "right", "(I)I"⟩
abbrev cX6_owns : ByteArray := prog_1_method_19_code
def yX6_owns : MethodName := ⟨RX6, "owns", "(I)I"⟩
abbrev cX6_sum : ByteArray := prog_1_method_20_code
def yX6_sum : MethodName := ⟨RX6, "sum", "()J"⟩
abbrev cX6_parent : ByteArray := prog_1_method_21_code
def yX6_parent : MethodName := ⟨RX6, "parent", "(I)I"⟩
abbrev cX6_depth : ByteArray := prog_1_method_22_code
def yX6_depth : MethodName := ⟨RX6, "depth", "(I)I"⟩
abbrev cX6_size : ByteArray := prog_1_method_23_code
def yX6_size : MethodName := ⟨RX6, "size", "(I)I"⟩
abbrev cX6_above : ByteArray := prog_1_method_24_code
def yX6_above : MethodName := ⟨RX6, "above", "(II)I"⟩
abbrev cX6_alike : ByteArray := prog_1_method_25_code
def yX6_alike : MethodName := ⟨RX6, "alike", "(III)I"⟩
abbrev cX6_tree : ByteArray := prog_1_method_26_code
def yX6_tree : MethodName := ⟨RX6, "tree", "(I)I"⟩
abbrev cX6_meet : ByteArray := prog_1_method_27_code
def yX6_meet : MethodName := ⟨RX6, "meet", "(II)I"⟩
abbrev cX6_apart : ByteArray := prog_1_method_28_code
def yX6_apart : MethodName := ⟨RX6, "apart", "(II)I"⟩
abbrev cX6_up : ByteArray := prog_1_method_29_code
def yX6_up : MethodName := ⟨RX6, "up", "(II)I"⟩
abbrev cX6_node : ByteArray := prog_1_method_30_code
def yX6_node : MethodName := ⟨RX6, "node", "(II)I"⟩
abbrev cX6_asked : ByteArray := prog_1_method_31_code
def yX6_asked : MethodName := ⟨RX6, "asked", "()I"⟩
abbrev cX6_count : ByteArray := prog_1_method_32_code
def yX6_count : MethodName := ⟨RX6, "count", "(I)I"⟩
abbrev cX6_finding : ByteArray := prog_1_method_33_code
def yX6_finding : MethodName := ⟨RX6, "finding", "()I"⟩
abbrev cX6_findings : ByteArray := prog_1_method_34_code
def yX6_findings : MethodName := ⟨RX6, "findings", "(I)I"⟩
abbrev cX6_digest : ByteArray := prog_1_method_35_code
def yX6_digest : MethodName := ⟨RX6, "digest", "()J"⟩
abbrev cX6_refuse : ByteArray := prog_1_method_36_code
def yX6_refuse : MethodName := ⟨RX6, "refuse", "(I)I"⟩
abbrev cX6_isNoRow : ByteArray := prog_1_method_37_code
def yX6_isNoRow : MethodName := ⟨RX6, "isNoRow", "(I)Z"⟩
abbrev cX6_isNoImage : ByteArray := prog_1_method_38_code
def yX6_isNoImage : MethodName := ⟨RX6, "isNoImage", "(I)Z"⟩
abbrev cX6_refusalOfPlace : ByteArray := prog_1_method_39_code
def yX6_refusalOfPlace : MethodName := ⟨RX6, "refusalOfPlace", "(II)I"⟩
abbrev cX6_refusalOfItem : ByteArray := prog_1_method_40_code
def yX6_refusalOfItem : MethodName := ⟨RX6, "refusalOfItem", "(I)I"⟩
abbrev cX6_refusalOfRun : ByteArray := prog_1_method_41_code
def yX6_refusalOfRun : MethodName := ⟨RX6, "refusalOfRun", "(II)I"⟩
abbrev cX6_refusalOfNodes : ByteArray := prog_1_method_42_code
def yX6_refusalOfNodes : MethodName := ⟨RX6, "refusalOfNodes", "(II)I"⟩
abbrev cX6_rowsThere : ByteArray := prog_1_method_43_code
def yX6_rowsThere : MethodName := ⟨RX6, "rowsThere", "()I"⟩
def RX7 : String := "ShapeMinimaModel"
def TX7 : u_T := fun k => match k with
  | 0 => ("ShapeMinimaModel", "thrown", "I", false)
  | 1 => ("ShapeMinimaModel", "askedLast", "I", false)
  | 2 => ("ShapeMinimaModel", "findingLast", "I", false)
  | 3 => ("ShapeMinimaModel", "findingMany", "[I", true)
  | 4 => ("ShapeMinimaModel", "rows", "[I", true)
  | 5 => ("ShapeMinimaModel", "rowSize", "[I", true)
  | 6 => ("ShapeMinimaModel", "items", "I", false)
  | 7 => ("ShapeMinimaModel", "wide", "I", false)
  | 8 => ("ShapeMinimaModel", "item", "[I", true)
  | 9 => ("ShapeMinimaModel", "made", "[I", true)
  | 10 => ("ShapeMinimaModel", "madeMany", "I", false)
  | 11 => ("ShapeMinimaModel", "undoAt", "[I", true)
  | 12 => ("ShapeMinimaModel", "undoWas", "[I", true)
  | 13 => ("ShapeMinimaModel", "undoMany", "I", false)
  | 14 => ("ShapeMinimaModel", "kept", "[I", true)
  | 15 => ("ShapeMinimaModel", "keptItems", "[I", true)
  | 16 => ("ShapeMinimaModel", "keptWide", "[I", true)
  | 17 => ("ShapeMinimaModel", "pile", "[I", true)
  | 18 => ("ShapeMinimaModel", "piled", "I", false)
  | 19 => ("ShapeMinimaModel", "nodes", "I", false)
  | 20 => ("ShapeMinimaModel", "above", "[I", true)
  | _ => ("ShapeMinimaModel", "parentLast", "I", false)
def tyX7 : Nat → FieldType := fun k => match k with
  | 0 => .int
  | 1 => .int
  | 2 => .int
  | 3 => .array .int
  | 4 => .array .int
  | 5 => .array .int
  | 6 => .int
  | 7 => .int
  | 8 => .array .int
  | 9 => .array .int
  | 10 => .int
  | 11 => .array .int
  | 12 => .array .int
  | 13 => .int
  | 14 => .array .int
  | 15 => .array .int
  | 16 => .array .int
  | 17 => .array .int
  | 18 => .int
  | 19 => .int
  | 20 => .array .int
  | _ => .int
theorem nmX7 : ∀ a, a < 22 → ∀ b, b < 22 → a ≠ b → (TX7 a).2.1 ≠ (TX7 b).2.1 := by decide +kernel
theorem tyX7_ok : ∀ k, k < 22 → parseFieldDescriptor (TX7 k).2.2.1 = some (tyX7 k) := by decide +kernel
abbrev cX7_init : ByteArray := prog_9_method_1_code
def yX7_init : MethodName := ⟨RX7, "<init>", "()V"⟩
abbrev cX7_in : ByteArray := prog_9_method_3_code
def yX7_in : MethodName := ⟨RX7, "in", "(III)Z"⟩
abbrev cX7_found : ByteArray := prog_9_method_4_code
def yX7_found : MethodName := ⟨RX7, "found", "(I)I"⟩
abbrev cX7_tells : ByteArray := prog_9_method_5_code
def yX7_tells : MethodName := ⟨RX7, "tells", "(II)I"⟩
abbrev cX7_isRow : ByteArray := prog_9_method_6_code
def yX7_isRow : MethodName := ⟨RX7, "isRow", "(I)Z"⟩
abbrev cX7_row : ByteArray := prog_9_method_7_code
def yX7_row : MethodName := ⟨RX7, "row", "(II)I"⟩
abbrev cX7_against : ByteArray := prog_9_method_8_code
def yX7_against : MethodName := ⟨RX7, "against", "(II)I"⟩
abbrev cX7_lay : ByteArray := prog_9_method_9_code
def yX7_lay : MethodName := ⟨RX7, "lay", "(III)I"⟩
abbrev cX7_at : ByteArray := prog_9_method_10_code
def yX7_at : MethodName := ⟨RX7, "at", "(II)I"⟩
abbrev cX7_tear : ByteArray := prog_9_method_11_code
def yX7_tear : MethodName := ⟨RX7, "tear", "(I)I"⟩
abbrev cX7_isPart : ByteArray := prog_9_method_12_code
def yX7_isPart : MethodName := ⟨RX7, "isPart", "(III)Z"⟩
abbrev cX7_copy : ByteArray := prog_9_method_13_code
def yX7_copy : MethodName := ⟨RX7, "copy", "(IIIII)I"⟩
abbrev cX7_blocks : ByteArray := prog_9_method_14_code
def yX7_blocks : MethodName := ⟨RX7, "blocks", "()I"⟩
abbrev cX7_shapeOf : ByteArray := prog_9_method_15_code
def yX7_shapeOf : MethodName := ⟨RX7, "shapeOf", "(II)I"⟩
abbrev cX7_shapeOfBlock : ByteArray := prog_9_method_16_code
def yX7_shapeOfBlock : MethodName := ⟨RX7, "shapeOfBlock", "(I)I"⟩
abbrev cX7_isMade : ByteArray := prog_9_method_17_code
def yX7_isMade : MethodName := ⟨RX7, "isMade", "(I)Z"⟩
abbrev cX7_makes : ByteArray := prog_9_method_18_code
def yX7_makes : MethodName := ⟨RX7, "makes", "(I)V"⟩
abbrev cX7_makesAll : ByteArray := prog_9_method_19_code
def yX7_makesAll : MethodName := ⟨RX7, "makesAll", "()V"⟩
abbrev cX7_build : ByteArray := prog_9_method_20_code
def yX7_build : MethodName := ⟨RX7, "build", "(II)I"⟩
abbrev cX7_againstRun : ByteArray := prog_9_method_21_code
def yX7_againstRun : MethodName := ⟨RX7, "againstRun", "(II)I"⟩
abbrev cX7_put : ByteArray := prog_9_method_22_code
def yX7_put : MethodName := ⟨RX7, "put", "(II)I"⟩
abbrev cX7_undo : ByteArray := prog_9_method_23_code
def yX7_undo : MethodName := ⟨RX7, "undo", "()I"⟩
abbrev cX7_keep : ByteArray := prog_9_method_24_code
def yX7_keep : MethodName := ⟨RX7, "keep", "(I)I"⟩
abbrev cX7_on : ByteArray := prog_9_method_25_code
def yX7_on : MethodName := ⟨RX7, "on", "(I)I"⟩
abbrev cX7_item : ByteArray := prog_9_method_26_code
def yX7_item : MethodName := ⟨RX7, "item", "(I)I"⟩
abbrev cX7_shape : ByteArray := prog_9_method_27_code
def yX7_shape : MethodName := ⟨RX7, "shape", "(I)I"⟩
abbrev cX7_entry : ByteArray := prog_9_method_28_code
def yX7_entry : MethodName := ⟨RX7, "entry", "(III)I"⟩
abbrev cX7_leastOf : ByteArray := prog_9_method_29_code
def yX7_leastOf : MethodName := ⟨RX7, "leastOf", "(II)I"⟩
abbrev cX7_least : ByteArray := prog_9_method_30_code
def yX7_least : MethodName := ⟨RX7, "least", "(II)I"⟩
abbrev cX7_kth : ByteArray := prog_9_method_31_code
def yX7_kth : MethodName := ⟨RX7, "kth", "(III)I"⟩
abbrev cX7_leftOf : ByteArray := prog_9_method_32_code
def yX7_leftOf : MethodName := ⟨RX7, "leftOf", "(I)I"⟩
abbrev cX7_rightOf : ByteArray := prog_9_method_33_code
def yX7_rightOf : MethodName := ⟨RX7, "rightOf", "(I)I"⟩
abbrev cX7_left : ByteArray := prog_9_method_34_code
def yX7_left : MethodName := ⟨RX7, "left", "(I)I"⟩
abbrev cX7_right : ByteArray := prog_9_method_35_code
def yX7_right : MethodName := ⟨RX7, "right", "(I)I"⟩
abbrev cX7_ownsOf : ByteArray := prog_9_method_36_code
def yX7_ownsOf : MethodName := ⟨RX7, "ownsOf", "(I)I"⟩
abbrev cX7_owns : ByteArray := prog_9_method_37_code
def yX7_owns : MethodName := ⟨RX7, "owns", "(I)I"⟩
abbrev cX7_sum : ByteArray := prog_9_method_38_code
def yX7_sum : MethodName := ⟨RX7, "sum", "()J"⟩
abbrev cX7_depthOf : ByteArray := prog_9_method_39_code
def yX7_depthOf : MethodName := ⟨RX7, "depthOf", "(I)I"⟩
abbrev cX7_parent : ByteArray := prog_9_method_40_code
def yX7_parent : MethodName := ⟨RX7, "parent", "(I)I"⟩
abbrev cX7_depth : ByteArray := prog_9_method_41_code
def yX7_depth : MethodName := ⟨RX7, "depth", "(I)I"⟩
abbrev cX7_size : ByteArray := prog_9_method_42_code
def yX7_size : MethodName := ⟨RX7, "size", "(I)I"⟩
abbrev cX7_above : ByteArray := prog_9_method_43_code
def yX7_above : MethodName := ⟨RX7, "above", "(II)I"⟩
abbrev cX7_takenOff : ByteArray := prog_9_method_44_code
def yX7_takenOff : MethodName := ⟨RX7, "takenOff", "(II)I"⟩
abbrev cX7_alike : ByteArray := prog_9_method_45_code
def yX7_alike : MethodName := ⟨RX7, "alike", "(III)I"⟩
abbrev cX7_isTree : ByteArray := prog_9_method_46_code
def yX7_isTree : MethodName := ⟨RX7, "isTree", "(I)Z"⟩
abbrev cX7_tree : ByteArray := prog_9_method_47_code
def yX7_tree : MethodName := ⟨RX7, "tree", "(I)I"⟩
abbrev cX7_deepness : ByteArray := prog_9_method_48_code
def yX7_deepness : MethodName := ⟨RX7, "deepness", "(I)I"⟩
abbrev cX7_upTo : ByteArray := prog_9_method_49_code
def yX7_upTo : MethodName := ⟨RX7, "upTo", "(II)I"⟩
abbrev cX7_isNode : ByteArray := prog_9_method_50_code
def yX7_isNode : MethodName := ⟨RX7, "isNode", "(I)Z"⟩
abbrev cX7_meeting : ByteArray := prog_9_method_51_code
def yX7_meeting : MethodName := ⟨RX7, "meeting", "(II)I"⟩
abbrev cX7_againstNodes : ByteArray := prog_9_method_52_code
def yX7_againstNodes : MethodName := ⟨RX7, "againstNodes", "(II)I"⟩
abbrev cX7_meet : ByteArray := prog_9_method_53_code
def yX7_meet : MethodName := ⟨RX7, "meet", "(II)I"⟩
abbrev cX7_apart : ByteArray := prog_9_method_54_code
def yX7_apart : MethodName := ⟨RX7, "apart", "(II)I"⟩
abbrev cX7_up : ByteArray := prog_9_method_55_code
def yX7_up : MethodName := ⟨RX7, "up", "(II)I"⟩
abbrev cX7_isBelow : ByteArray := prog_9_method_56_code
def yX7_isBelow : MethodName := ⟨RX7, "isBelow", "(II)Z"⟩
abbrev cX7_below : ByteArray := prog_9_method_57_code
def yX7_below : MethodName := ⟨RX7, "below", "(I)I"⟩
abbrev cX7_firstMet : ByteArray := prog_9_method_58_code
def yX7_firstMet : MethodName := ⟨RX7, "firstMet", "(I)I"⟩
abbrev cX7_node : ByteArray := prog_9_method_59_code
def yX7_node : MethodName := ⟨RX7, "node", "(II)I"⟩
abbrev cX7_asked : ByteArray := prog_9_method_60_code
def yX7_asked : MethodName := ⟨RX7, "asked", "()I"⟩
abbrev cX7_shapesNow : ByteArray := prog_9_method_61_code
def yX7_shapesNow : MethodName := ⟨RX7, "shapesNow", "()I"⟩
abbrev cX7_levels : ByteArray := prog_9_method_62_code
def yX7_levels : MethodName := ⟨RX7, "levels", "()I"⟩
abbrev cX7_bits : ByteArray := prog_9_method_63_code
def yX7_bits : MethodName := ⟨RX7, "bits", "()I"⟩
abbrev cX7_rowsThere : ByteArray := prog_9_method_64_code
def yX7_rowsThere : MethodName := ⟨RX7, "rowsThere", "()I"⟩
abbrev cX7_countOf : ByteArray := prog_9_method_65_code
def yX7_countOf : MethodName := ⟨RX7, "countOf", "(I)I"⟩
abbrev cX7_count : ByteArray := prog_9_method_66_code
def yX7_count : MethodName := ⟨RX7, "count", "(I)I"⟩
abbrev cX7_finding : ByteArray := prog_9_method_67_code
def yX7_finding : MethodName := ⟨RX7, "finding", "()I"⟩
abbrev cX7_findings : ByteArray := prog_9_method_68_code
def yX7_findings : MethodName := ⟨RX7, "findings", "(I)I"⟩
abbrev cX7_digest : ByteArray := prog_9_method_69_code
def yX7_digest : MethodName := ⟨RX7, "digest", "()J"⟩
def RJ6 : String := "java/lang/Integer"
abbrev cJ6_bitCount_0f7a4 : ByteArray := prog_10_method_49_code
def yJ6_bitCount_0f7a4 : MethodName := ⟨RJ6, "bitCount", "(I)I"⟩
def RJ9 : String := "java/lang/Math"
abbrev cJ9_max_7cf53 : ByteArray := prog_11_method_65_code
def yJ9_max_7cf53 : MethodName := ⟨RJ9, "max", "(II)I"⟩
abbrev cJ9_min_7cf53 : ByteArray := prog_11_method_69_code
def yJ9_min_7cf53 : MethodName := ⟨RJ9, "min", "(II)I"⟩
def RJ10 : String := "java/lang/System"
def RJ7 : String := "java/util/Arrays"
abbrev cJ7_fill_d0a16 : ByteArray := prog_13_method_101_code
def yJ7_fill_d0a16 : MethodName := ⟨RJ7, "fill", "([JJ)V"⟩
abbrev cJ7_fill_53178 : ByteArray := prog_13_method_103_code
def yJ7_fill_53178 : MethodName := ⟨RJ7, "fill", "([II)V"⟩
def RL : String := "ShapeMinimaLaw"
abbrev cL_law : ByteArray := code
def yL_law : MethodName := ⟨RL, "law", "([I)Z"⟩
abbrev vwCl : List vw_C := [(RX0, TX0, 8), (RX1, TX1, 3), (RX2, TX2, 2), (RX3, TX3, 6), (RX4, TX4, 2), (RX5, TX5, 2), (RX6, TX6, 8), (RX7, TX7, 22)]
