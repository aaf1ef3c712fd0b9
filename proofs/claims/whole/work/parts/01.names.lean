-- ===== PART A: goes FIRST, ahead of the names: the tables' words, and 'selects' of the private methods out of them =====
/-- a private method of a class that the tables say can be made, by its rows of tables_1 -/
def lw_okq (q : MethodName × Nat) : Prop := (q.1.cls ≠ "java/lang/invoke/MethodHandle" ∧ q.1.cls ≠ "java/lang/invoke/VarHandle") ∧ Cond.instantiable q.1.cls q.2 ∈ tables_1 ∧ Cond.privateMethod q.1 ∈ tables_1 ∧ Cond.instanceMethod q.1 ∈ tables_1
theorem lw_p0 : lw_okq (⟨"LayerSlicer$Mesh", "hasCorner", "(I)Z"⟩, 6) := ⟨⟨by decide +kernel, by decide +kernel⟩, List.mem_of_getElem? (i := 26) (by decide +kernel), List.mem_of_getElem? (i := 231) (by decide +kernel), List.mem_of_getElem? (i := 232) (by decide +kernel)⟩
theorem lw_p1 : lw_okq (⟨"LayerSlicer$Mender", "joinCorners", "(LLayerSlicer$Mesh;)V"⟩, 8) := ⟨⟨by decide +kernel, by decide +kernel⟩, List.mem_of_getElem? (i := 62) (by decide +kernel), List.mem_of_getElem? (i := 247) (by decide +kernel), List.mem_of_getElem? (i := 248) (by decide +kernel)⟩
theorem lw_p2 : lw_okq (⟨"LayerSlicer$Mender", "dropTriangles", "(LLayerSlicer$Mesh;)V"⟩, 8) := ⟨⟨by decide +kernel, by decide +kernel⟩, List.mem_of_getElem? (i := 62) (by decide +kernel), List.mem_of_getElem? (i := 258) (by decide +kernel), List.mem_of_getElem? (i := 259) (by decide +kernel)⟩
theorem lw_p3 : lw_okq (⟨"LayerSlicer$Mender", "weighEdges", "(LLayerSlicer$Mesh;)V"⟩, 8) := ⟨⟨by decide +kernel, by decide +kernel⟩, List.mem_of_getElem? (i := 62) (by decide +kernel), List.mem_of_getElem? (i := 267) (by decide +kernel), List.mem_of_getElem? (i := 268) (by decide +kernel)⟩
theorem lw_p4 : lw_okq (⟨"LayerSlicer$Mender", "addEdgesOf", "(LLayerSlicer$Mesh;I)V"⟩, 8) := ⟨⟨by decide +kernel, by decide +kernel⟩, List.mem_of_getElem? (i := 62) (by decide +kernel), List.mem_of_getElem? (i := 274) (by decide +kernel), List.mem_of_getElem? (i := 275) (by decide +kernel)⟩
theorem lw_p5 : lw_okq (⟨"LayerSlicer$Mender", "addEdge", "(II)V"⟩, 8) := ⟨⟨by decide +kernel, by decide +kernel⟩, List.mem_of_getElem? (i := 62) (by decide +kernel), List.mem_of_getElem? (i := 278) (by decide +kernel), List.mem_of_getElem? (i := 279) (by decide +kernel)⟩
theorem lw_p6 : lw_okq (⟨"LayerSlicer$Mender", "closeFirstHole", "(LLayerSlicer$Mesh;)Z"⟩, 8) := ⟨⟨by decide +kernel, by decide +kernel⟩, List.mem_of_getElem? (i := 62) (by decide +kernel), List.mem_of_getElem? (i := 282) (by decide +kernel), List.mem_of_getElem? (i := 283) (by decide +kernel)⟩
theorem lw_p7 : lw_okq (⟨"LayerSlicer$Mender", "walkHole", "(II)I"⟩, 8) := ⟨⟨by decide +kernel, by decide +kernel⟩, List.mem_of_getElem? (i := 62) (by decide +kernel), List.mem_of_getElem? (i := 286) (by decide +kernel), List.mem_of_getElem? (i := 287) (by decide +kernel)⟩
theorem lw_p8 : lw_okq (⟨"LayerSlicer$Mender", "isInHole", "(II)Z"⟩, 8) := ⟨⟨by decide +kernel, by decide +kernel⟩, List.mem_of_getElem? (i := 62) (by decide +kernel), List.mem_of_getElem? (i := 290) (by decide +kernel), List.mem_of_getElem? (i := 291) (by decide +kernel)⟩
theorem lw_p9 : lw_okq (⟨"LayerSlicer$Mender", "nextCorner", "(II)I"⟩, 8) := ⟨⟨by decide +kernel, by decide +kernel⟩, List.mem_of_getElem? (i := 62) (by decide +kernel), List.mem_of_getElem? (i := 294) (by decide +kernel), List.mem_of_getElem? (i := 295) (by decide +kernel)⟩
theorem lw_p10 : lw_okq (⟨"LayerSlicer$Mender", "fillHole", "(LLayerSlicer$Mesh;I)V"⟩, 8) := ⟨⟨by decide +kernel, by decide +kernel⟩, List.mem_of_getElem? (i := 62) (by decide +kernel), List.mem_of_getElem? (i := 298) (by decide +kernel), List.mem_of_getElem? (i := 299) (by decide +kernel)⟩
theorem lw_p11 : lw_okq (⟨"LayerSlicer$Mender", "openInAll", "(I)I"⟩, 8) := ⟨⟨by decide +kernel, by decide +kernel⟩, List.mem_of_getElem? (i := 62) (by decide +kernel), List.mem_of_getElem? (i := 303) (by decide +kernel), List.mem_of_getElem? (i := 304) (by decide +kernel)⟩
theorem lw_p12 : lw_okq (⟨"LayerSlicer$Slices", "doubleHeight", "(I)I"⟩, 5) := ⟨⟨by decide +kernel, by decide +kernel⟩, List.mem_of_getElem? (i := 97) (by decide +kernel), List.mem_of_getElem? (i := 345) (by decide +kernel), List.mem_of_getElem? (i := 346) (by decide +kernel)⟩
theorem lw_p13 : lw_okq (⟨"LayerSlicer$Slices", "fillLayer", "(I)V"⟩, 5) := ⟨⟨by decide +kernel, by decide +kernel⟩, List.mem_of_getElem? (i := 97) (by decide +kernel), List.mem_of_getElem? (i := 349) (by decide +kernel), List.mem_of_getElem? (i := 350) (by decide +kernel)⟩
theorem lw_p14 : lw_okq (⟨"LayerSlicer$Slices", "isBelow", "(II)Z"⟩, 5) := ⟨⟨by decide +kernel, by decide +kernel⟩, List.mem_of_getElem? (i := 97) (by decide +kernel), List.mem_of_getElem? (i := 361) (by decide +kernel), List.mem_of_getElem? (i := 362) (by decide +kernel)⟩
theorem lw_p15 : lw_okq (⟨"LayerSlicer$Slices", "writeEnd", "(IIII)V"⟩, 5) := ⟨⟨by decide +kernel, by decide +kernel⟩, List.mem_of_getElem? (i := 97) (by decide +kernel), List.mem_of_getElem? (i := 365) (by decide +kernel), List.mem_of_getElem? (i := 366) (by decide +kernel)⟩
def lw_privs_1 : List (MethodName × Nat) := [(⟨"LayerSlicer$Mesh", "hasCorner", "(I)Z"⟩, 6), (⟨"LayerSlicer$Mender", "joinCorners", "(LLayerSlicer$Mesh;)V"⟩, 8), (⟨"LayerSlicer$Mender", "dropTriangles", "(LLayerSlicer$Mesh;)V"⟩, 8), (⟨"LayerSlicer$Mender", "weighEdges", "(LLayerSlicer$Mesh;)V"⟩, 8), (⟨"LayerSlicer$Mender", "addEdgesOf", "(LLayerSlicer$Mesh;I)V"⟩, 8), (⟨"LayerSlicer$Mender", "addEdge", "(II)V"⟩, 8), (⟨"LayerSlicer$Mender", "closeFirstHole", "(LLayerSlicer$Mesh;)Z"⟩, 8), (⟨"LayerSlicer$Mender", "walkHole", "(II)I"⟩, 8), (⟨"LayerSlicer$Mender", "isInHole", "(II)Z"⟩, 8), (⟨"LayerSlicer$Mender", "nextCorner", "(II)I"⟩, 8), (⟨"LayerSlicer$Mender", "fillHole", "(LLayerSlicer$Mesh;I)V"⟩, 8), (⟨"LayerSlicer$Mender", "openInAll", "(I)I"⟩, 8), (⟨"LayerSlicer$Slices", "doubleHeight", "(I)I"⟩, 5), (⟨"LayerSlicer$Slices", "fillLayer", "(I)V"⟩, 5), (⟨"LayerSlicer$Slices", "isBelow", "(II)Z"⟩, 5), (⟨"LayerSlicer$Slices", "writeEnd", "(IIII)V"⟩, 5)]
theorem lw_r1 : ∀ q ∈ lw_privs_1, lw_okq q := List.forall_mem_cons.mpr ⟨lw_p0, List.forall_mem_cons.mpr ⟨lw_p1, List.forall_mem_cons.mpr ⟨lw_p2, List.forall_mem_cons.mpr ⟨lw_p3, List.forall_mem_cons.mpr ⟨lw_p4, List.forall_mem_cons.mpr ⟨lw_p5, List.forall_mem_cons.mpr ⟨lw_p6, List.forall_mem_cons.mpr ⟨lw_p7, List.forall_mem_cons.mpr ⟨lw_p8, List.forall_mem_cons.mpr ⟨lw_p9, List.forall_mem_cons.mpr ⟨lw_p10, List.forall_mem_cons.mpr ⟨lw_p11, List.forall_mem_cons.mpr ⟨lw_p12, List.forall_mem_cons.mpr ⟨lw_p13, List.forall_mem_cons.mpr ⟨lw_p14, List.forall_mem_cons.mpr ⟨lw_p15, fun _ h => absurd h List.not_mem_nil⟩⟩⟩⟩⟩⟩⟩⟩⟩⟩⟩⟩⟩⟩⟩⟩
theorem lw_p16 : lw_okq (⟨"LayerSlicer$Slices", "cellsRightOfCut", "(I)I"⟩, 5) := ⟨⟨by decide +kernel, by decide +kernel⟩, List.mem_of_getElem? (i := 97) (by decide +kernel), List.mem_of_getElem? (i := 369) (by decide +kernel), List.mem_of_getElem? (i := 370) (by decide +kernel)⟩
theorem lw_p17 : lw_okq (⟨"LayerSlicer$Slices", "cellsRightOfLine", "(IIJJ)I"⟩, 5) := ⟨⟨by decide +kernel, by decide +kernel⟩, List.mem_of_getElem? (i := 97) (by decide +kernel), List.mem_of_getElem? (i := 376) (by decide +kernel), List.mem_of_getElem? (i := 377) (by decide +kernel)⟩
theorem lw_p18 : lw_okq (⟨"LayerSlicer$Sorter", "sortSolid", "(LLayerSlicer$Slices;II)V"⟩, 7) := ⟨⟨by decide +kernel, by decide +kernel⟩, List.mem_of_getElem? (i := 124) (by decide +kernel), List.mem_of_getElem? (i := 387) (by decide +kernel), List.mem_of_getElem? (i := 388) (by decide +kernel)⟩
theorem lw_p19 : lw_okq (⟨"LayerSlicer$Sorter", "rowBetweenSolid", "(LLayerSlicer$Slices;II)I"⟩, 7) := ⟨⟨by decide +kernel, by decide +kernel⟩, List.mem_of_getElem? (i := 124) (by decide +kernel), List.mem_of_getElem? (i := 404) (by decide +kernel), List.mem_of_getElem? (i := 405) (by decide +kernel)⟩
theorem lw_p20 : lw_okq (⟨"LayerSlicer$Sorter", "lineCells", "(II)I"⟩, 7) := ⟨⟨by decide +kernel, by decide +kernel⟩, List.mem_of_getElem? (i := 124) (by decide +kernel), List.mem_of_getElem? (i := 408) (by decide +kernel), List.mem_of_getElem? (i := 409) (by decide +kernel)⟩
theorem lw_p21 : lw_okq (⟨"LayerSlicer$Sorter", "sortOpen", "(LLayerSlicer$Slices;III)V"⟩, 7) := ⟨⟨by decide +kernel, by decide +kernel⟩, List.mem_of_getElem? (i := 124) (by decide +kernel), List.mem_of_getElem? (i := 416) (by decide +kernel), List.mem_of_getElem? (i := 417) (by decide +kernel)⟩
theorem lw_p22 : lw_okq (⟨"LayerSlicer$Router", "beginRun", "(IIII)V"⟩, 1) := ⟨⟨by decide +kernel, by decide +kernel⟩, List.mem_of_getElem? (i := 156) (by decide +kernel), List.mem_of_getElem? (i := 463) (by decide +kernel), List.mem_of_getElem? (i := 464) (by decide +kernel)⟩
theorem lw_p23 : lw_okq (⟨"LayerSlicer$Printer", "addByte", "(I)V"⟩, 5) := ⟨⟨by decide +kernel, by decide +kernel⟩, List.mem_of_getElem? (i := 168) (by decide +kernel), List.mem_of_getElem? (i := 475) (by decide +kernel), List.mem_of_getElem? (i := 476) (by decide +kernel)⟩
theorem lw_p24 : lw_okq (⟨"LayerSlicer$Printer", "layRun", "(III)V"⟩, 5) := ⟨⟨by decide +kernel, by decide +kernel⟩, List.mem_of_getElem? (i := 168) (by decide +kernel), List.mem_of_getElem? (i := 491) (by decide +kernel), List.mem_of_getElem? (i := 492) (by decide +kernel)⟩
theorem lw_p25 : lw_okq (⟨"java/lang/Throwable", "fillInStackTrace", "(I)Ljava/lang/Throwable;"⟩, 6) := ⟨⟨by decide +kernel, by decide +kernel⟩, List.mem_of_getElem? (i := 568) (by decide +kernel), List.mem_of_getElem? (i := 566) (by decide +kernel), List.mem_of_getElem? (i := 567) (by decide +kernel)⟩
theorem lw_p26 : lw_okq (⟨"LayerSlicerModel", "add", "(III)I"⟩, 28) := ⟨⟨by decide +kernel, by decide +kernel⟩, List.mem_of_getElem? (i := 600) (by decide +kernel), List.mem_of_getElem? (i := 706) (by decide +kernel), List.mem_of_getElem? (i := 707) (by decide +kernel)⟩
theorem lw_p27 : lw_okq (⟨"LayerSlicerModel", "join", "()V"⟩, 28) := ⟨⟨by decide +kernel, by decide +kernel⟩, List.mem_of_getElem? (i := 600) (by decide +kernel), List.mem_of_getElem? (i := 714) (by decide +kernel), List.mem_of_getElem? (i := 715) (by decide +kernel)⟩
theorem lw_p28 : lw_okq (⟨"LayerSlicerModel", "lowestAt", "(I)I"⟩, 28) := ⟨⟨by decide +kernel, by decide +kernel⟩, List.mem_of_getElem? (i := 600) (by decide +kernel), List.mem_of_getElem? (i := 718) (by decide +kernel), List.mem_of_getElem? (i := 719) (by decide +kernel)⟩
theorem lw_p29 : lw_okq (⟨"LayerSlicerModel", "drop", "()V"⟩, 28) := ⟨⟨by decide +kernel, by decide +kernel⟩, List.mem_of_getElem? (i := 600) (by decide +kernel), List.mem_of_getElem? (i := 722) (by decide +kernel), List.mem_of_getElem? (i := 723) (by decide +kernel)⟩
theorem lw_p30 : lw_okq (⟨"LayerSlicerModel", "isFlat", "(I)Z"⟩, 28) := ⟨⟨by decide +kernel, by decide +kernel⟩, List.mem_of_getElem? (i := 600) (by decide +kernel), List.mem_of_getElem? (i := 726) (by decide +kernel), List.mem_of_getElem? (i := 727) (by decide +kernel)⟩
theorem lw_p31 : lw_okq (⟨"LayerSlicerModel", "hole", "(I)I"⟩, 28) := ⟨⟨by decide +kernel, by decide +kernel⟩, List.mem_of_getElem? (i := 600) (by decide +kernel), List.mem_of_getElem? (i := 730) (by decide +kernel), List.mem_of_getElem? (i := 731) (by decide +kernel)⟩
def lw_privs_2 : List (MethodName × Nat) := [(⟨"LayerSlicer$Slices", "cellsRightOfCut", "(I)I"⟩, 5), (⟨"LayerSlicer$Slices", "cellsRightOfLine", "(IIJJ)I"⟩, 5), (⟨"LayerSlicer$Sorter", "sortSolid", "(LLayerSlicer$Slices;II)V"⟩, 7), (⟨"LayerSlicer$Sorter", "rowBetweenSolid", "(LLayerSlicer$Slices;II)I"⟩, 7), (⟨"LayerSlicer$Sorter", "lineCells", "(II)I"⟩, 7), (⟨"LayerSlicer$Sorter", "sortOpen", "(LLayerSlicer$Slices;III)V"⟩, 7), (⟨"LayerSlicer$Router", "beginRun", "(IIII)V"⟩, 1), (⟨"LayerSlicer$Printer", "addByte", "(I)V"⟩, 5), (⟨"LayerSlicer$Printer", "layRun", "(III)V"⟩, 5), (⟨"java/lang/Throwable", "fillInStackTrace", "(I)Ljava/lang/Throwable;"⟩, 6), (⟨"LayerSlicerModel", "add", "(III)I"⟩, 28), (⟨"LayerSlicerModel", "join", "()V"⟩, 28), (⟨"LayerSlicerModel", "lowestAt", "(I)I"⟩, 28), (⟨"LayerSlicerModel", "drop", "()V"⟩, 28), (⟨"LayerSlicerModel", "isFlat", "(I)Z"⟩, 28), (⟨"LayerSlicerModel", "hole", "(I)I"⟩, 28)]
theorem lw_r2 : ∀ q ∈ lw_privs_2, lw_okq q := List.forall_mem_cons.mpr ⟨lw_p16, List.forall_mem_cons.mpr ⟨lw_p17, List.forall_mem_cons.mpr ⟨lw_p18, List.forall_mem_cons.mpr ⟨lw_p19, List.forall_mem_cons.mpr ⟨lw_p20, List.forall_mem_cons.mpr ⟨lw_p21, List.forall_mem_cons.mpr ⟨lw_p22, List.forall_mem_cons.mpr ⟨lw_p23, List.forall_mem_cons.mpr ⟨lw_p24, List.forall_mem_cons.mpr ⟨lw_p25, List.forall_mem_cons.mpr ⟨lw_p26, List.forall_mem_cons.mpr ⟨lw_p27, List.forall_mem_cons.mpr ⟨lw_p28, List.forall_mem_cons.mpr ⟨lw_p29, List.forall_mem_cons.mpr ⟨lw_p30, List.forall_mem_cons.mpr ⟨lw_p31, fun _ h => absurd h List.not_mem_nil⟩⟩⟩⟩⟩⟩⟩⟩⟩⟩⟩⟩⟩⟩⟩⟩
theorem lw_p32 : lw_okq (⟨"LayerSlicerModel", "only", "(I)I"⟩, 28) := ⟨⟨by decide +kernel, by decide +kernel⟩, List.mem_of_getElem? (i := 600) (by decide +kernel), List.mem_of_getElem? (i := 734) (by decide +kernel), List.mem_of_getElem? (i := 735) (by decide +kernel)⟩
theorem lw_p33 : lw_okq (⟨"LayerSlicerModel", "open", "(II)I"⟩, 28) := ⟨⟨by decide +kernel, by decide +kernel⟩, List.mem_of_getElem? (i := 600) (by decide +kernel), List.mem_of_getElem? (i := 738) (by decide +kernel), List.mem_of_getElem? (i := 739) (by decide +kernel)⟩
theorem lw_p34 : lw_okq (⟨"LayerSlicerModel", "high", "(I)I"⟩, 28) := ⟨⟨by decide +kernel, by decide +kernel⟩, List.mem_of_getElem? (i := 600) (by decide +kernel), List.mem_of_getElem? (i := 758) (by decide +kernel), List.mem_of_getElem? (i := 759) (by decide +kernel)⟩
theorem lw_p35 : lw_okq (⟨"LayerSlicerModel", "isInside", "(III)Z"⟩, 28) := ⟨⟨by decide +kernel, by decide +kernel⟩, List.mem_of_getElem? (i := 600) (by decide +kernel), List.mem_of_getElem? (i := 762) (by decide +kernel), List.mem_of_getElem? (i := 763) (by decide +kernel)⟩
theorem lw_p36 : lw_okq (⟨"LayerSlicerModel", "isCut", "(II)Z"⟩, 28) := ⟨⟨by decide +kernel, by decide +kernel⟩, List.mem_of_getElem? (i := 600) (by decide +kernel), List.mem_of_getElem? (i := 766) (by decide +kernel), List.mem_of_getElem? (i := 767) (by decide +kernel)⟩
theorem lw_p37 : lw_okq (⟨"LayerSlicerModel", "isAbove", "(II)Z"⟩, 28) := ⟨⟨by decide +kernel, by decide +kernel⟩, List.mem_of_getElem? (i := 600) (by decide +kernel), List.mem_of_getElem? (i := 770) (by decide +kernel), List.mem_of_getElem? (i := 771) (by decide +kernel)⟩
theorem lw_p38 : lw_okq (⟨"LayerSlicerModel", "isLeft", "(IIII)Z"⟩, 28) := ⟨⟨by decide +kernel, by decide +kernel⟩, List.mem_of_getElem? (i := 600) (by decide +kernel), List.mem_of_getElem? (i := 774) (by decide +kernel), List.mem_of_getElem? (i := 775) (by decide +kernel)⟩
theorem lw_p39 : lw_okq (⟨"LayerSlicerModel", "end", "(IIII)I"⟩, 28) := ⟨⟨by decide +kernel, by decide +kernel⟩, List.mem_of_getElem? (i := 600) (by decide +kernel), List.mem_of_getElem? (i := 778) (by decide +kernel), List.mem_of_getElem? (i := 779) (by decide +kernel)⟩
theorem lw_p40 : lw_okq (⟨"LayerSlicerModel", "edgeOf", "(III)I"⟩, 28) := ⟨⟨by decide +kernel, by decide +kernel⟩, List.mem_of_getElem? (i := 600) (by decide +kernel), List.mem_of_getElem? (i := 782) (by decide +kernel), List.mem_of_getElem? (i := 783) (by decide +kernel)⟩
theorem lw_p41 : lw_okq (⟨"LayerSlicerModel", "clear", "()V"⟩, 28) := ⟨⟨by decide +kernel, by decide +kernel⟩, List.mem_of_getElem? (i := 600) (by decide +kernel), List.mem_of_getElem? (i := 789) (by decide +kernel), List.mem_of_getElem? (i := 790) (by decide +kernel)⟩
theorem lw_p42 : lw_okq (⟨"LayerSlicerModel", "isSolid", "(III)Z"⟩, 28) := ⟨⟨by decide +kernel, by decide +kernel⟩, List.mem_of_getElem? (i := 600) (by decide +kernel), List.mem_of_getElem? (i := 801) (by decide +kernel), List.mem_of_getElem? (i := 802) (by decide +kernel)⟩
theorem lw_p43 : lw_okq (⟨"LayerSlicerModel", "kindOf", "(III)I"⟩, 28) := ⟨⟨by decide +kernel, by decide +kernel⟩, List.mem_of_getElem? (i := 600) (by decide +kernel), List.mem_of_getElem? (i := 813) (by decide +kernel), List.mem_of_getElem? (i := 814) (by decide +kernel)⟩
theorem lw_p44 : lw_okq (⟨"LayerSlicerModel", "hangs", "(III)Z"⟩, 28) := ⟨⟨by decide +kernel, by decide +kernel⟩, List.mem_of_getElem? (i := 600) (by decide +kernel), List.mem_of_getElem? (i := 817) (by decide +kernel), List.mem_of_getElem? (i := 818) (by decide +kernel)⟩
theorem lw_p45 : lw_okq (⟨"LayerSlicerModel", "around", "(IIII)I"⟩, 28) := ⟨⟨by decide +kernel, by decide +kernel⟩, List.mem_of_getElem? (i := 600) (by decide +kernel), List.mem_of_getElem? (i := 821) (by decide +kernel), List.mem_of_getElem? (i := 822) (by decide +kernel)⟩
theorem lw_p46 : lw_okq (⟨"LayerSlicerModel", "pathsOf", "(I)I"⟩, 28) := ⟨⟨by decide +kernel, by decide +kernel⟩, List.mem_of_getElem? (i := 600) (by decide +kernel), List.mem_of_getElem? (i := 837) (by decide +kernel), List.mem_of_getElem? (i := 838) (by decide +kernel)⟩
theorem lw_p47 : lw_okq (⟨"LayerSlicerModel", "begins", "(II)I"⟩, 28) := ⟨⟨by decide +kernel, by decide +kernel⟩, List.mem_of_getElem? (i := 600) (by decide +kernel), List.mem_of_getElem? (i := 841) (by decide +kernel), List.mem_of_getElem? (i := 842) (by decide +kernel)⟩
def lw_privs_3 : List (MethodName × Nat) := [(⟨"LayerSlicerModel", "only", "(I)I"⟩, 28), (⟨"LayerSlicerModel", "open", "(II)I"⟩, 28), (⟨"LayerSlicerModel", "high", "(I)I"⟩, 28), (⟨"LayerSlicerModel", "isInside", "(III)Z"⟩, 28), (⟨"LayerSlicerModel", "isCut", "(II)Z"⟩, 28), (⟨"LayerSlicerModel", "isAbove", "(II)Z"⟩, 28), (⟨"LayerSlicerModel", "isLeft", "(IIII)Z"⟩, 28), (⟨"LayerSlicerModel", "end", "(IIII)I"⟩, 28), (⟨"LayerSlicerModel", "edgeOf", "(III)I"⟩, 28), (⟨"LayerSlicerModel", "clear", "()V"⟩, 28), (⟨"LayerSlicerModel", "isSolid", "(III)Z"⟩, 28), (⟨"LayerSlicerModel", "kindOf", "(III)I"⟩, 28), (⟨"LayerSlicerModel", "hangs", "(III)Z"⟩, 28), (⟨"LayerSlicerModel", "around", "(IIII)I"⟩, 28), (⟨"LayerSlicerModel", "pathsOf", "(I)I"⟩, 28), (⟨"LayerSlicerModel", "begins", "(II)I"⟩, 28)]
theorem lw_r3 : ∀ q ∈ lw_privs_3, lw_okq q := List.forall_mem_cons.mpr ⟨lw_p32, List.forall_mem_cons.mpr ⟨lw_p33, List.forall_mem_cons.mpr ⟨lw_p34, List.forall_mem_cons.mpr ⟨lw_p35, List.forall_mem_cons.mpr ⟨lw_p36, List.forall_mem_cons.mpr ⟨lw_p37, List.forall_mem_cons.mpr ⟨lw_p38, List.forall_mem_cons.mpr ⟨lw_p39, List.forall_mem_cons.mpr ⟨lw_p40, List.forall_mem_cons.mpr ⟨lw_p41, List.forall_mem_cons.mpr ⟨lw_p42, List.forall_mem_cons.mpr ⟨lw_p43, List.forall_mem_cons.mpr ⟨lw_p44, List.forall_mem_cons.mpr ⟨lw_p45, List.forall_mem_cons.mpr ⟨lw_p46, List.forall_mem_cons.mpr ⟨lw_p47, fun _ h => absurd h List.not_mem_nil⟩⟩⟩⟩⟩⟩⟩⟩⟩⟩⟩⟩⟩⟩⟩⟩
theorem lw_p48 : lw_okq (⟨"LayerSlicerModel", "longAt", "(II)I"⟩, 28) := ⟨⟨by decide +kernel, by decide +kernel⟩, List.mem_of_getElem? (i := 600) (by decide +kernel), List.mem_of_getElem? (i := 852) (by decide +kernel), List.mem_of_getElem? (i := 853) (by decide +kernel)⟩
theorem lw_p49 : lw_okq (⟨"LayerSlicerModel", "put", "(I)V"⟩, 28) := ⟨⟨by decide +kernel, by decide +kernel⟩, List.mem_of_getElem? (i := 600) (by decide +kernel), List.mem_of_getElem? (i := 860) (by decide +kernel), List.mem_of_getElem? (i := 861) (by decide +kernel)⟩
def lw_privs_4 : List (MethodName × Nat) := [(⟨"LayerSlicerModel", "longAt", "(II)I"⟩, 28), (⟨"LayerSlicerModel", "put", "(I)V"⟩, 28)]
theorem lw_r4 : ∀ q ∈ lw_privs_4, lw_okq q := List.forall_mem_cons.mpr ⟨lw_p48, List.forall_mem_cons.mpr ⟨lw_p49, fun _ h => absurd h List.not_mem_nil⟩⟩
def lw_privs : List (MethodName × Nat) := lw_privs_1 ++ (lw_privs_2 ++ (lw_privs_3 ++ (lw_privs_4)))
def lw_tbl : List Cond := k2_sels lw_privs ++ tables_1
theorem lw_privs_ok : ∀ q ∈ lw_privs, lw_okq q := by
  show ∀ q ∈ lw_privs_1 ++ (lw_privs_2 ++ (lw_privs_3 ++ (lw_privs_4))), lw_okq q
  exact List.forall_mem_append.mpr ⟨lw_r1, List.forall_mem_append.mpr ⟨lw_r2, List.forall_mem_append.mpr ⟨lw_r3, lw_r4⟩⟩⟩

-- names of classes, fields, methods, by program (tool/names.py)
def R_LS : String := "LayerSlicer"
def R_Me : String := "LayerSlicer$Mesh"
def R_Mn : String := "LayerSlicer$Mender"
def R_Sl : String := "LayerSlicer$Slices"
def R_So : String := "LayerSlicer$Sorter"
def R_Ro : String := "LayerSlicer$Router"
def R_Pr : String := "LayerSlicer$Printer"
def R_Mo : String := "LayerSlicerModel"
def R_law : String := "LayerSlicerLaw"
def R_Arr : String := "java/util/Arrays"
def R_Int : String := "java/lang/Integer"
def R_Mat : String := "java/lang/Math"
def R_Sys : String := "java/lang/System"
def R_Obj : String := "java/lang/Object"
def R_Thr : String := "java/lang/Throwable"
def R_Exc : String := "java/lang/Exception"
def R_Rte : String := "java/lang/RuntimeException"
def R_Nse : String := "java/util/NoSuchElementException"
def F_LS : u_T := fun k => match k with
  | 0 => ("LayerSlicer", "mesh", "LLayerSlicer$Mesh;", true)
  | 1 => ("LayerSlicer", "mender", "LLayerSlicer$Mender;", true)
  | 2 => ("LayerSlicer", "slices", "LLayerSlicer$Slices;", true)
  | 3 => ("LayerSlicer", "sorter", "LLayerSlicer$Sorter;", true)
  | 4 => ("LayerSlicer", "router", "LLayerSlicer$Router;", true)
  | _ => ("LayerSlicer", "printer", "LLayerSlicer$Printer;", true)
def t_LS : Nat → FieldType := fun k => match k with
  | 0 => .object "LayerSlicer$Mesh"
  | 1 => .object "LayerSlicer$Mender"
  | 2 => .object "LayerSlicer$Slices"
  | 3 => .object "LayerSlicer$Sorter"
  | 4 => .object "LayerSlicer$Router"
  | _ => .object "LayerSlicer$Printer"
theorem n_LS : ∀ a, a < 6 → ∀ b, b < 6 → a ≠ b → (F_LS a).2.1 ≠ (F_LS b).2.1 := by decide +kernel
theorem ok_LS : ∀ k, k < 6 → parseFieldDescriptor (F_LS k).2.2.1 = some (t_LS k) := by decide +kernel
def F_Me : u_T := fun k => match k with
  | 0 => ("LayerSlicer$Mesh", "x", "[I", true)
  | 1 => ("LayerSlicer$Mesh", "y", "[I", true)
  | 2 => ("LayerSlicer$Mesh", "z", "[I", true)
  | 3 => ("LayerSlicer$Mesh", "corners", "I", false)
  | 4 => ("LayerSlicer$Mesh", "named", "[I", true)
  | _ => ("LayerSlicer$Mesh", "triangles", "I", false)
def t_Me : Nat → FieldType := fun k => match k with
  | 0 => .array .int
  | 1 => .array .int
  | 2 => .array .int
  | 3 => .int
  | 4 => .array .int
  | _ => .int
theorem n_Me : ∀ a, a < 6 → ∀ b, b < 6 → a ≠ b → (F_Me a).2.1 ≠ (F_Me b).2.1 := by decide +kernel
theorem ok_Me : ∀ k, k < 6 → parseFieldDescriptor (F_Me k).2.2.1 = some (t_Me k) := by decide +kernel
def F_Mn : u_T := fun k => match k with
  | 0 => ("LayerSlicer$Mender", "joined", "I", false)
  | 1 => ("LayerSlicer$Mender", "dropped", "I", false)
  | 2 => ("LayerSlicer$Mender", "closed", "I", false)
  | 3 => ("LayerSlicer$Mender", "lowestHere", "[I", true)
  | 4 => ("LayerSlicer$Mender", "counted", "[Z", true)
  | 5 => ("LayerSlicer$Mender", "balance", "[I", true)
  | 6 => ("LayerSlicer$Mender", "openFrom", "[I", true)
  | _ => ("LayerSlicer$Mender", "hole", "[I", true)
def t_Mn : Nat → FieldType := fun k => match k with
  | 0 => .int
  | 1 => .int
  | 2 => .int
  | 3 => .array .int
  | 4 => .array .boolean
  | 5 => .array .int
  | 6 => .array .int
  | _ => .array .int
theorem n_Mn : ∀ a, a < 8 → ∀ b, b < 8 → a ≠ b → (F_Mn a).2.1 ≠ (F_Mn b).2.1 := by decide +kernel
theorem ok_Mn : ∀ k, k < 8 → parseFieldDescriptor (F_Mn k).2.2.1 = some (t_Mn k) := by decide +kernel
def F_Sl : u_T := fun k => match k with
  | 0 => ("LayerSlicer$Slices", "count", "I", false)
  | 1 => ("LayerSlicer$Slices", "ends", "[I", true)
  | 2 => ("LayerSlicer$Slices", "thickness", "I", false)
  | 3 => ("LayerSlicer$Slices", "mesh", "LLayerSlicer$Mesh;", true)
  | _ => ("LayerSlicer$Slices", "solidRows", "[I", true)
def t_Sl : Nat → FieldType := fun k => match k with
  | 0 => .int
  | 1 => .array .int
  | 2 => .int
  | 3 => .object "LayerSlicer$Mesh"
  | _ => .array .int
theorem n_Sl : ∀ a, a < 5 → ∀ b, b < 5 → a ≠ b → (F_Sl a).2.1 ≠ (F_Sl b).2.1 := by decide +kernel
theorem ok_Sl : ∀ k, k < 5 → parseFieldDescriptor (F_Sl k).2.2.1 = some (t_Sl k) := by decide +kernel
def F_So : u_T := fun k => match k with
  | 0 => ("LayerSlicer$Sorter", "rowsOfKind", "[[I", true)
  | 1 => ("LayerSlicer$Sorter", "hanging", "[I", true)
  | 2 => ("LayerSlicer$Sorter", "shell", "I", false)
  | 3 => ("LayerSlicer$Sorter", "skin", "I", false)
  | 4 => ("LayerSlicer$Sorter", "period", "I", false)
  | 5 => ("LayerSlicer$Sorter", "reach", "I", false)
  | _ => ("LayerSlicer$Sorter", "gap", "I", false)
def t_So : Nat → FieldType := fun k => match k with
  | 0 => .array (.array .int)
  | 1 => .array .int
  | 2 => .int
  | 3 => .int
  | 4 => .int
  | 5 => .int
  | _ => .int
theorem n_So : ∀ a, a < 7 → ∀ b, b < 7 → a ≠ b → (F_So a).2.1 ≠ (F_So b).2.1 := by decide +kernel
theorem ok_So : ∀ k, k < 7 → parseFieldDescriptor (F_So k).2.2.1 = some (t_So k) := by decide +kernel
def F_Ro : u_T := fun k => match k with
  | _ => ("LayerSlicer$Router", "runs", "[I", true)
def t_Ro : Nat → FieldType := fun k => match k with
  | _ => .array .int
theorem n_Ro : ∀ a, a < 1 → ∀ b, b < 1 → a ≠ b → (F_Ro a).2.1 ≠ (F_Ro b).2.1 := by decide +kernel
theorem ok_Ro : ∀ k, k < 1 → parseFieldDescriptor (F_Ro k).2.2.1 = some (t_Ro k) := by decide +kernel
def F_Pr : u_T := fun k => match k with
  | 0 => ("LayerSlicer$Printer", "program", "[I", true)
  | 1 => ("LayerSlicer$Printer", "length", "I", false)
  | 2 => ("LayerSlicer$Printer", "beads", "[I", true)
  | 3 => ("LayerSlicer$Printer", "at", "I", false)
  | _ => ("LayerSlicer$Printer", "layer", "I", false)
def t_Pr : Nat → FieldType := fun k => match k with
  | 0 => .array .int
  | 1 => .int
  | 2 => .array .int
  | 3 => .int
  | _ => .int
theorem n_Pr : ∀ a, a < 5 → ∀ b, b < 5 → a ≠ b → (F_Pr a).2.1 ≠ (F_Pr b).2.1 := by decide +kernel
theorem ok_Pr : ∀ k, k < 5 → parseFieldDescriptor (F_Pr k).2.2.1 = some (t_Pr k) := by decide +kernel
def F_Mo : u_T := fun k => match k with
  | 0 => ("LayerSlicerModel", "thrown", "I", false)
  | 1 => ("LayerSlicerModel", "corners", "I", false)
  | 2 => ("LayerSlicerModel", "px", "[I", true)
  | 3 => ("LayerSlicerModel", "py", "[I", true)
  | 4 => ("LayerSlicerModel", "pz", "[I", true)
  | 5 => ("LayerSlicerModel", "triangles", "I", false)
  | 6 => ("LayerSlicerModel", "named", "[I", true)
  | 7 => ("LayerSlicerModel", "joined", "I", false)
  | 8 => ("LayerSlicerModel", "dropped", "I", false)
  | 9 => ("LayerSlicerModel", "closed", "I", false)
  | 10 => ("LayerSlicerModel", "layers", "I", false)
  | 11 => ("LayerSlicerModel", "thickness", "I", false)
  | 12 => ("LayerSlicerModel", "cuts", "I", false)
  | 13 => ("LayerSlicerModel", "cx", "[I", true)
  | 14 => ("LayerSlicerModel", "cy", "[I", true)
  | 15 => ("LayerSlicerModel", "cz", "[I", true)
  | 16 => ("LayerSlicerModel", "solids", "[Z", true)
  | 17 => ("LayerSlicerModel", "shell", "I", false)
  | 18 => ("LayerSlicerModel", "skin", "I", false)
  | 19 => ("LayerSlicerModel", "period", "I", false)
  | 20 => ("LayerSlicerModel", "reach", "I", false)
  | 21 => ("LayerSlicerModel", "gap", "I", false)
  | 22 => ("LayerSlicerModel", "bytes", "I", false)
  | 23 => ("LayerSlicerModel", "played", "I", false)
  | 24 => ("LayerSlicerModel", "at", "I", false)
  | 25 => ("LayerSlicerModel", "program", "[I", true)
  | 26 => ("LayerSlicerModel", "beads", "[I", true)
  | _ => ("LayerSlicerModel", "ring", "[I", true)
def t_Mo : Nat → FieldType := fun k => match k with
  | 0 => .int
  | 1 => .int
  | 2 => .array .int
  | 3 => .array .int
  | 4 => .array .int
  | 5 => .int
  | 6 => .array .int
  | 7 => .int
  | 8 => .int
  | 9 => .int
  | 10 => .int
  | 11 => .int
  | 12 => .int
  | 13 => .array .int
  | 14 => .array .int
  | 15 => .array .int
  | 16 => .array .boolean
  | 17 => .int
  | 18 => .int
  | 19 => .int
  | 20 => .int
  | 21 => .int
  | 22 => .int
  | 23 => .int
  | 24 => .int
  | 25 => .array .int
  | 26 => .array .int
  | _ => .array .int
theorem n_Mo : ∀ a, a < 28 → ∀ b, b < 28 → a ≠ b → (F_Mo a).2.1 ≠ (F_Mo b).2.1 := by decide +kernel
theorem ok_Mo : ∀ k, k < 28 → parseFieldDescriptor (F_Mo k).2.2.1 = some (t_Mo k) := by decide +kernel
/-- the classes whose objects the worlds hold -/
abbrev cls : List vw_C := [(R_LS, F_LS, 6), (R_Me, F_Me, 6), (R_Mn, F_Mn, 8), (R_Sl, F_Sl, 5), (R_So, F_So, 7), (R_Ro, F_Ro, 1), (R_Pr, F_Pr, 5), (R_Mo, F_Mo, 28)]
abbrev b_LS_init : ByteArray := prog_1_method_1_code
def y_LS_init : MethodName := ⟨R_LS, "<init>", "()V"⟩
abbrev b_LS_corner : ByteArray := prog_1_method_2_code
def y_LS_corner : MethodName := ⟨R_LS, "corner", "(III)I"⟩
abbrev b_LS_tri : ByteArray := prog_1_method_3_code
def y_LS_tri : MethodName := ⟨R_LS, "tri", "(III)I"⟩
abbrev b_LS_mend : ByteArray := prog_1_method_4_code
def y_LS_mend : MethodName := ⟨R_LS, "mend", "()I"⟩
abbrev b_LS_mended : ByteArray := prog_1_method_5_code
def y_LS_mended : MethodName := ⟨R_LS, "mended", "(I)I"⟩
abbrev b_LS_triangle : ByteArray := prog_1_method_6_code
def y_LS_triangle : MethodName := ⟨R_LS, "triangle", "(II)I"⟩
abbrev b_LS_turn : ByteArray := prog_1_method_7_code
def y_LS_turn : MethodName := ⟨R_LS, "turn", "(II)Z"⟩
abbrev b_LS_layers : ByteArray := prog_1_method_8_code
def y_LS_layers : MethodName := ⟨R_LS, "layers", "(I)I"⟩
abbrev b_LS_cut : ByteArray := prog_1_method_9_code
def y_LS_cut : MethodName := ⟨R_LS, "cut", "(IIII)I"⟩
abbrev b_LS_solid : ByteArray := prog_1_method_10_code
def y_LS_solid : MethodName := ⟨R_LS, "solid", "(III)I"⟩
abbrev b_LS_settings : ByteArray := prog_1_method_11_code
def y_LS_settings : MethodName := ⟨R_LS, "settings", "(IIIII)Z"⟩
abbrev b_LS_kind : ByteArray := prog_1_method_12_code
def y_LS_kind : MethodName := ⟨R_LS, "kind", "(III)I"⟩
abbrev b_LS_paths : ByteArray := prog_1_method_13_code
def y_LS_paths : MethodName := ⟨R_LS, "paths", "(I)I"⟩
abbrev b_LS_path : ByteArray := prog_1_method_14_code
def y_LS_path : MethodName := ⟨R_LS, "path", "(III)I"⟩
abbrev b_LS_emit : ByteArray := prog_1_method_15_code
def y_LS_emit : MethodName := ⟨R_LS, "emit", "()I"⟩
abbrev b_LS_byteOf : ByteArray := prog_1_method_16_code
def y_LS_byteOf : MethodName := ⟨R_LS, "byteOf", "(I)I"⟩
abbrev b_LS_play : ByteArray := prog_1_method_17_code
def y_LS_play : MethodName := ⟨R_LS, "play", "(I)I"⟩
abbrev b_LS_laid : ByteArray := prog_1_method_18_code
def y_LS_laid : MethodName := ⟨R_LS, "laid", "(III)I"⟩
abbrev b_LS_overhang : ByteArray := prog_1_method_19_code
def y_LS_overhang : MethodName := ⟨R_LS, "overhang", "(I)I"⟩
abbrev b_LS_volume : ByteArray := prog_1_method_20_code
def y_LS_volume : MethodName := ⟨R_LS, "volume", "(I)I"⟩
abbrev b_LS_isCell : ByteArray := prog_1_method_21_code
def y_LS_isCell : MethodName := ⟨R_LS, "isCell", "(III)Z"⟩
abbrev b_LS_cellIndex : ByteArray := prog_1_method_22_code
def y_LS_cellIndex : MethodName := ⟨R_LS, "cellIndex", "(III)I"⟩
abbrev b_LS_countCells : ByteArray := prog_1_method_23_code
def y_LS_countCells : MethodName := ⟨R_LS, "countCells", "([III)I"⟩
abbrev b_Mo_init : ByteArray := prog_9_method_1_code
def y_Mo_init : MethodName := ⟨R_Mo, "<init>", "()V"⟩
abbrev b_Mo_thrown : ByteArray := prog_9_method_2_code
def y_Mo_thrown : MethodName := ⟨R_Mo, "thrown", "()I"⟩
abbrev b_Mo_in : ByteArray := prog_9_method_3_code
def y_Mo_in : MethodName := ⟨R_Mo, "in", "(III)Z"⟩
abbrev b_Mo_corner : ByteArray := prog_9_method_4_code
def y_Mo_corner : MethodName := ⟨R_Mo, "corner", "(III)I"⟩
abbrev b_Mo_add : ByteArray := prog_9_method_5_code
def y_Mo_add : MethodName := ⟨R_Mo, "add", "(III)I"⟩
abbrev b_Mo_tri : ByteArray := prog_9_method_6_code
def y_Mo_tri : MethodName := ⟨R_Mo, "tri", "(III)I"⟩
abbrev b_Mo_lowestAt : ByteArray := prog_9_method_7_code
def y_Mo_lowestAt : MethodName := ⟨R_Mo, "lowestAt", "(I)I"⟩
abbrev b_Mo_join : ByteArray := prog_9_method_8_code
def y_Mo_join : MethodName := ⟨R_Mo, "join", "()V"⟩
abbrev b_Mo_isFlat : ByteArray := prog_9_method_9_code
def y_Mo_isFlat : MethodName := ⟨R_Mo, "isFlat", "(I)Z"⟩
abbrev b_Mo_drop : ByteArray := prog_9_method_10_code
def y_Mo_drop : MethodName := ⟨R_Mo, "drop", "()V"⟩
abbrev b_Mo_open : ByteArray := prog_9_method_11_code
def y_Mo_open : MethodName := ⟨R_Mo, "open", "(II)I"⟩
abbrev b_Mo_only : ByteArray := prog_9_method_12_code
def y_Mo_only : MethodName := ⟨R_Mo, "only", "(I)I"⟩
abbrev b_Mo_hole : ByteArray := prog_9_method_13_code
def y_Mo_hole : MethodName := ⟨R_Mo, "hole", "(I)I"⟩
abbrev b_Mo_mend : ByteArray := prog_9_method_14_code
def y_Mo_mend : MethodName := ⟨R_Mo, "mend", "()I"⟩
abbrev b_Mo_mended : ByteArray := prog_9_method_15_code
def y_Mo_mended : MethodName := ⟨R_Mo, "mended", "(I)I"⟩
abbrev b_Mo_triangle : ByteArray := prog_9_method_16_code
def y_Mo_triangle : MethodName := ⟨R_Mo, "triangle", "(II)I"⟩
abbrev b_Mo_turn : ByteArray := prog_9_method_17_code
def y_Mo_turn : MethodName := ⟨R_Mo, "turn", "(II)Z"⟩
abbrev b_Mo_high : ByteArray := prog_9_method_18_code
def y_Mo_high : MethodName := ⟨R_Mo, "high", "(I)I"⟩
abbrev b_Mo_layers : ByteArray := prog_9_method_19_code
def y_Mo_layers : MethodName := ⟨R_Mo, "layers", "(I)I"⟩
abbrev b_Mo_isAbove : ByteArray := prog_9_method_20_code
def y_Mo_isAbove : MethodName := ⟨R_Mo, "isAbove", "(II)Z"⟩
abbrev b_Mo_isCut : ByteArray := prog_9_method_21_code
def y_Mo_isCut : MethodName := ⟨R_Mo, "isCut", "(II)Z"⟩
abbrev b_Mo_edgeOf : ByteArray := prog_9_method_22_code
def y_Mo_edgeOf : MethodName := ⟨R_Mo, "edgeOf", "(III)I"⟩
abbrev b_Mo_end : ByteArray := prog_9_method_23_code
def y_Mo_end : MethodName := ⟨R_Mo, "end", "(IIII)I"⟩
abbrev b_Mo_cut : ByteArray := prog_9_method_24_code
def y_Mo_cut : MethodName := ⟨R_Mo, "cut", "(IIII)I"⟩
abbrev b_Mo_isLeft : ByteArray := prog_9_method_25_code
def y_Mo_isLeft : MethodName := ⟨R_Mo, "isLeft", "(IIII)Z"⟩
abbrev b_Mo_isInside : ByteArray := prog_9_method_26_code
def y_Mo_isInside : MethodName := ⟨R_Mo, "isInside", "(III)Z"⟩
abbrev b_Mo_isSolid : ByteArray := prog_9_method_27_code
def y_Mo_isSolid : MethodName := ⟨R_Mo, "isSolid", "(III)Z"⟩
abbrev b_Mo_solid : ByteArray := prog_9_method_28_code
def y_Mo_solid : MethodName := ⟨R_Mo, "solid", "(III)I"⟩
abbrev b_Mo_settings : ByteArray := prog_9_method_29_code
def y_Mo_settings : MethodName := ⟨R_Mo, "settings", "(IIIII)Z"⟩
abbrev b_Mo_around : ByteArray := prog_9_method_30_code
def y_Mo_around : MethodName := ⟨R_Mo, "around", "(IIII)I"⟩
abbrev b_Mo_hangs : ByteArray := prog_9_method_31_code
def y_Mo_hangs : MethodName := ⟨R_Mo, "hangs", "(III)Z"⟩
abbrev b_Mo_kindOf : ByteArray := prog_9_method_32_code
def y_Mo_kindOf : MethodName := ⟨R_Mo, "kindOf", "(III)I"⟩
abbrev b_Mo_kind : ByteArray := prog_9_method_33_code
def y_Mo_kind : MethodName := ⟨R_Mo, "kind", "(III)I"⟩
abbrev b_Mo_overhang : ByteArray := prog_9_method_34_code
def y_Mo_overhang : MethodName := ⟨R_Mo, "overhang", "(I)I"⟩
abbrev b_Mo_volume : ByteArray := prog_9_method_35_code
def y_Mo_volume : MethodName := ⟨R_Mo, "volume", "(I)I"⟩
abbrev b_Mo_isLaid : ByteArray := prog_9_method_36_code
def y_Mo_isLaid : MethodName := ⟨R_Mo, "isLaid", "(I)Z"⟩
abbrev b_Mo_begins : ByteArray := prog_9_method_37_code
def y_Mo_begins : MethodName := ⟨R_Mo, "begins", "(II)I"⟩
abbrev b_Mo_longAt : ByteArray := prog_9_method_38_code
def y_Mo_longAt : MethodName := ⟨R_Mo, "longAt", "(II)I"⟩
abbrev b_Mo_pathsOf : ByteArray := prog_9_method_39_code
def y_Mo_pathsOf : MethodName := ⟨R_Mo, "pathsOf", "(I)I"⟩
abbrev b_Mo_paths : ByteArray := prog_9_method_40_code
def y_Mo_paths : MethodName := ⟨R_Mo, "paths", "(I)I"⟩
abbrev b_Mo_path : ByteArray := prog_9_method_41_code
def y_Mo_path : MethodName := ⟨R_Mo, "path", "(III)I"⟩
abbrev b_Mo_clear : ByteArray := prog_9_method_42_code
def y_Mo_clear : MethodName := ⟨R_Mo, "clear", "()V"⟩
abbrev b_Mo_put : ByteArray := prog_9_method_43_code
def y_Mo_put : MethodName := ⟨R_Mo, "put", "(I)V"⟩
abbrev b_Mo_emit : ByteArray := prog_9_method_44_code
def y_Mo_emit : MethodName := ⟨R_Mo, "emit", "()I"⟩
abbrev b_Mo_byteOf : ByteArray := prog_9_method_45_code
def y_Mo_byteOf : MethodName := ⟨R_Mo, "byteOf", "(I)I"⟩
abbrev b_Mo_play : ByteArray := prog_9_method_46_code
def y_Mo_play : MethodName := ⟨R_Mo, "play", "(I)I"⟩
abbrev b_Mo_laid : ByteArray := prog_9_method_47_code
def y_Mo_laid : MethodName := ⟨R_Mo, "laid", "(III)I"⟩
abbrev b_Mn_init : ByteArray := prog_2_method_1_code
def y_Mn_init : MethodName := ⟨R_Mn, "<init>", "()V"⟩
abbrev b_Mn_mendMesh : ByteArray := prog_2_method_2_code
def y_Mn_mendMesh : MethodName := ⟨R_Mn, "mendMesh", "(LLayerSlicer$Mesh;)I"⟩
abbrev b_Mn_joinCorners : ByteArray := prog_2_method_3_code
def y_Mn_joinCorners : MethodName := ⟨R_Mn, "joinCorners", "(LLayerSlicer$Mesh;)V"⟩
abbrev b_Mn_lowestAtPlaceOf : ByteArray := prog_2_method_4_code
def y_Mn_lowestAtPlaceOf : MethodName := ⟨R_Mn, "lowestAtPlaceOf", "(LLayerSlicer$Mesh;I)I"⟩
abbrev b_Mn_dropTriangles : ByteArray := prog_2_method_5_code
def y_Mn_dropTriangles : MethodName := ⟨R_Mn, "dropTriangles", "(LLayerSlicer$Mesh;)V"⟩
abbrev b_Mn_weighEdges : ByteArray := prog_2_method_6_code
def y_Mn_weighEdges : MethodName := ⟨R_Mn, "weighEdges", "(LLayerSlicer$Mesh;)V"⟩
abbrev b_Mn_addEdgesOf : ByteArray := prog_2_method_7_code
def y_Mn_addEdgesOf : MethodName := ⟨R_Mn, "addEdgesOf", "(LLayerSlicer$Mesh;I)V"⟩
abbrev b_Mn_addEdge : ByteArray := prog_2_method_8_code
def y_Mn_addEdge : MethodName := ⟨R_Mn, "addEdge", "(II)V"⟩
abbrev b_Mn_closeFirstHole : ByteArray := prog_2_method_9_code
def y_Mn_closeFirstHole : MethodName := ⟨R_Mn, "closeFirstHole", "(LLayerSlicer$Mesh;)Z"⟩
abbrev b_Mn_walkHole : ByteArray := prog_2_method_10_code
def y_Mn_walkHole : MethodName := ⟨R_Mn, "walkHole", "(II)I"⟩
abbrev b_Mn_isInHole : ByteArray := prog_2_method_11_code
def y_Mn_isInHole : MethodName := ⟨R_Mn, "isInHole", "(II)Z"⟩
abbrev b_Mn_nextCorner : ByteArray := prog_2_method_12_code
def y_Mn_nextCorner : MethodName := ⟨R_Mn, "nextCorner", "(II)I"⟩
abbrev b_Mn_fillHole : ByteArray := prog_2_method_13_code
def y_Mn_fillHole : MethodName := ⟨R_Mn, "fillHole", "(LLayerSlicer$Mesh;I)V"⟩
abbrev b_Mn_openInAll : ByteArray := prog_2_method_14_code
def y_Mn_openInAll : MethodName := ⟨R_Mn, "openInAll", "(I)I"⟩
abbrev b_Me_init : ByteArray := prog_3_method_1_code
def y_Me_init : MethodName := ⟨R_Me, "<init>", "()V"⟩
abbrev b_Me_addCorner : ByteArray := prog_3_method_2_code
def y_Me_addCorner : MethodName := ⟨R_Me, "addCorner", "(III)I"⟩
abbrev b_Me_addTriangle : ByteArray := prog_3_method_3_code
def y_Me_addTriangle : MethodName := ⟨R_Me, "addTriangle", "(III)I"⟩
abbrev b_Me_name : ByteArray := prog_3_method_4_code
def y_Me_name : MethodName := ⟨R_Me, "name", "(IIII)V"⟩
abbrev b_Me_turnQuarter : ByteArray := prog_3_method_5_code
def y_Me_turnQuarter : MethodName := ⟨R_Me, "turnQuarter", "(I)V"⟩
abbrev b_Me_samePlace : ByteArray := prog_3_method_6_code
def y_Me_samePlace : MethodName := ⟨R_Me, "samePlace", "(II)Z"⟩
abbrev b_Me_onOneLine : ByteArray := prog_3_method_7_code
def y_Me_onOneLine : MethodName := ⟨R_Me, "onOneLine", "(III)Z"⟩
abbrev b_Me_greatestZ : ByteArray := prog_3_method_8_code
def y_Me_greatestZ : MethodName := ⟨R_Me, "greatestZ", "()I"⟩
abbrev b_Me_copyFrom : ByteArray := prog_3_method_9_code
def y_Me_copyFrom : MethodName := ⟨R_Me, "copyFrom", "(LLayerSlicer$Mesh;)V"⟩
abbrev b_Me_hasCorner : ByteArray := prog_3_method_10_code
def y_Me_hasCorner : MethodName := ⟨R_Me, "hasCorner", "(I)Z"⟩
abbrev b_Me_onLattice : ByteArray := prog_3_method_11_code
def y_Me_onLattice : MethodName := ⟨R_Me, "onLattice", "(I)Z"⟩
abbrev b_Pr_init : ByteArray := prog_4_method_1_code
def y_Pr_init : MethodName := ⟨R_Pr, "<init>", "()V"⟩
abbrev b_Pr_clear : ByteArray := prog_4_method_2_code
def y_Pr_clear : MethodName := ⟨R_Pr, "clear", "()V"⟩
abbrev b_Pr_addLayer : ByteArray := prog_4_method_3_code
def y_Pr_addLayer : MethodName := ⟨R_Pr, "addLayer", "(LLayerSlicer$Router;I)V"⟩
abbrev b_Pr_playCommands : ByteArray := prog_4_method_4_code
def y_Pr_playCommands : MethodName := ⟨R_Pr, "playCommands", "(I)I"⟩
abbrev b_Pr_addByte : ByteArray := prog_4_method_5_code
def y_Pr_addByte : MethodName := ⟨R_Pr, "addByte", "(I)V"⟩
abbrev b_Pr_layRun : ByteArray := prog_4_method_6_code
def y_Pr_layRun : MethodName := ⟨R_Pr, "layRun", "(III)V"⟩
abbrev b_Ro_init : ByteArray := prog_5_method_1_code
def y_Ro_init : MethodName := ⟨R_Ro, "<init>", "()V"⟩
abbrev b_Ro_findRuns : ByteArray := prog_5_method_2_code
def y_Ro_findRuns : MethodName := ⟨R_Ro, "findRuns", "(LLayerSlicer$Sorter;I)I"⟩
abbrev b_Ro_beginRun : ByteArray := prog_5_method_3_code
def y_Ro_beginRun : MethodName := ⟨R_Ro, "beginRun", "(IIII)V"⟩
abbrev b_Ro_isPrinted : ByteArray := prog_5_method_4_code
def y_Ro_isPrinted : MethodName := ⟨R_Ro, "isPrinted", "(I)Z"⟩
abbrev b_Sl_init : ByteArray := prog_6_method_1_code
def y_Sl_init : MethodName := ⟨R_Sl, "<init>", "()V"⟩
abbrev b_Sl_cutAnew : ByteArray := prog_6_method_2_code
def y_Sl_cutAnew : MethodName := ⟨R_Sl, "cutAnew", "(LLayerSlicer$Mesh;I)V"⟩
abbrev b_Sl_hasLayer : ByteArray := prog_6_method_3_code
def y_Sl_hasLayer : MethodName := ⟨R_Sl, "hasLayer", "(I)Z"⟩
abbrev b_Sl_hasRow : ByteArray := prog_6_method_4_code
def y_Sl_hasRow : MethodName := ⟨R_Sl, "hasRow", "(II)Z"⟩
abbrev b_Sl_solidRow : ByteArray := prog_6_method_5_code
def y_Sl_solidRow : MethodName := ⟨R_Sl, "solidRow", "(II)I"⟩
abbrev b_Sl_rowAmongSolid : ByteArray := prog_6_method_6_code
def y_Sl_rowAmongSolid : MethodName := ⟨R_Sl, "rowAmongSolid", "(III)I"⟩
abbrev b_Sl_rowNearSolid : ByteArray := prog_6_method_7_code
def y_Sl_rowNearSolid : MethodName := ⟨R_Sl, "rowNearSolid", "(III)I"⟩
abbrev b_Sl_findEnds : ByteArray := prog_6_method_8_code
def y_Sl_findEnds : MethodName := ⟨R_Sl, "findEnds", "(II)Z"⟩
abbrev b_Sl_writeEnd : ByteArray := prog_6_method_9_code
def y_Sl_writeEnd : MethodName := ⟨R_Sl, "writeEnd", "(IIII)V"⟩
abbrev b_Sl_isBelow : ByteArray := prog_6_method_10_code
def y_Sl_isBelow : MethodName := ⟨R_Sl, "isBelow", "(II)Z"⟩
abbrev b_Sl_doubleHeight : ByteArray := prog_6_method_11_code
def y_Sl_doubleHeight : MethodName := ⟨R_Sl, "doubleHeight", "(I)I"⟩
abbrev b_Sl_fillLayer : ByteArray := prog_6_method_12_code
def y_Sl_fillLayer : MethodName := ⟨R_Sl, "fillLayer", "(I)V"⟩
abbrev b_Sl_cellsRightOfCut : ByteArray := prog_6_method_13_code
def y_Sl_cellsRightOfCut : MethodName := ⟨R_Sl, "cellsRightOfCut", "(I)I"⟩
abbrev b_Sl_cellsRightOfLine : ByteArray := prog_6_method_14_code
def y_Sl_cellsRightOfLine : MethodName := ⟨R_Sl, "cellsRightOfLine", "(IIJJ)I"⟩
abbrev b_Sl_doubleCentre : ByteArray := prog_6_method_15_code
def y_Sl_doubleCentre : MethodName := ⟨R_Sl, "doubleCentre", "(I)I"⟩
abbrev b_So_init : ByteArray := prog_7_method_1_code
def y_So_init : MethodName := ⟨R_So, "<init>", "()V"⟩
abbrev b_So_accept : ByteArray := prog_7_method_2_code
def y_So_accept : MethodName := ⟨R_So, "accept", "(IIIII)Z"⟩
abbrev b_So_sortCells : ByteArray := prog_7_method_3_code
def y_So_sortCells : MethodName := ⟨R_So, "sortCells", "(LLayerSlicer$Slices;)V"⟩
abbrev b_So_kindAt : ByteArray := prog_7_method_4_code
def y_So_kindAt : MethodName := ⟨R_So, "kindAt", "(III)I"⟩
abbrev b_So_sortSolid : ByteArray := prog_7_method_5_code
def y_So_sortSolid : MethodName := ⟨R_So, "sortSolid", "(LLayerSlicer$Slices;II)V"⟩
abbrev b_So_sortOpen : ByteArray := prog_7_method_6_code
def y_So_sortOpen : MethodName := ⟨R_So, "sortOpen", "(LLayerSlicer$Slices;III)V"⟩
abbrev b_So_rowBetweenSolid : ByteArray := prog_7_method_7_code
def y_So_rowBetweenSolid : MethodName := ⟨R_So, "rowBetweenSolid", "(LLayerSlicer$Slices;II)I"⟩
abbrev b_So_lineCells : ByteArray := prog_7_method_8_code
def y_So_lineCells : MethodName := ⟨R_So, "lineCells", "(II)I"⟩
abbrev b_So_upTo : ByteArray := prog_7_method_9_code
def y_So_upTo : MethodName := ⟨R_So, "upTo", "(II)Z"⟩
abbrev b_law_cut : ByteArray := method_3_code
def y_law_cut : MethodName := ⟨R_law, "cut", "(LLayerSlicer;IIII[J)I"⟩
abbrev b_law_path : ByteArray := method_4_code
def y_law_path : MethodName := ⟨R_law, "path", "(LLayerSlicer;III[J)I"⟩
def y_law_law : MethodName := ⟨R_law, "law", "([I)Z"⟩
abbrev b_Obj_init : ByteArray := object_method_1_code
def y_Obj_init : MethodName := ⟨R_Obj, "<init>", "()V"⟩
abbrev b_Exc_init : ByteArray := prog_10_method_1_code
def y_Exc_init : MethodName := ⟨R_Exc, "<init>", "()V"⟩
abbrev b_Int_bitCount : ByteArray := prog_11_method_49_code
def y_Int_bitCount : MethodName := ⟨R_Int, "bitCount", "(I)I"⟩
abbrev b_Mat_max : ByteArray := prog_12_method_65_code
def y_Mat_max : MethodName := ⟨R_Mat, "max", "(II)I"⟩
abbrev b_Rte_init : ByteArray := prog_13_method_1_code
def y_Rte_init : MethodName := ⟨R_Rte, "<init>", "()V"⟩
def y_Sys_arraycopy : MethodName := ⟨R_Sys, "arraycopy", "(Ljava/lang/Object;ILjava/lang/Object;II)V"⟩
abbrev b_Thr_init : ByteArray := prog_15_method_1_code
def y_Thr_init : MethodName := ⟨R_Thr, "<init>", "()V"⟩
abbrev b_Thr_fillInStackTrace : ByteArray := prog_15_method_18_code
def y_Thr_fillInStackTrace : MethodName := ⟨R_Thr, "fillInStackTrace", "()Ljava/lang/Throwable;"⟩
def y_Thr_fillInStackTrace1 : MethodName := ⟨R_Thr, "fillInStackTrace", "(I)Ljava/lang/Throwable;"⟩
abbrev b_Arr_fill : ByteArray := prog_16_method_103_code
def y_Arr_fill : MethodName := ⟨R_Arr, "fill", "([II)V"⟩
abbrev b_Nse_init : ByteArray := prog_17_method_1_code
def y_Nse_init : MethodName := ⟨R_Nse, "<init>", "()V"⟩
def nestW : List (String × Nat × MethodName × String) := [(R_LS, 11, y_Me_init, "LayerSlicer"), (R_LS, 18, y_Mn_init, "LayerSlicer"), (R_LS, 25, y_Sl_init, "LayerSlicer"), (R_Sl, 17, y_Me_init, "LayerSlicer"), (R_LS, 32, y_So_init, "LayerSlicer"), (R_LS, 39, y_Ro_init, "LayerSlicer"), (R_LS, 46, y_Pr_init, "LayerSlicer"), (R_Pr, 47, y_LS_cellIndex, "LayerSlicer")]
