-- ===== PART A: goes FIRST, ahead of the names: the tables' words, and 'selects' of the private methods out of them =====
/-- a private method of a class that the tables say can be made, by its rows of tables_1 -/
def lw_okq (q : MethodName × Nat) : Prop := (q.1.cls ≠ "java/lang/invoke/MethodHandle" ∧ q.1.cls ≠ "java/lang/invoke/VarHandle") ∧ Cond.instantiable q.1.cls q.2 ∈ tables_1 ∧ Cond.privateMethod q.1 ∈ tables_1 ∧ Cond.instanceMethod q.1 ∈ tables_1
theorem lw_p0 : lw_okq (⟨"DotOutlines$Reading", "faultInHead", "(II)I"⟩, 4) := ⟨⟨by decide +kernel, by decide +kernel⟩, List.mem_of_getElem? (i := 41) (by decide +kernel), List.mem_of_getElem? (i := 278) (by decide +kernel), List.mem_of_getElem? (i := 279) (by decide +kernel)⟩
theorem lw_p1 : lw_okq (⟨"DotOutlines$Reading", "faultInRows", "(II)I"⟩, 4) := ⟨⟨by decide +kernel, by decide +kernel⟩, List.mem_of_getElem? (i := 41) (by decide +kernel), List.mem_of_getElem? (i := 282) (by decide +kernel), List.mem_of_getElem? (i := 283) (by decide +kernel)⟩
theorem lw_p2 : lw_okq (⟨"DotOutlines$Acts", "forgetOldest", "()V"⟩, 4) := ⟨⟨by decide +kernel, by decide +kernel⟩, List.mem_of_getElem? (i := 94) (by decide +kernel), List.mem_of_getElem? (i := 325) (by decide +kernel), List.mem_of_getElem? (i := 326) (by decide +kernel)⟩
theorem lw_p3 : lw_okq (⟨"DotOutlines", "walkedBorders", "()I"⟩, 11) := ⟨⟨by decide +kernel, by decide +kernel⟩, List.mem_of_getElem? (i := 17) (by decide +kernel), List.mem_of_getElem? (i := 375) (by decide +kernel), List.mem_of_getElem? (i := 376) (by decide +kernel)⟩
theorem lw_p4 : lw_okq (⟨"DotOutlines$Borders", "nextBorder", "()LDotOutlines$Border;"⟩, 8) := ⟨⟨by decide +kernel, by decide +kernel⟩, List.mem_of_getElem? (i := 115) (by decide +kernel), List.mem_of_getElem? (i := 383) (by decide +kernel), List.mem_of_getElem? (i := 384) (by decide +kernel)⟩
theorem lw_p5 : lw_okq (⟨"DotOutlines$Borders", "walk", "(LDotOutlines$Border;J)V"⟩, 8) := ⟨⟨by decide +kernel, by decide +kernel⟩, List.mem_of_getElem? (i := 115) (by decide +kernel), List.mem_of_getElem? (i := 434) (by decide +kernel), List.mem_of_getElem? (i := 435) (by decide +kernel)⟩
theorem lw_p6 : lw_okq (⟨"DotOutlines$Borders", "nextWay", "(IZZ)I"⟩, 8) := ⟨⟨by decide +kernel, by decide +kernel⟩, List.mem_of_getElem? (i := 115) (by decide +kernel), List.mem_of_getElem? (i := 461) (by decide +kernel), List.mem_of_getElem? (i := 462) (by decide +kernel)⟩
theorem lw_p7 : lw_okq (⟨"DotOutlines", "borderNumber", "(I)LDotOutlines$Border;"⟩, 11) := ⟨⟨by decide +kernel, by decide +kernel⟩, List.mem_of_getElem? (i := 17) (by decide +kernel), List.mem_of_getElem? (i := 469) (by decide +kernel), List.mem_of_getElem? (i := 470) (by decide +kernel)⟩
theorem lw_p8 : lw_okq (⟨"DotOutlines", "shapedBorder", "(I)LDotOutlines$Border;"⟩, 11) := ⟨⟨by decide +kernel, by decide +kernel⟩, List.mem_of_getElem? (i := 17) (by decide +kernel), List.mem_of_getElem? (i := 553) (by decide +kernel), List.mem_of_getElem? (i := 554) (by decide +kernel)⟩
theorem lw_p9 : lw_okq (⟨"DotOutlines$Polygons", "costOfRound", "(LDotOutlines$Border;I)I"⟩, 5) := ⟨⟨by decide +kernel, by decide +kernel⟩, List.mem_of_getElem? (i := 165) (by decide +kernel), List.mem_of_getElem? (i := 567) (by decide +kernel), List.mem_of_getElem? (i := 568) (by decide +kernel)⟩
theorem lw_p10 : lw_okq (⟨"DotOutlines$Polygons", "writeVertices", "(LDotOutlines$Border;I)V"⟩, 5) := ⟨⟨by decide +kernel, by decide +kernel⟩, List.mem_of_getElem? (i := 165) (by decide +kernel), List.mem_of_getElem? (i := 582) (by decide +kernel), List.mem_of_getElem? (i := 583) (by decide +kernel)⟩
theorem lw_p11 : lw_okq (⟨"DotOutlines$Polygons", "nearestStep", "(LDotOutlines$Border;III)I"⟩, 5) := ⟨⟨by decide +kernel, by decide +kernel⟩, List.mem_of_getElem? (i := 165) (by decide +kernel), List.mem_of_getElem? (i := 586) (by decide +kernel), List.mem_of_getElem? (i := 587) (by decide +kernel)⟩
theorem lw_p12 : lw_okq (⟨"DotOutlines", "sizeOf", "(LDotOutlines$Border;I)I"⟩, 11) := ⟨⟨by decide +kernel, by decide +kernel⟩, List.mem_of_getElem? (i := 17) (by decide +kernel), List.mem_of_getElem? (i := 732) (by decide +kernel), List.mem_of_getElem? (i := 733) (by decide +kernel)⟩
theorem lw_p13 : lw_okq (⟨"DotOutlines", "imageNumber", "(I)LDotOutlines$Picture;"⟩, 11) := ⟨⟨by decide +kernel, by decide +kernel⟩, List.mem_of_getElem? (i := 17) (by decide +kernel), List.mem_of_getElem? (i := 740) (by decide +kernel), List.mem_of_getElem? (i := 741) (by decide +kernel)⟩
theorem lw_p14 : lw_okq (⟨"DotOutlinesModel", "reads", "()I"⟩, 31) := ⟨⟨by decide +kernel, by decide +kernel⟩, List.mem_of_getElem? (i := 756) (by decide +kernel), List.mem_of_getElem? (i := 869) (by decide +kernel), List.mem_of_getElem? (i := 870) (by decide +kernel)⟩
theorem lw_p15 : lw_okq (⟨"DotOutlinesModel", "sign", "(I)I"⟩, 31) := ⟨⟨by decide +kernel, by decide +kernel⟩, List.mem_of_getElem? (i := 756) (by decide +kernel), List.mem_of_getElem? (i := 873) (by decide +kernel), List.mem_of_getElem? (i := 874) (by decide +kernel)⟩
def lw_privs_1 : List (MethodName × Nat) := [(⟨"DotOutlines$Reading", "faultInHead", "(II)I"⟩, 4), (⟨"DotOutlines$Reading", "faultInRows", "(II)I"⟩, 4), (⟨"DotOutlines$Acts", "forgetOldest", "()V"⟩, 4), (⟨"DotOutlines", "walkedBorders", "()I"⟩, 11), (⟨"DotOutlines$Borders", "nextBorder", "()LDotOutlines$Border;"⟩, 8), (⟨"DotOutlines$Borders", "walk", "(LDotOutlines$Border;J)V"⟩, 8), (⟨"DotOutlines$Borders", "nextWay", "(IZZ)I"⟩, 8), (⟨"DotOutlines", "borderNumber", "(I)LDotOutlines$Border;"⟩, 11), (⟨"DotOutlines", "shapedBorder", "(I)LDotOutlines$Border;"⟩, 11), (⟨"DotOutlines$Polygons", "costOfRound", "(LDotOutlines$Border;I)I"⟩, 5), (⟨"DotOutlines$Polygons", "writeVertices", "(LDotOutlines$Border;I)V"⟩, 5), (⟨"DotOutlines$Polygons", "nearestStep", "(LDotOutlines$Border;III)I"⟩, 5), (⟨"DotOutlines", "sizeOf", "(LDotOutlines$Border;I)I"⟩, 11), (⟨"DotOutlines", "imageNumber", "(I)LDotOutlines$Picture;"⟩, 11), (⟨"DotOutlinesModel", "reads", "()I"⟩, 31), (⟨"DotOutlinesModel", "sign", "(I)I"⟩, 31)]
theorem lw_r1 : ∀ q ∈ lw_privs_1, lw_okq q := List.forall_mem_cons.mpr ⟨lw_p0, List.forall_mem_cons.mpr ⟨lw_p1, List.forall_mem_cons.mpr ⟨lw_p2, List.forall_mem_cons.mpr ⟨lw_p3, List.forall_mem_cons.mpr ⟨lw_p4, List.forall_mem_cons.mpr ⟨lw_p5, List.forall_mem_cons.mpr ⟨lw_p6, List.forall_mem_cons.mpr ⟨lw_p7, List.forall_mem_cons.mpr ⟨lw_p8, List.forall_mem_cons.mpr ⟨lw_p9, List.forall_mem_cons.mpr ⟨lw_p10, List.forall_mem_cons.mpr ⟨lw_p11, List.forall_mem_cons.mpr ⟨lw_p12, List.forall_mem_cons.mpr ⟨lw_p13, List.forall_mem_cons.mpr ⟨lw_p14, List.forall_mem_cons.mpr ⟨lw_p15, fun _ h => absurd h List.not_mem_nil⟩⟩⟩⟩⟩⟩⟩⟩⟩⟩⟩⟩⟩⟩⟩⟩
theorem lw_p16 : lw_okq (⟨"DotOutlinesModel", "due", "(IIII)I"⟩, 31) := ⟨⟨by decide +kernel, by decide +kernel⟩, List.mem_of_getElem? (i := 756) (by decide +kernel), List.mem_of_getElem? (i := 877) (by decide +kernel), List.mem_of_getElem? (i := 878) (by decide +kernel)⟩
theorem lw_p17 : lw_okq (⟨"DotOutlinesModel", "readsRow", "(I)I"⟩, 31) := ⟨⟨by decide +kernel, by decide +kernel⟩, List.mem_of_getElem? (i := 756) (by decide +kernel), List.mem_of_getElem? (i := 881) (by decide +kernel), List.mem_of_getElem? (i := 882) (by decide +kernel)⟩
theorem lw_p18 : lw_okq (⟨"DotOutlinesModel", "dark", "()I"⟩, 31) := ⟨⟨by decide +kernel, by decide +kernel⟩, List.mem_of_getElem? (i := 756) (by decide +kernel), List.mem_of_getElem? (i := 889) (by decide +kernel), List.mem_of_getElem? (i := 890) (by decide +kernel)⟩
theorem lw_p19 : lw_okq (⟨"DotOutlinesModel", "isDot", "(II)Z"⟩, 31) := ⟨⟨by decide +kernel, by decide +kernel⟩, List.mem_of_getElem? (i := 756) (by decide +kernel), List.mem_of_getElem? (i := 906) (by decide +kernel), List.mem_of_getElem? (i := 907) (by decide +kernel)⟩
theorem lw_p20 : lw_okq (⟨"DotOutlinesModel", "notes", "()V"⟩, 31) := ⟨⟨by decide +kernel, by decide +kernel⟩, List.mem_of_getElem? (i := 756) (by decide +kernel), List.mem_of_getElem? (i := 910) (by decide +kernel), List.mem_of_getElem? (i := 911) (by decide +kernel)⟩
theorem lw_p21 : lw_okq (⟨"DotOutlinesModel", "tells", "(IIII)I"⟩, 31) := ⟨⟨by decide +kernel, by decide +kernel⟩, List.mem_of_getElem? (i := 756) (by decide +kernel), List.mem_of_getElem? (i := 922) (by decide +kernel), List.mem_of_getElem? (i := 923) (by decide +kernel)⟩
theorem lw_p22 : lw_okq (⟨"DotOutlinesModel", "isPicture", "()Z"⟩, 31) := ⟨⟨by decide +kernel, by decide +kernel⟩, List.mem_of_getElem? (i := 756) (by decide +kernel), List.mem_of_getElem? (i := 926) (by decide +kernel), List.mem_of_getElem? (i := 927) (by decide +kernel)⟩
theorem lw_p23 : lw_okq (⟨"DotOutlinesModel", "lays", "()V"⟩, 31) := ⟨⟨by decide +kernel, by decide +kernel⟩, List.mem_of_getElem? (i := 756) (by decide +kernel), List.mem_of_getElem? (i := 942) (by decide +kernel), List.mem_of_getElem? (i := 943) (by decide +kernel)⟩
theorem lw_p24 : lw_okq (⟨"DotOutlinesModel", "walks", "(II)V"⟩, 31) := ⟨⟨by decide +kernel, by decide +kernel⟩, List.mem_of_getElem? (i := 756) (by decide +kernel), List.mem_of_getElem? (i := 946) (by decide +kernel), List.mem_of_getElem? (i := 947) (by decide +kernel)⟩
theorem lw_p25 : lw_okq (⟨"DotOutlinesModel", "turns", "(III)I"⟩, 31) := ⟨⟨by decide +kernel, by decide +kernel⟩, List.mem_of_getElem? (i := 756) (by decide +kernel), List.mem_of_getElem? (i := 956) (by decide +kernel), List.mem_of_getElem? (i := 957) (by decide +kernel)⟩
theorem lw_p26 : lw_okq (⟨"DotOutlinesModel", "isBeside", "(IIII)Z"⟩, 31) := ⟨⟨by decide +kernel, by decide +kernel⟩, List.mem_of_getElem? (i := 756) (by decide +kernel), List.mem_of_getElem? (i := 960) (by decide +kernel), List.mem_of_getElem? (i := 961) (by decide +kernel)⟩
theorem lw_p27 : lw_okq (⟨"DotOutlinesModel", "isRest", "(II)Z"⟩, 31) := ⟨⟨by decide +kernel, by decide +kernel⟩, List.mem_of_getElem? (i := 756) (by decide +kernel), List.mem_of_getElem? (i := 964) (by decide +kernel), List.mem_of_getElem? (i := 965) (by decide +kernel)⟩
theorem lw_p28 : lw_okq (⟨"DotOutlinesModel", "isWithin", "(III)Z"⟩, 31) := ⟨⟨by decide +kernel, by decide +kernel⟩, List.mem_of_getElem? (i := 756) (by decide +kernel), List.mem_of_getElem? (i := 968) (by decide +kernel), List.mem_of_getElem? (i := 969) (by decide +kernel)⟩
theorem lw_p29 : lw_okq (⟨"DotOutlinesModel", "isBorder", "(I)Z"⟩, 31) := ⟨⟨by decide +kernel, by decide +kernel⟩, List.mem_of_getElem? (i := 756) (by decide +kernel), List.mem_of_getElem? (i := 976) (by decide +kernel), List.mem_of_getElem? (i := 977) (by decide +kernel)⟩
theorem lw_p30 : lw_okq (⟨"DotOutlinesModel", "bends", "(I)I"⟩, 31) := ⟨⟨by decide +kernel, by decide +kernel⟩, List.mem_of_getElem? (i := 756) (by decide +kernel), List.mem_of_getElem? (i := 983) (by decide +kernel), List.mem_of_getElem? (i := 984) (by decide +kernel)⟩
theorem lw_p31 : lw_okq (⟨"DotOutlinesModel", "isIn", "(III)Z"⟩, 31) := ⟨⟨by decide +kernel, by decide +kernel⟩, List.mem_of_getElem? (i := 756) (by decide +kernel), List.mem_of_getElem? (i := 995) (by decide +kernel), List.mem_of_getElem? (i := 996) (by decide +kernel)⟩
def lw_privs_2 : List (MethodName × Nat) := [(⟨"DotOutlinesModel", "due", "(IIII)I"⟩, 31), (⟨"DotOutlinesModel", "readsRow", "(I)I"⟩, 31), (⟨"DotOutlinesModel", "dark", "()I"⟩, 31), (⟨"DotOutlinesModel", "isDot", "(II)Z"⟩, 31), (⟨"DotOutlinesModel", "notes", "()V"⟩, 31), (⟨"DotOutlinesModel", "tells", "(IIII)I"⟩, 31), (⟨"DotOutlinesModel", "isPicture", "()Z"⟩, 31), (⟨"DotOutlinesModel", "lays", "()V"⟩, 31), (⟨"DotOutlinesModel", "walks", "(II)V"⟩, 31), (⟨"DotOutlinesModel", "turns", "(III)I"⟩, 31), (⟨"DotOutlinesModel", "isBeside", "(IIII)Z"⟩, 31), (⟨"DotOutlinesModel", "isRest", "(II)Z"⟩, 31), (⟨"DotOutlinesModel", "isWithin", "(III)Z"⟩, 31), (⟨"DotOutlinesModel", "isBorder", "(I)Z"⟩, 31), (⟨"DotOutlinesModel", "bends", "(I)I"⟩, 31), (⟨"DotOutlinesModel", "isIn", "(III)Z"⟩, 31)]
theorem lw_r2 : ∀ q ∈ lw_privs_2, lw_okq q := List.forall_mem_cons.mpr ⟨lw_p16, List.forall_mem_cons.mpr ⟨lw_p17, List.forall_mem_cons.mpr ⟨lw_p18, List.forall_mem_cons.mpr ⟨lw_p19, List.forall_mem_cons.mpr ⟨lw_p20, List.forall_mem_cons.mpr ⟨lw_p21, List.forall_mem_cons.mpr ⟨lw_p22, List.forall_mem_cons.mpr ⟨lw_p23, List.forall_mem_cons.mpr ⟨lw_p24, List.forall_mem_cons.mpr ⟨lw_p25, List.forall_mem_cons.mpr ⟨lw_p26, List.forall_mem_cons.mpr ⟨lw_p27, List.forall_mem_cons.mpr ⟨lw_p28, List.forall_mem_cons.mpr ⟨lw_p29, List.forall_mem_cons.mpr ⟨lw_p30, List.forall_mem_cons.mpr ⟨lw_p31, fun _ h => absurd h List.not_mem_nil⟩⟩⟩⟩⟩⟩⟩⟩⟩⟩⟩⟩⟩⟩⟩⟩
theorem lw_p32 : lw_okq (⟨"DotOutlinesModel", "isStretch", "(III)Z"⟩, 31) := ⟨⟨by decide +kernel, by decide +kernel⟩, List.mem_of_getElem? (i := 756) (by decide +kernel), List.mem_of_getElem? (i := 1003) (by decide +kernel), List.mem_of_getElem? (i := 1004) (by decide +kernel)⟩
theorem lw_p33 : lw_okq (⟨"DotOutlinesModel", "offOf", "(III)I"⟩, 31) := ⟨⟨by decide +kernel, by decide +kernel⟩, List.mem_of_getElem? (i := 756) (by decide +kernel), List.mem_of_getElem? (i := 1007) (by decide +kernel), List.mem_of_getElem? (i := 1008) (by decide +kernel)⟩
theorem lw_p34 : lw_okq (⟨"DotOutlinesModel", "laysTable", "(I)V"⟩, 31) := ⟨⟨by decide +kernel, by decide +kernel⟩, List.mem_of_getElem? (i := 756) (by decide +kernel), List.mem_of_getElem? (i := 1027) (by decide +kernel), List.mem_of_getElem? (i := 1028) (by decide +kernel)⟩
theorem lw_p35 : lw_okq (⟨"DotOutlinesModel", "laysBest", "(I)V"⟩, 31) := ⟨⟨by decide +kernel, by decide +kernel⟩, List.mem_of_getElem? (i := 756) (by decide +kernel), List.mem_of_getElem? (i := 1031) (by decide +kernel), List.mem_of_getElem? (i := 1032) (by decide +kernel)⟩
theorem lw_p36 : lw_okq (⟨"DotOutlinesModel", "laysLeast", "(II)I"⟩, 31) := ⟨⟨by decide +kernel, by decide +kernel⟩, List.mem_of_getElem? (i := 756) (by decide +kernel), List.mem_of_getElem? (i := 1036) (by decide +kernel), List.mem_of_getElem? (i := 1037) (by decide +kernel)⟩
theorem lw_p37 : lw_okq (⟨"DotOutlinesModel", "stretch", "(III)I"⟩, 31) := ⟨⟨by decide +kernel, by decide +kernel⟩, List.mem_of_getElem? (i := 756) (by decide +kernel), List.mem_of_getElem? (i := 1040) (by decide +kernel), List.mem_of_getElem? (i := 1041) (by decide +kernel)⟩
theorem lw_p38 : lw_okq (⟨"DotOutlinesModel", "sharpMany", "(I)I"⟩, 31) := ⟨⟨by decide +kernel, by decide +kernel⟩, List.mem_of_getElem? (i := 756) (by decide +kernel), List.mem_of_getElem? (i := 1045) (by decide +kernel), List.mem_of_getElem? (i := 1046) (by decide +kernel)⟩
theorem lw_p39 : lw_okq (⟨"DotOutlinesModel", "isSharp", "(II)Z"⟩, 31) := ⟨⟨by decide +kernel, by decide +kernel⟩, List.mem_of_getElem? (i := 756) (by decide +kernel), List.mem_of_getElem? (i := 1049) (by decide +kernel), List.mem_of_getElem? (i := 1050) (by decide +kernel)⟩
theorem lw_p40 : lw_okq (⟨"DotOutlinesModel", "vx", "(II)I"⟩, 31) := ⟨⟨by decide +kernel, by decide +kernel⟩, List.mem_of_getElem? (i := 756) (by decide +kernel), List.mem_of_getElem? (i := 1053) (by decide +kernel), List.mem_of_getElem? (i := 1054) (by decide +kernel)⟩
theorem lw_p41 : lw_okq (⟨"DotOutlinesModel", "vy", "(II)I"⟩, 31) := ⟨⟨by decide +kernel, by decide +kernel⟩, List.mem_of_getElem? (i := 756) (by decide +kernel), List.mem_of_getElem? (i := 1057) (by decide +kernel), List.mem_of_getElem? (i := 1058) (by decide +kernel)⟩
theorem lw_p42 : lw_okq (⟨"DotOutlinesModel", "turnOf", "(II)I"⟩, 31) := ⟨⟨by decide +kernel, by decide +kernel⟩, List.mem_of_getElem? (i := 756) (by decide +kernel), List.mem_of_getElem? (i := 1061) (by decide +kernel), List.mem_of_getElem? (i := 1062) (by decide +kernel)⟩
theorem lw_p43 : lw_okq (⟨"DotOutlinesModel", "twice", "(I)I"⟩, 31) := ⟨⟨by decide +kernel, by decide +kernel⟩, List.mem_of_getElem? (i := 756) (by decide +kernel), List.mem_of_getElem? (i := 1068) (by decide +kernel), List.mem_of_getElem? (i := 1069) (by decide +kernel)⟩
theorem lw_p44 : lw_okq (⟨"DotOutlinesModel", "fewest", "(II)I"⟩, 31) := ⟨⟨by decide +kernel, by decide +kernel⟩, List.mem_of_getElem? (i := 756) (by decide +kernel), List.mem_of_getElem? (i := 1080) (by decide +kernel), List.mem_of_getElem? (i := 1081) (by decide +kernel)⟩
theorem lw_p45 : lw_okq (⟨"DotOutlinesModel", "pointOf", "(IIII)I"⟩, 31) := ⟨⟨by decide +kernel, by decide +kernel⟩, List.mem_of_getElem? (i := 756) (by decide +kernel), List.mem_of_getElem? (i := 1088) (by decide +kernel), List.mem_of_getElem? (i := 1089) (by decide +kernel)⟩
theorem lw_p46 : lw_okq (⟨"DotOutlinesModel", "laysLine", "(II)V"⟩, 31) := ⟨⟨by decide +kernel, by decide +kernel⟩, List.mem_of_getElem? (i := 756) (by decide +kernel), List.mem_of_getElem? (i := 1096) (by decide +kernel), List.mem_of_getElem? (i := 1097) (by decide +kernel)⟩
theorem lw_p47 : lw_okq (⟨"DotOutlinesModel", "adds", "(II)V"⟩, 31) := ⟨⟨by decide +kernel, by decide +kernel⟩, List.mem_of_getElem? (i := 756) (by decide +kernel), List.mem_of_getElem? (i := 1100) (by decide +kernel), List.mem_of_getElem? (i := 1101) (by decide +kernel)⟩
def lw_privs_3 : List (MethodName × Nat) := [(⟨"DotOutlinesModel", "isStretch", "(III)Z"⟩, 31), (⟨"DotOutlinesModel", "offOf", "(III)I"⟩, 31), (⟨"DotOutlinesModel", "laysTable", "(I)V"⟩, 31), (⟨"DotOutlinesModel", "laysBest", "(I)V"⟩, 31), (⟨"DotOutlinesModel", "laysLeast", "(II)I"⟩, 31), (⟨"DotOutlinesModel", "stretch", "(III)I"⟩, 31), (⟨"DotOutlinesModel", "sharpMany", "(I)I"⟩, 31), (⟨"DotOutlinesModel", "isSharp", "(II)Z"⟩, 31), (⟨"DotOutlinesModel", "vx", "(II)I"⟩, 31), (⟨"DotOutlinesModel", "vy", "(II)I"⟩, 31), (⟨"DotOutlinesModel", "turnOf", "(II)I"⟩, 31), (⟨"DotOutlinesModel", "twice", "(I)I"⟩, 31), (⟨"DotOutlinesModel", "fewest", "(II)I"⟩, 31), (⟨"DotOutlinesModel", "pointOf", "(IIII)I"⟩, 31), (⟨"DotOutlinesModel", "laysLine", "(II)V"⟩, 31), (⟨"DotOutlinesModel", "adds", "(II)V"⟩, 31)]
theorem lw_r3 : ∀ q ∈ lw_privs_3, lw_okq q := List.forall_mem_cons.mpr ⟨lw_p32, List.forall_mem_cons.mpr ⟨lw_p33, List.forall_mem_cons.mpr ⟨lw_p34, List.forall_mem_cons.mpr ⟨lw_p35, List.forall_mem_cons.mpr ⟨lw_p36, List.forall_mem_cons.mpr ⟨lw_p37, List.forall_mem_cons.mpr ⟨lw_p38, List.forall_mem_cons.mpr ⟨lw_p39, List.forall_mem_cons.mpr ⟨lw_p40, List.forall_mem_cons.mpr ⟨lw_p41, List.forall_mem_cons.mpr ⟨lw_p42, List.forall_mem_cons.mpr ⟨lw_p43, List.forall_mem_cons.mpr ⟨lw_p44, List.forall_mem_cons.mpr ⟨lw_p45, List.forall_mem_cons.mpr ⟨lw_p46, List.forall_mem_cons.mpr ⟨lw_p47, fun _ h => absurd h List.not_mem_nil⟩⟩⟩⟩⟩⟩⟩⟩⟩⟩⟩⟩⟩⟩⟩⟩
theorem lw_p48 : lw_okq (⟨"DotOutlinesModel", "isFilled", "(II)Z"⟩, 31) := ⟨⟨by decide +kernel, by decide +kernel⟩, List.mem_of_getElem? (i := 756) (by decide +kernel), List.mem_of_getElem? (i := 1104) (by decide +kernel), List.mem_of_getElem? (i := 1105) (by decide +kernel)⟩
def lw_privs_4 : List (MethodName × Nat) := [(⟨"DotOutlinesModel", "isFilled", "(II)Z"⟩, 31)]
theorem lw_r4 : ∀ q ∈ lw_privs_4, lw_okq q := List.forall_mem_cons.mpr ⟨lw_p48, fun _ h => absurd h List.not_mem_nil⟩
def lw_privs : List (MethodName × Nat) := lw_privs_1 ++ (lw_privs_2 ++ (lw_privs_3 ++ (lw_privs_4)))
def lw_tbl : List Cond := k2_sels lw_privs ++ tables_1
theorem lw_privs_ok : ∀ q ∈ lw_privs, lw_okq q := by
  show ∀ q ∈ lw_privs_1 ++ (lw_privs_2 ++ (lw_privs_3 ++ (lw_privs_4))), lw_okq q
  exact List.forall_mem_append.mpr ⟨lw_r1, List.forall_mem_append.mpr ⟨lw_r2, List.forall_mem_append.mpr ⟨lw_r3, lw_r4⟩⟩⟩
-- ===== end of PART A; then your names; then what follows =====
/-! ===== BEGIN printed: names, fields, word lists, decode rows ===== -/
def RX0 : String := "DotOutlines$Acts"
def TX0 : u_T := fun k => match k with
  | 0 => ("DotOutlines$Acts", "dots", "[J", true)
  | 1 => ("DotOutlines$Acts", "joinings", "[I", true)
  | 2 => ("DotOutlines$Acts", "sharpnesses", "[I", true)
  | _ => ("DotOutlines$Acts", "size", "I", false)
def tyX0 : Nat → FieldType := fun k => match k with
  | 0 => .array .long
  | 1 => .array .int
  | 2 => .array .int
  | _ => .int
abbrev wsX00 : List Cond := u_ws RX0 TX0 4
theorem nmX0 : ∀ a, a < 4 → ∀ b, b < 4 → a ≠ b → (TX0 a).2.1 ≠ (TX0 b).2.1 := by decide +kernel
theorem tyX0_ok : ∀ k, k < 4 → parseFieldDescriptor (TX0 k).2.2.1 = some (tyX0 k) := by decide +kernel
abbrev cX0_init : ByteArray := prog_2_method_1_code
def yX0_init : MethodName := ⟨RX0, "<init>", "()V"⟩
abbrev cX0_remember : ByteArray := prog_2_method_2_code
def yX0_remember : MethodName := ⟨RX0, "remember", "(LDotOutlines$Picture;)V"⟩
abbrev cX0_forgetOldest : ByteArray := prog_2_method_3_code
def yX0_forgetOldest : MethodName := ⟨RX0, "forgetOldest", "()V"⟩
abbrev cX0_takeBack : ByteArray := prog_2_method_4_code
def yX0_takeBack : MethodName := ⟨RX0, "takeBack", "(LDotOutlines$Picture;)Z"⟩
def RX1 : String := "DotOutlines$Bend"
def TX1 : u_T := fun k => match k with
  | 0 => ("DotOutlines$Bend", "ux", "I", false)
  | 1 => ("DotOutlines$Bend", "uy", "I", false)
  | 2 => ("DotOutlines$Bend", "vx", "I", false)
  | 3 => ("DotOutlines$Bend", "vy", "I", false)
  | 4 => ("DotOutlines$Bend", "wx", "I", false)
  | _ => ("DotOutlines$Bend", "wy", "I", false)
def tyX1 : Nat → FieldType := fun k => match k with
  | 0 => .int
  | 1 => .int
  | 2 => .int
  | 3 => .int
  | 4 => .int
  | _ => .int
abbrev wsX10 : List Cond := u_ws RX1 TX1 6
theorem nmX1 : ∀ a, a < 6 → ∀ b, b < 6 → a ≠ b → (TX1 a).2.1 ≠ (TX1 b).2.1 := by decide +kernel
theorem tyX1_ok : ∀ k, k < 6 → parseFieldDescriptor (TX1 k).2.2.1 = some (tyX1 k) := by decide +kernel
abbrev cX1_init : ByteArray := prog_3_method_1_code
def yX1_init : MethodName := ⟨RX1, "<init>", "()V"⟩
abbrev cX1_from : ByteArray := prog_3_method_2_code
def yX1_from : MethodName := ⟨RX1, "from", "(II)V"⟩
abbrev cX1_by : ByteArray := prog_3_method_3_code
def yX1_by : MethodName := ⟨RX1, "by", "(II)V"⟩
abbrev cX1_to : ByteArray := prog_3_method_4_code
def yX1_to : MethodName := ⟨RX1, "to", "(II)V"⟩
abbrev cX1_turn : ByteArray := prog_3_method_5_code
def yX1_turn : MethodName := ⟨RX1, "turn", "()I"⟩
abbrev cX1_isSharp : ByteArray := prog_3_method_6_code
def yX1_isSharp : MethodName := ⟨RX1, "isSharp", "(I)Z"⟩
abbrev cX1_greater : ByteArray := prog_3_method_7_code
def yX1_greater : MethodName := ⟨RX1, "greater", "(II)I"⟩
abbrev cX1_xOnRound : ByteArray := prog_3_method_8_code
def yX1_xOnRound : MethodName := ⟨RX1, "xOnRound", "(I)I"⟩
abbrev cX1_yOnRound : ByteArray := prog_3_method_9_code
def yX1_yOnRound : MethodName := ⟨RX1, "yOnRound", "(I)I"⟩
abbrev cX1_xOfVertex : ByteArray := prog_3_method_10_code
def yX1_xOfVertex : MethodName := ⟨RX1, "xOfVertex", "()I"⟩
abbrev cX1_yOfVertex : ByteArray := prog_3_method_11_code
def yX1_yOfVertex : MethodName := ⟨RX1, "yOfVertex", "()I"⟩
abbrev cX1_xOfNext : ByteArray := prog_3_method_12_code
def yX1_xOfNext : MethodName := ⟨RX1, "xOfNext", "()I"⟩
abbrev cX1_yOfNext : ByteArray := prog_3_method_13_code
def yX1_yOfNext : MethodName := ⟨RX1, "yOfNext", "()I"⟩
abbrev cX1_onRound : ByteArray := prog_3_method_14_code
def yX1_onRound : MethodName := ⟨RX1, "onRound", "(IIII)I"⟩
def RX2 : String := "DotOutlines$Border"
def TX2 : u_T := fun k => match k with
  | 0 => ("DotOutlines$Border", "start", "I", false)
  | 1 => ("DotOutlines$Border", "length", "I", false)
  | 2 => ("DotOutlines$Border", "first", "I", false)
  | 3 => ("DotOutlines$Border", "within", "J", false)
  | 4 => ("DotOutlines$Border", "measured", "Z", false)
  | 5 => ("DotOutlines$Border", "vertices", "I", false)
  | _ => ("DotOutlines$Border", "bestOff", "I", false)
def tyX2 : Nat → FieldType := fun k => match k with
  | 0 => .int
  | 1 => .int
  | 2 => .int
  | 3 => .long
  | 4 => .boolean
  | 5 => .int
  | _ => .int
abbrev wsX20 : List Cond := u_ws RX2 TX2 7
theorem nmX2 : ∀ a, a < 7 → ∀ b, b < 7 → a ≠ b → (TX2 a).2.1 ≠ (TX2 b).2.1 := by decide +kernel
theorem tyX2_ok : ∀ k, k < 7 → parseFieldDescriptor (TX2 k).2.2.1 = some (tyX2 k) := by decide +kernel
abbrev cX2_init : ByteArray := prog_4_method_1_code
def yX2_init : MethodName := ⟨RX2, "<init>", "()V"⟩
abbrev cX2_begin : ByteArray := prog_4_method_2_code
def yX2_begin : MethodName := ⟨RX2, "begin", "(II)V"⟩
abbrev cX2_hasCorner : ByteArray := prog_4_method_3_code
def yX2_hasCorner : MethodName := ⟨RX2, "hasCorner", "(I)Z"⟩
abbrev cX2_hasVertex : ByteArray := prog_4_method_4_code
def yX2_hasVertex : MethodName := ⟨RX2, "hasVertex", "(I)Z"⟩
abbrev cX2_hasStretch : ByteArray := prog_4_method_5_code
def yX2_hasStretch : MethodName := ⟨RX2, "hasStretch", "(II)Z"⟩
abbrev cX2_place : ByteArray := prog_4_method_6_code
def yX2_place : MethodName := ⟨RX2, "place", "(I)I"⟩
def RX3 : String := "DotOutlines$Borders"
def TX3 : u_T := fun k => match k with
  | 0 => ("DotOutlines$Borders", "xs", "[I", true)
  | 1 => ("DotOutlines$Borders", "ys", "[I", true)
  | 2 => ("DotOutlines$Borders", "ways", "[I", true)
  | 3 => ("DotOutlines$Borders", "known", "[LDotOutlines$Border;", true)
  | 4 => ("DotOutlines$Borders", "walked", "Z", false)
  | 5 => ("DotOutlines$Borders", "dots", "J", false)
  | 6 => ("DotOutlines$Borders", "joining", "I", false)
  | _ => ("DotOutlines$Borders", "size", "I", false)
def tyX3 : Nat → FieldType := fun k => match k with
  | 0 => .array .int
  | 1 => .array .int
  | 2 => .array .int
  | 3 => .array (.object "DotOutlines$Border")
  | 4 => .boolean
  | 5 => .long
  | 6 => .int
  | _ => .int
abbrev wsX30 : List Cond := u_ws RX3 TX3 8
theorem nmX3 : ∀ a, a < 8 → ∀ b, b < 8 → a ≠ b → (TX3 a).2.1 ≠ (TX3 b).2.1 := by decide +kernel
theorem tyX3_ok : ∀ k, k < 8 → parseFieldDescriptor (TX3 k).2.2.1 = some (tyX3 k) := by decide +kernel
abbrev cX3_init : ByteArray := prog_5_method_1_code
def yX3_init : MethodName := ⟨RX3, "<init>", "()V"⟩
abbrev cX3_at : ByteArray := prog_5_method_2_code
def yX3_at : MethodName := ⟨RX3, "at", "(I)LDotOutlines$Border;"⟩
abbrev cX3_xAt : ByteArray := prog_5_method_3_code
def yX3_xAt : MethodName := ⟨RX3, "xAt", "(LDotOutlines$Border;I)I"⟩
abbrev cX3_yAt : ByteArray := prog_5_method_4_code
def yX3_yAt : MethodName := ⟨RX3, "yAt", "(LDotOutlines$Border;I)I"⟩
abbrev cX3_wayAt : ByteArray := prog_5_method_5_code
def yX3_wayAt : MethodName := ⟨RX3, "wayAt", "(LDotOutlines$Border;I)I"⟩
abbrev cX3_turningSteps : ByteArray := prog_5_method_6_code
def yX3_turningSteps : MethodName := ⟨RX3, "turningSteps", "(LDotOutlines$Border;)I"⟩
abbrev cX3_follow : ByteArray := prog_5_method_7_code
def yX3_follow : MethodName := ⟨RX3, "follow", "(JI)V"⟩
abbrev cX3_nextBorder : ByteArray := prog_5_method_8_code
def yX3_nextBorder : MethodName := ⟨RX3, "nextBorder", "()LDotOutlines$Border;"⟩
abbrev cX3_walk : ByteArray := prog_5_method_9_code
def yX3_walk : MethodName := ⟨RX3, "walk", "(LDotOutlines$Border;J)V"⟩
abbrev cX3_dotsRightOf : ByteArray := prog_5_method_10_code
def yX3_dotsRightOf : MethodName := ⟨RX3, "dotsRightOf", "(III)J"⟩
abbrev cX3_dotAhead : ByteArray := prog_5_method_11_code
def yX3_dotAhead : MethodName := ⟨RX3, "dotAhead", "(III)J"⟩
abbrev cX3_nextWay : ByteArray := prog_5_method_12_code
def yX3_nextWay : MethodName := ⟨RX3, "nextWay", "(IZZ)I"⟩
def RX4 : String := "DotOutlines$Filling"
def TX4 : u_T := fun k => match k with
  | _ => ("DotOutlines$Filling", "polygons", "LDotOutlines$Polygons;", true)
def tyX4 : Nat → FieldType := fun k => match k with
  | _ => .object "DotOutlines$Polygons"
abbrev wsX40 : List Cond := u_ws RX4 TX4 1
theorem nmX4 : ∀ a, a < 1 → ∀ b, b < 1 → a ≠ b → (TX4 a).2.1 ≠ (TX4 b).2.1 := by decide +kernel
theorem tyX4_ok : ∀ k, k < 1 → parseFieldDescriptor (TX4 k).2.2.1 = some (tyX4 k) := by decide +kernel
abbrev cX4_init : ByteArray := prog_6_method_1_code
def yX4_init : MethodName := ⟨RX4, "<init>", "(LDotOutlines$Polygons;)V"⟩
abbrev cX4_by : ByteArray := prog_6_method_2_code
def yX4_by : MethodName := ⟨RX4, "by", "(LDotOutlines$Border;II)J"⟩
abbrev cX4_rightOfSharp : ByteArray := prog_6_method_3_code
def yX4_rightOfSharp : MethodName := ⟨RX4, "rightOfSharp", "(LDotOutlines$Bend;)J"⟩
abbrev cX4_rightOfRound : ByteArray := prog_6_method_4_code
def yX4_rightOfRound : MethodName := ⟨RX4, "rightOfRound", "(LDotOutlines$Bend;)J"⟩
abbrev cX4_rightOf : ByteArray := prog_6_method_5_code
def yX4_rightOf : MethodName := ⟨RX4, "rightOf", "(IIII)J"⟩
abbrev cX4_rightOfFalling : ByteArray := prog_6_method_6_code
def yX4_rightOfFalling : MethodName := ⟨RX4, "rightOfFalling", "(IIII)J"⟩
abbrev cX4_firstColumnRightOf : ByteArray := prog_6_method_7_code
def yX4_firstColumnRightOf : MethodName := ⟨RX4, "firstColumnRightOf", "(IIIII)I"⟩
def RX5 : String := "DotOutlines$Grid"
def TX5 : u_T := fun k => match k with
  | _ => ("", "", "", false)
def tyX5 : Nat → FieldType := fun k => match k with
  | _ => .int
abbrev wsX50 : List Cond := u_ws RX5 TX5 0
theorem nmX5 : ∀ a, a < 0 → ∀ b, b < 0 → a ≠ b → (TX5 a).2.1 ≠ (TX5 b).2.1 := by decide +kernel
theorem tyX5_ok : ∀ k, k < 0 → parseFieldDescriptor (TX5 k).2.2.1 = some (tyX5 k) := by decide +kernel
abbrev cX5_columnOf : ByteArray := prog_7_method_2_code
def yX5_columnOf : MethodName := ⟨RX5, "columnOf", "(I)I"⟩
abbrev cX5_rowOf : ByteArray := prog_7_method_3_code
def yX5_rowOf : MethodName := ⟨RX5, "rowOf", "(I)I"⟩
abbrev cX5_bit : ByteArray := prog_7_method_4_code
def yX5_bit : MethodName := ⟨RX5, "bit", "(II)J"⟩
abbrev cX5_rowFrom : ByteArray := prog_7_method_5_code
def yX5_rowFrom : MethodName := ⟨RX5, "rowFrom", "(II)J"⟩
abbrev cX5_block : ByteArray := prog_7_method_6_code
def yX5_block : MethodName := ⟨RX5, "block", "(IIII)J"⟩
def RX6 : String := "DotOutlines$Picture"
def TX6 : u_T := fun k => match k with
  | 0 => ("DotOutlines$Picture", "width", "I", false)
  | 1 => ("DotOutlines$Picture", "height", "I", false)
  | 2 => ("DotOutlines$Picture", "dots", "J", false)
  | 3 => ("DotOutlines$Picture", "joining", "I", false)
  | _ => ("DotOutlines$Picture", "sharpness", "I", false)
def tyX6 : Nat → FieldType := fun k => match k with
  | 0 => .int
  | 1 => .int
  | 2 => .long
  | 3 => .int
  | _ => .int
abbrev wsX60 : List Cond := u_ws RX6 TX6 5
theorem nmX6 : ∀ a, a < 5 → ∀ b, b < 5 → a ≠ b → (TX6 a).2.1 ≠ (TX6 b).2.1 := by decide +kernel
theorem tyX6_ok : ∀ k, k < 5 → parseFieldDescriptor (TX6 k).2.2.1 = some (tyX6 k) := by decide +kernel
abbrev cX6_init : ByteArray := prog_8_method_1_code
def yX6_init : MethodName := ⟨RX6, "<init>", "()V"⟩
abbrev cX6_isThere : ByteArray := prog_8_method_2_code
def yX6_isThere : MethodName := ⟨RX6, "isThere", "()Z"⟩
abbrev cX6_has : ByteArray := prog_8_method_3_code
def yX6_has : MethodName := ⟨RX6, "has", "(II)Z"⟩
abbrev cX6_isDark : ByteArray := prog_8_method_4_code
def yX6_isDark : MethodName := ⟨RX6, "isDark", "(II)Z"⟩
abbrev cX6_darkDots : ByteArray := prog_8_method_5_code
def yX6_darkDots : MethodName := ⟨RX6, "darkDots", "()I"⟩
abbrev cX6_lay : ByteArray := prog_8_method_6_code
def yX6_lay : MethodName := ⟨RX6, "lay", "(JI)V"⟩
abbrev cX6_becomeLike : ByteArray := prog_8_method_7_code
def yX6_becomeLike : MethodName := ⟨RX6, "becomeLike", "(LDotOutlines$Picture;)V"⟩
def RX7 : String := "DotOutlines$Polygons"
def TX7 : u_T := fun k => match k with
  | 0 => ("DotOutlines$Polygons", "borders", "LDotOutlines$Borders;", true)
  | 1 => ("DotOutlines$Polygons", "stretches", "LDotOutlines$Stretches;", true)
  | 2 => ("DotOutlines$Polygons", "bend", "LDotOutlines$Bend;", true)
  | 3 => ("DotOutlines$Polygons", "corners", "[I", true)
  | _ => ("DotOutlines$Polygons", "costs", "[I", true)
def tyX7 : Nat → FieldType := fun k => match k with
  | 0 => .object "DotOutlines$Borders"
  | 1 => .object "DotOutlines$Stretches"
  | 2 => .object "DotOutlines$Bend"
  | 3 => .array .int
  | _ => .array .int
abbrev wsX70 : List Cond := u_ws RX7 TX7 5
theorem nmX7 : ∀ a, a < 5 → ∀ b, b < 5 → a ≠ b → (TX7 a).2.1 ≠ (TX7 b).2.1 := by decide +kernel
theorem tyX7_ok : ∀ k, k < 5 → parseFieldDescriptor (TX7 k).2.2.1 = some (tyX7 k) := by decide +kernel
abbrev cX7_init : ByteArray := prog_9_method_1_code
def yX7_init : MethodName := ⟨RX7, "<init>", "(LDotOutlines$Borders;LDotOutlines$Stretches;)V"⟩
abbrev cX7_fewestThrough : ByteArray := prog_9_method_2_code
def yX7_fewestThrough : MethodName := ⟨RX7, "fewestThrough", "(LDotOutlines$Border;I)I"⟩
abbrev cX7_cornerOfVertex : ByteArray := prog_9_method_3_code
def yX7_cornerOfVertex : MethodName := ⟨RX7, "cornerOfVertex", "(LDotOutlines$Border;I)I"⟩
abbrev cX7_bendAt : ByteArray := prog_9_method_4_code
def yX7_bendAt : MethodName := ⟨RX7, "bendAt", "(LDotOutlines$Border;I)LDotOutlines$Bend;"⟩
abbrev cX7_sharpVertices : ByteArray := prog_9_method_5_code
def yX7_sharpVertices : MethodName := ⟨RX7, "sharpVertices", "(LDotOutlines$Border;I)I"⟩
abbrev cX7_twiceTheArea : ByteArray := prog_9_method_6_code
def yX7_twiceTheArea : MethodName := ⟨RX7, "twiceTheArea", "(LDotOutlines$Border;)I"⟩
abbrev cX7_seek : ByteArray := prog_9_method_7_code
def yX7_seek : MethodName := ⟨RX7, "seek", "(LDotOutlines$Border;)V"⟩
abbrev cX7_costOfRound : ByteArray := prog_9_method_8_code
def yX7_costOfRound : MethodName := ⟨RX7, "costOfRound", "(LDotOutlines$Border;I)I"⟩
abbrev cX7_writeVertices : ByteArray := prog_9_method_9_code
def yX7_writeVertices : MethodName := ⟨RX7, "writeVertices", "(LDotOutlines$Border;I)V"⟩
abbrev cX7_nearestStep : ByteArray := prog_9_method_10_code
def yX7_nearestStep : MethodName := ⟨RX7, "nearestStep", "(LDotOutlines$Border;III)I"⟩
def RX8 : String := "DotOutlines$Reading"
def TX8 : u_T := fun k => match k with
  | 0 => ("DotOutlines$Reading", "width", "I", false)
  | 1 => ("DotOutlines$Reading", "height", "I", false)
  | 2 => ("DotOutlines$Reading", "dots", "J", false)
  | _ => ("DotOutlines$Reading", "place", "I", false)
def tyX8 : Nat → FieldType := fun k => match k with
  | 0 => .int
  | 1 => .int
  | 2 => .long
  | _ => .int
abbrev wsX80 : List Cond := u_ws RX8 TX8 4
theorem nmX8 : ∀ a, a < 4 → ∀ b, b < 4 → a ≠ b → (TX8 a).2.1 ≠ (TX8 b).2.1 := by decide +kernel
theorem tyX8_ok : ∀ k, k < 4 → parseFieldDescriptor (TX8 k).2.2.1 = some (tyX8 k) := by decide +kernel
abbrev cX8_init : ByteArray := prog_10_method_1_code
def yX8_init : MethodName := ⟨RX8, "<init>", "()V"⟩
abbrev cX8_read : ByteArray := prog_10_method_2_code
def yX8_read : MethodName := ⟨RX8, "read", "(LDotOutlines$Tape;)I"⟩
abbrev cX8_faultInHead : ByteArray := prog_10_method_3_code
def yX8_faultInHead : MethodName := ⟨RX8, "faultInHead", "(II)I"⟩
abbrev cX8_faultInRows : ByteArray := prog_10_method_4_code
def yX8_faultInRows : MethodName := ⟨RX8, "faultInRows", "(II)I"⟩
def RX9 : String := "DotOutlines$Stretches"
def TX9 : u_T := fun k => match k with
  | 0 => ("DotOutlines$Stretches", "borders", "LDotOutlines$Borders;", true)
  | 1 => ("DotOutlines$Stretches", "offs", "[I", true)
  | _ => ("DotOutlines$Stretches", "reaches", "[I", true)
def tyX9 : Nat → FieldType := fun k => match k with
  | 0 => .object "DotOutlines$Borders"
  | 1 => .array .int
  | _ => .array .int
abbrev wsX90 : List Cond := u_ws RX9 TX9 3
theorem nmX9 : ∀ a, a < 3 → ∀ b, b < 3 → a ≠ b → (TX9 a).2.1 ≠ (TX9 b).2.1 := by decide +kernel
theorem tyX9_ok : ∀ k, k < 3 → parseFieldDescriptor (TX9 k).2.2.1 = some (tyX9 k) := by decide +kernel
abbrev cX9_init : ByteArray := prog_11_method_1_code
def yX9_init : MethodName := ⟨RX9, "<init>", "(LDotOutlines$Borders;)V"⟩
abbrev cX9_offOf : ByteArray := prog_11_method_2_code
def yX9_offOf : MethodName := ⟨RX9, "offOf", "(LDotOutlines$Border;II)I"⟩
abbrev cX9_longestFrom : ByteArray := prog_11_method_3_code
def yX9_longestFrom : MethodName := ⟨RX9, "longestFrom", "(LDotOutlines$Border;I)I"⟩
abbrev cX9_measure : ByteArray := prog_11_method_4_code
def yX9_measure : MethodName := ⟨RX9, "measure", "(LDotOutlines$Border;)V"⟩
abbrev cX9_reachAt : ByteArray := prog_11_method_5_code
def yX9_reachAt : MethodName := ⟨RX9, "reachAt", "(I)I"⟩
abbrev cX9_offAt : ByteArray := prog_11_method_6_code
def yX9_offAt : MethodName := ⟨RX9, "offAt", "(II)I"⟩
def RX10 : String := "DotOutlines$Tape"
def TX10 : u_T := fun k => match k with
  | 0 => ("DotOutlines$Tape", "letters", "[I", true)
  | _ => ("DotOutlines$Tape", "length", "I", false)
def tyX10 : Nat → FieldType := fun k => match k with
  | 0 => .array .int
  | _ => .int
abbrev wsX100 : List Cond := u_ws RX10 TX10 2
theorem nmX10 : ∀ a, a < 2 → ∀ b, b < 2 → a ≠ b → (TX10 a).2.1 ≠ (TX10 b).2.1 := by decide +kernel
theorem tyX10_ok : ∀ k, k < 2 → parseFieldDescriptor (TX10 k).2.2.1 = some (tyX10 k) := by decide +kernel
abbrev cX10_init : ByteArray := prog_12_method_1_code
def yX10_init : MethodName := ⟨RX10, "<init>", "()V"⟩
abbrev cX10_add : ByteArray := prog_12_method_2_code
def yX10_add : MethodName := ⟨RX10, "add", "(I)Z"⟩
abbrev cX10_letterAt : ByteArray := prog_12_method_3_code
def yX10_letterAt : MethodName := ⟨RX10, "letterAt", "(I)I"⟩
def RX11 : String := "DotOutlines"
def TX11 : u_T := fun k => match k with
  | 0 => ("DotOutlines", "tape", "LDotOutlines$Tape;", true)
  | 1 => ("DotOutlines", "reading", "LDotOutlines$Reading;", true)
  | 2 => ("DotOutlines", "now", "LDotOutlines$Picture;", true)
  | 3 => ("DotOutlines", "imageZero", "LDotOutlines$Picture;", true)
  | 4 => ("DotOutlines", "imageOne", "LDotOutlines$Picture;", true)
  | 5 => ("DotOutlines", "acts", "LDotOutlines$Acts;", true)
  | 6 => ("DotOutlines", "found", "LDotOutlines$Borders;", true)
  | 7 => ("DotOutlines", "stretches", "LDotOutlines$Stretches;", true)
  | 8 => ("DotOutlines", "polygons", "LDotOutlines$Polygons;", true)
  | 9 => ("DotOutlines", "filling", "LDotOutlines$Filling;", true)
  | _ => ("DotOutlines", "latestFault", "I", false)
def tyX11 : Nat → FieldType := fun k => match k with
  | 0 => .object "DotOutlines$Tape"
  | 1 => .object "DotOutlines$Reading"
  | 2 => .object "DotOutlines$Picture"
  | 3 => .object "DotOutlines$Picture"
  | 4 => .object "DotOutlines$Picture"
  | 5 => .object "DotOutlines$Acts"
  | 6 => .object "DotOutlines$Borders"
  | 7 => .object "DotOutlines$Stretches"
  | 8 => .object "DotOutlines$Polygons"
  | 9 => .object "DotOutlines$Filling"
  | _ => .int
abbrev wsX110 : List Cond := u_ws RX11 TX11 11
theorem nmX11 : ∀ a, a < 11 → ∀ b, b < 11 → a ≠ b → (TX11 a).2.1 ≠ (TX11 b).2.1 := by decide +kernel
theorem tyX11_ok : ∀ k, k < 11 → parseFieldDescriptor (TX11 k).2.2.1 = some (tyX11 k) := by decide +kernel
abbrev cX11_init : ByteArray := prog_1_method_1_code
def yX11_init : MethodName := ⟨RX11, "<init>", "()V"⟩
abbrev cX11_feed : ByteArray := prog_1_method_2_code
def yX11_feed : MethodName := ⟨RX11, "feed", "(I)I"⟩
abbrev cX11_picture : ByteArray := prog_1_method_3_code
def yX11_picture : MethodName := ⟨RX11, "picture", "()I"⟩
abbrev cX11_fault : ByteArray := prog_1_method_4_code
def yX11_fault : MethodName := ⟨RX11, "fault", "()I"⟩
abbrev cX11_undo : ByteArray := prog_1_method_5_code
def yX11_undo : MethodName := ⟨RX11, "undo", "()I"⟩
abbrev cX11_flip : ByteArray := prog_1_method_6_code
def yX11_flip : MethodName := ⟨RX11, "flip", "(II)I"⟩
abbrev cX11_frame : ByteArray := prog_1_method_7_code
def yX11_frame : MethodName := ⟨RX11, "frame", "(IIIII)I"⟩
abbrev cX11_joined : ByteArray := prog_1_method_8_code
def yX11_joined : MethodName := ⟨RX11, "joined", "(I)I"⟩
abbrev cX11_sharp : ByteArray := prog_1_method_9_code
def yX11_sharp : MethodName := ⟨RX11, "sharp", "(I)I"⟩
abbrev cX11_dot : ByteArray := prog_1_method_10_code
def yX11_dot : MethodName := ⟨RX11, "dot", "(II)I"⟩
abbrev cX11_borders : ByteArray := prog_1_method_11_code
def yX11_borders : MethodName := ⟨RX11, "borders", "()I"⟩
abbrev cX11_border : ByteArray := prog_1_method_12_code
def yX11_border : MethodName := ⟨RX11, "border", "(II)I"⟩
abbrev cX11_corner : ByteArray := prog_1_method_13_code
def yX11_corner : MethodName := ⟨RX11, "corner", "(III)I"⟩
abbrev cX11_inside : ByteArray := prog_1_method_14_code
def yX11_inside : MethodName := ⟨RX11, "inside", "(III)I"⟩
abbrev cX11_straight : ByteArray := prog_1_method_15_code
def yX11_straight : MethodName := ⟨RX11, "straight", "(III)I"⟩
abbrev cX11_off : ByteArray := prog_1_method_16_code
def yX11_off : MethodName := ⟨RX11, "off", "(III)I"⟩
abbrev cX11_longest : ByteArray := prog_1_method_17_code
def yX11_longest : MethodName := ⟨RX11, "longest", "(II)I"⟩
abbrev cX11_best : ByteArray := prog_1_method_18_code
def yX11_best : MethodName := ⟨RX11, "best", "(II)I"⟩
abbrev cX11_vertex : ByteArray := prog_1_method_19_code
def yX11_vertex : MethodName := ⟨RX11, "vertex", "(III)I"⟩
abbrev cX11_past : ByteArray := prog_1_method_20_code
def yX11_past : MethodName := ⟨RX11, "past", "(II)I"⟩
abbrev cX11_point : ByteArray := prog_1_method_21_code
def yX11_point : MethodName := ⟨RX11, "point", "(IIII)I"⟩
abbrev cX11_filled : ByteArray := prog_1_method_22_code
def yX11_filled : MethodName := ⟨RX11, "filled", "(IIII)I"⟩
abbrev cX11_differ : ByteArray := prog_1_method_23_code
def yX11_differ : MethodName := ⟨RX11, "differ", "(II)I"⟩
abbrev cX11_wrong : ByteArray := prog_1_method_24_code
def yX11_wrong : MethodName := ⟨RX11, "wrong", "(I)I"⟩
abbrev cX11_all : ByteArray := prog_1_method_25_code
def yX11_all : MethodName := ⟨RX11, "all", "(I)I"⟩
abbrev cX11_image : ByteArray := prog_1_method_26_code
def yX11_image : MethodName := ⟨RX11, "image", "(I)I"⟩
abbrev cX11_restore : ByteArray := prog_1_method_27_code
def yX11_restore : MethodName := ⟨RX11, "restore", "(I)I"⟩
abbrev cX11_count : ByteArray := prog_1_method_28_code
def yX11_count : MethodName := ⟨RX11, "count", "(I)I"⟩
abbrev cX11_walkedBorders : ByteArray := prog_1_method_29_code
def yX11_walkedBorders : MethodName := ⟨RX11, "walkedBorders", "()I"⟩
abbrev cX11_borderNumber : ByteArray := prog_1_method_30_code
def yX11_borderNumber : MethodName := ⟨RX11, "borderNumber", "(I)LDotOutlines$Border;"⟩
abbrev cX11_shapedBorder : ByteArray := prog_1_method_31_code
def yX11_shapedBorder : MethodName := ⟨RX11, "shapedBorder", "(I)LDotOutlines$Border;"⟩
abbrev cX11_imageNumber : ByteArray := prog_1_method_32_code
def yX11_imageNumber : MethodName := ⟨RX11, "imageNumber", "(I)LDotOutlines$Picture;"⟩
abbrev cX11_sizeOf : ByteArray := prog_1_method_33_code
def yX11_sizeOf : MethodName := ⟨RX11, "sizeOf", "(LDotOutlines$Border;I)I"⟩
def RX12 : String := "DotOutlinesModel"
def TX12 : u_T := fun k => match k with
  | 0 => ("DotOutlinesModel", "st", "[I", true)
  | 1 => ("DotOutlinesModel", "past", "[I", true)
  | 2 => ("DotOutlinesModel", "acts", "I", false)
  | 3 => ("DotOutlinesModel", "images", "[I", true)
  | 4 => ("DotOutlinesModel", "isImage", "[I", true)
  | 5 => ("DotOutlinesModel", "tape", "[I", true)
  | 6 => ("DotOutlinesModel", "bytes", "I", false)
  | 7 => ("DotOutlinesModel", "latest", "I", false)
  | 8 => ("DotOutlinesModel", "read", "[I", true)
  | 9 => ("DotOutlinesModel", "readAt", "I", false)
  | 10 => ("DotOutlinesModel", "isLaid", "Z", false)
  | 11 => ("DotOutlinesModel", "many", "I", false)
  | 12 => ("DotOutlinesModel", "from", "[I", true)
  | 13 => ("DotOutlinesModel", "size", "[I", true)
  | 14 => ("DotOutlinesModel", "firstX", "[I", true)
  | 15 => ("DotOutlinesModel", "firstY", "[I", true)
  | 16 => ("DotOutlinesModel", "within", "[J", true)
  | 17 => ("DotOutlinesModel", "cornerX", "[I", true)
  | 18 => ("DotOutlinesModel", "cornerY", "[I", true)
  | 19 => ("DotOutlinesModel", "goes", "[I", true)
  | 20 => ("DotOutlinesModel", "rest", "J", false)
  | 21 => ("DotOutlinesModel", "tableOf", "I", false)
  | 22 => ("DotOutlinesModel", "offs", "[I", true)
  | 23 => ("DotOutlinesModel", "least", "[I", true)
  | 24 => ("DotOutlinesModel", "vertices", "I", false)
  | 25 => ("DotOutlinesModel", "offAll", "I", false)
  | 26 => ("DotOutlinesModel", "vertex", "[I", true)
  | 27 => ("DotOutlinesModel", "turned", "[I", true)
  | 28 => ("DotOutlinesModel", "lineX", "[I", true)
  | 29 => ("DotOutlinesModel", "lineY", "[I", true)
  | _ => ("DotOutlinesModel", "lineMany", "I", false)
def tyX12 : Nat → FieldType := fun k => match k with
  | 0 => .array .int
  | 1 => .array .int
  | 2 => .int
  | 3 => .array .int
  | 4 => .array .int
  | 5 => .array .int
  | 6 => .int
  | 7 => .int
  | 8 => .array .int
  | 9 => .int
  | 10 => .boolean
  | 11 => .int
  | 12 => .array .int
  | 13 => .array .int
  | 14 => .array .int
  | 15 => .array .int
  | 16 => .array .long
  | 17 => .array .int
  | 18 => .array .int
  | 19 => .array .int
  | 20 => .long
  | 21 => .int
  | 22 => .array .int
  | 23 => .array .int
  | 24 => .int
  | 25 => .int
  | 26 => .array .int
  | 27 => .array .int
  | 28 => .array .int
  | 29 => .array .int
  | _ => .int
abbrev wsX120 : List Cond := u_ws RX12 TX12 31
theorem nmX12 : ∀ a, a < 31 → ∀ b, b < 31 → a ≠ b → (TX12 a).2.1 ≠ (TX12 b).2.1 := by decide +kernel
theorem tyX12_ok : ∀ k, k < 31 → parseFieldDescriptor (TX12 k).2.2.1 = some (tyX12 k) := by decide +kernel
abbrev cX12_init : ByteArray := prog_14_method_1_code
def yX12_init : MethodName := ⟨RX12, "<init>", "()V"⟩
abbrev cX12_in : ByteArray := prog_14_method_2_code
def yX12_in : MethodName := ⟨RX12, "in", "(III)Z"⟩
abbrev cX12_bring : ByteArray := prog_14_method_3_code
def yX12_bring : MethodName := ⟨RX12, "bring", "([II[III)V"⟩
abbrev cX12_isPicture : ByteArray := prog_14_method_4_code
def yX12_isPicture : MethodName := ⟨RX12, "isPicture", "()Z"⟩
abbrev cX12_isDot : ByteArray := prog_14_method_5_code
def yX12_isDot : MethodName := ⟨RX12, "isDot", "(II)Z"⟩
abbrev cX12_feed : ByteArray := prog_14_method_6_code
def yX12_feed : MethodName := ⟨RX12, "feed", "(I)I"⟩
abbrev cX12_due : ByteArray := prog_14_method_7_code
def yX12_due : MethodName := ⟨RX12, "due", "(IIII)I"⟩
abbrev cX12_sign : ByteArray := prog_14_method_8_code
def yX12_sign : MethodName := ⟨RX12, "sign", "(I)I"⟩
abbrev cX12_readsRow : ByteArray := prog_14_method_9_code
def yX12_readsRow : MethodName := ⟨RX12, "readsRow", "(I)I"⟩
abbrev cX12_reads : ByteArray := prog_14_method_10_code
def yX12_reads : MethodName := ⟨RX12, "reads", "()I"⟩
abbrev cX12_picture : ByteArray := prog_14_method_11_code
def yX12_picture : MethodName := ⟨RX12, "picture", "()I"⟩
abbrev cX12_fault : ByteArray := prog_14_method_12_code
def yX12_fault : MethodName := ⟨RX12, "fault", "()I"⟩
abbrev cX12_dark : ByteArray := prog_14_method_13_code
def yX12_dark : MethodName := ⟨RX12, "dark", "()I"⟩
abbrev cX12_notes : ByteArray := prog_14_method_14_code
def yX12_notes : MethodName := ⟨RX12, "notes", "()V"⟩
abbrev cX12_undo : ByteArray := prog_14_method_15_code
def yX12_undo : MethodName := ⟨RX12, "undo", "()I"⟩
abbrev cX12_flip : ByteArray := prog_14_method_16_code
def yX12_flip : MethodName := ⟨RX12, "flip", "(II)I"⟩
abbrev cX12_frame : ByteArray := prog_14_method_17_code
def yX12_frame : MethodName := ⟨RX12, "frame", "(IIIII)I"⟩
abbrev cX12_tells : ByteArray := prog_14_method_18_code
def yX12_tells : MethodName := ⟨RX12, "tells", "(IIII)I"⟩
abbrev cX12_joined : ByteArray := prog_14_method_19_code
def yX12_joined : MethodName := ⟨RX12, "joined", "(I)I"⟩
abbrev cX12_sharp : ByteArray := prog_14_method_20_code
def yX12_sharp : MethodName := ⟨RX12, "sharp", "(I)I"⟩
abbrev cX12_isRest : ByteArray := prog_14_method_21_code
def yX12_isRest : MethodName := ⟨RX12, "isRest", "(II)Z"⟩
abbrev cX12_stepX : ByteArray := prog_14_method_22_code
def yX12_stepX : MethodName := ⟨RX12, "stepX", "(I)I"⟩
abbrev cX12_stepY : ByteArray := prog_14_method_23_code
def yX12_stepY : MethodName := ⟨RX12, "stepY", "(I)I"⟩
abbrev cX12_isBeside : ByteArray := prog_14_method_24_code
def yX12_isBeside : MethodName := ⟨RX12, "isBeside", "(IIII)Z"⟩
abbrev cX12_turns : ByteArray := prog_14_method_25_code
def yX12_turns : MethodName := ⟨RX12, "turns", "(III)I"⟩
abbrev cX12_walks : ByteArray := prog_14_method_26_code
def yX12_walks : MethodName := ⟨RX12, "walks", "(II)V"⟩
abbrev cX12_isWithin : ByteArray := prog_14_method_27_code
def yX12_isWithin : MethodName := ⟨RX12, "isWithin", "(III)Z"⟩
abbrev cX12_lays : ByteArray := prog_14_method_28_code
def yX12_lays : MethodName := ⟨RX12, "lays", "()V"⟩
abbrev cX12_isBorder : ByteArray := prog_14_method_29_code
def yX12_isBorder : MethodName := ⟨RX12, "isBorder", "(I)Z"⟩
abbrev cX12_ones : ByteArray := prog_14_method_30_code
def yX12_ones : MethodName := ⟨RX12, "ones", "(J)I"⟩
abbrev cX12_dot : ByteArray := prog_14_method_31_code
def yX12_dot : MethodName := ⟨RX12, "dot", "(II)I"⟩
abbrev cX12_borders : ByteArray := prog_14_method_32_code
def yX12_borders : MethodName := ⟨RX12, "borders", "()I"⟩
abbrev cX12_bends : ByteArray := prog_14_method_33_code
def yX12_bends : MethodName := ⟨RX12, "bends", "(I)I"⟩
abbrev cX12_border : ByteArray := prog_14_method_34_code
def yX12_border : MethodName := ⟨RX12, "border", "(II)I"⟩
abbrev cX12_corner : ByteArray := prog_14_method_35_code
def yX12_corner : MethodName := ⟨RX12, "corner", "(III)I"⟩
abbrev cX12_isIn : ByteArray := prog_14_method_36_code
def yX12_isIn : MethodName := ⟨RX12, "isIn", "(III)Z"⟩
abbrev cX12_inside : ByteArray := prog_14_method_37_code
def yX12_inside : MethodName := ⟨RX12, "inside", "(III)I"⟩
abbrev cX12_size : ByteArray := prog_14_method_38_code
def yX12_size : MethodName := ⟨RX12, "size", "(I)I"⟩
abbrev cX12_offOf : ByteArray := prog_14_method_39_code
def yX12_offOf : MethodName := ⟨RX12, "offOf", "(III)I"⟩
abbrev cX12_laysTable : ByteArray := prog_14_method_40_code
def yX12_laysTable : MethodName := ⟨RX12, "laysTable", "(I)V"⟩
abbrev cX12_isStretch : ByteArray := prog_14_method_41_code
def yX12_isStretch : MethodName := ⟨RX12, "isStretch", "(III)Z"⟩
abbrev cX12_straight : ByteArray := prog_14_method_42_code
def yX12_straight : MethodName := ⟨RX12, "straight", "(III)I"⟩
abbrev cX12_off : ByteArray := prog_14_method_43_code
def yX12_off : MethodName := ⟨RX12, "off", "(III)I"⟩
abbrev cX12_longest : ByteArray := prog_14_method_44_code
def yX12_longest : MethodName := ⟨RX12, "longest", "(II)I"⟩
abbrev cX12_stretch : ByteArray := prog_14_method_45_code
def yX12_stretch : MethodName := ⟨RX12, "stretch", "(III)I"⟩
abbrev cX12_laysLeast : ByteArray := prog_14_method_46_code
def yX12_laysLeast : MethodName := ⟨RX12, "laysLeast", "(II)I"⟩
abbrev cX12_laysBest : ByteArray := prog_14_method_47_code
def yX12_laysBest : MethodName := ⟨RX12, "laysBest", "(I)V"⟩
abbrev cX12_fewest : ByteArray := prog_14_method_48_code
def yX12_fewest : MethodName := ⟨RX12, "fewest", "(II)I"⟩
abbrev cX12_vx : ByteArray := prog_14_method_49_code
def yX12_vx : MethodName := ⟨RX12, "vx", "(II)I"⟩
abbrev cX12_vy : ByteArray := prog_14_method_50_code
def yX12_vy : MethodName := ⟨RX12, "vy", "(II)I"⟩
abbrev cX12_greater : ByteArray := prog_14_method_51_code
def yX12_greater : MethodName := ⟨RX12, "greater", "(II)I"⟩
abbrev cX12_turnOf : ByteArray := prog_14_method_52_code
def yX12_turnOf : MethodName := ⟨RX12, "turnOf", "(II)I"⟩
abbrev cX12_isSharp : ByteArray := prog_14_method_53_code
def yX12_isSharp : MethodName := ⟨RX12, "isSharp", "(II)Z"⟩
abbrev cX12_sharpMany : ByteArray := prog_14_method_54_code
def yX12_sharpMany : MethodName := ⟨RX12, "sharpMany", "(I)I"⟩
abbrev cX12_twice : ByteArray := prog_14_method_55_code
def yX12_twice : MethodName := ⟨RX12, "twice", "(I)I"⟩
abbrev cX12_best : ByteArray := prog_14_method_56_code
def yX12_best : MethodName := ⟨RX12, "best", "(II)I"⟩
abbrev cX12_vertex : ByteArray := prog_14_method_57_code
def yX12_vertex : MethodName := ⟨RX12, "vertex", "(III)I"⟩
abbrev cX12_past : ByteArray := prog_14_method_58_code
def yX12_past : MethodName := ⟨RX12, "past", "(II)I"⟩
abbrev cX12_pointOf : ByteArray := prog_14_method_59_code
def yX12_pointOf : MethodName := ⟨RX12, "pointOf", "(IIII)I"⟩
abbrev cX12_point : ByteArray := prog_14_method_60_code
def yX12_point : MethodName := ⟨RX12, "point", "(IIII)I"⟩
abbrev cX12_adds : ByteArray := prog_14_method_61_code
def yX12_adds : MethodName := ⟨RX12, "adds", "(II)V"⟩
abbrev cX12_laysLine : ByteArray := prog_14_method_62_code
def yX12_laysLine : MethodName := ⟨RX12, "laysLine", "(II)V"⟩
abbrev cX12_isFilled : ByteArray := prog_14_method_63_code
def yX12_isFilled : MethodName := ⟨RX12, "isFilled", "(II)Z"⟩
abbrev cX12_filled : ByteArray := prog_14_method_64_code
def yX12_filled : MethodName := ⟨RX12, "filled", "(IIII)I"⟩
abbrev cX12_differ : ByteArray := prog_14_method_65_code
def yX12_differ : MethodName := ⟨RX12, "differ", "(II)I"⟩
abbrev cX12_wrong : ByteArray := prog_14_method_66_code
def yX12_wrong : MethodName := ⟨RX12, "wrong", "(I)I"⟩
abbrev cX12_all : ByteArray := prog_14_method_67_code
def yX12_all : MethodName := ⟨RX12, "all", "(I)I"⟩
abbrev cX12_image : ByteArray := prog_14_method_68_code
def yX12_image : MethodName := ⟨RX12, "image", "(I)I"⟩
abbrev cX12_restore : ByteArray := prog_14_method_69_code
def yX12_restore : MethodName := ⟨RX12, "restore", "(I)I"⟩
abbrev cX12_count : ByteArray := prog_14_method_70_code
def yX12_count : MethodName := ⟨RX12, "count", "(I)I"⟩
def RJ13 : String := "java/lang/Long"
def TJ13 : u_T := fun k => match k with
  | _ => ("", "", "", false)
def tyJ13 : Nat → FieldType := fun k => match k with
  | _ => .int
abbrev wsJ130 : List Cond := u_ws RJ13 TJ13 0
theorem nmJ13 : ∀ a, a < 0 → ∀ b, b < 0 → a ≠ b → (TJ13 a).2.1 ≠ (TJ13 b).2.1 := by decide +kernel
theorem tyJ13_ok : ∀ k, k < 0 → parseFieldDescriptor (TJ13 k).2.2.1 = some (tyJ13 k) := by decide +kernel
abbrev cJ13_bitCount_95d88 : ByteArray := prog_15_method_50_code
def yJ13_bitCount_95d88 : MethodName := ⟨RJ13, "bitCount", "(J)I"⟩
def RJ9 : String := "java/lang/Math"
def TJ9 : u_T := fun k => match k with
  | _ => ("", "", "", false)
def tyJ9 : Nat → FieldType := fun k => match k with
  | _ => .int
abbrev wsJ90 : List Cond := u_ws RJ9 TJ9 0
theorem nmJ9 : ∀ a, a < 0 → ∀ b, b < 0 → a ≠ b → (TJ9 a).2.1 ≠ (TJ9 b).2.1 := by decide +kernel
theorem tyJ9_ok : ∀ k, k < 0 → parseFieldDescriptor (TJ9 k).2.2.1 = some (tyJ9 k) := by decide +kernel
abbrev cJ9_abs_0f7a4 : ByteArray := prog_16_method_59_code
def yJ9_abs_0f7a4 : MethodName := ⟨RJ9, "abs", "(I)I"⟩
abbrev cJ9_max_7cf53 : ByteArray := prog_16_method_65_code
def yJ9_max_7cf53 : MethodName := ⟨RJ9, "max", "(II)I"⟩
abbrev cJ9_min_7cf53 : ByteArray := prog_16_method_69_code
def yJ9_min_7cf53 : MethodName := ⟨RJ9, "min", "(II)I"⟩
def RL : String := "DotOutlinesLaw"
abbrev cL_law : ByteArray := code
def yL_law : MethodName := ⟨RL, "law", "([I)Z"⟩
abbrev vwCl : List vw_C := [(RX0, TX0, 4), (RX1, TX1, 6), (RX2, TX2, 7), (RX3, TX3, 8), (RX4, TX4, 1), (RX6, TX6, 5), (RX7, TX7, 5), (RX8, TX8, 4), (RX9, TX9, 3), (RX10, TX10, 2), (RX11, TX11, 11), (RX12, TX12, 31)]
