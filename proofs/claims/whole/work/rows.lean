section
-- ===== PART A: goes FIRST, ahead of the names: the tables' words, and 'selects' of the private methods out of them =====
/-- a private method of a class that the tables say can be made, by its rows of tables_1 -/
def lw_okq (q : MethodName × Nat) : Prop := (q.1.cls ≠ "java/lang/invoke/MethodHandle" ∧ q.1.cls ≠ "java/lang/invoke/VarHandle") ∧ Cond.instantiable q.1.cls q.2 ∈ tables_1 ∧ Cond.privateMethod q.1 ∈ tables_1 ∧ Cond.instanceMethod q.1 ∈ tables_1
theorem lw_p0 : lw_okq (⟨"DotOutlines$Reading", "faultInHead", "(II)I"⟩, 4) := ⟨⟨by decide +kernel, by decide +kernel⟩, List.mem_of_getElem? (i := 41) (by decide +kernel), List.mem_of_getElem? (i := 278) (by decide +kernel), List.mem_of_getElem? (i := 279) (by decide +kernel)⟩
theorem lw_p1 : lw_okq (⟨"DotOutlines$Reading", "faultInRows", "(II)I"⟩, 4) := ⟨⟨by decide +kernel, by decide +kernel⟩, List.mem_of_getElem? (i := 41) (by decide +kernel), List.mem_of_getElem? (i := 282) (by decide +kernel), List.mem_of_getElem? (i := 283) (by decide +kernel)⟩
theorem lw_p2 : lw_okq (⟨"DotOutlines$Acts", "forgetOldest", "()V"⟩, 4) := ⟨⟨by decide +kernel, by decide +kernel⟩, List.mem_of_getElem? (i := 94) (by decide +kernel), List.mem_of_getElem? (i := 325) (by decide +kernel), List.mem_of_getElem? (i := 326) (by decide +kernel)⟩
theorem lw_p3 : lw_okq (⟨"DotOutlines", "walkedBorders", "()I"⟩, 11) := ⟨⟨by decide +kernel, by decide +kernel⟩, List.mem_of_getElem? (i := 17) (by decide +kernel), List.mem_of_getElem? (i := 375) (by decide +kernel), List.mem_of_getElem? (i := 376) (by decide +kernel)⟩
theorem lw_p4 : lw_okq (⟨"DotOutlines$Borders", "nextBorder", "()LDotOutlines$Border;"⟩, 8) := ⟨⟨by decide +kernel, by decide +kernel⟩, List.mem_of_getElem? (i := 115) (by decide +kernel), List.mem_of_getElem? (i := 383) (by decide +kernel), List.mem_of_getElem? (i := 384) (by decide +kernel)⟩
theorem lw_p5 : lw_okq (⟨"DotOutlines$Borders", "walk", "(LDotOutlines$Border;J)V"⟩, 8) := ⟨⟨by decide +kernel, by decide +kernel⟩, List.mem_of_getElem? (i := 115) (by decide +kernel), List.mem_of_getElem? (i := 434) (by decide +kernel), List.mem_of_getElem? (i := 435) (by decide +kernel)⟩
theorem lw_p6 : lw_okq (⟨"DotOutlines$Borders", "nextWay", "(IZZ)I"⟩, 8) := ⟨⟨by decide +kernel, by decide +kernel⟩, List.mem_of_getElem? (i := 115) (by decide +kernel), List.mem_of_getElem? (i := 461) (by decide +kernel), List.mem_of_getElem? (i := 462) (by decide +kernel)⟩
theorem lw_p7 : lw_okq (⟨"DotOutlines", "borderNumber", "(I)LDotOutlines$Border;"⟩, 11) := ⟨⟨by decide +kernel, by decide +kernel⟩, List.mem_of_getElem? (i := 17) (by decide +kernel), List.mem_of_getElem? (i := 469) (by decide +kernel), List.mem_of_getElem? (i := 470) (by decide +kernel)⟩
theorem lw_p8 : lw_okq (⟨"DotOutlines", "shapedBorder", "(I)LDotOutlines$Border;"⟩, 11) := ⟨⟨by decide +kernel, by decide +kernel⟩, List.mem_of_getElem? (i := 17) (by decide +kernel), List.mem_of_getElem? (i := 553) (by decide +kernel), List.mem_of_getElem? (i := 554) (by decide +kernel)⟩
theorem lw_p9 : lw_okq (⟨"DotOutlines$Polygons", "costOfRound", "(LDotOutlines$Border;I)I"⟩, 5) := ⟨⟨by decide +kernel, by decide +kernel⟩, List.mem_of_getElem? (i := 165) (by decide +kernel), List.mem_of_getElem? (i := 567) (by decide +kernel), List.mem_of_getElem? (i := 568) (by decide +kernel)⟩
theorem lw_p10 : lw_okq (⟨"DotOutlines$Polygons", "writeVertices", "(LDotOutlines$Border;I)V"⟩, 5) := ⟨⟨by decide +kernel, by decide +kernel⟩, List.mem_of_getElem? (i := 165) (by decide +kernel), List.mem_of_getElem? (i := 582) (by decide +kernel), List.mem_of_getElem? (i := 583) (by decide +kernel)⟩
theorem lw_p11 : lw_okq (⟨"DotOutlines$Polygons", "nearestStep", "(LDotOutlines$Border;III)I"⟩, 5) := ⟨⟨by decide +kernel, by decide +kernel⟩, List.mem_of_getElem? (i := 165) (by decide +kernel), List.mem_of_getElem? (i := 586) (by decide +kernel), List.mem_of_getElem? (i := 587) (by decide +kernel)⟩
theorem lw_p12 : lw_okq (⟨"DotOutlines", "sizeOf", "(LDotOutlines$Border;I)I"⟩, 11) := ⟨⟨by decide +kernel, by decide +kernel⟩, List.mem_of_getElem? (i := 17) (by decide +kernel), List.mem_of_getElem? (i := 732) (by decide +kernel), List.mem_of_getElem? (i := 733) (by decide +kernel)⟩
theorem lw_p13 : lw_okq (⟨"DotOutlines", "imageNumber", "(I)LDotOutlines$Picture;"⟩, 11) := ⟨⟨by decide +kernel, by decide +kernel⟩, List.mem_of_getElem? (i := 17) (by decide +kernel), List.mem_of_getElem? (i := 740) (by decide +kernel), List.mem_of_getElem? (i := 741) (by decide +kernel)⟩
theorem lw_p14 : lw_okq (⟨"DotOutlinesModel", "reads", "()I"⟩, 31) := ⟨⟨by decide +kernel, by decide +kernel⟩, List.mem_of_getElem? (i := 756) (by decide +kernel), List.mem_of_getElem? (i := 869) (by decide +kernel), List.mem_of_getElem? (i := 870) (by decide +kernel)⟩
theorem lw_p15 : lw_okq (⟨"DotOutlinesModel", "sign", "(I)I"⟩, 31) := ⟨⟨by decide +kernel, by decide +kernel⟩, List.mem_of_getElem? (i := 756) (by decide +kernel), List.mem_of_getElem? (i := 873) (by decide +kernel), List.mem_of_getElem? (i := 874) (by decide +kernel)⟩
def lw_privs_1 : List (MethodName × Nat) := [(⟨"DotOutlines$Reading", "faultInHead", "(II)I"⟩, 4), (⟨"DotOutlines$Reading", "faultInRows", "(II)I"⟩, 4), (⟨"DotOutlines$Acts", "forgetOldest", "()V"⟩, 4), (⟨"DotOutlines", "walkedBorders", "()I"⟩, 11), (⟨"DotOutlines$Borders", "nextBorder", "()LDotOutlines$Border;"⟩, 8), (⟨"DotOutlines$Borders", "walk", "(LDotOutlines$Border;J)V"⟩, 8), (⟨"DotOutlines$Borders", "nextWay", "(IZZ)I"⟩, 8), (⟨"DotOutlines", "borderNumber", "(I)LDotOutlines$Border;"⟩, 11), (⟨"DotOutlines", "shapedBorder", "(I)LDotOutlines$Border;"⟩, 11), (⟨"DotOutlines$Polygons", "costOfRound", "(LDotOutlines$Border;I)I"⟩, 5), (⟨"DotOutlines$Polygons", "writeVertices", "(LDotOutlines$Border;I)V"⟩, 5), (⟨"DotOutlines$Polygons", "nearestStep", "(LDotOutlines$Border;III)I"⟩, 5), (⟨"DotOutlines", "sizeOf", "(LDotOutlines$Border;I)I"⟩, 11), (⟨"DotOutlines", "imageNumber", "(I)LDotOutlines$Picture;"⟩, 11), (⟨"DotOutlinesModel", "reads", "()I"⟩, 31), (⟨"DotOutlinesModel", "sign", "(I)I"⟩, 31)]
theorem lw_r1 : ∀ q ∈ lw_privs_1, lw_okq q := List.forall_mem_cons.mpr ⟨lw_p0, List.forall_mem_cons.mpr ⟨lw_p1, List.forall_mem_cons.mpr ⟨lw_p2, List.forall_mem_cons.mpr ⟨lw_p3, List.forall_mem_cons.mpr ⟨lw_p4, List.forall_mem_cons.mpr ⟨lw_p5, List.forall_mem_cons.mpr ⟨lw_p6, List.forall_mem_cons.mpr ⟨lw_p7, List.forall_mem_cons.mpr ⟨lw_p8, List.forall_mem_cons.mpr ⟨lw_p9, List.forall_mem_cons.mpr ⟨lw_p10, List.forall_mem_cons.mpr ⟨lw_p11, List.forall_mem_cons.mpr ⟨lw_p12, List.forall_mem_cons.mpr ⟨lw_p13, List.forall_mem_cons.mpr ⟨lw_p14, List.forall_mem_cons.mpr ⟨lw_p15, fun _ h => absurd h List.not_mem_nil⟩⟩⟩⟩⟩⟩⟩⟩⟩⟩⟩⟩⟩⟩⟩⟩
theorem lw_p16 : lw_okq (⟨"DotOutlinesModel", "due", "(IIII)I"⟩, 31) := ⟨⟨by decide +kernel, by decide +kernel⟩, List.mem_of_getElem? (i := 756) (by decide +kernel), List.mem_of_getElem? (i := 877) (by decide +kernel), List.mem_of_getElem? (i := 878) (by decide +kernel)⟩
theorem lw_p17 : lw_okq (⟨"DotOutlinesModel", "readsRow", "(I)I"⟩, 31) := ⟨⟨by decide +kernel, by decide +kernel⟩, List.mem_of_getElem? (i := 756) (by decide +kernel), List.mem_of_getElem? (i := 881) (by decide +kernel), List.mem_of_getElem? (i := 882) (by decide +kernel)⟩
theorem lw_p18 : lw_okq (⟨"DotOutlinesModel", "dark", "()I"⟩, 31) := ⟨⟨by decide +kernel, by decide +kernel⟩, List.mem_of_getElem? (i := 756) (by decide +kernel), List.mem_of_getElem? (i := 889) (by decide +kernel), List.mem_of_getElem? (i := 890) (by decide +kernel)⟩
theorem lw_p19 : lw_okq (⟨"DotOutlinesModel", "isDot", "(II)Z"⟩, 31) := ⟨⟨by decide +kernel, by decide +kernel⟩, List.mem_of_getElem? (i := 756) (by decide +kernel), List.mem_of_getElem? (i := 906) (by decide +kernel), List.mem_of_getElem? (i := 907) (by decide +kernel)⟩
theorem lw_p20 : lw_okq (⟨"DotOutlinesModel", "notes", "()V"⟩, 31) := ⟨⟨by decide +kernel, by decide +kernel⟩, List.mem_of_getElem? (i := 756) (by decide +kernel), List.mem_of_getElem? (i := 910) (by decide +kernel), List.mem_of_getElem? (i := 911) (by decide +kernel)⟩
theorem lw_p21 : lw_okq (⟨"DotOutlinesModel", "tells", "(IIII)I"⟩, 31) := ⟨⟨by decide +kernel, by decide +kernel⟩, List.mem_of_getElem? (i := 756) (by decide +kernel), List.mem_of_getElem? (i := 922) (by decide +kernel), List.mem_of_getElem? (i := 923) (by decide +kernel)⟩
theorem lw_p22 : lw_okq (⟨"DotOutlinesModel", "isPicture", "()Z"⟩, 31) := ⟨⟨by decide +kernel, by decide +kernel⟩, List.mem_of_getElem? (i := 756) (by decide +kernel), List.mem_of_getElem? (i := 926) (by decide +kernel), List.mem_of_getElem? (i := 927) (by decide +kernel)⟩
theorem lw_p23 : lw_okq (⟨"DotOutlinesModel", "lays", "()V"⟩, 31) := ⟨⟨by decide +kernel, by decide +kernel⟩, List.mem_of_getElem? (i := 756) (by decide +kernel), List.mem_of_getElem? (i := 942) (by decide +kernel), List.mem_of_getElem? (i := 943) (by decide +kernel)⟩
theorem lw_p24 : lw_okq (⟨"DotOutlinesModel", "walks", "(II)V"⟩, 31) := ⟨⟨by decide +kernel, by decide +kernel⟩, List.mem_of_getElem? (i := 756) (by decide +kernel), List.mem_of_getElem? (i := 946) (by decide +kernel), List.mem_of_getElem? (i := 947) (by decide +kernel)⟩
theorem lw_p25 : lw_okq (⟨"DotOutlinesModel", "turns", "(III)I"⟩, 31) := ⟨⟨by decide +kernel, by decide +kernel⟩, List.mem_of_getElem? (i := 756) (by decide +kernel), List.mem_of_getElem? (i := 956) (by decide +kernel), List.mem_of_getElem? (i := 957) (by decide +kernel)⟩
theorem lw_p26 : lw_okq (⟨"DotOutlinesModel", "isBeside", "(IIII)Z"⟩, 31) := ⟨⟨by decide +kernel, by decide +kernel⟩, List.mem_of_getElem? (i := 756) (by decide +kernel), List.mem_of_getElem? (i := 960) (by decide +kernel), List.mem_of_getElem? (i := 961) (by decide +kernel)⟩
theorem lw_p27 : lw_okq (⟨"DotOutlinesModel", "isRest", "(II)Z"⟩, 31) := ⟨⟨by decide +kernel, by decide +kernel⟩, List.mem_of_getElem? (i := 756) (by decide +kernel), List.mem_of_getElem? (i := 964) (by decide +kernel), List.mem_of_getElem? (i := 965) (by decide +kernel)⟩
theorem lw_p28 : lw_okq (⟨"DotOutlinesModel", "isWithin", "(III)Z"⟩, 31) := ⟨⟨by decide +kernel, by decide +kernel⟩, List.mem_of_getElem? (i := 756) (by decide +kernel), List.mem_of_getElem? (i := 968) (by decide +kernel), List.mem_of_getElem? (i := 969) (by decide +kernel)⟩
theorem lw_p29 : lw_okq (⟨"DotOutlinesModel", "isBorder", "(I)Z"⟩, 31) := ⟨⟨by decide +kernel, by decide +kernel⟩, List.mem_of_getElem? (i := 756) (by decide +kernel), List.mem_of_getElem? (i := 976) (by decide +kernel), List.mem_of_getElem? (i := 977) (by decide +kernel)⟩
theorem lw_p30 : lw_okq (⟨"DotOutlinesModel", "bends", "(I)I"⟩, 31) := ⟨⟨by decide +kernel, by decide +kernel⟩, List.mem_of_getElem? (i := 756) (by decide +kernel), List.mem_of_getElem? (i := 983) (by decide +kernel), List.mem_of_getElem? (i := 984) (by decide +kernel)⟩
theorem lw_p31 : lw_okq (⟨"DotOutlinesModel", "isIn", "(III)Z"⟩, 31) := ⟨⟨by decide +kernel, by decide +kernel⟩, List.mem_of_getElem? (i := 756) (by decide +kernel), List.mem_of_getElem? (i := 995) (by decide +kernel), List.mem_of_getElem? (i := 996) (by decide +kernel)⟩
def lw_privs_2 : List (MethodName × Nat) := [(⟨"DotOutlinesModel", "due", "(IIII)I"⟩, 31), (⟨"DotOutlinesModel", "readsRow", "(I)I"⟩, 31), (⟨"DotOutlinesModel", "dark", "()I"⟩, 31), (⟨"DotOutlinesModel", "isDot", "(II)Z"⟩, 31), (⟨"DotOutlinesModel", "notes", "()V"⟩, 31), (⟨"DotOutlinesModel", "tells", "(IIII)I"⟩, 31), (⟨"DotOutlinesModel", "isPicture", "()Z"⟩, 31), (⟨"DotOutlinesModel", "lays", "()V"⟩, 31), (⟨"DotOutlinesModel", "walks", "(II)V"⟩, 31), (⟨"DotOutlinesModel", "turns", "(III)I"⟩, 31), (⟨"DotOutlinesModel", "isBeside", "(IIII)Z"⟩, 31), (⟨"DotOutlinesModel", "isRest", "(II)Z"⟩, 31), (⟨"DotOutlinesModel", "isWithin", "(III)Z"⟩, 31), (⟨"DotOutlinesModel", "isBorder", "(I)Z"⟩, 31), (⟨"DotOutlinesModel", "bends", "(I)I"⟩, 31), (⟨"DotOutlinesModel", "isIn", "(III)Z"⟩, 31)]
theorem lw_r2 : ∀ q ∈ lw_privs_2, lw_okq q := List.forall_mem_cons.mpr ⟨lw_p16, List.forall_mem_cons.mpr ⟨lw_p17, List.forall_mem_cons.mpr ⟨lw_p18, List.forall_mem_cons.mpr ⟨lw_p19, List.forall_mem_cons.mpr ⟨lw_p20, List.forall_mem_cons.mpr ⟨lw_p21, List.forall_mem_cons.mpr ⟨lw_p22, List.forall_mem_cons.mpr ⟨lw_p23, List.forall_mem_cons.mpr ⟨lw_p24, List.forall_mem_cons.mpr ⟨lw_p25, List.forall_mem_cons.mpr ⟨lw_p26, List.forall_mem_cons.mpr ⟨lw_p27, List.forall_mem_cons.mpr ⟨lw_p28, List.forall_mem_cons.mpr ⟨lw_p29, List.forall_mem_cons.mpr ⟨lw_p30, List.forall_mem_cons.mpr ⟨lw_p31, fun _ h => absurd h List.not_mem_nil⟩⟩⟩⟩⟩⟩⟩⟩⟩⟩⟩⟩⟩⟩⟩⟩
theorem lw_p32 : lw_okq (⟨"DotOutlinesModel", "isStretch", "(III)Z"⟩, 31) := ⟨⟨by decide +kernel, by decide +kernel⟩, List.mem_of_getElem? (i := 756) (by decide +kernel), List.mem_of_getElem? (i := 1003) (by decide +kernel), List.mem_of_getElem? (i := 1004) (by decide +kernel)⟩
theorem lw_p33 : lw_okq (⟨"DotOutlinesModel", "offOf", "(III)I"⟩, 31) := ⟨⟨by decide +kernel, by decide +kernel⟩, List.mem_of_getElem? (i := 756) (by decide +kernel), List.mem_of_getElem? (i := 1007) (by decide +kernel), List.mem_of_getElem? (i := 1008) (by decide +kernel)⟩
theorem lw_p34 : lw_okq (⟨"DotOutlinesModel", "laysTable", "(I)V"⟩, 31) := ⟨⟨by decide +kernel, by decide +kernel⟩, List.mem_of_getElem? (i := 756) (by decide +kernel), List.mem_of_getElem? (i := 1027) (by decide +kernel), List.mem_of_getElem? (i := 1028) (by decide +kernel)⟩
theorem lw_p35 : lw_okq (⟨"DotOutlinesModel", "laysBest", "(I)V"⟩, 31) := ⟨⟨by decide +kernel, by decide +kernel⟩, List.mem_of_getElem? (i := 756) (by decide +kernel), List.mem_of_getElem? (i := 1031) (by decide +kernel), List.mem_of_getElem? (i := 1032) (by decide +kernel)⟩
theorem lw_p36 : lw_okq (⟨"DotOutlinesModel", "laysLeast", "(II)I"⟩, 31) := ⟨⟨by decide +kernel, by decide +kernel⟩, List.mem_of_getElem? (i := 756) (by decide +kernel), List.mem_of_getElem? (i := 1036) (by decide +kernel), List.mem_of_getElem? (i := 1037) (by decide +kernel)⟩
theorem lw_p37 : lw_okq (⟨"DotOutlinesModel", "stretch", "(III)I"⟩, 31) := ⟨⟨by decide +kernel, by decide +kernel⟩, List.mem_of_getElem? (i := 756) (by decide +kernel), List.mem_of_getElem? (i := 1040) (by decide +kernel), List.mem_of_getElem? (i := 1041) (by decide +kernel)⟩
theorem lw_p38 : lw_okq (⟨"DotOutlinesModel", "sharpMany", "(I)I"⟩, 31) := ⟨⟨by decide +kernel, by decide +kernel⟩, List.mem_of_getElem? (i := 756) (by decide +kernel), List.mem_of_getElem? (i := 1045) (by decide +kernel), List.mem_of_getElem? (i := 1046) (by decide +kernel)⟩
theorem lw_p39 : lw_okq (⟨"DotOutlinesModel", "isSharp", "(II)Z"⟩, 31) := ⟨⟨by decide +kernel, by decide +kernel⟩, List.mem_of_getElem? (i := 756) (by decide +kernel), List.mem_of_getElem? (i := 1049) (by decide +kernel), List.mem_of_getElem? (i := 1050) (by decide +kernel)⟩
theorem lw_p40 : lw_okq (⟨"DotOutlinesModel", "vx", "(II)I"⟩, 31) := ⟨⟨by decide +kernel, by decide +kernel⟩, List.mem_of_getElem? (i := 756) (by decide +kernel), List.mem_of_getElem? (i := 1053) (by decide +kernel), List.mem_of_getElem? (i := 1054) (by decide +kernel)⟩
theorem lw_p41 : lw_okq (⟨"DotOutlinesModel", "vy", "(II)I"⟩, 31) := ⟨⟨by decide +kernel, by decide +kernel⟩, List.mem_of_getElem? (i := 756) (by decide +kernel), List.mem_of_getElem? (i := 1057) (by decide +kernel), List.mem_of_getElem? (i := 1058) (by decide +kernel)⟩
theorem lw_p42 : lw_okq (⟨"DotOutlinesModel", "turnOf", "(II)I"⟩, 31) := ⟨⟨by decide +kernel, by decide +kernel⟩, List.mem_of_getElem? (i := 756) (by decide +kernel), List.mem_of_getElem? (i := 1061) (by decide +kernel), List.mem_of_getElem? (i := 1062) (by decide +kernel)⟩
theorem lw_p43 : lw_okq (⟨"DotOutlinesModel", "twice", "(I)I"⟩, 31) := ⟨⟨by decide +kernel, by decide +kernel⟩, List.mem_of_getElem? (i := 756) (by decide +kernel), List.mem_of_getElem? (i := 1068) (by decide +kernel), List.mem_of_getElem? (i := 1069) (by decide +kernel)⟩
theorem lw_p44 : lw_okq (⟨"DotOutlinesModel", "fewest", "(II)I"⟩, 31) := ⟨⟨by decide +kernel, by decide +kernel⟩, List.mem_of_getElem? (i := 756) (by decide +kernel), List.mem_of_getElem? (i := 1080) (by decide +kernel), List.mem_of_getElem? (i := 1081) (by decide +kernel)⟩
theorem lw_p45 : lw_okq (⟨"DotOutlinesModel", "pointOf", "(IIII)I"⟩, 31) := ⟨⟨by decide +kernel, by decide +kernel⟩, List.mem_of_getElem? (i := 756) (by decide +kernel), List.mem_of_getElem? (i := 1088) (by decide +kernel), List.mem_of_getElem? (i := 1089) (by decide +kernel)⟩
theorem lw_p46 : lw_okq (⟨"DotOutlinesModel", "laysLine", "(II)V"⟩, 31) := ⟨⟨by decide +kernel, by decide +kernel⟩, List.mem_of_getElem? (i := 756) (by decide +kernel), List.mem_of_getElem? (i := 1096) (by decide +kernel), List.mem_of_getElem? (i := 1097) (by decide +kernel)⟩
theorem lw_p47 : lw_okq (⟨"DotOutlinesModel", "adds", "(II)V"⟩, 31) := ⟨⟨by decide +kernel, by decide +kernel⟩, List.mem_of_getElem? (i := 756) (by decide +kernel), List.mem_of_getElem? (i := 1100) (by decide +kernel), List.mem_of_getElem? (i := 1101) (by decide +kernel)⟩
def lw_privs_3 : List (MethodName × Nat) := [(⟨"DotOutlinesModel", "isStretch", "(III)Z"⟩, 31), (⟨"DotOutlinesModel", "offOf", "(III)I"⟩, 31), (⟨"DotOutlinesModel", "laysTable", "(I)V"⟩, 31), (⟨"DotOutlinesModel", "laysBest", "(I)V"⟩, 31), (⟨"DotOutlinesModel", "laysLeast", "(II)I"⟩, 31), (⟨"DotOutlinesModel", "stretch", "(III)I"⟩, 31), (⟨"DotOutlinesModel", "sharpMany", "(I)I"⟩, 31), (⟨"DotOutlinesModel", "isSharp", "(II)Z"⟩, 31), (⟨"DotOutlinesModel", "vx", "(II)I"⟩, 31), (⟨"DotOutlinesModel", "vy", "(II)I"⟩, 31), (⟨"DotOutlinesModel", "turnOf", "(II)I"⟩, 31), (⟨"DotOutlinesModel", "twice", "(I)I"⟩, 31), (⟨"DotOutlinesModel", "fewest", "(II)I"⟩, 31), (⟨"DotOutlinesModel", "pointOf", "(IIII)I"⟩, 31), (⟨"DotOutlinesModel", "laysLine", "(II)V"⟩, 31), (⟨"DotOutlinesModel", "adds", "(II)V"⟩, 31)]
theorem lw_r3 : ∀ q ∈ lw_privs_3, lw_okq q := List.forall_mem_cons.mpr ⟨lw_p32, List.forall_mem_cons.mpr ⟨lw_p33, List.forall_mem_cons.mpr ⟨lw_p34, List.forall_mem_cons.mpr ⟨lw_p35, List.forall_mem_cons.mpr ⟨lw_p36, List.forall_mem_cons.mpr ⟨lw_p37, List.forall_mem_cons.mpr ⟨lw_p38, List.forall_mem_cons.mpr ⟨lw_p39, List.forall_mem_cons.mpr ⟨lw_p40, List.forall_mem_cons.mpr ⟨lw_p41, List.forall_mem_cons.mpr ⟨lw_p42, List.forall_mem_cons.mpr ⟨lw_p43, List.forall_mem_cons.mpr ⟨lw_p44, List.forall_mem_cons.mpr ⟨lw_p45, List.forall_mem_cons.mpr ⟨lw_p46, List.forall_mem_cons.mpr ⟨lw_p47, fun _ h => absurd h List.not_mem_nil⟩⟩⟩⟩⟩⟩⟩⟩⟩⟩⟩⟩⟩⟩⟩⟩
theorem lw_p48 : lw_okq (⟨"DotOutlinesModel", "isFilled", "(II)Z"⟩, 31) := ⟨⟨by decide +kernel, by decide +kernel⟩, List.mem_of_getElem? (i := 756) (by decide +kernel), List.mem_of_getElem? (i := 1104) (by decide +kernel), List.mem_of_getElem? (i := 1105) (by decide +kernel)⟩
def lw_privs_4 : List (MethodName × Nat) := [(⟨"DotOutlinesModel", "isFilled", "(II)Z"⟩, 31)]
theorem lw_r4 : ∀ q ∈ lw_privs_4, lw_okq q := List.forall_mem_cons.mpr ⟨lw_p48, fun _ h => absurd h List.not_mem_nil⟩
def lw_privs : List (MethodName × Nat) := lw_privs_1 ++ (lw_privs_2 ++ (lw_privs_3 ++ (lw_privs_4)))
def lw_tbl : List Cond := k2_sels lw_privs ++ tables_1
theorem lw_privs_ok : ∀ q ∈ lw_privs, lw_okq q := by
  show ∀ q ∈ lw_privs_1 ++ (lw_privs_2 ++ (lw_privs_3 ++ (lw_privs_4))), lw_okq q
  exact List.forall_mem_append.mpr ⟨lw_r1, List.forall_mem_append.mpr ⟨lw_r2, List.forall_mem_append.mpr ⟨lw_r3, lw_r4⟩⟩⟩
-- ===== end of PART A; then your names; then what follows =====
/-! ===== BEGIN printed: names, fields, word lists, decode rows ===== -/
def RX0 : String := "DotOutlines$Acts"
def TX0 : u_T := fun k => match k with
  | 0 => ("DotOutlines$Acts", "dots", "[J", true)
  | 1 => ("DotOutlines$Acts", "joinings", "[I", true)
  | 2 => ("DotOutlines$Acts", "sharpnesses", "[I", true)
  | _ => ("DotOutlines$Acts", "size", "I", false)
def tyX0 : Nat → FieldType := fun k => match k with
  | 0 => .array .long
  | 1 => .array .int
  | 2 => .array .int
  | _ => .int
abbrev wsX00 : List Cond := u_ws RX0 TX0 4
theorem nmX0 : ∀ a, a < 4 → ∀ b, b < 4 → a ≠ b → (TX0 a).2.1 ≠ (TX0 b).2.1 := by decide +kernel
theorem tyX0_ok : ∀ k, k < 4 → parseFieldDescriptor (TX0 k).2.2.1 = some (tyX0 k) := by decide +kernel
abbrev cX0_init : ByteArray := prog_2_method_1_code
def yX0_init : MethodName := ⟨RX0, "<init>", "()V"⟩
abbrev cX0_remember : ByteArray := prog_2_method_2_code
def yX0_remember : MethodName := ⟨RX0, "remember", "(LDotOutlines$Picture;)V"⟩
abbrev cX0_forgetOldest : ByteArray := prog_2_method_3_code
def yX0_forgetOldest : MethodName := ⟨RX0, "forgetOldest", "()V"⟩
abbrev cX0_takeBack : ByteArray := prog_2_method_4_code
def yX0_takeBack : MethodName := ⟨RX0, "takeBack", "(LDotOutlines$Picture;)Z"⟩
def RX1 : String := "DotOutlines$Bend"
def TX1 : u_T := fun k => match k with
  | 0 => ("DotOutlines$Bend", "ux", "I", false)
  | 1 => ("DotOutlines$Bend", "uy", "I", false)
  | 2 => ("DotOutlines$Bend", "vx", "I", false)
  | 3 => ("DotOutlines$Bend", "vy", "I", false)
  | 4 => ("DotOutlines$Bend", "wx", "I", false)
  | _ => ("DotOutlines$Bend", "wy", "I", false)
def tyX1 : Nat → FieldType := fun k => match k with
  | 0 => .int
  | 1 => .int
  | 2 => .int
  | 3 => .int
  | 4 => .int
  | _ => .int
abbrev wsX10 : List Cond := u_ws RX1 TX1 6
theorem nmX1 : ∀ a, a < 6 → ∀ b, b < 6 → a ≠ b → (TX1 a).2.1 ≠ (TX1 b).2.1 := by decide +kernel
theorem tyX1_ok : ∀ k, k < 6 → parseFieldDescriptor (TX1 k).2.2.1 = some (tyX1 k) := by decide +kernel
abbrev cX1_init : ByteArray := prog_3_method_1_code
def yX1_init : MethodName := ⟨RX1, "<init>", "()V"⟩
abbrev cX1_from : ByteArray := prog_3_method_2_code
def yX1_from : MethodName := ⟨RX1, "from", "(II)V"⟩
abbrev cX1_by : ByteArray := prog_3_method_3_code
def yX1_by : MethodName := ⟨RX1, "by", "(II)V"⟩
abbrev cX1_to : ByteArray := prog_3_method_4_code
def yX1_to : MethodName := ⟨RX1, "to", "(II)V"⟩
abbrev cX1_turn : ByteArray := prog_3_method_5_code
def yX1_turn : MethodName := ⟨RX1, "turn", "()I"⟩
abbrev cX1_isSharp : ByteArray := prog_3_method_6_code
def yX1_isSharp : MethodName := ⟨RX1, "isSharp", "(I)Z"⟩
abbrev cX1_greater : ByteArray := prog_3_method_7_code
def yX1_greater : MethodName := ⟨RX1, "greater", "(II)I"⟩
abbrev cX1_xOnRound : ByteArray := prog_3_method_8_code
def yX1_xOnRound : MethodName := ⟨RX1, "xOnRound", "(I)I"⟩
abbrev cX1_yOnRound : ByteArray := prog_3_method_9_code
def yX1_yOnRound : MethodName := ⟨RX1, "yOnRound", "(I)I"⟩
abbrev cX1_xOfVertex : ByteArray := prog_3_method_10_code
def yX1_xOfVertex : MethodName := ⟨RX1, "xOfVertex", "()I"⟩
abbrev cX1_yOfVertex : ByteArray := prog_3_method_11_code
def yX1_yOfVertex : MethodName := ⟨RX1, "yOfVertex", "()I"⟩
abbrev cX1_xOfNext : ByteArray := prog_3_method_12_code
def yX1_xOfNext : MethodName := ⟨RX1, "xOfNext", "()I"⟩
abbrev cX1_yOfNext : ByteArray := prog_3_method_13_code
def yX1_yOfNext : MethodName := ⟨RX1, "yOfNext", "()I"⟩
abbrev cX1_onRound : ByteArray := prog_3_method_14_code
def yX1_onRound : MethodName := ⟨RX1, "onRound", "(IIII)I"⟩
def RX2 : String := "DotOutlines$Border"
def TX2 : u_T := fun k => match k with
  | 0 => ("DotOutlines$Border", "start", "I", false)
  | 1 => ("DotOutlines$Border", "length", "I", false)
  | 2 => ("DotOutlines$Border", "first", "I", false)
  | 3 => ("DotOutlines$Border", "within", "J", false)
  | 4 => ("DotOutlines$Border", "measured", "Z", false)
  | 5 => ("DotOutlines$Border", "vertices", "I", false)
  | _ => ("DotOutlines$Border", "bestOff", "I", false)
def tyX2 : Nat → FieldType := fun k => match k with
  | 0 => .int
  | 1 => .int
  | 2 => .int
  | 3 => .long
  | 4 => .boolean
  | 5 => .int
  | _ => .int
abbrev wsX20 : List Cond := u_ws RX2 TX2 7
theorem nmX2 : ∀ a, a < 7 → ∀ b, b < 7 → a ≠ b → (TX2 a).2.1 ≠ (TX2 b).2.1 := by decide +kernel
theorem tyX2_ok : ∀ k, k < 7 → parseFieldDescriptor (TX2 k).2.2.1 = some (tyX2 k) := by decide +kernel
abbrev cX2_init : ByteArray := prog_4_method_1_code
def yX2_init : MethodName := ⟨RX2, "<init>", "()V"⟩
abbrev cX2_begin : ByteArray := prog_4_method_2_code
def yX2_begin : MethodName := ⟨RX2, "begin", "(II)V"⟩
abbrev cX2_hasCorner : ByteArray := prog_4_method_3_code
def yX2_hasCorner : MethodName := ⟨RX2, "hasCorner", "(I)Z"⟩
abbrev cX2_hasVertex : ByteArray := prog_4_method_4_code
def yX2_hasVertex : MethodName := ⟨RX2, "hasVertex", "(I)Z"⟩
abbrev cX2_hasStretch : ByteArray := prog_4_method_5_code
def yX2_hasStretch : MethodName := ⟨RX2, "hasStretch", "(II)Z"⟩
abbrev cX2_place : ByteArray := prog_4_method_6_code
def yX2_place : MethodName := ⟨RX2, "place", "(I)I"⟩
def RX3 : String := "DotOutlines$Borders"
def TX3 : u_T := fun k => match k with
  | 0 => ("DotOutlines$Borders", "xs", "[I", true)
  | 1 => ("DotOutlines$Borders", "ys", "[I", true)
  | 2 => ("DotOutlines$Borders", "ways", "[I", true)
  | 3 => ("DotOutlines$Borders", "known", "[LDotOutlines$Border;", true)
  | 4 => ("DotOutlines$Borders", "walked", "Z", false)
  | 5 => ("DotOutlines$Borders", "dots", "J", false)
  | 6 => ("DotOutlines$Borders", "joining", "I", false)
  | _ => ("DotOutlines$Borders", "size", "I", false)
def tyX3 : Nat → FieldType := fun k => match k with
  | 0 => .array .int
  | 1 => .array .int
  | 2 => .array .int
  | 3 => .array (.object "DotOutlines$Border")
  | 4 => .boolean
  | 5 => .long
  | 6 => .int
  | _ => .int
abbrev wsX30 : List Cond := u_ws RX3 TX3 8
theorem nmX3 : ∀ a, a < 8 → ∀ b, b < 8 → a ≠ b → (TX3 a).2.1 ≠ (TX3 b).2.1 := by decide +kernel
theorem tyX3_ok : ∀ k, k < 8 → parseFieldDescriptor (TX3 k).2.2.1 = some (tyX3 k) := by decide +kernel
abbrev cX3_init : ByteArray := prog_5_method_1_code
def yX3_init : MethodName := ⟨RX3, "<init>", "()V"⟩
abbrev cX3_at : ByteArray := prog_5_method_2_code
def yX3_at : MethodName := ⟨RX3, "at", "(I)LDotOutlines$Border;"⟩
abbrev cX3_xAt : ByteArray := prog_5_method_3_code
def yX3_xAt : MethodName := ⟨RX3, "xAt", "(LDotOutlines$Border;I)I"⟩
abbrev cX3_yAt : ByteArray := prog_5_method_4_code
def yX3_yAt : MethodName := ⟨RX3, "yAt", "(LDotOutlines$Border;I)I"⟩
abbrev cX3_wayAt : ByteArray := prog_5_method_5_code
def yX3_wayAt : MethodName := ⟨RX3, "wayAt", "(LDotOutlines$Border;I)I"⟩
abbrev cX3_turningSteps : ByteArray := prog_5_method_6_code
def yX3_turningSteps : MethodName := ⟨RX3, "turningSteps", "(LDotOutlines$Border;)I"⟩
abbrev cX3_follow : ByteArray := prog_5_method_7_code
def yX3_follow : MethodName := ⟨RX3, "follow", "(JI)V"⟩
abbrev cX3_nextBorder : ByteArray := prog_5_method_8_code
def yX3_nextBorder : MethodName := ⟨RX3, "nextBorder", "()LDotOutlines$Border;"⟩
abbrev cX3_walk : ByteArray := prog_5_method_9_code
def yX3_walk : MethodName := ⟨RX3, "walk", "(LDotOutlines$Border;J)V"⟩
abbrev cX3_dotsRightOf : ByteArray := prog_5_method_10_code
def yX3_dotsRightOf : MethodName := ⟨RX3, "dotsRightOf", "(III)J"⟩
abbrev cX3_dotAhead : ByteArray := prog_5_method_11_code
def yX3_dotAhead : MethodName := ⟨RX3, "dotAhead", "(III)J"⟩
abbrev cX3_nextWay : ByteArray := prog_5_method_12_code
def yX3_nextWay : MethodName := ⟨RX3, "nextWay", "(IZZ)I"⟩
def RX4 : String := "DotOutlines$Filling"
def TX4 : u_T := fun k => match k with
  | _ => ("DotOutlines$Filling", "polygons", "LDotOutlines$Polygons;", true)
def tyX4 : Nat → FieldType := fun k => match k with
  | _ => .object "DotOutlines$Polygons"
abbrev wsX40 : List Cond := u_ws RX4 TX4 1
theorem nmX4 : ∀ a, a < 1 → ∀ b, b < 1 → a ≠ b → (TX4 a).2.1 ≠ (TX4 b).2.1 := by decide +kernel
theorem tyX4_ok : ∀ k, k < 1 → parseFieldDescriptor (TX4 k).2.2.1 = some (tyX4 k) := by decide +kernel
abbrev cX4_init : ByteArray := prog_6_method_1_code
def yX4_init : MethodName := ⟨RX4, "<init>", "(LDotOutlines$Polygons;)V"⟩
abbrev cX4_by : ByteArray := prog_6_method_2_code
def yX4_by : MethodName := ⟨RX4, "by", "(LDotOutlines$Border;II)J"⟩
abbrev cX4_rightOfSharp : ByteArray := prog_6_method_3_code
def yX4_rightOfSharp : MethodName := ⟨RX4, "rightOfSharp", "(LDotOutlines$Bend;)J"⟩
abbrev cX4_rightOfRound : ByteArray := prog_6_method_4_code
def yX4_rightOfRound : MethodName := ⟨RX4, "rightOfRound", "(LDotOutlines$Bend;)J"⟩
abbrev cX4_rightOf : ByteArray := prog_6_method_5_code
def yX4_rightOf : MethodName := ⟨RX4, "rightOf", "(IIII)J"⟩
abbrev cX4_rightOfFalling : ByteArray := prog_6_method_6_code
def yX4_rightOfFalling : MethodName := ⟨RX4, "rightOfFalling", "(IIII)J"⟩
abbrev cX4_firstColumnRightOf : ByteArray := prog_6_method_7_code
def yX4_firstColumnRightOf : MethodName := ⟨RX4, "firstColumnRightOf", "(IIIII)I"⟩
def RX5 : String := "DotOutlines$Grid"
def TX5 : u_T := fun k => match k with
  | _ => ("", "", "", false)
def tyX5 : Nat → FieldType := fun k => match k with
  | _ => .int
abbrev wsX50 : List Cond := u_ws RX5 TX5 0
theorem nmX5 : ∀ a, a < 0 → ∀ b, b < 0 → a ≠ b → (TX5 a).2.1 ≠ (TX5 b).2.1 := by decide +kernel
theorem tyX5_ok : ∀ k, k < 0 → parseFieldDescriptor (TX5 k).2.2.1 = some (tyX5 k) := by decide +kernel
abbrev cX5_columnOf : ByteArray := prog_7_method_2_code
def yX5_columnOf : MethodName := ⟨RX5, "columnOf", "(I)I"⟩
abbrev cX5_rowOf : ByteArray := prog_7_method_3_code
def yX5_rowOf : MethodName := ⟨RX5, "rowOf", "(I)I"⟩
abbrev cX5_bit : ByteArray := prog_7_method_4_code
def yX5_bit : MethodName := ⟨RX5, "bit", "(II)J"⟩
abbrev cX5_rowFrom : ByteArray := prog_7_method_5_code
def yX5_rowFrom : MethodName := ⟨RX5, "rowFrom", "(II)J"⟩
abbrev cX5_block : ByteArray := prog_7_method_6_code
def yX5_block : MethodName := ⟨RX5, "block", "(IIII)J"⟩
def RX6 : String := "DotOutlines$Picture"
def TX6 : u_T := fun k => match k with
  | 0 => ("DotOutlines$Picture", "width", "I", false)
  | 1 => ("DotOutlines$Picture", "height", "I", false)
  | 2 => ("DotOutlines$Picture", "dots", "J", false)
  | 3 => ("DotOutlines$Picture", "joining", "I", false)
  | _ => ("DotOutlines$Picture", "sharpness", "I", false)
def tyX6 : Nat → FieldType := fun k => match k with
  | 0 => .int
  | 1 => .int
  | 2 => .long
  | 3 => .int
  | _ => .int
abbrev wsX60 : List Cond := u_ws RX6 TX6 5
theorem nmX6 : ∀ a, a < 5 → ∀ b, b < 5 → a ≠ b → (TX6 a).2.1 ≠ (TX6 b).2.1 := by decide +kernel
theorem tyX6_ok : ∀ k, k < 5 → parseFieldDescriptor (TX6 k).2.2.1 = some (tyX6 k) := by decide +kernel
abbrev cX6_init : ByteArray := prog_8_method_1_code
def yX6_init : MethodName := ⟨RX6, "<init>", "()V"⟩
abbrev cX6_isThere : ByteArray := prog_8_method_2_code
def yX6_isThere : MethodName := ⟨RX6, "isThere", "()Z"⟩
abbrev cX6_has : ByteArray := prog_8_method_3_code
def yX6_has : MethodName := ⟨RX6, "has", "(II)Z"⟩
abbrev cX6_isDark : ByteArray := prog_8_method_4_code
def yX6_isDark : MethodName := ⟨RX6, "isDark", "(II)Z"⟩
abbrev cX6_darkDots : ByteArray := prog_8_method_5_code
def yX6_darkDots : MethodName := ⟨RX6, "darkDots", "()I"⟩
abbrev cX6_lay : ByteArray := prog_8_method_6_code
def yX6_lay : MethodName := ⟨RX6, "lay", "(JI)V"⟩
abbrev cX6_becomeLike : ByteArray := prog_8_method_7_code
def yX6_becomeLike : MethodName := ⟨RX6, "becomeLike", "(LDotOutlines$Picture;)V"⟩
def RX7 : String := "DotOutlines$Polygons"
def TX7 : u_T := fun k => match k with
  | 0 => ("DotOutlines$Polygons", "borders", "LDotOutlines$Borders;", true)
  | 1 => ("DotOutlines$Polygons", "stretches", "LDotOutlines$Stretches;", true)
  | 2 => ("DotOutlines$Polygons", "bend", "LDotOutlines$Bend;", true)
  | 3 => ("DotOutlines$Polygons", "corners", "[I", true)
  | _ => ("DotOutlines$Polygons", "costs", "[I", true)
def tyX7 : Nat → FieldType := fun k => match k with
  | 0 => .object "DotOutlines$Borders"
  | 1 => .object "DotOutlines$Stretches"
  | 2 => .object "DotOutlines$Bend"
  | 3 => .array .int
  | _ => .array .int
abbrev wsX70 : List Cond := u_ws RX7 TX7 5
theorem nmX7 : ∀ a, a < 5 → ∀ b, b < 5 → a ≠ b → (TX7 a).2.1 ≠ (TX7 b).2.1 := by decide +kernel
theorem tyX7_ok : ∀ k, k < 5 → parseFieldDescriptor (TX7 k).2.2.1 = some (tyX7 k) := by decide +kernel
abbrev cX7_init : ByteArray := prog_9_method_1_code
def yX7_init : MethodName := ⟨RX7, "<init>", "(LDotOutlines$Borders;LDotOutlines$Stretches;)V"⟩
abbrev cX7_fewestThrough : ByteArray := prog_9_method_2_code
def yX7_fewestThrough : MethodName := ⟨RX7, "fewestThrough", "(LDotOutlines$Border;I)I"⟩
abbrev cX7_cornerOfVertex : ByteArray := prog_9_method_3_code
def yX7_cornerOfVertex : MethodName := ⟨RX7, "cornerOfVertex", "(LDotOutlines$Border;I)I"⟩
abbrev cX7_bendAt : ByteArray := prog_9_method_4_code
def yX7_bendAt : MethodName := ⟨RX7, "bendAt", "(LDotOutlines$Border;I)LDotOutlines$Bend;"⟩
abbrev cX7_sharpVertices : ByteArray := prog_9_method_5_code
def yX7_sharpVertices : MethodName := ⟨RX7, "sharpVertices", "(LDotOutlines$Border;I)I"⟩
abbrev cX7_twiceTheArea : ByteArray := prog_9_method_6_code
def yX7_twiceTheArea : MethodName := ⟨RX7, "twiceTheArea", "(LDotOutlines$Border;)I"⟩
abbrev cX7_seek : ByteArray := prog_9_method_7_code
def yX7_seek : MethodName := ⟨RX7, "seek", "(LDotOutlines$Border;)V"⟩
abbrev cX7_costOfRound : ByteArray := prog_9_method_8_code
def yX7_costOfRound : MethodName := ⟨RX7, "costOfRound", "(LDotOutlines$Border;I)I"⟩
abbrev cX7_writeVertices : ByteArray := prog_9_method_9_code
def yX7_writeVertices : MethodName := ⟨RX7, "writeVertices", "(LDotOutlines$Border;I)V"⟩
abbrev cX7_nearestStep : ByteArray := prog_9_method_10_code
def yX7_nearestStep : MethodName := ⟨RX7, "nearestStep", "(LDotOutlines$Border;III)I"⟩
def RX8 : String := "DotOutlines$Reading"
def TX8 : u_T := fun k => match k with
  | 0 => ("DotOutlines$Reading", "width", "I", false)
  | 1 => ("DotOutlines$Reading", "height", "I", false)
  | 2 => ("DotOutlines$Reading", "dots", "J", false)
  | _ => ("DotOutlines$Reading", "place", "I", false)
def tyX8 : Nat → FieldType := fun k => match k with
  | 0 => .int
  | 1 => .int
  | 2 => .long
  | _ => .int
abbrev wsX80 : List Cond := u_ws RX8 TX8 4
theorem nmX8 : ∀ a, a < 4 → ∀ b, b < 4 → a ≠ b → (TX8 a).2.1 ≠ (TX8 b).2.1 := by decide +kernel
theorem tyX8_ok : ∀ k, k < 4 → parseFieldDescriptor (TX8 k).2.2.1 = some (tyX8 k) := by decide +kernel
abbrev cX8_init : ByteArray := prog_10_method_1_code
def yX8_init : MethodName := ⟨RX8, "<init>", "()V"⟩
abbrev cX8_read : ByteArray := prog_10_method_2_code
def yX8_read : MethodName := ⟨RX8, "read", "(LDotOutlines$Tape;)I"⟩
abbrev cX8_faultInHead : ByteArray := prog_10_method_3_code
def yX8_faultInHead : MethodName := ⟨RX8, "faultInHead", "(II)I"⟩
abbrev cX8_faultInRows : ByteArray := prog_10_method_4_code
def yX8_faultInRows : MethodName := ⟨RX8, "faultInRows", "(II)I"⟩
def RX9 : String := "DotOutlines$Stretches"
def TX9 : u_T := fun k => match k with
  | 0 => ("DotOutlines$Stretches", "borders", "LDotOutlines$Borders;", true)
  | 1 => ("DotOutlines$Stretches", "offs", "[I", true)
  | _ => ("DotOutlines$Stretches", "reaches", "[I", true)
def tyX9 : Nat → FieldType := fun k => match k with
  | 0 => .object "DotOutlines$Borders"
  | 1 => .array .int
  | _ => .array .int
abbrev wsX90 : List Cond := u_ws RX9 TX9 3
theorem nmX9 : ∀ a, a < 3 → ∀ b, b < 3 → a ≠ b → (TX9 a).2.1 ≠ (TX9 b).2.1 := by decide +kernel
theorem tyX9_ok : ∀ k, k < 3 → parseFieldDescriptor (TX9 k).2.2.1 = some (tyX9 k) := by decide +kernel
abbrev cX9_init : ByteArray := prog_11_method_1_code
def yX9_init : MethodName := ⟨RX9, "<init>", "(LDotOutlines$Borders;)V"⟩
abbrev cX9_offOf : ByteArray := prog_11_method_2_code
def yX9_offOf : MethodName := ⟨RX9, "offOf", "(LDotOutlines$Border;II)I"⟩
abbrev cX9_longestFrom : ByteArray := prog_11_method_3_code
def yX9_longestFrom : MethodName := ⟨RX9, "longestFrom", "(LDotOutlines$Border;I)I"⟩
abbrev cX9_measure : ByteArray := prog_11_method_4_code
def yX9_measure : MethodName := ⟨RX9, "measure", "(LDotOutlines$Border;)V"⟩
abbrev cX9_reachAt : ByteArray := prog_11_method_5_code
def yX9_reachAt : MethodName := ⟨RX9, "reachAt", "(I)I"⟩
abbrev cX9_offAt : ByteArray := prog_11_method_6_code
def yX9_offAt : MethodName := ⟨RX9, "offAt", "(II)I"⟩
def RX10 : String := "DotOutlines$Tape"
def TX10 : u_T := fun k => match k with
  | 0 => ("DotOutlines$Tape", "letters", "[I", true)
  | _ => ("DotOutlines$Tape", "length", "I", false)
def tyX10 : Nat → FieldType := fun k => match k with
  | 0 => .array .int
  | _ => .int
abbrev wsX100 : List Cond := u_ws RX10 TX10 2
theorem nmX10 : ∀ a, a < 2 → ∀ b, b < 2 → a ≠ b → (TX10 a).2.1 ≠ (TX10 b).2.1 := by decide +kernel
theorem tyX10_ok : ∀ k, k < 2 → parseFieldDescriptor (TX10 k).2.2.1 = some (tyX10 k) := by decide +kernel
abbrev cX10_init : ByteArray := prog_12_method_1_code
def yX10_init : MethodName := ⟨RX10, "<init>", "()V"⟩
abbrev cX10_add : ByteArray := prog_12_method_2_code
def yX10_add : MethodName := ⟨RX10, "add", "(I)Z"⟩
abbrev cX10_letterAt : ByteArray := prog_12_method_3_code
def yX10_letterAt : MethodName := ⟨RX10, "letterAt", "(I)I"⟩
def RX11 : String := "DotOutlines"
def TX11 : u_T := fun k => match k with
  | 0 => ("DotOutlines", "tape", "LDotOutlines$Tape;", true)
  | 1 => ("DotOutlines", "reading", "LDotOutlines$Reading;", true)
  | 2 => ("DotOutlines", "now", "LDotOutlines$Picture;", true)
  | 3 => ("DotOutlines", "imageZero", "LDotOutlines$Picture;", true)
  | 4 => ("DotOutlines", "imageOne", "LDotOutlines$Picture;", true)
  | 5 => ("DotOutlines", "acts", "LDotOutlines$Acts;", true)
  | 6 => ("DotOutlines", "found", "LDotOutlines$Borders;", true)
  | 7 => ("DotOutlines", "stretches", "LDotOutlines$Stretches;", true)
  | 8 => ("DotOutlines", "polygons", "LDotOutlines$Polygons;", true)
  | 9 => ("DotOutlines", "filling", "LDotOutlines$Filling;", true)
  | _ => ("DotOutlines", "latestFault", "I", false)
def tyX11 : Nat → FieldType := fun k => match k with
  | 0 => .object "DotOutlines$Tape"
  | 1 => .object "DotOutlines$Reading"
  | 2 => .object "DotOutlines$Picture"
  | 3 => .object "DotOutlines$Picture"
  | 4 => .object "DotOutlines$Picture"
  | 5 => .object "DotOutlines$Acts"
  | 6 => .object "DotOutlines$Borders"
  | 7 => .object "DotOutlines$Stretches"
  | 8 => .object "DotOutlines$Polygons"
  | 9 => .object "DotOutlines$Filling"
  | _ => .int
abbrev wsX110 : List Cond := u_ws RX11 TX11 11
theorem nmX11 : ∀ a, a < 11 → ∀ b, b < 11 → a ≠ b → (TX11 a).2.1 ≠ (TX11 b).2.1 := by decide +kernel
theorem tyX11_ok : ∀ k, k < 11 → parseFieldDescriptor (TX11 k).2.2.1 = some (tyX11 k) := by decide +kernel
abbrev cX11_init : ByteArray := prog_1_method_1_code
def yX11_init : MethodName := ⟨RX11, "<init>", "()V"⟩
abbrev cX11_feed : ByteArray := prog_1_method_2_code
def yX11_feed : MethodName := ⟨RX11, "feed", "(I)I"⟩
abbrev cX11_picture : ByteArray := prog_1_method_3_code
def yX11_picture : MethodName := ⟨RX11, "picture", "()I"⟩
abbrev cX11_fault : ByteArray := prog_1_method_4_code
def yX11_fault : MethodName := ⟨RX11, "fault", "()I"⟩
abbrev cX11_undo : ByteArray := prog_1_method_5_code
def yX11_undo : MethodName := ⟨RX11, "undo", "()I"⟩
abbrev cX11_flip : ByteArray := prog_1_method_6_code
def yX11_flip : MethodName := ⟨RX11, "flip", "(II)I"⟩
abbrev cX11_frame : ByteArray := prog_1_method_7_code
def yX11_frame : MethodName := ⟨RX11, "frame", "(IIIII)I"⟩
abbrev cX11_joined : ByteArray := prog_1_method_8_code
def yX11_joined : MethodName := ⟨RX11, "joined", "(I)I"⟩
abbrev cX11_sharp : ByteArray := prog_1_method_9_code
def yX11_sharp : MethodName := ⟨RX11, "sharp", "(I)I"⟩
abbrev cX11_dot : ByteArray := prog_1_method_10_code
def yX11_dot : MethodName := ⟨RX11, "dot", "(II)I"⟩
abbrev cX11_borders : ByteArray := prog_1_method_11_code
def yX11_borders : MethodName := ⟨RX11, "borders", "()I"⟩
abbrev cX11_border : ByteArray := prog_1_method_12_code
def yX11_border : MethodName := ⟨RX11, "border", "(II)I"⟩
abbrev cX11_corner : ByteArray := prog_1_method_13_code
def yX11_corner : MethodName := ⟨RX11, "corner", "(III)I"⟩
abbrev cX11_inside : ByteArray := prog_1_method_14_code
def yX11_inside : MethodName := ⟨RX11, "inside", "(III)I"⟩
abbrev cX11_straight : ByteArray := prog_1_method_15_code
def yX11_straight : MethodName := ⟨RX11, "straight", "(III)I"⟩
abbrev cX11_off : ByteArray := prog_1_method_16_code
def yX11_off : MethodName := ⟨RX11, "off", "(III)I"⟩
abbrev cX11_longest : ByteArray := prog_1_method_17_code
def yX11_longest : MethodName := ⟨RX11, "longest", "(II)I"⟩
abbrev cX11_best : ByteArray := prog_1_method_18_code
def yX11_best : MethodName := ⟨RX11, "best", "(II)I"⟩
abbrev cX11_vertex : ByteArray := prog_1_method_19_code
def yX11_vertex : MethodName := ⟨RX11, "vertex", "(III)I"⟩
abbrev cX11_past : ByteArray := prog_1_method_20_code
def yX11_past : MethodName := ⟨RX11, "past", "(II)I"⟩
abbrev cX11_point : ByteArray := prog_1_method_21_code
def yX11_point : MethodName := ⟨RX11, "point", "(IIII)I"⟩
abbrev cX11_filled : ByteArray := prog_1_method_22_code
def yX11_filled : MethodName := ⟨RX11, "filled", "(IIII)I"⟩
abbrev cX11_differ : ByteArray := prog_1_method_23_code
def yX11_differ : MethodName := ⟨RX11, "differ", "(II)I"⟩
abbrev cX11_wrong : ByteArray := prog_1_method_24_code
def yX11_wrong : MethodName := ⟨RX11, "wrong", "(I)I"⟩
abbrev cX11_all : ByteArray := prog_1_method_25_code
def yX11_all : MethodName := ⟨RX11, "all", "(I)I"⟩
abbrev cX11_image : ByteArray := prog_1_method_26_code
def yX11_image : MethodName := ⟨RX11, "image", "(I)I"⟩
abbrev cX11_restore : ByteArray := prog_1_method_27_code
def yX11_restore : MethodName := ⟨RX11, "restore", "(I)I"⟩
abbrev cX11_count : ByteArray := prog_1_method_28_code
def yX11_count : MethodName := ⟨RX11, "count", "(I)I"⟩
abbrev cX11_walkedBorders : ByteArray := prog_1_method_29_code
def yX11_walkedBorders : MethodName := ⟨RX11, "walkedBorders", "()I"⟩
abbrev cX11_borderNumber : ByteArray := prog_1_method_30_code
def yX11_borderNumber : MethodName := ⟨RX11, "borderNumber", "(I)LDotOutlines$Border;"⟩
abbrev cX11_shapedBorder : ByteArray := prog_1_method_31_code
def yX11_shapedBorder : MethodName := ⟨RX11, "shapedBorder", "(I)LDotOutlines$Border;"⟩
abbrev cX11_imageNumber : ByteArray := prog_1_method_32_code
def yX11_imageNumber : MethodName := ⟨RX11, "imageNumber", "(I)LDotOutlines$Picture;"⟩
abbrev cX11_sizeOf : ByteArray := prog_1_method_33_code
def yX11_sizeOf : MethodName := ⟨RX11, "sizeOf", "(LDotOutlines$Border;I)I"⟩
def RX12 : String := "DotOutlinesModel"
def TX12 : u_T := fun k => match k with
  | 0 => ("DotOutlinesModel", "st", "[I", true)
  | 1 => ("DotOutlinesModel", "past", "[I", true)
  | 2 => ("DotOutlinesModel", "acts", "I", false)
  | 3 => ("DotOutlinesModel", "images", "[I", true)
  | 4 => ("DotOutlinesModel", "isImage", "[I", true)
  | 5 => ("DotOutlinesModel", "tape", "[I", true)
  | 6 => ("DotOutlinesModel", "bytes", "I", false)
  | 7 => ("DotOutlinesModel", "latest", "I", false)
  | 8 => ("DotOutlinesModel", "read", "[I", true)
  | 9 => ("DotOutlinesModel", "readAt", "I", false)
  | 10 => ("DotOutlinesModel", "isLaid", "Z", false)
  | 11 => ("DotOutlinesModel", "many", "I", false)
  | 12 => ("DotOutlinesModel", "from", "[I", true)
  | 13 => ("DotOutlinesModel", "size", "[I", true)
  | 14 => ("DotOutlinesModel", "firstX", "[I", true)
  | 15 => ("DotOutlinesModel", "firstY", "[I", true)
  | 16 => ("DotOutlinesModel", "within", "[J", true)
  | 17 => ("DotOutlinesModel", "cornerX", "[I", true)
  | 18 => ("DotOutlinesModel", "cornerY", "[I", true)
  | 19 => ("DotOutlinesModel", "goes", "[I", true)
  | 20 => ("DotOutlinesModel", "rest", "J", false)
  | 21 => ("DotOutlinesModel", "tableOf", "I", false)
  | 22 => ("DotOutlinesModel", "offs", "[I", true)
  | 23 => ("DotOutlinesModel", "least", "[I", true)
  | 24 => ("DotOutlinesModel", "vertices", "I", false)
  | 25 => ("DotOutlinesModel", "offAll", "I", false)
  | 26 => ("DotOutlinesModel", "vertex", "[I", true)
  | 27 => ("DotOutlinesModel", "turned", "[I", true)
  | 28 => ("DotOutlinesModel", "lineX", "[I", true)
  | 29 => ("DotOutlinesModel", "lineY", "[I", true)
  | _ => ("DotOutlinesModel", "lineMany", "I", false)
def tyX12 : Nat → FieldType := fun k => match k with
  | 0 => .array .int
  | 1 => .array .int
  | 2 => .int
  | 3 => .array .int
  | 4 => .array .int
  | 5 => .array .int
  | 6 => .int
  | 7 => .int
  | 8 => .array .int
  | 9 => .int
  | 10 => .boolean
  | 11 => .int
  | 12 => .array .int
  | 13 => .array .int
  | 14 => .array .int
  | 15 => .array .int
  | 16 => .array .long
  | 17 => .array .int
  | 18 => .array .int
  | 19 => .array .int
  | 20 => .long
  | 21 => .int
  | 22 => .array .int
  | 23 => .array .int
  | 24 => .int
  | 25 => .int
  | 26 => .array .int
  | 27 => .array .int
  | 28 => .array .int
  | 29 => .array .int
  | _ => .int
abbrev wsX120 : List Cond := u_ws RX12 TX12 31
theorem nmX12 : ∀ a, a < 31 → ∀ b, b < 31 → a ≠ b → (TX12 a).2.1 ≠ (TX12 b).2.1 := by decide +kernel
theorem tyX12_ok : ∀ k, k < 31 → parseFieldDescriptor (TX12 k).2.2.1 = some (tyX12 k) := by decide +kernel
abbrev cX12_init : ByteArray := prog_14_method_1_code
def yX12_init : MethodName := ⟨RX12, "<init>", "()V"⟩
abbrev cX12_in : ByteArray := prog_14_method_2_code
def yX12_in : MethodName := ⟨RX12, "in", "(III)Z"⟩
abbrev cX12_bring : ByteArray := prog_14_method_3_code
def yX12_bring : MethodName := ⟨RX12, "bring", "([II[III)V"⟩
abbrev cX12_isPicture : ByteArray := prog_14_method_4_code
def yX12_isPicture : MethodName := ⟨RX12, "isPicture", "()Z"⟩
abbrev cX12_isDot : ByteArray := prog_14_method_5_code
def yX12_isDot : MethodName := ⟨RX12, "isDot", "(II)Z"⟩
abbrev cX12_feed : ByteArray := prog_14_method_6_code
def yX12_feed : MethodName := ⟨RX12, "feed", "(I)I"⟩
abbrev cX12_due : ByteArray := prog_14_method_7_code
def yX12_due : MethodName := ⟨RX12, "due", "(IIII)I"⟩
abbrev cX12_sign : ByteArray := prog_14_method_8_code
def yX12_sign : MethodName := ⟨RX12, "sign", "(I)I"⟩
abbrev cX12_readsRow : ByteArray := prog_14_method_9_code
def yX12_readsRow : MethodName := ⟨RX12, "readsRow", "(I)I"⟩
abbrev cX12_reads : ByteArray := prog_14_method_10_code
def yX12_reads : MethodName := ⟨RX12, "reads", "()I"⟩
abbrev cX12_picture : ByteArray := prog_14_method_11_code
def yX12_picture : MethodName := ⟨RX12, "picture", "()I"⟩
abbrev cX12_fault : ByteArray := prog_14_method_12_code
def yX12_fault : MethodName := ⟨RX12, "fault", "()I"⟩
abbrev cX12_dark : ByteArray := prog_14_method_13_code
def yX12_dark : MethodName := ⟨RX12, "dark", "()I"⟩
abbrev cX12_notes : ByteArray := prog_14_method_14_code
def yX12_notes : MethodName := ⟨RX12, "notes", "()V"⟩
abbrev cX12_undo : ByteArray := prog_14_method_15_code
def yX12_undo : MethodName := ⟨RX12, "undo", "()I"⟩
abbrev cX12_flip : ByteArray := prog_14_method_16_code
def yX12_flip : MethodName := ⟨RX12, "flip", "(II)I"⟩
abbrev cX12_frame : ByteArray := prog_14_method_17_code
def yX12_frame : MethodName := ⟨RX12, "frame", "(IIIII)I"⟩
abbrev cX12_tells : ByteArray := prog_14_method_18_code
def yX12_tells : MethodName := ⟨RX12, "tells", "(IIII)I"⟩
abbrev cX12_joined : ByteArray := prog_14_method_19_code
def yX12_joined : MethodName := ⟨RX12, "joined", "(I)I"⟩
abbrev cX12_sharp : ByteArray := prog_14_method_20_code
def yX12_sharp : MethodName := ⟨RX12, "sharp", "(I)I"⟩
abbrev cX12_isRest : ByteArray := prog_14_method_21_code
def yX12_isRest : MethodName := ⟨RX12, "isRest", "(II)Z"⟩
abbrev cX12_stepX : ByteArray := prog_14_method_22_code
def yX12_stepX : MethodName := ⟨RX12, "stepX", "(I)I"⟩
abbrev cX12_stepY : ByteArray := prog_14_method_23_code
def yX12_stepY : MethodName := ⟨RX12, "stepY", "(I)I"⟩
abbrev cX12_isBeside : ByteArray := prog_14_method_24_code
def yX12_isBeside : MethodName := ⟨RX12, "isBeside", "(IIII)Z"⟩
abbrev cX12_turns : ByteArray := prog_14_method_25_code
def yX12_turns : MethodName := ⟨RX12, "turns", "(III)I"⟩
abbrev cX12_walks : ByteArray := prog_14_method_26_code
def yX12_walks : MethodName := ⟨RX12, "walks", "(II)V"⟩
abbrev cX12_isWithin : ByteArray := prog_14_method_27_code
def yX12_isWithin : MethodName := ⟨RX12, "isWithin", "(III)Z"⟩
abbrev cX12_lays : ByteArray := prog_14_method_28_code
def yX12_lays : MethodName := ⟨RX12, "lays", "()V"⟩
abbrev cX12_isBorder : ByteArray := prog_14_method_29_code
def yX12_isBorder : MethodName := ⟨RX12, "isBorder", "(I)Z"⟩
abbrev cX12_ones : ByteArray := prog_14_method_30_code
def yX12_ones : MethodName := ⟨RX12, "ones", "(J)I"⟩
abbrev cX12_dot : ByteArray := prog_14_method_31_code
def yX12_dot : MethodName := ⟨RX12, "dot", "(II)I"⟩
abbrev cX12_borders : ByteArray := prog_14_method_32_code
def yX12_borders : MethodName := ⟨RX12, "borders", "()I"⟩
abbrev cX12_bends : ByteArray := prog_14_method_33_code
def yX12_bends : MethodName := ⟨RX12, "bends", "(I)I"⟩
abbrev cX12_border : ByteArray := prog_14_method_34_code
def yX12_border : MethodName := ⟨RX12, "border", "(II)I"⟩
abbrev cX12_corner : ByteArray := prog_14_method_35_code
def yX12_corner : MethodName := ⟨RX12, "corner", "(III)I"⟩
abbrev cX12_isIn : ByteArray := prog_14_method_36_code
def yX12_isIn : MethodName := ⟨RX12, "isIn", "(III)Z"⟩
abbrev cX12_inside : ByteArray := prog_14_method_37_code
def yX12_inside : MethodName := ⟨RX12, "inside", "(III)I"⟩
abbrev cX12_size : ByteArray := prog_14_method_38_code
def yX12_size : MethodName := ⟨RX12, "size", "(I)I"⟩
abbrev cX12_offOf : ByteArray := prog_14_method_39_code
def yX12_offOf : MethodName := ⟨RX12, "offOf", "(III)I"⟩
abbrev cX12_laysTable : ByteArray := prog_14_method_40_code
def yX12_laysTable : MethodName := ⟨RX12, "laysTable", "(I)V"⟩
abbrev cX12_isStretch : ByteArray := prog_14_method_41_code
def yX12_isStretch : MethodName := ⟨RX12, "isStretch", "(III)Z"⟩
abbrev cX12_straight : ByteArray := prog_14_method_42_code
def yX12_straight : MethodName := ⟨RX12, "straight", "(III)I"⟩
abbrev cX12_off : ByteArray := prog_14_method_43_code
def yX12_off : MethodName := ⟨RX12, "off", "(III)I"⟩
abbrev cX12_longest : ByteArray := prog_14_method_44_code
def yX12_longest : MethodName := ⟨RX12, "longest", "(II)I"⟩
abbrev cX12_stretch : ByteArray := prog_14_method_45_code
def yX12_stretch : MethodName := ⟨RX12, "stretch", "(III)I"⟩
abbrev cX12_laysLeast : ByteArray := prog_14_method_46_code
def yX12_laysLeast : MethodName := ⟨RX12, "laysLeast", "(II)I"⟩
abbrev cX12_laysBest : ByteArray := prog_14_method_47_code
def yX12_laysBest : MethodName := ⟨RX12, "laysBest", "(I)V"⟩
abbrev cX12_fewest : ByteArray := prog_14_method_48_code
def yX12_fewest : MethodName := ⟨RX12, "fewest", "(II)I"⟩
abbrev cX12_vx : ByteArray := prog_14_method_49_code
def yX12_vx : MethodName := ⟨RX12, "vx", "(II)I"⟩
abbrev cX12_vy : ByteArray := prog_14_method_50_code
def yX12_vy : MethodName := ⟨RX12, "vy", "(II)I"⟩
abbrev cX12_greater : ByteArray := prog_14_method_51_code
def yX12_greater : MethodName := ⟨RX12, "greater", "(II)I"⟩
abbrev cX12_turnOf : ByteArray := prog_14_method_52_code
def yX12_turnOf : MethodName := ⟨RX12, "turnOf", "(II)I"⟩
abbrev cX12_isSharp : ByteArray := prog_14_method_53_code
def yX12_isSharp : MethodName := ⟨RX12, "isSharp", "(II)Z"⟩
abbrev cX12_sharpMany : ByteArray := prog_14_method_54_code
def yX12_sharpMany : MethodName := ⟨RX12, "sharpMany", "(I)I"⟩
abbrev cX12_twice : ByteArray := prog_14_method_55_code
def yX12_twice : MethodName := ⟨RX12, "twice", "(I)I"⟩
abbrev cX12_best : ByteArray := prog_14_method_56_code
def yX12_best : MethodName := ⟨RX12, "best", "(II)I"⟩
abbrev cX12_vertex : ByteArray := prog_14_method_57_code
def yX12_vertex : MethodName := ⟨RX12, "vertex", "(III)I"⟩
abbrev cX12_past : ByteArray := prog_14_method_58_code
def yX12_past : MethodName := ⟨RX12, "past", "(II)I"⟩
abbrev cX12_pointOf : ByteArray := prog_14_method_59_code
def yX12_pointOf : MethodName := ⟨RX12, "pointOf", "(IIII)I"⟩
abbrev cX12_point : ByteArray := prog_14_method_60_code
def yX12_point : MethodName := ⟨RX12, "point", "(IIII)I"⟩
abbrev cX12_adds : ByteArray := prog_14_method_61_code
def yX12_adds : MethodName := ⟨RX12, "adds", "(II)V"⟩
abbrev cX12_laysLine : ByteArray := prog_14_method_62_code
def yX12_laysLine : MethodName := ⟨RX12, "laysLine", "(II)V"⟩
abbrev cX12_isFilled : ByteArray := prog_14_method_63_code
def yX12_isFilled : MethodName := ⟨RX12, "isFilled", "(II)Z"⟩
abbrev cX12_filled : ByteArray := prog_14_method_64_code
def yX12_filled : MethodName := ⟨RX12, "filled", "(IIII)I"⟩
abbrev cX12_differ : ByteArray := prog_14_method_65_code
def yX12_differ : MethodName := ⟨RX12, "differ", "(II)I"⟩
abbrev cX12_wrong : ByteArray := prog_14_method_66_code
def yX12_wrong : MethodName := ⟨RX12, "wrong", "(I)I"⟩
abbrev cX12_all : ByteArray := prog_14_method_67_code
def yX12_all : MethodName := ⟨RX12, "all", "(I)I"⟩
abbrev cX12_image : ByteArray := prog_14_method_68_code
def yX12_image : MethodName := ⟨RX12, "image", "(I)I"⟩
abbrev cX12_restore : ByteArray := prog_14_method_69_code
def yX12_restore : MethodName := ⟨RX12, "restore", "(I)I"⟩
abbrev cX12_count : ByteArray := prog_14_method_70_code
def yX12_count : MethodName := ⟨RX12, "count", "(I)I"⟩
def RJ13 : String := "java/lang/Long"
def TJ13 : u_T := fun k => match k with
  | _ => ("", "", "", false)
def tyJ13 : Nat → FieldType := fun k => match k with
  | _ => .int
abbrev wsJ130 : List Cond := u_ws RJ13 TJ13 0
theorem nmJ13 : ∀ a, a < 0 → ∀ b, b < 0 → a ≠ b → (TJ13 a).2.1 ≠ (TJ13 b).2.1 := by decide +kernel
theorem tyJ13_ok : ∀ k, k < 0 → parseFieldDescriptor (TJ13 k).2.2.1 = some (tyJ13 k) := by decide +kernel
abbrev cJ13_bitCount_95d88 : ByteArray := prog_15_method_50_code
def yJ13_bitCount_95d88 : MethodName := ⟨RJ13, "bitCount", "(J)I"⟩
def RJ9 : String := "java/lang/Math"
def TJ9 : u_T := fun k => match k with
  | _ => ("", "", "", false)
def tyJ9 : Nat → FieldType := fun k => match k with
  | _ => .int
abbrev wsJ90 : List Cond := u_ws RJ9 TJ9 0
theorem nmJ9 : ∀ a, a < 0 → ∀ b, b < 0 → a ≠ b → (TJ9 a).2.1 ≠ (TJ9 b).2.1 := by decide +kernel
theorem tyJ9_ok : ∀ k, k < 0 → parseFieldDescriptor (TJ9 k).2.2.1 = some (tyJ9 k) := by decide +kernel
abbrev cJ9_abs_0f7a4 : ByteArray := prog_16_method_59_code
def yJ9_abs_0f7a4 : MethodName := ⟨RJ9, "abs", "(I)I"⟩
abbrev cJ9_max_7cf53 : ByteArray := prog_16_method_65_code
def yJ9_max_7cf53 : MethodName := ⟨RJ9, "max", "(II)I"⟩
abbrev cJ9_min_7cf53 : ByteArray := prog_16_method_69_code
def yJ9_min_7cf53 : MethodName := ⟨RJ9, "min", "(II)I"⟩
def RL : String := "DotOutlinesLaw"
abbrev cL_law : ByteArray := code
def yL_law : MethodName := ⟨RL, "law", "([I)Z"⟩
abbrev vwCl : List vw_C := [(RX0, TX0, 4), (RX1, TX1, 6), (RX2, TX2, 7), (RX3, TX3, 8), (RX4, TX4, 1), (RX6, TX6, 5), (RX7, TX7, 5), (RX8, TX8, 4), (RX9, TX9, 3), (RX10, TX10, 2), (RX11, TX11, 11), (RX12, TX12, 31)]
end
section
/-! THE FRAME: an abstract heap (cells by number), an abstract walk AW over it, contracts AMet that are functions of arguments and heap.
Numbers 0 to 6: the class's static int rows; 7: the script; from 8 on: the cells that the law's run makes, in their order. -/
def WT : List Cond := lw_tbl.filter goodWord
theorem wt_t (k : Nat) {w : Cond} (h : tables_1[k]? = some w) (hg : goodWord w = true) : w ∈ WT :=
  List.mem_filter.mpr ⟨List.mem_append_right _ (List.mem_of_getElem? h), hg⟩
theorem wt_s (k : Nat) {w : Cond} (h : (k2_sels lw_privs)[k]? = some w) (hg : goodWord w = true) : w ∈ WT :=
  List.mem_filter.mpr ⟨List.mem_append_left _ (List.mem_of_getElem? h), hg⟩
theorem wt_ok {w : Cond} (h : w ∈ WT) : (w.onTables && w.keeps) = true ∨ ∃ ty, w = .arrayClass ty := good_of_word (List.mem_filter.mp h).2
theorem wt_tbl {w : Cond} (h : w ∈ WT) : w ∈ lw_tbl := (List.mem_filter.mp h).1
abbrev AC : Type := vp_A ⊕ (Nat × List Value)
abbrev AH : Type := Nat → AC
abbrev VV : Type := va_G × (ClassId × ClassId × ClassId) × Nat × (Nat → Nat) × Nat × (Nat → Int32)
abbrev MI : Type := MethodName × ByteArray × Nat × Option FieldType
def vb (V : VV) : Nat := V.2.2.1
def ad (V : VV) (i : Nat) : Nat := if i < 8 then V.2.2.2.1 i else vb V + (i - 8)
def coV (V : VV) : Value → Value
  | .ref i => .ref (ad V i)
  | v => v
theorem coV_int (V : VV) (x : Int32) : coV V (.int x) = .int x := rfl
theorem coV_cat (V : VV) (v : Value) : (coV V v).category = v.category := by cases v <;> rfl
def coE (V : VV) : AC → va_E
  | .inl (n, .inl f) => .inl (V.2.1.1, n, .inl f)
  | .inl (n, .inr (.inl f)) => .inl (V.2.1.2.1, n, .inr (.inl f))
  | .inl (n, .inr (.inr (.inr (.inr f)))) => .inl (V.2.1.2.2, n, .inr (.inr (.inr (.inr (fun j => (f j).map (ad V))))))
  | .inl (n, .inr (.inr (.inl f))) => .inl (V.2.1.1, n, .inr (.inr (.inl f)))
  | .inl (n, .inr (.inr (.inr (.inl f)))) => .inl (V.2.1.1, n, .inr (.inr (.inr (.inl f))))
  | .inr (ci, fs) => .inr (ci, fs.map (coV V))
def jk : AC := .inl (0, .inr (.inr (.inl (fun _ => 0))))
def Ab (V : VV) : Nat → Prop := fun q => vb V ≤ q
def hu (h : AH) (i : Nat) (c : AC) : AH := fun j => if j = i then c else h j
theorem hu_s (h : AH) (i : Nat) (c : AC) : hu h i c i = c := by simp [hu]
theorem hu_n {h : AH} {i j : Nat} {c : AC} (e : j ≠ i) : hu h i c j = h j := by simp [hu, e]
def wsA (V : VV) (h : AH) (n : Nat) : va_W := (List.range (n - 8)).map (fun k => (vb V + k, coE V (h (8 + k))))
def Pos (V : VV) (h : AH) (n : Nat) (H : Heap) : Prop := 8 ≤ n ∧ H.size + 8 = vb V + n ∧ (∀ i, i < 8 ∨ n ≤ i → h i = jk) ∧ va_P V.1 vwCl (wsA V h n) H
theorem ad_ge (V : VV) {a : Nat} (h : 8 ≤ a) : ad V a = vb V + (a - 8) := by simp [ad, Nat.not_lt.mpr h]
theorem wsA_get (V : VV) (h : AH) {n a : Nat} (h1 : 8 ≤ a) (h2 : a < n) : (wsA V h n)[a - 8]? = some (ad V a, coE V (h a)) := by
  simp only [wsA, List.getElem?_map, List.getElem?_range (show a - 8 < n - 8 by omega), Option.map_some]
  rw [ad_ge V h1, show 8 + (a - 8) = a by omega]
theorem wsA_at (V : VV) (h : AH) (n : Nat) {k : Nat} {q : Nat × va_E} (hq : (wsA V h n)[k]? = some q) : k < n - 8 ∧ q = (vb V + k, coE V (h (8 + k))) := by
  simp only [wsA, List.getElem?_map, Option.map_eq_some_iff] at hq
  obtain ⟨j, h1, h2⟩ := hq
  rw [List.getElem?_eq_some_iff] at h1
  obtain ⟨h3, h4⟩ := h1
  simp at h3 h4
  subst h4
  exact ⟨h3, h2.symm⟩
theorem wsA_D (V : VV) (h : AH) (n : Nat) : va_D (Ab V) (wsA V h n) := by
  refine ⟨fun i j p q hi hj e => ?_, fun k q hk => ?_⟩
  · obtain ⟨-, rfl⟩ := wsA_at V h n hi
    obtain ⟨-, rfl⟩ := wsA_at V h n hj
    simp at e
    exact e
  · obtain ⟨-, rfl⟩ := wsA_at V h n hk
    exact Nat.le_add_right _ _
theorem wsA_set (V : VV) (h : AH) {n a : Nat} (c : AC) (h1 : 8 ≤ a) (h2 : a < n) : (wsA V h n).set (a - 8) (ad V a, coE V c) = wsA V (hu h a c) n := by
  apply List.ext_getElem?
  intro k
  by_cases hk : k = a - 8
  · subst hk
    rw [wsA_get V (hu h a c) h1 h2, hu_s, List.getElem?_set_self (by simp [wsA]; omega)]
  · rw [List.getElem?_set_ne (Ne.symm hk)]
    simp only [wsA, List.getElem?_map]
    by_cases hl : k < n - 8
    · rw [List.getElem?_range hl]
      simp only [Option.map_some]
      rw [hu_n (by omega)]
    · rw [List.getElem?_eq_none (by simp; omega)]
      rfl
theorem wsA_push (V : VV) (h : AH) {n : Nat} (c : AC) (h1 : 8 ≤ n) : wsA V h n ++ [(vb V + (n - 8), coE V c)] = wsA V (hu h n c) (n + 1) := by
  unfold wsA
  rw [show n + 1 - 8 = (n - 8) + 1 by omega, List.range_succ, List.map_append]
  congr 1
  · apply List.map_congr_left
    intro k hk
    simp at hk
    rw [hu_n (by omega)]
  · simp only [List.map_cons, List.map_nil]
    rw [show 8 + (n - 8) = n by omega, hu_s]
theorem Pos.at {V : VV} {h : AH} {n : Nat} {H : Heap} (P : Pos V h n H) {a : Nat} (hj : h a ≠ jk) : 8 ≤ a ∧ a < n := by
  refine ⟨?_, ?_⟩
  · exact Nat.not_lt.mp fun q => hj (P.2.2.1 a (Or.inl q))
  · exact Nat.not_le.mp fun q => hj (P.2.2.1 a (Or.inr q))
theorem nj_o {h : AH} {a ci : Nat} {fs : List Value} (e : h a = .inr (ci, fs)) : h a ≠ jk := by rw [e]; intro q; cases q
theorem nj_i {h : AH} {a N : Nat} {f : Nat → Int32} (e : h a = .inl (N, .inl f)) : h a ≠ jk := by rw [e]; intro q; cases q
theorem nj_l {h : AH} {a N : Nat} {f : Nat → Int64} (e : h a = .inl (N, .inr (.inl f))) : h a ≠ jk := by rw [e]; intro q; cases q
theorem nj_q {h : AH} {a N : Nat} {f : Nat → Option Nat} (e : h a = .inl (N, .inr (.inr (.inr (.inr f))))) : h a ≠ jk := by rw [e]; intro q; cases q
theorem Pos.put {V : VV} {h : AH} {n : Nat} {H H1 : Heap} {a : Nat} {c : AC} (P : Pos V h n H) (h1 : 8 ≤ a) (h2 : a < n) (hs : H1.size = H.size) (hP : va_P V.1 vwCl ((wsA V h n).set (a - 8) (ad V a, coE V c)) H1) : Pos V (hu h a c) n H1 := by
  refine ⟨P.1, by rw [hs]; exact P.2.1, fun i hi => ?_, by rw [wsA_set V h c h1 h2] at hP; exact hP⟩
  rw [hu_n (by omega)]
  exact P.2.2.1 i hi
theorem va_Sz {A : Nat → Prop} {D : va_G} {cl : List vw_C} {ws : va_W} {H : Heap} (hP : va_P D cl ws H) {k : Nat} {q : Nat × va_E} (hq : ws[k]? = some q) : q.1 < H.size := (hP k q hq).lt
/-! the static rows -/
def sC : Nat → String
  | 4 => "DotOutlines$Bend"
  | 5 => "DotOutlines$Bend"
  | 6 => "DotOutlines$Bend"
  | _ => "DotOutlines$Borders"
def sN : Nat → String
  | 0 => "STEP_X"
  | 1 => "STEP_Y"
  | 2 => "AHEAD_X"
  | 3 => "AHEAD_Y"
  | 4 => "PART_BEFORE"
  | 5 => "PART_OWN"
  | _ => "PART_BEHIND"
def tL (V : VV) : Nat → Nat
  | 0 => 4
  | 1 => 4
  | 2 => 4
  | 3 => 4
  | 4 => 5
  | 5 => 5
  | 6 => 5
  | _ => V.2.2.2.2.1
def tF (V : VV) : Nat → Nat → Int32
  | 0 => fun j => ([1, 0, -1, 0] : List Int32).getD j 0
  | 1 => fun j => ([0, 1, 0, -1] : List Int32).getD j 0
  | 2 => fun j => ([0, 0, -1, -1] : List Int32).getD j 0
  | 3 => fun j => ([-1, 0, 0, -1] : List Int32).getD j 0
  | 4 => fun j => ([16, 9, 4, 1, 0] : List Int32).getD j 0
  | 5 => fun j => ([0, 6, 8, 6, 0] : List Int32).getD j 0
  | 6 => fun j => ([0, 1, 4, 9, 16] : List Int32).getD j 0
  | _ => V.2.2.2.2.2
def Sta (V : VV) (U : State) (H : Heap) : Prop := (∀ k, k < 7 → va_Z (sC k) (sN k) "[I" (.ref (V.2.2.2.1 k)) (Ab V) U H) ∧ (∀ k, k < 8 → va_T .int (V.2.2.2.1 k) (tL V k) (fun j => .int (tF V k j)) (Ab V) U H) ∧ va_AO "DotOutlines$Border" U
def tys3 (V : VV) : List (ClassId × FieldType) := [(V.2.1.1, .int), (V.2.1.2.1, .long), (V.2.1.2.2, .object "DotOutlines$Border")]
def Wd (V : VV) (h : AH) (n : Nat) (U : State) : Prop := va_K V.1 vwCl (tys3 V) U ∧ Sta V U U.heap ∧ Pos V h n U.heap
theorem Sta.moved {V : VV} {u U : State} {H : Heap} (hvm : u.vm.Alike U.vm) (S : Sta V u H) : Sta V U H := ⟨fun k hk => (S.1 k hk).moved hvm, fun k hk => (S.2.1 k hk).moved hvm, S.2.2.moved hvm⟩
theorem Sta.kept {V : VV} {U : State} {H H1 : Heap} (S : Sta V U H) (hq : ∀ a : Nat, a < H.size → ¬ Ab V a → H1[a]? = H[a]?) : Sta V U H1 := ⟨fun k hk => (S.1 k hk).kept hq, fun k hk => (S.2.1 k hk).kept hq, S.2.2⟩
/-! the walk -/
def Cx (V : VV) (I : MI) (p : Program) (s : State) (m : MethodId) (args : Array Value) (meth : Method) (c : Code) : Prop :=
  p.tables.exec = Jvm.exec ∧ c.code = I.2.1 ∧ c.maxLocals = I.2.2.1 ∧ s.vm.findClass I.1.cls = some m.cls ∧ (∀ w ∈ WT, w.before args s = true) ∧ meth.sig.returnType = I.2.2.2 ∧ meth.locks = false ∧ meth.name = I.1.name ∧ va_K V.1 vwCl (tys3 V) s ∧ Sta V s s.heap ∧ vb V ≤ s.heap.size
def Lo (V : VV) (nL : Nat) (ls : Array Slot) (lv : List (Option Value)) : Prop := ls.size = nL ∧ lv_wf ls ∧ ∀ (i : Nat) (v : Value), lv[i]? = some (some v) → ls[i]? = some (.val (coV V v))
abbrev QF : Type := List Frame → Array Value → State → State → Prop
def AW (V : VV) (I : MI) (R : Room) (Qf : QF) (n0 z0 pc : Nat) (lv : List (Option Value)) (st : List Value) (h : AH) (n z : Nat) : Prop :=
  ∀ (p : Program) (l : Launch) (e : Env) (s : State) (m : MethodId) (args : Array Value) (below : List Frame) (meth : Method) (c : Code) (H : Heap) (locs : List Loc) (ls : Array Slot),
    Cx V I p s m args meth c → va_S (Ab V) s.heap H locs → Pos V h n H → Lo V I.2.2.1 ls lv → n0 ≤ n → n ≤ n0 + R.cells → z0 ≤ z → z ≤ z0 + R.slots →
    W p l e R s m args below meth c H locs (n - n0) (z - z0) (Qf below args s) (F0 m pc ls (st.map (coV V)))
def RmM (d mc ms : Nat) : Room := { frames := d, cells := mc, slots := ms, locals := 40 * d }
def QcM (V : VV) (r : Option Value) (h' : AH) (n' : Nat) : Array Value → State → Outcome → State → Prop := fun _ st oc t => oc = .returned (r.map (coV V)) ∧ Wd V h' n' t ∧ va_F (Ab V) st t
def QM (V : VV) (r : Option Value) (h' : AH) (n' mc ms : Nat) : QF := fun below args s => MQ below (QcM V r h' n') args s mc ms (Ab V)
abbrev AM (V : VV) (I : MI) (d n0 z0 : Nat) (r : Option Value) (h' : AH) (n' z' pc : Nat) (lv : List (Option Value)) (st : List Value) (h : AH) (n z : Nat) : Prop :=
  AW V I (RmM d (n' - n0) (z' - z0)) (QM V r h' n' (n' - n0) (z' - z0)) n0 z0 pc lv st h n z
def wsM (I : MI) : List Cond := .code I.1 I.2.1 I.2.2.1 I.2.2.2 :: WT
def AMet (V : VV) (I : MI) (d : Nat) (av : List Value) (h : AH) (n z : Nat) (r : Option Value) (h' : AH) (n' z' : Nat) : Prop :=
  n ≤ n' ∧ z ≤ z' ∧ ∀ l : Launch, Met l I.1 (wsM I) (RmM d (n' - n) (z' - z)) (va_Pc (av.map (coV V)) (Wd V h n)) (QcM V r h' n') (n' - n) (z' - z) (Ab V)
/-! the locals at a method's entry -/
def lvE : List Value → List (Option Value)
  | [] => []
  | .long x :: vs => some (.long x) :: none :: lvE vs
  | .double x :: vs => some (.double x) :: none :: lvE vs
  | v :: vs => some v :: lvE vs
theorem lvE_args (V : VV) : ∀ (vs : List Value) (o i : Nat) (v : Value), (lvE vs)[i]? = some (some v) → (o + i, coV V v) ∈ lv_args o (vs.map (coV V))
  | [], o, i, v, h => by simp [lvE] at h
  | .long x :: vs, o, i, v, h => by
    cases i with
    | zero => simp [lvE] at h; subst h; simp [lv_args, coV]
    | succ i =>
      cases i with
      | zero => simp [lvE] at h
      | succ i =>
        simp [lvE] at h
        have := lvE_args V vs (o + 2) i v h
        rw [show o + 2 + i = o + (i + 1 + 1) by omega] at this
        exact List.mem_cons_of_mem _ this
  | .double x :: vs, o, i, v, h => by
    cases i with
    | zero => simp [lvE] at h; subst h; simp [lv_args, coV]
    | succ i =>
      cases i with
      | zero => simp [lvE] at h
      | succ i =>
        simp [lvE] at h
        have := lvE_args V vs (o + 2) i v h
        rw [show o + 2 + i = o + (i + 1 + 1) by omega] at this
        exact List.mem_cons_of_mem _ this
  | .int x :: vs, o, i, v, h => by
    cases i with
    | zero => simp [lvE] at h; subst h; simp [lv_args, coV]
    | succ i =>
      simp [lvE] at h
      have := lvE_args V vs (o + 1) i v h
      rw [show o + 1 + i = o + (i + 1) by omega] at this
      exact List.mem_cons_of_mem _ this
  | .float x :: vs, o, i, v, h => by
    cases i with
    | zero => simp [lvE] at h; subst h; simp [lv_args, coV]
    | succ i =>
      simp [lvE] at h
      have := lvE_args V vs (o + 1) i v h
      rw [show o + 1 + i = o + (i + 1) by omega] at this
      exact List.mem_cons_of_mem _ this
  | .null :: vs, o, i, v, h => by
    cases i with
    | zero => simp [lvE] at h; subst h; simp [lv_args, coV]
    | succ i =>
      simp [lvE] at h
      have := lvE_args V vs (o + 1) i v h
      rw [show o + 1 + i = o + (i + 1) by omega] at this
      exact List.mem_cons_of_mem _ this
  | .ref x :: vs, o, i, v, h => by
    cases i with
    | zero => simp [lvE] at h; subst h; simp [lv_args, coV]
    | succ i =>
      simp [lvE] at h
      have := lvE_args V vs (o + 1) i v h
      rw [show o + 1 + i = o + (i + 1) by omega] at this
      exact List.mem_cons_of_mem _ this
  | .retAddr x :: vs, o, i, v, h => by
    cases i with
    | zero => simp [lvE] at h; subst h; simp [lv_args, coV]
    | succ i =>
      simp [lvE] at h
      have := lvE_args V vs (o + 1) i v h
      rw [show o + 1 + i = o + (i + 1) by omega] at this
      exact List.mem_cons_of_mem _ this
theorem lgs_len (V : VV) : ∀ vs : List Value, (lg_sl (vs.map (coV V))).length = (lvE vs).length
  | [] => rfl
  | v :: vs => by
    have ih := lgs_len V vs
    have e : lg_sl ((v :: vs).map (coV V)) = lg_sl [coV V v] ++ lg_sl (vs.map (coV V)) := by simp [lg_sl]
    rw [e, List.length_append, ih]
    cases v <;> simp [lg_sl, coV, lvE, Value.category] <;> omega
theorem Lo.entry (V : VV) (av : List Value) {nL : Nat} (hl : (lvE av).length ≤ nL) : Lo V nL ((lg_sl (av.map (coV V)) ++ List.replicate (nL - (lg_sl (av.map (coV V))).length) Slot.unset).toArray) (lvE av ++ List.replicate (nL - (lvE av).length) none) := by
  have h := lv_entry (av.map (coV V)) (n := nL) (by rw [lgs_len]; exact hl)
  refine ⟨h.1, h.2.1, fun i v hi => ?_⟩
  by_cases hlt : i < (lvE av).length
  · rw [List.getElem?_append_left hlt] at hi
    have := h.2.2 _ (lvE_args V av 0 i v hi)
    simpa using this
  · rw [List.getElem?_append_right (by omega)] at hi
    have := List.eq_of_mem_replicate (List.mem_of_getElem? hi)
    cases this
theorem Wd.blind {V : VV} {av : List Value} {h : AH} {n : Nat} : FrameBlind (va_Pc av (Wd V h n)) := by
  intro a U g mk q
  obtain ⟨q1, q2, q3, q4⟩ := q
  exact ⟨q1, va_K.moved (u := U) (U := U.calling g mk a) (Vm.Alike.refl U.vm) q2, Sta.moved (u := U) (U := U.calling g mk a) (Vm.Alike.refl U.vm) q3, q4⟩
theorem AMet.intro {V : VV} {I : MI} {d : Nat} {av : List Value} {h : AH} {n z : Nat} {r : Option Value} {h' : AH} {n' z' : Nat} {lv : List (Option Value)} (hn : n ≤ n') (hz : z ≤ z') (hy : plainName I.1.cls = true) (hl : (lvE av).length ≤ I.2.2.1) (hlv : lvE av ++ List.replicate (I.2.2.1 - (lvE av).length) none = lv)
    (k : AM V I d n z r h' n' z' 0 lv [] h n z) : AMet V I d av h n z r h' n' z' := by
  refine ⟨hn, hz, fun l => ?_⟩
  refine Met.ofW (cc := I.2.1) (maxL := I.2.2.1) (ret := I.2.2.2) hy rfl ?_
  intro p e s m args below meth c s₁ B hml hv
  obtain ⟨rfl, hK, hS, hP⟩ := hv
  have hts := atoms_spec (ws := wsM I) B.pre
  have hown : s.vm.findClass I.1.cls = some m.cls := findClass_of_methodNamed B.named
  have hb : vb V ≤ s.heap.size := by have := hP.2.1; have := hP.1; omega
  have X : Cx V I p s m (av.map (coV V)).toArray meth c := ⟨B.exec, B.bytes, hml, hown, fun w hw => hts w (List.mem_cons_of_mem _ hw), B.returns, B.notSynchronized, (name_of_methodNamed B.named B.method).1, hK, hS, hb⟩
  have hL := Lo.entry V av hl
  rw [hlv] at hL
  rw [lg_entry_eq]
  have K := k p l e s m (av.map (coV V)).toArray below meth c s.heap [] _ X va_S.rf hP hL (Nat.le_refl _) (Nat.le_add_right _ _) (Nat.le_refl _) (Nat.le_add_right _ _)
  rw [Nat.sub_self, Nat.sub_self] at K
  exact K
end
section
/-! ROWS: one for each instruction, over AW -/
section AWRows
variable {V : VV} {I : MI} {R : Room} {Qf : QF} {n0 z0 pc : Nat} {lv : List (Option Value)} {st : List Value} {h : AH} {n z : Nat}
theorem a_iconst {c : Int} {v : Int32} (dg : decode I.2.1 pc = .ok (.iconst c, 1)) (hv : Int32.ofInt c = v) (k : AW V I R Qf n0 z0 (pc + 1) lv (.int v :: st) h n z) : AW V I R Qf n0 z0 pc lv st h n z := by
  intro p l e s m args below meth c H locs ls X hS hP hL h1 h2 h3 h4
  exact lv_iconst X.1 X.2.1 dg hv (k p l e s m args below meth c H locs ls X hS hP hL h1 h2 h3 h4)
theorem a_bipush {c : Int} {v : Int32} (dg : decode I.2.1 pc = .ok (.bipush c, 2)) (hv : (Int8.ofInt c).toInt32 = v) (k : AW V I R Qf n0 z0 (pc + 2) lv (.int v :: st) h n z) : AW V I R Qf n0 z0 pc lv st h n z := by
  intro p l e s m args below meth c H locs ls X hS hP hL h1 h2 h3 h4
  exact lv_bipush X.1 X.2.1 dg hv (k p l e s m args below meth c H locs ls X hS hP hL h1 h2 h3 h4)
theorem a_sipush {c : Int} {v : Int32} (dg : decode I.2.1 pc = .ok (.sipush c, 3)) (hv : (Int16.ofInt c).toInt32 = v) (k : AW V I R Qf n0 z0 (pc + 3) lv (.int v :: st) h n z) : AW V I R Qf n0 z0 pc lv st h n z := by
  intro p l e s m args below meth c H locs ls X hS hP hL h1 h2 h3 h4
  exact lv_sipush X.1 X.2.1 dg hv (k p l e s m args below meth c H locs ls X hS hP hL h1 h2 h3 h4)
theorem a_lconst {c : Fin 2} {v : Int64} (dg : decode I.2.1 pc = .ok (.lconst c, 1)) (hv : Int64.ofNat (c : Nat) = v) (k : AW V I R Qf n0 z0 (pc + 1) lv (.long v :: st) h n z) : AW V I R Qf n0 z0 pc lv st h n z := by
  intro p l e s m args below meth c H locs ls X hS hP hL h1 h2 h3 h4
  exact lv_lconst X.1 X.2.1 dg hv (k p l e s m args below meth c H locs ls X hS hP hL h1 h2 h3 h4)
theorem a_iload_n {k : Fin 4} {x : Int32} (dg : decode I.2.1 pc = .ok (.iload_n k, 1)) (hl : lv[(k : Nat)]? = some (some (.int x))) (k : AW V I R Qf n0 z0 (pc + 1) lv (.int x :: st) h n z) : AW V I R Qf n0 z0 pc lv st h n z := by
  intro p l e s m args below meth c H locs ls X hS hP hL h1 h2 h3 h4
  exact lv_iload_n X.1 X.2.1 dg rfl (hL.2.2 _ _ hl) (k p l e s m args below meth c H locs ls X hS hP hL h1 h2 h3 h4)
theorem a_iload {i : Nat} {x : Int32} (dg : decode I.2.1 pc = .ok (.iload i, 2)) (hl : lv[i]? = some (some (.int x))) (k : AW V I R Qf n0 z0 (pc + 2) lv (.int x :: st) h n z) : AW V I R Qf n0 z0 pc lv st h n z := by
  intro p l e s m args below meth c H locs ls X hS hP hL h1 h2 h3 h4
  exact lv_iload X.1 X.2.1 dg (hL.2.2 _ _ hl) (k p l e s m args below meth c H locs ls X hS hP hL h1 h2 h3 h4)
theorem a_lload_n {k : Fin 4} {x : Int64} (dg : decode I.2.1 pc = .ok (.lload_n k, 1)) (hl : lv[(k : Nat)]? = some (some (.long x))) (k : AW V I R Qf n0 z0 (pc + 1) lv (.long x :: st) h n z) : AW V I R Qf n0 z0 pc lv st h n z := by
  intro p l e s m args below meth c H locs ls X hS hP hL h1 h2 h3 h4
  exact lv_lload_n X.1 X.2.1 dg rfl (hL.2.2 _ _ hl) (k p l e s m args below meth c H locs ls X hS hP hL h1 h2 h3 h4)
theorem a_lload {i : Nat} {x : Int64} (dg : decode I.2.1 pc = .ok (.lload i, 2)) (hl : lv[i]? = some (some (.long x))) (k : AW V I R Qf n0 z0 (pc + 2) lv (.long x :: st) h n z) : AW V I R Qf n0 z0 pc lv st h n z := by
  intro p l e s m args below meth c H locs ls X hS hP hL h1 h2 h3 h4
  exact lv_lload X.1 X.2.1 dg (hL.2.2 _ _ hl) (k p l e s m args below meth c H locs ls X hS hP hL h1 h2 h3 h4)
theorem a_aload_n {k : Fin 4} {x : Nat} (dg : decode I.2.1 pc = .ok (.aload_n k, 1)) (hl : lv[(k : Nat)]? = some (some (.ref x))) (k : AW V I R Qf n0 z0 (pc + 1) lv (.ref x :: st) h n z) : AW V I R Qf n0 z0 pc lv st h n z := by
  intro p l e s m args below meth c H locs ls X hS hP hL h1 h2 h3 h4
  exact lv_aload_n X.1 X.2.1 dg rfl (hL.2.2 _ _ hl) (k p l e s m args below meth c H locs ls X hS hP hL h1 h2 h3 h4)
theorem a_aload {i x : Nat} (dg : decode I.2.1 pc = .ok (.aload i, 2)) (hl : lv[i]? = some (some (.ref x))) (k : AW V I R Qf n0 z0 (pc + 2) lv (.ref x :: st) h n z) : AW V I R Qf n0 z0 pc lv st h n z := by
  intro p l e s m args below meth c H locs ls X hS hP hL h1 h2 h3 h4
  exact lv_aload X.1 X.2.1 dg (hL.2.2 _ _ hl) (k p l e s m args below meth c H locs ls X hS hP hL h1 h2 h3 h4)
theorem a_aload_nN {k : Fin 4} (dg : decode I.2.1 pc = .ok (.aload_n k, 1)) (hl : lv[(k : Nat)]? = some (some .null)) (k : AW V I R Qf n0 z0 (pc + 1) lv (.null :: st) h n z) : AW V I R Qf n0 z0 pc lv st h n z := by
  intro p l e s m args below meth c H locs ls X hS hP hL h1 h2 h3 h4
  exact lv_aload_nN X.1 X.2.1 dg rfl (hL.2.2 _ _ hl) (k p l e s m args below meth c H locs ls X hS hP hL h1 h2 h3 h4)
theorem a_aloadN {i : Nat} (dg : decode I.2.1 pc = .ok (.aload i, 2)) (hl : lv[i]? = some (some .null)) (k : AW V I R Qf n0 z0 (pc + 2) lv (.null :: st) h n z) : AW V I R Qf n0 z0 pc lv st h n z := by
  intro p l e s m args below meth c H locs ls X hS hP hL h1 h2 h3 h4
  exact lv_aloadN X.1 X.2.1 dg (hL.2.2 _ _ hl) (k p l e s m args below meth c H locs ls X hS hP hL h1 h2 h3 h4)
/-- a live value of two words stands just below the place -/
def c2 (lv : List (Option Value)) : Nat → Bool
  | 0 => false
  | i + 1 => match lv[i]? with
    | some (some (.long _)) => true
    | some (some (.double _)) => true
    | _ => false
theorem c2_no {lv : List (Option Value)} {i j : Nat} {v : Value} (hc : c2 lv i = false) (hj : lv[j]? = some (some v)) (e : j + 1 = i) : v.category = 1 := by
  subst e
  simp only [c2, hj] at hc
  cases v <;> simp_all [Value.category]
def lvl (V : VV) (lv : List (Option Value)) : List (Nat × Value) := (List.range lv.length).filterMap (fun i => match lv[i]? with
  | some (some v) => some (i, coV V v)
  | _ => none)
theorem lvl_mem {V : VV} {lv : List (Option Value)} {i : Nat} {v : Value} (hi : lv[i]? = some (some v)) : (i, coV V v) ∈ lvl V lv := by
  have hlt : i < lv.length := (List.getElem?_eq_some_iff.mp hi).1
  refine List.mem_filterMap.mpr ⟨i, List.mem_range.mpr hlt, ?_⟩
  rw [hi]
theorem lvl_of {V : VV} {lv : List (Option Value)} {q : Nat × Value} (h : q ∈ lvl V lv) : ∃ v, lv[q.1]? = some (some v) ∧ q.2 = coV V v := by
  obtain ⟨i, -, hi⟩ := List.mem_filterMap.mp h
  split at hi
  · rename_i v hv
    cases hi
    exact ⟨v, hv, rfl⟩
  · cases hi
theorem Lo.has {V : VV} {nL : Nat} {ls : Array Slot} {lv : List (Option Value)} (h : Lo V nL ls lv) : lv_has ls nL (lvl V lv) := by
  refine ⟨h.1, h.2.1, fun q hq => ?_⟩
  obtain ⟨v, h1, h2⟩ := lvl_of hq
  rw [h2]
  exact h.2.2 _ _ h1
theorem Lo.st1 {V : VV} {nL i : Nat} {ls : Array Slot} {lv : List (Option Value)} {v : Value} (hc : c2 lv i = false) (hi : i < lv.length) (h : lv_has ls nL ((i, coV V v) :: (lvl V lv).filter (fun q => !(q.1 == i) && !(q.1 + 1 == i && q.2.category == 2)))) : Lo V nL ls (lv.set i (some v)) := by
  refine ⟨h.1, h.2.1, fun j w hj => ?_⟩
  by_cases e : j = i
  · subst e
    rw [List.getElem?_set_self hi] at hj
    cases hj
    exact h.2.2 _ List.mem_cons_self
  · rw [List.getElem?_set_ne (Ne.symm e)] at hj
    refine h.2.2 (j, coV V w) (List.mem_cons_of_mem _ (List.mem_filter.mpr ⟨lvl_mem hj, ?_⟩))
    by_cases e2 : j + 1 = i
    · have := c2_no hc hj e2
      simp [e, coV_cat, this]
    · simp [e, e2]
theorem Lo.st2 {V : VV} {nL i : Nat} {ls : Array Slot} {lv : List (Option Value)} {v : Value} (hc : c2 lv i = false) (hi : i + 1 < lv.length) (h : lv_has ls nL ((i, coV V v) :: (lvl V lv).filter (fun q => !(q.1 == i) && (!(q.1 == i + 1) && !(q.1 + 1 == i && q.2.category == 2))))) : Lo V nL ls ((lv.set i (some v)).set (i + 1) none) := by
  refine ⟨h.1, h.2.1, fun j w hj => ?_⟩
  by_cases e1 : j = i + 1
  · subst e1
    rw [List.getElem?_set_self (by simpa using hi)] at hj
    cases hj
  · rw [List.getElem?_set_ne (Ne.symm e1)] at hj
    by_cases e : j = i
    · subst e
      rw [List.getElem?_set_self (by omega)] at hj
      cases hj
      exact h.2.2 _ List.mem_cons_self
    · rw [List.getElem?_set_ne (Ne.symm e)] at hj
      refine h.2.2 (j, coV V w) (List.mem_cons_of_mem _ (List.mem_filter.mpr ⟨lvl_mem hj, ?_⟩))
      by_cases e2 : j + 1 = i
      · have := c2_no hc hj e2
        simp [e, e1, coV_cat, this]
      · simp [e, e1, e2]
theorem a_drop (i : Nat) (k : AW V I R Qf n0 z0 pc (lv.set i none) st h n z) : AW V I R Qf n0 z0 pc lv st h n z := by
  intro p l e s m args below meth c H locs ls X hS hP hL h1 h2 h3 h4
  refine k p l e s m args below meth c H locs ls X hS hP ⟨hL.1, hL.2.1, fun j v hj => ?_⟩ h1 h2 h3 h4
  by_cases q : j = i
  · subst q
    by_cases hlt : j < lv.length
    · rw [List.getElem?_set_self hlt] at hj
      cases hj
    · rw [List.getElem?_eq_none (by simp; omega)] at hj
      cases hj
  · rw [List.getElem?_set_ne (Ne.symm q)] at hj
    exact hL.2.2 j v hj
theorem a_eq {pc' : Nat} {lv' : List (Option Value)} {st' : List Value} {h' : AH} {n' z' : Nat} (e1 : pc = pc') (e2 : lv = lv') (e3 : st = st') (e4 : h = h') (e5 : n = n') (e6 : z = z') (k : AW V I R Qf n0 z0 pc' lv' st' h' n' z') : AW V I R Qf n0 z0 pc lv st h n z := by
  subst e1; subst e2; subst e3; subst e4; subst e5; subst e6; exact k
theorem a_istore_n {k : Fin 4} {x : Int32} (dg : decode I.2.1 pc = .ok (.istore_n k, 1)) (hi : (k : Nat) < lv.length) (hi2 : (k : Nat) < I.2.2.1) (hc : c2 lv (k : Nat) = false) (k : AW V I R Qf n0 z0 (pc + 1) (lv.set (k : Nat) (some (.int x))) st h n z) : AW V I R Qf n0 z0 pc lv (.int x :: st) h n z := by
  intro p l e s m args below meth c H locs ls X hS hP hL h1 h2 h3 h4
  exact lv_istore_n X.1 X.2.1 dg rfl hL.has hi2 rfl (fun ls' hl' => k p l e s m args below meth c H locs ls' X hS hP (Lo.st1 (v := .int x) hc hi hl') h1 h2 h3 h4)
theorem a_istore {i : Nat} {x : Int32} (dg : decode I.2.1 pc = .ok (.istore i, 2)) (hi : i < lv.length) (hi2 : i < I.2.2.1) (hc : c2 lv i = false) (k : AW V I R Qf n0 z0 (pc + 2) (lv.set i (some (.int x))) st h n z) : AW V I R Qf n0 z0 pc lv (.int x :: st) h n z := by
  intro p l e s m args below meth c H locs ls X hS hP hL h1 h2 h3 h4
  exact lv_istore X.1 X.2.1 dg hL.has hi2 rfl (fun ls' hl' => k p l e s m args below meth c H locs ls' X hS hP (Lo.st1 (v := .int x) hc hi hl') h1 h2 h3 h4)
theorem a_lstore_n {k : Fin 4} {x : Int64} (dg : decode I.2.1 pc = .ok (.lstore_n k, 1)) (hi : (k : Nat) + 1 < lv.length) (hi2 : (k : Nat) + 1 < I.2.2.1) (hc : c2 lv (k : Nat) = false) (k : AW V I R Qf n0 z0 (pc + 1) ((lv.set (k : Nat) (some (.long x))).set ((k : Nat) + 1) none) st h n z) : AW V I R Qf n0 z0 pc lv (.long x :: st) h n z := by
  intro p l e s m args below meth c H locs ls X hS hP hL h1 h2 h3 h4
  exact lv_lstore_n X.1 X.2.1 dg rfl hL.has hi2 rfl (fun ls' hl' => k p l e s m args below meth c H locs ls' X hS hP (Lo.st2 (v := .long x) hc hi hl') h1 h2 h3 h4)
theorem a_lstore {i : Nat} {x : Int64} (dg : decode I.2.1 pc = .ok (.lstore i, 2)) (hi : i + 1 < lv.length) (hi2 : i + 1 < I.2.2.1) (hc : c2 lv i = false) (k : AW V I R Qf n0 z0 (pc + 2) ((lv.set i (some (.long x))).set (i + 1) none) st h n z) : AW V I R Qf n0 z0 pc lv (.long x :: st) h n z := by
  intro p l e s m args below meth c H locs ls X hS hP hL h1 h2 h3 h4
  exact lv_lstore X.1 X.2.1 dg hL.has hi2 rfl (fun ls' hl' => k p l e s m args below meth c H locs ls' X hS hP (Lo.st2 (v := .long x) hc hi hl') h1 h2 h3 h4)
theorem a_astore_n {k : Fin 4} {x : Nat} (dg : decode I.2.1 pc = .ok (.astore_n k, 1)) (hi : (k : Nat) < lv.length) (hi2 : (k : Nat) < I.2.2.1) (hc : c2 lv (k : Nat) = false) (k : AW V I R Qf n0 z0 (pc + 1) (lv.set (k : Nat) (some (.ref x))) st h n z) : AW V I R Qf n0 z0 pc lv (.ref x :: st) h n z := by
  intro p l e s m args below meth c H locs ls X hS hP hL h1 h2 h3 h4
  exact lv_astore_n X.1 X.2.1 dg rfl hL.has hi2 rfl (fun ls' hl' => k p l e s m args below meth c H locs ls' X hS hP (Lo.st1 (v := .ref x) hc hi hl') h1 h2 h3 h4)
theorem a_astore_nN {k : Fin 4} (dg : decode I.2.1 pc = .ok (.astore_n k, 1)) (hi : (k : Nat) < lv.length) (hi2 : (k : Nat) < I.2.2.1) (hc : c2 lv (k : Nat) = false) (k : AW V I R Qf n0 z0 (pc + 1) (lv.set (k : Nat) (some .null)) st h n z) : AW V I R Qf n0 z0 pc lv (.null :: st) h n z := by
  intro p l e s m args below meth c H locs ls X hS hP hL h1 h2 h3 h4
  exact lv_astore_nN X.1 X.2.1 dg rfl hL.has hi2 rfl (fun ls' hl' => k p l e s m args below meth c H locs ls' X hS hP (Lo.st1 (v := .null) hc hi hl') h1 h2 h3 h4)
theorem a_astore {i : Nat} {x : Nat} (dg : decode I.2.1 pc = .ok (.astore i, 2)) (hi : i < lv.length) (hi2 : i < I.2.2.1) (hc : c2 lv i = false) (k : AW V I R Qf n0 z0 (pc + 2) (lv.set i (some (.ref x))) st h n z) : AW V I R Qf n0 z0 pc lv (.ref x :: st) h n z := by
  intro p l e s m args below meth c H locs ls X hS hP hL h1 h2 h3 h4
  exact lv_astore X.1 X.2.1 dg hL.has hi2 rfl (fun ls' hl' => k p l e s m args below meth c H locs ls' X hS hP (Lo.st1 (v := .ref x) hc hi hl') h1 h2 h3 h4)
theorem a_astoreN {i : Nat} (dg : decode I.2.1 pc = .ok (.astore i, 2)) (hi : i < lv.length) (hi2 : i < I.2.2.1) (hc : c2 lv i = false) (k : AW V I R Qf n0 z0 (pc + 2) (lv.set i (some .null)) st h n z) : AW V I R Qf n0 z0 pc lv (.null :: st) h n z := by
  intro p l e s m args below meth c H locs ls X hS hP hL h1 h2 h3 h4
  exact lv_astoreN X.1 X.2.1 dg hL.has hi2 rfl (fun ls' hl' => k p l e s m args below meth c H locs ls' X hS hP (Lo.st1 (v := .null) hc hi hl') h1 h2 h3 h4)
theorem a_iinc {i : Nat} {c : Int} {x v : Int32} (dg : decode I.2.1 pc = .ok (.iinc i c, 3)) (hl : lv[i]? = some (some (.int x))) (hv : x + Int32.ofInt c = v) (hi2 : i < I.2.2.1) (hc : c2 lv i = false) (k : AW V I R Qf n0 z0 (pc + 3) (lv.set i (some (.int v))) st h n z) : AW V I R Qf n0 z0 pc lv st h n z := by
  intro p l e s m args below meth c' H locs ls X hS hP hL h1 h2 h3 h4
  obtain ⟨k0, hk0⟩ := List.getElem?_of_mem (lvl_mem (V := V) hl)
  exact lv_iinc X.1 X.2.1 dg hL.has hk0 hv hi2 rfl (fun ls' hl' => k p l e s m args below meth c' H locs ls' X hS hP (Lo.st1 (v := .int v) hc (List.getElem?_eq_some_iff.mp hl).1 hl') h1 h2 h3 h4)
theorem a_iadd {x y : Int32} (dg : decode I.2.1 pc = .ok (.iadd, 1))  (k : AW V I R Qf n0 z0 (pc + 1) lv (.int (x + y) :: st) h n z) : AW V I R Qf n0 z0 pc lv (.int y :: .int x :: st) h n z := by
  intro p l e s m args below meth c H locs ls X hS hP hL h1 h2 h3 h4
  exact lv_iadd X.1 X.2.1 dg (k p l e s m args below meth c H locs ls X hS hP hL h1 h2 h3 h4)
theorem a_isub {x y : Int32} (dg : decode I.2.1 pc = .ok (.isub, 1))  (k : AW V I R Qf n0 z0 (pc + 1) lv (.int (x - y) :: st) h n z) : AW V I R Qf n0 z0 pc lv (.int y :: .int x :: st) h n z := by
  intro p l e s m args below meth c H locs ls X hS hP hL h1 h2 h3 h4
  exact lv_isub X.1 X.2.1 dg (k p l e s m args below meth c H locs ls X hS hP hL h1 h2 h3 h4)
theorem a_imul {x y : Int32} (dg : decode I.2.1 pc = .ok (.imul, 1))  (k : AW V I R Qf n0 z0 (pc + 1) lv (.int (x * y) :: st) h n z) : AW V I R Qf n0 z0 pc lv (.int y :: .int x :: st) h n z := by
  intro p l e s m args below meth c H locs ls X hS hP hL h1 h2 h3 h4
  exact lv_imul X.1 X.2.1 dg (k p l e s m args below meth c H locs ls X hS hP hL h1 h2 h3 h4)
theorem a_iand {x y : Int32} (dg : decode I.2.1 pc = .ok (.iand, 1))  (k : AW V I R Qf n0 z0 (pc + 1) lv (.int (x &&& y) :: st) h n z) : AW V I R Qf n0 z0 pc lv (.int y :: .int x :: st) h n z := by
  intro p l e s m args below meth c H locs ls X hS hP hL h1 h2 h3 h4
  exact lv_iand X.1 X.2.1 dg (k p l e s m args below meth c H locs ls X hS hP hL h1 h2 h3 h4)
theorem a_ladd {x y : Int64} (dg : decode I.2.1 pc = .ok (.ladd, 1))  (k : AW V I R Qf n0 z0 (pc + 1) lv (.long (x + y) :: st) h n z) : AW V I R Qf n0 z0 pc lv (.long y :: .long x :: st) h n z := by
  intro p l e s m args below meth c H locs ls X hS hP hL h1 h2 h3 h4
  exact lv_ladd X.1 X.2.1 dg (k p l e s m args below meth c H locs ls X hS hP hL h1 h2 h3 h4)
theorem a_lsub {x y : Int64} (dg : decode I.2.1 pc = .ok (.lsub, 1))  (k : AW V I R Qf n0 z0 (pc + 1) lv (.long (x - y) :: st) h n z) : AW V I R Qf n0 z0 pc lv (.long y :: .long x :: st) h n z := by
  intro p l e s m args below meth c H locs ls X hS hP hL h1 h2 h3 h4
  exact lv_lsub X.1 X.2.1 dg (k p l e s m args below meth c H locs ls X hS hP hL h1 h2 h3 h4)
theorem a_land {x y : Int64} (dg : decode I.2.1 pc = .ok (.land, 1))  (k : AW V I R Qf n0 z0 (pc + 1) lv (.long (x &&& y) :: st) h n z) : AW V I R Qf n0 z0 pc lv (.long y :: .long x :: st) h n z := by
  intro p l e s m args below meth c H locs ls X hS hP hL h1 h2 h3 h4
  exact lv_land X.1 X.2.1 dg (k p l e s m args below meth c H locs ls X hS hP hL h1 h2 h3 h4)
theorem a_lor {x y : Int64} (dg : decode I.2.1 pc = .ok (.lor, 1))  (k : AW V I R Qf n0 z0 (pc + 1) lv (.long (x ||| y) :: st) h n z) : AW V I R Qf n0 z0 pc lv (.long y :: .long x :: st) h n z := by
  intro p l e s m args below meth c H locs ls X hS hP hL h1 h2 h3 h4
  exact lv_lor X.1 X.2.1 dg (k p l e s m args below meth c H locs ls X hS hP hL h1 h2 h3 h4)
theorem a_lxor {x y : Int64} (dg : decode I.2.1 pc = .ok (.lxor, 1))  (k : AW V I R Qf n0 z0 (pc + 1) lv (.long (x ^^^ y) :: st) h n z) : AW V I R Qf n0 z0 pc lv (.long y :: .long x :: st) h n z := by
  intro p l e s m args below meth c H locs ls X hS hP hL h1 h2 h3 h4
  exact lv_lxor X.1 X.2.1 dg (k p l e s m args below meth c H locs ls X hS hP hL h1 h2 h3 h4)
theorem a_idiv {x y : Int32} (dg : decode I.2.1 pc = .ok (.idiv, 1)) (hne : ¬ y = 0) (k : AW V I R Qf n0 z0 (pc + 1) lv (.int (x / y) :: st) h n z) : AW V I R Qf n0 z0 pc lv (.int y :: .int x :: st) h n z := by
  intro p l e s m args below meth c H locs ls X hS hP hL h1 h2 h3 h4
  exact lv_idiv X.1 X.2.1 dg hne (k p l e s m args below meth c H locs ls X hS hP hL h1 h2 h3 h4)
theorem a_irem {x y : Int32} (dg : decode I.2.1 pc = .ok (.irem, 1)) (hne : ¬ y = 0) (k : AW V I R Qf n0 z0 (pc + 1) lv (.int (x - x / y * y) :: st) h n z) : AW V I R Qf n0 z0 pc lv (.int y :: .int x :: st) h n z := by
  intro p l e s m args below meth c H locs ls X hS hP hL h1 h2 h3 h4
  exact lv_irem X.1 X.2.1 dg hne (k p l e s m args below meth c H locs ls X hS hP hL h1 h2 h3 h4)
theorem a_ineg {x : Int32} (dg : decode I.2.1 pc = .ok (.ineg, 1))  (k : AW V I R Qf n0 z0 (pc + 1) lv (.int (-x) :: st) h n z) : AW V I R Qf n0 z0 pc lv (.int x :: st) h n z := by
  intro p l e s m args below meth c H locs ls X hS hP hL h1 h2 h3 h4
  exact lv_ineg X.1 X.2.1 dg (k p l e s m args below meth c H locs ls X hS hP hL h1 h2 h3 h4)
theorem a_i2l {x : Int32} (dg : decode I.2.1 pc = .ok (.i2l, 1))  (k : AW V I R Qf n0 z0 (pc + 1) lv (.long x.toInt64 :: st) h n z) : AW V I R Qf n0 z0 pc lv (.int x :: st) h n z := by
  intro p l e s m args below meth c H locs ls X hS hP hL h1 h2 h3 h4
  exact lv_i2l X.1 X.2.1 dg rfl (k p l e s m args below meth c H locs ls X hS hP hL h1 h2 h3 h4)
theorem a_l2i {x : Int64} (dg : decode I.2.1 pc = .ok (.l2i, 1))  (k : AW V I R Qf n0 z0 (pc + 1) lv (.int x.toInt32 :: st) h n z) : AW V I R Qf n0 z0 pc lv (.long x :: st) h n z := by
  intro p l e s m args below meth c H locs ls X hS hP hL h1 h2 h3 h4
  exact lv_l2i X.1 X.2.1 dg rfl (k p l e s m args below meth c H locs ls X hS hP hL h1 h2 h3 h4)
theorem a_ishr {x y : Int32} (dg : decode I.2.1 pc = .ok (.ishr, 1))  (k : AW V I R Qf n0 z0 (pc + 1) lv (.int (x >>> (y &&& 31)) :: st) h n z) : AW V I R Qf n0 z0 pc lv (.int y :: .int x :: st) h n z := by
  intro p l e s m args below meth c H locs ls X hS hP hL h1 h2 h3 h4
  exact lv_ishr X.1 X.2.1 dg (k p l e s m args below meth c H locs ls X hS hP hL h1 h2 h3 h4)
theorem a_lushr {x : Int64} {y : Int32} (dg : decode I.2.1 pc = .ok (.lushr, 1))  (k : AW V I R Qf n0 z0 (pc + 1) lv (.long (x.toUInt64 >>> (y.toInt64.toUInt64 &&& Int64.toUInt64 63)).toInt64 :: st) h n z) : AW V I R Qf n0 z0 pc lv (.int y :: .long x :: st) h n z := by
  intro p l e s m args below meth c H locs ls X hS hP hL h1 h2 h3 h4
  exact lv_lushr X.1 X.2.1 dg rfl (k p l e s m args below meth c H locs ls X hS hP hL h1 h2 h3 h4)
theorem a_lshl {x : Int64} {y : Int32} (dg : decode I.2.1 pc = .ok (.lshl, 1))  (k : AW V I R Qf n0 z0 (pc + 1) lv (.long (x <<< (y.toInt64 &&& 63)) :: st) h n z) : AW V I R Qf n0 z0 pc lv (.int y :: .long x :: st) h n z := by
  intro p l e s m args below meth c H locs ls X hS hP hL h1 h2 h3 h4
  exact lv_lshl X.1 X.2.1 dg rfl (k p l e s m args below meth c H locs ls X hS hP hL h1 h2 h3 h4)
theorem a_lshr {x : Int64} {y : Int32} (dg : decode I.2.1 pc = .ok (.lshr, 1))  (k : AW V I R Qf n0 z0 (pc + 1) lv (.long (x >>> (y.toInt64 &&& 63)) :: st) h n z) : AW V I R Qf n0 z0 pc lv (.int y :: .long x :: st) h n z := by
  intro p l e s m args below meth c H locs ls X hS hP hL h1 h2 h3 h4
  exact lv_lshr X.1 X.2.1 dg rfl (k p l e s m args below meth c H locs ls X hS hP hL h1 h2 h3 h4)
theorem a_lcmp {x y : Int64} (dg : decode I.2.1 pc = .ok (.lcmp, 1))  (k : AW V I R Qf n0 z0 (pc + 1) lv (.int (lg_cmp x y) :: st) h n z) : AW V I R Qf n0 z0 pc lv (.long y :: .long x :: st) h n z := by
  intro p l e s m args below meth c H locs ls X hS hP hL h1 h2 h3 h4
  exact W.lcmp X.1 X.2.1 dg (k p l e s m args below meth c H locs ls X hS hP hL h1 h2 h3 h4)
theorem a_null  (dg : decode I.2.1 pc = .ok (.aconst_null, 1))  (k : AW V I R Qf n0 z0 (pc + 1) lv (.null :: st) h n z) : AW V I R Qf n0 z0 pc lv st h n z := by
  intro p l e s m args below meth c H locs ls X hS hP hL h1 h2 h3 h4
  exact lv_null X.1 X.2.1 dg (k p l e s m args below meth c H locs ls X hS hP hL h1 h2 h3 h4)
theorem a_dup {v : Value} (dg : decode I.2.1 pc = .ok (.dup, 1)) (hv : v.category = 1) (k : AW V I R Qf n0 z0 (pc + 1) lv (v :: v :: st) h n z) : AW V I R Qf n0 z0 pc lv (v :: st) h n z := by
  intro p l e s m args below meth c H locs ls X hS hP hL h1 h2 h3 h4
  exact lv_dup X.1 X.2.1 dg (by rw [coV_cat]; exact hv) (k p l e s m args below meth c H locs ls X hS hP hL h1 h2 h3 h4)
theorem a_pop {v : Value} (dg : decode I.2.1 pc = .ok (.pop, 1)) (hv : v.category = 1) (k : AW V I R Qf n0 z0 (pc + 1) lv st h n z) : AW V I R Qf n0 z0 pc lv (v :: st) h n z := by
  intro p l e s m args below meth c H locs ls X hS hP hL h1 h2 h3 h4
  exact lv_pop X.1 X.2.1 dg (by rw [coV_cat]; exact hv) (k p l e s m args below meth c H locs ls X hS hP hL h1 h2 h3 h4)
theorem a_dup2 {v u : Value} (dg : decode I.2.1 pc = .ok (.dup2, 1)) (hv : v.category = 1) (hu : u.category = 1) (k : AW V I R Qf n0 z0 (pc + 1) lv (v :: u :: v :: u :: st) h n z) : AW V I R Qf n0 z0 pc lv (v :: u :: st) h n z := by
  intro p l e s m args below meth c H locs ls X hS hP hL h1 h2 h3 h4
  exact lv_dup2_11 X.1 X.2.1 dg (by rw [coV_cat]; exact hv) (by rw [coV_cat]; exact hu) (k p l e s m args below meth c H locs ls X hS hP hL h1 h2 h3 h4)
theorem a_if_eq {x : Int32} {off : Int} (tgt : Nat) (dg : decode I.2.1 pc = .ok (.ifCond .eq off, 3)) (ht : (pc : Int) + off = (tgt : Int)) (kt : x = 0 → AW V I R Qf n0 z0 tgt lv st h n z) (kf : ¬ x = 0 → AW V I R Qf n0 z0 (pc + 3) lv st h n z) : AW V I R Qf n0 z0 pc lv (.int x :: st) h n z := by
  intro p l e s m args below meth c H locs ls X hS hP hL h1 h2 h3 h4
  exact lv_if_eq X.1 X.2.1 dg ht (fun q => kt q p l e s m args below meth c H locs ls X hS hP hL h1 h2 h3 h4) (fun q => kf q p l e s m args below meth c H locs ls X hS hP hL h1 h2 h3 h4)
theorem a_icmp_eq {x y : Int32} {off : Int} (tgt : Nat) (dg : decode I.2.1 pc = .ok (.if_icmp .eq off, 3)) (ht : (pc : Int) + off = (tgt : Int)) (kt : x = y → AW V I R Qf n0 z0 tgt lv st h n z) (kf : ¬ x = y → AW V I R Qf n0 z0 (pc + 3) lv st h n z) : AW V I R Qf n0 z0 pc lv (.int y :: .int x :: st) h n z := by
  intro p l e s m args below meth c H locs ls X hS hP hL h1 h2 h3 h4
  exact lv_icmp_eq X.1 X.2.1 dg ht (fun q => kt q p l e s m args below meth c H locs ls X hS hP hL h1 h2 h3 h4) (fun q => kf q p l e s m args below meth c H locs ls X hS hP hL h1 h2 h3 h4)
theorem a_if_ne {x : Int32} {off : Int} (tgt : Nat) (dg : decode I.2.1 pc = .ok (.ifCond .ne off, 3)) (ht : (pc : Int) + off = (tgt : Int)) (kt : ¬ x = 0 → AW V I R Qf n0 z0 tgt lv st h n z) (kf : x = 0 → AW V I R Qf n0 z0 (pc + 3) lv st h n z) : AW V I R Qf n0 z0 pc lv (.int x :: st) h n z := by
  intro p l e s m args below meth c H locs ls X hS hP hL h1 h2 h3 h4
  exact lv_if_ne X.1 X.2.1 dg ht (fun q => kt q p l e s m args below meth c H locs ls X hS hP hL h1 h2 h3 h4) (fun q => kf q p l e s m args below meth c H locs ls X hS hP hL h1 h2 h3 h4)
theorem a_icmp_ne {x y : Int32} {off : Int} (tgt : Nat) (dg : decode I.2.1 pc = .ok (.if_icmp .ne off, 3)) (ht : (pc : Int) + off = (tgt : Int)) (kt : ¬ x = y → AW V I R Qf n0 z0 tgt lv st h n z) (kf : x = y → AW V I R Qf n0 z0 (pc + 3) lv st h n z) : AW V I R Qf n0 z0 pc lv (.int y :: .int x :: st) h n z := by
  intro p l e s m args below meth c H locs ls X hS hP hL h1 h2 h3 h4
  exact lv_icmp_ne X.1 X.2.1 dg ht (fun q => kt q p l e s m args below meth c H locs ls X hS hP hL h1 h2 h3 h4) (fun q => kf q p l e s m args below meth c H locs ls X hS hP hL h1 h2 h3 h4)
theorem a_if_lt {x : Int32} {off : Int} (tgt : Nat) (dg : decode I.2.1 pc = .ok (.ifCond .lt off, 3)) (ht : (pc : Int) + off = (tgt : Int)) (kt : x < 0 → AW V I R Qf n0 z0 tgt lv st h n z) (kf : ¬ x < 0 → AW V I R Qf n0 z0 (pc + 3) lv st h n z) : AW V I R Qf n0 z0 pc lv (.int x :: st) h n z := by
  intro p l e s m args below meth c H locs ls X hS hP hL h1 h2 h3 h4
  exact lv_if_lt X.1 X.2.1 dg ht (fun q => kt q p l e s m args below meth c H locs ls X hS hP hL h1 h2 h3 h4) (fun q => kf q p l e s m args below meth c H locs ls X hS hP hL h1 h2 h3 h4)
theorem a_icmp_lt {x y : Int32} {off : Int} (tgt : Nat) (dg : decode I.2.1 pc = .ok (.if_icmp .lt off, 3)) (ht : (pc : Int) + off = (tgt : Int)) (kt : x < y → AW V I R Qf n0 z0 tgt lv st h n z) (kf : ¬ x < y → AW V I R Qf n0 z0 (pc + 3) lv st h n z) : AW V I R Qf n0 z0 pc lv (.int y :: .int x :: st) h n z := by
  intro p l e s m args below meth c H locs ls X hS hP hL h1 h2 h3 h4
  exact lv_icmp_lt X.1 X.2.1 dg ht (fun q => kt q p l e s m args below meth c H locs ls X hS hP hL h1 h2 h3 h4) (fun q => kf q p l e s m args below meth c H locs ls X hS hP hL h1 h2 h3 h4)
theorem a_if_ge {x : Int32} {off : Int} (tgt : Nat) (dg : decode I.2.1 pc = .ok (.ifCond .ge off, 3)) (ht : (pc : Int) + off = (tgt : Int)) (kt : 0 ≤ x → AW V I R Qf n0 z0 tgt lv st h n z) (kf : ¬ 0 ≤ x → AW V I R Qf n0 z0 (pc + 3) lv st h n z) : AW V I R Qf n0 z0 pc lv (.int x :: st) h n z := by
  intro p l e s m args below meth c H locs ls X hS hP hL h1 h2 h3 h4
  exact lv_if_ge X.1 X.2.1 dg ht (fun q => kt q p l e s m args below meth c H locs ls X hS hP hL h1 h2 h3 h4) (fun q => kf q p l e s m args below meth c H locs ls X hS hP hL h1 h2 h3 h4)
theorem a_icmp_ge {x y : Int32} {off : Int} (tgt : Nat) (dg : decode I.2.1 pc = .ok (.if_icmp .ge off, 3)) (ht : (pc : Int) + off = (tgt : Int)) (kt : y ≤ x → AW V I R Qf n0 z0 tgt lv st h n z) (kf : ¬ y ≤ x → AW V I R Qf n0 z0 (pc + 3) lv st h n z) : AW V I R Qf n0 z0 pc lv (.int y :: .int x :: st) h n z := by
  intro p l e s m args below meth c H locs ls X hS hP hL h1 h2 h3 h4
  exact lv_icmp_ge X.1 X.2.1 dg ht (fun q => kt q p l e s m args below meth c H locs ls X hS hP hL h1 h2 h3 h4) (fun q => kf q p l e s m args below meth c H locs ls X hS hP hL h1 h2 h3 h4)
theorem a_if_gt {x : Int32} {off : Int} (tgt : Nat) (dg : decode I.2.1 pc = .ok (.ifCond .gt off, 3)) (ht : (pc : Int) + off = (tgt : Int)) (kt : 0 < x → AW V I R Qf n0 z0 tgt lv st h n z) (kf : ¬ 0 < x → AW V I R Qf n0 z0 (pc + 3) lv st h n z) : AW V I R Qf n0 z0 pc lv (.int x :: st) h n z := by
  intro p l e s m args below meth c H locs ls X hS hP hL h1 h2 h3 h4
  exact lv_if_gt X.1 X.2.1 dg ht (fun q => kt q p l e s m args below meth c H locs ls X hS hP hL h1 h2 h3 h4) (fun q => kf q p l e s m args below meth c H locs ls X hS hP hL h1 h2 h3 h4)
theorem a_icmp_gt {x y : Int32} {off : Int} (tgt : Nat) (dg : decode I.2.1 pc = .ok (.if_icmp .gt off, 3)) (ht : (pc : Int) + off = (tgt : Int)) (kt : y < x → AW V I R Qf n0 z0 tgt lv st h n z) (kf : ¬ y < x → AW V I R Qf n0 z0 (pc + 3) lv st h n z) : AW V I R Qf n0 z0 pc lv (.int y :: .int x :: st) h n z := by
  intro p l e s m args below meth c H locs ls X hS hP hL h1 h2 h3 h4
  exact lv_icmp_gt X.1 X.2.1 dg ht (fun q => kt q p l e s m args below meth c H locs ls X hS hP hL h1 h2 h3 h4) (fun q => kf q p l e s m args below meth c H locs ls X hS hP hL h1 h2 h3 h4)
theorem a_if_le {x : Int32} {off : Int} (tgt : Nat) (dg : decode I.2.1 pc = .ok (.ifCond .le off, 3)) (ht : (pc : Int) + off = (tgt : Int)) (kt : x ≤ 0 → AW V I R Qf n0 z0 tgt lv st h n z) (kf : ¬ x ≤ 0 → AW V I R Qf n0 z0 (pc + 3) lv st h n z) : AW V I R Qf n0 z0 pc lv (.int x :: st) h n z := by
  intro p l e s m args below meth c H locs ls X hS hP hL h1 h2 h3 h4
  exact lv_if_le X.1 X.2.1 dg ht (fun q => kt q p l e s m args below meth c H locs ls X hS hP hL h1 h2 h3 h4) (fun q => kf q p l e s m args below meth c H locs ls X hS hP hL h1 h2 h3 h4)
theorem a_icmp_le {x y : Int32} {off : Int} (tgt : Nat) (dg : decode I.2.1 pc = .ok (.if_icmp .le off, 3)) (ht : (pc : Int) + off = (tgt : Int)) (kt : x ≤ y → AW V I R Qf n0 z0 tgt lv st h n z) (kf : ¬ x ≤ y → AW V I R Qf n0 z0 (pc + 3) lv st h n z) : AW V I R Qf n0 z0 pc lv (.int y :: .int x :: st) h n z := by
  intro p l e s m args below meth c H locs ls X hS hP hL h1 h2 h3 h4
  exact lv_icmp_le X.1 X.2.1 dg ht (fun q => kt q p l e s m args below meth c H locs ls X hS hP hL h1 h2 h3 h4) (fun q => kf q p l e s m args below meth c H locs ls X hS hP hL h1 h2 h3 h4)
theorem a_goto {off : Int} (tgt : Nat) (dg : decode I.2.1 pc = .ok (.goto off, 3)) (ht : (pc : Int) + off = (tgt : Int)) (k : AW V I R Qf n0 z0 tgt lv st h n z) : AW V I R Qf n0 z0 pc lv st h n z := by
  intro p l e s m args below meth c H locs ls X hS hP hL h1 h2 h3 h4
  exact lv_goto X.1 X.2.1 dg ht (k p l e s m args below meth c H locs ls X hS hP hL h1 h2 h3 h4)
theorem a_ifnull {x : Nat} {off : Int} (dg : decode I.2.1 pc = .ok (.ifnull off, 3)) (k : AW V I R Qf n0 z0 (pc + 3) lv st h n z) : AW V I R Qf n0 z0 pc lv (.ref x :: st) h n z := by
  intro p l e s m args below meth c H locs ls X hS hP hL h1 h2 h3 h4
  exact lv_ifnull X.1 X.2.1 dg (k p l e s m args below meth c H locs ls X hS hP hL h1 h2 h3 h4)
theorem a_ifnullN {off : Int} (tgt : Nat) (dg : decode I.2.1 pc = .ok (.ifnull off, 3)) (ht : (pc : Int) + off = (tgt : Int)) (k : AW V I R Qf n0 z0 tgt lv st h n z) : AW V I R Qf n0 z0 pc lv (.null :: st) h n z := by
  intro p l e s m args below meth c H locs ls X hS hP hL h1 h2 h3 h4
  exact lv_ifnullN X.1 X.2.1 dg ht (k p l e s m args below meth c H locs ls X hS hP hL h1 h2 h3 h4)
theorem a_ifnonnull {x : Nat} {off : Int} (tgt : Nat) (dg : decode I.2.1 pc = .ok (.ifnonnull off, 3)) (ht : (pc : Int) + off = (tgt : Int)) (k : AW V I R Qf n0 z0 tgt lv st h n z) : AW V I R Qf n0 z0 pc lv (.ref x :: st) h n z := by
  intro p l e s m args below meth c H locs ls X hS hP hL h1 h2 h3 h4
  exact lv_ifnonnull X.1 X.2.1 dg ht (k p l e s m args below meth c H locs ls X hS hP hL h1 h2 h3 h4)
theorem a_ifnonnullN {off : Int} (dg : decode I.2.1 pc = .ok (.ifnonnull off, 3)) (k : AW V I R Qf n0 z0 (pc + 3) lv st h n z) : AW V I R Qf n0 z0 pc lv (.null :: st) h n z := by
  intro p l e s m args below meth c H locs ls X hS hP hL h1 h2 h3 h4
  exact lv_ifnonnullN X.1 X.2.1 dg (k p l e s m args below meth c H locs ls X hS hP hL h1 h2 h3 h4)
theorem a_tabOut {dflt lo hi : Int} {offs : Array Int} {len : Nat} {x : Int32} (tgt : Nat) (dg : decode I.2.1 pc = .ok (.tableswitch dflt lo hi offs, len)) (hx : x.toInt < lo ∨ hi < x.toInt) (ht : (pc : Int) + dflt = (tgt : Int)) (k : AW V I R Qf n0 z0 tgt lv st h n z) : AW V I R Qf n0 z0 pc lv (.int x :: st) h n z := by
  intro p l e s m args below meth c H locs ls X hS hP hL h1 h2 h3 h4
  exact lv_tableOut X.1 X.2.1 dg hx ht (k p l e s m args below meth c H locs ls X hS hP hL h1 h2 h3 h4)
theorem a_tabIn {dflt lo hi off : Int} {offs : Array Int} {len : Nat} {x : Int32} (tgt : Nat) (dg : decode I.2.1 pc = .ok (.tableswitch dflt lo hi offs, len)) (hx1 : ¬ x.toInt < lo) (hx2 : ¬ hi < x.toInt) (ho : offs[(x.toInt - lo).toNat]? = some off) (ht : (pc : Int) + off = (tgt : Int)) (k : AW V I R Qf n0 z0 tgt lv st h n z) : AW V I R Qf n0 z0 pc lv (.int x :: st) h n z := by
  intro p l e s m args below meth c H locs ls X hS hP hL h1 h2 h3 h4
  exact lv_tableIn X.1 X.2.1 dg hx1 hx2 ho ht (k p l e s m args below meth c H locs ls X hS hP hL h1 h2 h3 h4)
theorem a_ldc {i : Nat} {v : Int32} (dg : decode I.2.1 pc = .ok (.ldc i, 2)) (hw : Cond.constant I.1.cls i v ∈ WT) (k : AW V I R Qf n0 z0 (pc + 2) lv (.int v :: st) h n z) : AW V I R Qf n0 z0 pc lv st h n z := by
  intro p l e s m args below meth c H locs ls X hS hP hL h1 h2 h3 h4
  exact lv_ldc X.1 X.2.1 X.2.2.2.1 (X.2.2.2.2.1 _ hw) dg (k p l e s m args below meth c H locs ls X hS hP hL h1 h2 h3 h4)
theorem a_ldc2 {i : Nat} {v : Int64} (dg : decode I.2.1 pc = .ok (.ldc2_w i, 3)) (hw : Cond.constantLong I.1.cls i v ∈ WT) (k : AW V I R Qf n0 z0 (pc + 3) lv (.long v :: st) h n z) : AW V I R Qf n0 z0 pc lv st h n z := by
  intro p l e s m args below meth c H locs ls X hS hP hL h1 h2 h3 h4
  exact lv_ldc2 X.1 X.2.1 X.2.2.2.1 (X.2.2.2.2.1 _ hw) dg (k p l e s m args below meth c H locs ls X hS hP hL h1 h2 h3 h4)
end AWRows
end
section
/-! ROWS of fields, arrays, objects, returns, calls -/
def CI (j : Nat) (C : String) (T : u_T) (N : Nat) (ty : Nat → FieldType) : Prop := vwCl[j]? = some (C, T, N) ∧ (∀ w ∈ u_ws C T N, w ∈ WT) ∧ (∀ k, k < N → parseFieldDescriptor (T k).2.2.1 = some (ty k)) ∧ ∀ a, a < N → ∀ b, b < N → a ≠ b → (T a).2.1 ≠ (T b).2.1
def FL (own : String) (idx j : Nat) (C : String) (T : u_T) (N : Nat) (ty : Nat → FieldType) (k : Nat) : Prop := CI j C T N ty ∧ k < N ∧ Cond.fieldLink own idx (T k).1 (T k).2.1 (T k).2.2.1 ∈ WT
section AWMem
variable {V : VV} {I : MI} {R : Room} {Qf : QF} {n0 z0 pc : Nat} {lv : List (Option Value)} {st : List Value} {h : AH} {n z : Nat}
theorem a_getf {idx j k a : Nat} {C : String} {T : u_T} {N : Nat} {ty : Nat → FieldType} {fs : List Value} {v : Value} (dg : decode I.2.1 pc = .ok (.getfield idx, 3)) (fl : FL I.1.cls idx j C T N ty k) (hg : h a = .inr (j, fs)) (hv : fs[k]? = some v) (kk : AW V I R Qf n0 z0 (pc + 3) lv (v :: st) h n z) : AW V I R Qf n0 z0 pc lv (.ref a :: st) h n z := by
  intro p l e s m args below meth c H locs ls X hS hP hL h1 h2 h3 h4
  obtain ⟨⟨c1, c2, c3, c4⟩, hk, hw⟩ := fl
  have ha := hP.at (nj_o hg)
  have he := wsA_get V h ha.1 ha.2
  rw [hg] at he
  exact va_get X.1 X.2.1 X.2.2.2.2.1 c2 X.2.2.2.1 X.2.2.2.2.2.2.2.2.1 hP.2.2.2 (a - 8) he c1 k hk (X.2.2.2.2.1 _ hw) (fun _ q => q) (show (fs.map (coV V))[k]? = some (coV V v) by simp [hv]) dg (kk p l e s m args below meth c H locs ls X hS hP hL h1 h2 h3 h4)
theorem a_putf {idx j k a : Nat} {C : String} {T : u_T} {N : Nat} {ty : Nat → FieldType} {fs : List Value} {v : Value} (dg : decode I.2.1 pc = .ok (.putfield idx, 3)) (fl : FL I.1.cls idx j C T N ty k) (hfin : (T k).2.2.2 = false) (hg : h a = .inr (j, fs)) (hl : k < fs.length) (hn : narrow (ty k) (coV V v) = coV V v) (hf : fits (ty k) (coV V v) = true) (kk : AW V I R Qf n0 z0 (pc + 3) lv st (hu h a (.inr (j, fs.set k v))) n z) : AW V I R Qf n0 z0 pc lv (v :: .ref a :: st) h n z := by
  intro p l e s m args below meth c H locs ls X hS hP hL h1 h2 h3 h4
  obtain ⟨⟨c1, c2, c3, c4⟩, hk, hw⟩ := fl
  have ha := hP.at (nj_o hg)
  have he := wsA_get V h ha.1 ha.2
  rw [hg] at he
  obtain ⟨r, q0, cell, q1, q2, q3, q4⟩ := hP.2.2.2 (a - 8) _ he
  have hr : r = (C, T, N) := Option.some.inj (q0.symm.trans c1)
  subst hr
  have hts := X.2.2.2.2.1
  have hK := X.2.2.2.2.2.2.2.2.1
  obtain ⟨hSl, hfc, kC, hkC, hkind⟩ := hK.1 j _ c1
  obtain ⟨cf, kf, fi, f, hi, hsl⟩ := hSl k hk
  have hap := va_apart (own := I.1.cls) hts c2 ty c3 c4 hK c1
  have hlay := hts _ (c2 _ (u_in_lay hk))
  unfold u_lay at hlay
  rw [if_neg (by rw [hfin]; decide)] at hlay
  have hst := (u_facts hfc hkC (u_lays hts c2 hk) hi).1
  have h6 := u_store hfc hkC hkind hlay hi (c3 k hk) hn hf
  refine W.putK X.1 X.2.1 (f := f) ⟨X.2.2.2.1, hts _ hw, ⟨_, _, _, hi⟩, hst⟩ (by rw [q2]; exact h6) q1 q3 (by rw [hsl]; exact k2_hasslot (q4 k hk)) rfl rfl dg fun H' e1 e2 e3 => ?_
  rw [hsl] at e1 ⊢
  have hP' := hP.2.2.2.set (wsA_D V h n) he (e := .inr (j, (fs.map (coV V)).set k (coV V v))) ⟨_, c1, t_OB.to (V := updV (vp_V (fs.map (coV V))) k (coV V v)) ⟨_, e1, q2, q3, t_set q4 hap hk _⟩ (fun i _ => vp_updV_set (by simpa using hl) _ i)⟩ e3
  have hA : Ab V (ad V a) := by rw [ad_ge V ha.1]; exact Nat.le_add_right _ _
  have hP2 : Pos V (hu h a (.inr (j, fs.set k v))) n H' := hP.put ha.1 ha.2 e2 (by
    show va_P V.1 vwCl ((wsA V h n).set (a - 8) (ad V a, .inr (j, (fs.set k v).map (coV V)))) H'
    rw [List.map_set]; exact hP')
  exact kk p l e s m args below meth c H' _ ls X (hS.put e2 e3 hA) hP2 hL h1 h2 h3 h4
theorem a_putF {idx j k a : Nat} {C : String} {T : u_T} {N : Nat} {ty : Nat → FieldType} {fs : List Value} {v : Value} (dg : decode I.2.1 pc = .ok (.putfield idx, 3)) (fl : FL I.1.cls idx j C T N ty k) (hfin : (T k).2.2.2 = true) (hin : I.1.name = "<init>") (hdc : (T k).1 = I.1.cls) (hg : h a = .inr (j, fs)) (hl : k < fs.length) (hn : narrow (ty k) (coV V v) = coV V v) (hf : fits (ty k) (coV V v) = true) (kk : AW V I R Qf n0 z0 (pc + 3) lv st (hu h a (.inr (j, fs.set k v))) n z) : AW V I R Qf n0 z0 pc lv (v :: .ref a :: st) h n z := by
  intro p l e s m args below meth c H locs ls X hS hP hL h1 h2 h3 h4
  obtain ⟨⟨c1, c2, c3, c4⟩, hk, hw⟩ := fl
  have ha := hP.at (nj_o hg)
  have he := wsA_get V h ha.1 ha.2
  rw [hg] at he
  obtain ⟨r, q0, cell, q1, q2, q3, q4⟩ := hP.2.2.2 (a - 8) _ he
  have hr : r = (C, T, N) := Option.some.inj (q0.symm.trans c1)
  subst hr
  have hts := X.2.2.2.2.1
  have hK := X.2.2.2.2.2.2.2.2.1
  obtain ⟨hSl, hfc, kC, hkC, hkind⟩ := hK.1 j _ c1
  obtain ⟨cf, kf, fi, f, hi, hsl⟩ := hSl k hk
  have hap := va_apart (own := I.1.cls) hts c2 ty c3 c4 hK c1
  have hlay := hts _ (c2 _ (u_in_lay hk))
  unfold u_lay at hlay
  rw [if_pos hfin] at hlay
  have hst := (u_facts hfc hkC (u_lays hts c2 hk) hi).1
  have hcf : m.cls = cf := by
    obtain ⟨_, _, c', _, _, _, -, -, hf', -, -, -, hown2, -⟩ := Cond.laysFinal_spec hlay
    have e1 : c' = cf := by have := hi.symm.trans hf'; simp at this; exact this.1.symm
    rw [hdc] at hown2
    rw [← e1]; exact Option.some.inj (X.2.2.2.1.symm.trans hown2)
  have h6 := u_fits hfc hkC hkind (Or.inr hlay) hi (c3 k hk) hn hf
  refine W.putFinK X.1 X.2.1 X.2.2.2.1 (hts _ hw) hi hst hcf (X.2.2.2.2.2.2.2.1.trans hin) (by rw [q2]; exact h6) q1 q3 (by rw [hsl]; exact k2_hasslot (q4 k hk)) rfl rfl dg fun H' e1 e2 e3 => ?_
  rw [hsl] at e1 ⊢
  have hP' := hP.2.2.2.set (wsA_D V h n) he (e := .inr (j, (fs.map (coV V)).set k (coV V v))) ⟨_, c1, t_OB.to (V := updV (vp_V (fs.map (coV V))) k (coV V v)) ⟨_, e1, q2, q3, t_set q4 hap hk _⟩ (fun i _ => vp_updV_set (by simpa using hl) _ i)⟩ e3
  have hA : Ab V (ad V a) := by rw [ad_ge V ha.1]; exact Nat.le_add_right _ _
  have hP2 : Pos V (hu h a (.inr (j, fs.set k v))) n H' := hP.put ha.1 ha.2 e2 (by
    show va_P V.1 vwCl ((wsA V h n).set (a - 8) (ad V a, .inr (j, (fs.set k v).map (coV V)))) H'
    rw [List.map_set]; exact hP')
  exact kk p l e s m args below meth c H' _ ls X (hS.put e2 e3 hA) hP2 hL h1 h2 h3 h4
theorem a_gets {idx k : Nat} (hk : k < 7) (dg : decode I.2.1 pc = .ok (.getstatic idx, 3)) (hw : Cond.fieldLink I.1.cls idx (sC k) (sN k) "[I" ∈ WT) (kk : AW V I R Qf n0 z0 (pc + 3) lv (.ref k :: st) h n z) : AW V I R Qf n0 z0 pc lv st h n z := by
  intro p l e s m args below meth c H locs ls X hS hP hL h1 h2 h3 h4
  have K := kk p l e s m args below meth c H locs ls X hS hP hL h1 h2 h3 h4
  have e1 : coV V (.ref k) = .ref (V.2.2.2.1 k) := by simp [coV, ad, show k < 8 by omega]
  rw [List.map_cons, e1] at K
  exact va_gets X.1 X.2.1 (X.2.2.2.2.2.2.2.2.2.1.1 k hk) hS X.2.2.2.1 (X.2.2.2.2.1 _ hw) (fun _ q => q) dg K
theorem a_tald {k : Nat} {i : Int32} (hk : k < 8) (dg : decode I.2.1 pc = .ok (.iaload, 1)) (hin : vp_in i (tL V k)) (kk : AW V I R Qf n0 z0 (pc + 1) lv (.int (tF V k i.toNatClampNeg) :: st) h n z) : AW V I R Qf n0 z0 pc lv (.int i :: .ref k :: st) h n z := by
  intro p l e s m args below meth c H locs ls X hS hP hL h1 h2 h3 h4
  have e1 : coV V (.ref k) = .ref (V.2.2.2.1 k) := by simp [coV, ad, hk]
  rw [List.map_cons, List.map_cons, e1]
  exact va_ti X.1 X.2.1 (X.2.2.2.2.2.2.2.2.2.1.2.1 k hk) hS hin rfl dg (kk p l e s m args below meth c H locs ls X hS hP hL h1 h2 h3 h4)
theorem a_tlen {k : Nat} {v : Int32} (hk : k < 8) (dg : decode I.2.1 pc = .ok (.arraylength, 1)) (hv : Int32.ofNat (tL V k) = v) (kk : AW V I R Qf n0 z0 (pc + 1) lv (.int v :: st) h n z) : AW V I R Qf n0 z0 pc lv (.ref k :: st) h n z := by
  intro p l e s m args below meth c H locs ls X hS hP hL h1 h2 h3 h4
  have e1 : coV V (.ref k) = .ref (V.2.2.2.1 k) := by simp [coV, ad, hk]
  rw [List.map_cons, e1]
  exact va_tlen X.1 X.2.1 (X.2.2.2.2.2.2.2.2.2.1.2.1 k hk) hS hv dg (kk p l e s m args below meth c H locs ls X hS hP hL h1 h2 h3 h4)
theorem a_iald {a N : Nat} {f : Nat → Int32} {i : Int32} (dg : decode I.2.1 pc = .ok (.iaload, 1)) (hg : h a = .inl (N, .inl f)) (hin : vp_in i N) (kk : AW V I R Qf n0 z0 (pc + 1) lv (.int (f i.toNatClampNeg) :: st) h n z) : AW V I R Qf n0 z0 pc lv (.int i :: .ref a :: st) h n z := by
  intro p l e s m args below meth c H locs ls X hS hP hL h1 h2 h3 h4
  have ha := hP.at (nj_i hg)
  have he := wsA_get V h ha.1 ha.2
  rw [hg] at he
  exact va_iald X.1 X.2.1 X.2.2.2.2.2.2.2.2.1 hP.2.2.2 (a - 8) 0 he rfl hin dg (kk p l e s m args below meth c H locs ls X hS hP hL h1 h2 h3 h4)
theorem a_lald {a N : Nat} {f : Nat → Int64} {i : Int32} (dg : decode I.2.1 pc = .ok (.laload, 1)) (hg : h a = .inl (N, .inr (.inl f))) (hin : vp_in i N) (kk : AW V I R Qf n0 z0 (pc + 1) lv (.long (f i.toNatClampNeg) :: st) h n z) : AW V I R Qf n0 z0 pc lv (.int i :: .ref a :: st) h n z := by
  intro p l e s m args below meth c H locs ls X hS hP hL h1 h2 h3 h4
  have ha := hP.at (nj_l hg)
  have he := wsA_get V h ha.1 ha.2
  rw [hg] at he
  exact va_lald X.1 X.2.1 X.2.2.2.2.2.2.2.2.1 hP.2.2.2 (a - 8) 1 he rfl hin dg (kk p l e s m args below meth c H locs ls X hS hP hL h1 h2 h3 h4)
theorem a_aald {a N : Nat} {f : Nat → Option Nat} {i : Int32} (dg : decode I.2.1 pc = .ok (.aaload, 1)) (hg : h a = .inl (N, .inr (.inr (.inr (.inr f))))) (hin : vp_in i N) (kk : AW V I R Qf n0 z0 (pc + 1) lv (va_rf (f i.toNatClampNeg) :: st) h n z) : AW V I R Qf n0 z0 pc lv (.int i :: .ref a :: st) h n z := by
  intro p l e s m args below meth c H locs ls X hS hP hL h1 h2 h3 h4
  have ha := hP.at (nj_q hg)
  have he := wsA_get V h ha.1 ha.2
  rw [hg] at he
  have K := kk p l e s m args below meth c H locs ls X hS hP hL h1 h2 h3 h4
  have e1 : coV V (va_rf (f i.toNatClampNeg)) = va_rf ((f i.toNatClampNeg).map (ad V)) := by cases f i.toNatClampNeg <;> rfl
  rw [List.map_cons, e1] at K
  exact va_aldq X.1 X.2.1 X.2.2.2.2.2.2.2.2.1 hP.2.2.2 (a - 8) 2 he rfl hin dg K
theorem a_iast {a N : Nat} {f : Nat → Int32} {i x : Int32} (dg : decode I.2.1 pc = .ok (.iastore, 1)) (hg : h a = .inl (N, .inl f)) (hin : vp_in i N) (kk : AW V I R Qf n0 z0 (pc + 1) lv st (hu h a (.inl (N, .inl (upd f i.toNatClampNeg x)))) n z) : AW V I R Qf n0 z0 pc lv (.int x :: .int i :: .ref a :: st) h n z := by
  intro p l e s m args below meth c H locs ls X hS hP hL h1 h2 h3 h4
  have ha := hP.at (nj_i hg)
  have he := wsA_get V h ha.1 ha.2
  rw [hg] at he
  have hA : Ab V (ad V a) := by rw [ad_ge V ha.1]; exact Nat.le_add_right _ _
  refine W.iast X.1 X.2.1 (hP.2.2.2 (a - 8) _ he) ((X.2.2.2.2.2.2.2.2.1.2 0 _ rfl).1 N (fun j => .int (f j))) (fun q => by cases q) (by show ¬ (i < 0 ∨ (arrV _ _ _).slots.size ≤ _); rw [arrV_size]; exact hin) rfl rfl dg fun H1 e1 e2 e3 => ?_
  have hc : H1[ad V a]? = some (vp_cell V.2.1.1 (N, .inl (upd f i.toNatClampNeg x))) := by
    rw [e1, vp_cell_i, vp_cell_i, arrV_store]
    congr 2
    funext q
    by_cases hq : q = i.toNatClampNeg
    · subst hq; simp [updV, upd]
    · simp [updV, upd, hq]
  exact kk p l e s m args below meth c H1 _ ls X (hS.put e2 e3 hA) (hP.put ha.1 ha.2 e2 (hP.2.2.2.set (wsA_D V h n) he hc e3)) hL h1 h2 h3 h4
theorem a_last {a N : Nat} {f : Nat → Int64} {i : Int32} {x : Int64} (dg : decode I.2.1 pc = .ok (.lastore, 1)) (hg : h a = .inl (N, .inr (.inl f))) (hin : vp_in i N) (kk : AW V I R Qf n0 z0 (pc + 1) lv st (hu h a (.inl (N, .inr (.inl (vp_updL f i.toNatClampNeg x))))) n z) : AW V I R Qf n0 z0 pc lv (.long x :: .int i :: .ref a :: st) h n z := by
  intro p l e s m args below meth c H locs ls X hS hP hL h1 h2 h3 h4
  have ha := hP.at (nj_l hg)
  have he := wsA_get V h ha.1 ha.2
  rw [hg] at he
  have hA : Ab V (ad V a) := by rw [ad_ge V ha.1]; exact Nat.le_add_right _ _
  refine W.last X.1 X.2.1 (hP.2.2.2 (a - 8) _ he) ((X.2.2.2.2.2.2.2.2.1.2 1 _ rfl).1 N (fun j => .long (f j))) (fun q => by cases q) (by show ¬ (i < 0 ∨ (arrV _ _ _).slots.size ≤ _); rw [arrV_size]; exact hin) rfl rfl dg fun H1 e1 e2 e3 => ?_
  have hc : H1[ad V a]? = some (vp_cell V.2.1.2.1 (N, .inr (.inl (vp_updL f i.toNatClampNeg x)))) := by
    rw [e1, vp_cell_l, vp_cell_l, arrV_store]
    congr 2
    funext q
    by_cases hq : q = i.toNatClampNeg
    · subst hq; simp [updV, vp_updL]
    · simp [updV, vp_updL, hq]
  exact kk p l e s m args below meth c H1 _ ls X (hS.put e2 e3 hA) (hP.put ha.1 ha.2 e2 (hP.2.2.2.set (wsA_D V h n) he hc e3)) hL h1 h2 h3 h4
theorem a_aast {a b N : Nat} {f : Nat → Option Nat} {i : Int32} {fs : List Value} (dg : decode I.2.1 pc = .ok (.aastore, 1)) (hg : h a = .inl (N, .inr (.inr (.inr (.inr f))))) (hb : h b = .inr (2, fs)) (hin : vp_in i N) (kk : AW V I R Qf n0 z0 (pc + 1) lv st (hu h a (.inl (N, .inr (.inr (.inr (.inr (va_up f i.toNatClampNeg (some b)))))))) n z) : AW V I R Qf n0 z0 pc lv (.ref b :: .int i :: .ref a :: st) h n z := by
  intro p l e s m args below meth c H locs ls X hS hP hL h1 h2 h3 h4
  have ha := hP.at (nj_q hg)
  have he := wsA_get V h ha.1 ha.2
  rw [hg] at he
  have hbb := hP.at (nj_o hb)
  have hbe := wsA_get V h hbb.1 hbb.2
  rw [hb] at hbe
  have hlt : i.toNatClampNeg < N := Nat.not_le.mp fun q => hin (Or.inr q)
  have h0 : ¬ i < 0 := fun q => hin (Or.inl q)
  have hK := X.2.2.2.2.2.2.2.2.1
  have hA : Ab V (ad V a) := by rw [ad_ge V ha.1]; exact Nat.le_add_right _ _
  obtain ⟨r', hr', cellV, g1, g2, g3, -⟩ := hP.2.2.2 (b - 8) _ hbe
  have hcls := (hK.1 2 _ rfl).2
  obtain ⟨kA, comp, k1, k2, k3, -⟩ := (hK.2 2 _ rfl).2
  have hcomp : comp = V.1.1 2 := Option.some.inj (k3.symm.trans hcls.1)
  subst hcomp
  obtain ⟨kC, hkC, -⟩ := hcls.2
  refine W.aast X.1 X.2.1 (hP.2.2.2 (a - 8) _ he) (fun q h => by cases h) (fun h => by cases h) k1 k2 rfl hkC ⟨h0, by show _ < (arrV _ _ _).slots.size; rw [arrV_size]; exact hlt⟩ g1 (fun q h => by rw [g3] at h; cases h) (by rw [g2]; exact hkC) (by rw [g2]; exact va_assign hcls) rfl rfl dg fun H1 e1 e2 e3 => ?_
  have hc : H1[ad V a]? = some (vp_cell V.2.1.2.2 (N, .inr (.inr (.inr (.inr (fun j => ((va_up f i.toNatClampNeg (some b)) j).map (ad V))))))) := by
    rw [e1, vp_cell_q, vp_cell_q, arrV_store]
    congr 2
    funext q
    by_cases hq : q = i.toNatClampNeg
    · subst hq; simp [updV, va_up, va_rf]
    · simp [updV, va_up, hq]
  exact kk p l e s m args below meth c H1 _ ls X (hS.put e2 e3 hA) (hP.put ha.1 ha.2 e2 (hP.2.2.2.set (wsA_D V h n) he hc e3)) hL h1 h2 h3 h4
/-! what is made -/
theorem Pos.push {V : VV} {h : AH} {n : Nat} {H H1 : Heap} {c : AC} (P : Pos V h n H) (hs : H1.size = H.size + 1) (ho : ∀ q, q < H.size → H1[q]? = H[q]?) (hc : va_at V.1 vwCl (H.size, coE V c) H1) : Pos V (hu h n c) (n + 1) H1 := by
  have e0 : H.size = vb V + (n - 8) := by have := P.2.1; have := P.1; omega
  refine ⟨by have := P.1; omega, by rw [hs]; have := P.2.1; omega, fun i hi => ?_, ?_⟩
  · rw [hu_n (by have := P.1; omega)]
    exact P.2.2.1 i (by omega)
  · rw [← wsA_push V h c P.1]
    refine (P.2.2.2.kept (fun k x hx => ho x.1 ((P.2.2.2 k x hx).lt))).app (fun k x hx => ?_)
    have hz : k < 1 := (List.getElem?_eq_some_iff.mp hx).1
    rw [show k = 0 by omega] at hx
    cases hx
    rw [← e0]
    exact hc
theorem va_S.grow {A : Nat → Prop} {H0 H H1 : Heap} {locs : List Loc} (hS : va_S A H0 H locs) (hs : H1.size = H.size + 1) (ho : ∀ q, q < H.size → H1[q]? = H[q]?) : va_S A H0 H1 locs :=
  ⟨by rw [hs]; exact Nat.le_succ_of_le hS.1, fun q h1 h2 => (ho q (Nat.lt_of_lt_of_le h1 hS.1)).trans (hS.2.1 q h1 h2), hS.2.2⟩
theorem ref_new {V : VV} {h : AH} {n : Nat} {H : Heap} (P : Pos V h n H) : coV V (.ref n) = .ref H.size := by
  have q1 := P.1
  have q2 := P.2.1
  have q3 : vb V + (n - 8) = H.size := by omega
  simp only [coV, ad_ge V P.1, q3]
theorem a_newI {x : Int32} {N : Nat} (dg : decode I.2.1 pc = .ok (.newarray .int, 2)) (hx : ¬ x < 0) (hN : x.toNatClampNeg = N) (hb : N * 4 ≤ 536870912) (hn1 : n + 1 ≤ n0 + R.cells) (hz1 : z + N ≤ z0 + R.slots) (hw : Cond.arrayClass .int ∈ WT) (kk : AW V I R Qf n0 z0 (pc + 2) lv (.ref n :: st) (hu h n (.inl (N, .inl (fun _ => 0)))) (n + 1) (z + N)) : AW V I R Qf n0 z0 pc lv (.int x :: st) h n z := by
  intro p l e s m args below meth c H locs ls X hS hP hL h1 h2 h3 h4
  refine va_newaK (atype := .int) X.1 X.2.1 (X.2.2.2.2.1 _ hw) rfl dg rfl hx hN hb (by omega) (by omega) rfl fun H1 cA e1 z1 o1 hAr hNm => ?_
  have hcA : cA = V.2.1.1 := Option.some.inj (hNm.symm.trans (X.2.2.2.2.2.2.2.2.1.2 0 _ rfl).2)
  subst hcA
  have K := kk p l e s m args below meth c H1 locs ls X (hS.grow z1 o1) (hP.push z1 o1 (by show H1[H.size]? = _; rw [e1]; rfl)) hL (by omega) hn1 (by omega) hz1
  rw [List.map_cons, ref_new hP, show n + 1 - n0 = n - n0 + 1 by omega, show z + N - z0 = z - z0 + N by omega] at K
  exact K
theorem a_newL {x : Int32} {N : Nat} (dg : decode I.2.1 pc = .ok (.newarray .long, 2)) (hx : ¬ x < 0) (hN : x.toNatClampNeg = N) (hb : N * 8 ≤ 536870912) (hn1 : n + 1 ≤ n0 + R.cells) (hz1 : z + N ≤ z0 + R.slots) (hw : Cond.arrayClass .long ∈ WT) (kk : AW V I R Qf n0 z0 (pc + 2) lv (.ref n :: st) (hu h n (.inl (N, .inr (.inl (fun _ => 0))))) (n + 1) (z + N)) : AW V I R Qf n0 z0 pc lv (.int x :: st) h n z := by
  intro p l e s m args below meth c H locs ls X hS hP hL h1 h2 h3 h4
  refine va_newaK (atype := .long) X.1 X.2.1 (X.2.2.2.2.1 _ hw) rfl dg rfl hx hN hb (by omega) (by omega) rfl fun H1 cA e1 z1 o1 hAr hNm => ?_
  have hcA : cA = V.2.1.2.1 := Option.some.inj (hNm.symm.trans (X.2.2.2.2.2.2.2.2.1.2 1 _ rfl).2)
  subst hcA
  have K := kk p l e s m args below meth c H1 locs ls X (hS.grow z1 o1) (hP.push z1 o1 (by show H1[H.size]? = _; rw [e1]; rfl)) hL (by omega) hn1 (by omega) hz1
  rw [List.map_cons, ref_new hP, show n + 1 - n0 = n - n0 + 1 by omega, show z + N - z0 = z - z0 + N by omega] at K
  exact K
theorem a_newQ {x : Int32} {N idx : Nat} (dg : decode I.2.1 pc = .ok (.anewarray idx, 3)) (hx : ¬ x < 0) (hN : x.toNatClampNeg = N) (hb : N * 4 ≤ 536870912) (hn1 : n + 1 ≤ n0 + R.cells) (hz1 : z + N ≤ z0 + R.slots) (hw : Cond.classLink I.1.cls idx "DotOutlines$Border" ∈ WT) (kk : AW V I R Qf n0 z0 (pc + 3) lv (.ref n :: st) (hu h n (.inl (N, .inr (.inr (.inr (.inr (fun _ => none))))))) (n + 1) (z + N)) : AW V I R Qf n0 z0 pc lv (.int x :: st) h n z := by
  intro p l e s m args below meth c H locs ls X hS hP hL h1 h2 h3 h4
  subst hN
  refine W.anew X.1 X.2.1 X.2.2.2.1 (X.2.2.2.2.1 _ hw) (va_AO.use X.2.2.2.2.2.2.2.2.2.1.2.2) rfl dg rfl hx hb (by omega) (by omega) fun cA kA comp f1 f2 f3 f4 => ?_
  generalize hH1 : H.push ({ cls := cA, slots := Array.replicate x.toNatClampNeg .null, vm := .none } : Cell) = H1
  have z1 : H1.size = H.size + 1 := by rw [← hH1, Array.size_push]
  have e1 : H1[H.size]? = some (arrV cA x.toNatClampNeg (fun _ => .null)) := by rw [← hH1, Array.getElem?_push_size, ← arrV_new]
  have o1 : ∀ q : Nat, q < H.size → H1[q]? = H[q]? := fun q hq => by rw [← hH1, Array.getElem?_push, if_neg (Nat.ne_of_lt hq)]
  obtain ⟨kA', comp', -, -, -, hq4⟩ := (X.2.2.2.2.2.2.2.2.1.2 2 _ rfl).2
  have hcA : cA = V.2.1.2.2 := Option.some.inj (f1.symm.trans hq4)
  subst hcA
  have K := kk p l e s m args below meth c H1 locs ls X (hS.grow z1 o1) (hP.push z1 o1 (by show H1[H.size]? = _; rw [e1]; rfl)) hL (by omega) hn1 (by omega) hz1
  rw [List.map_cons, ref_new hP, show n + 1 - n0 = n - n0 + 1 by omega, show z + x.toNatClampNeg - z0 = z - z0 + x.toNatClampNeg by omega] at K
  exact K
theorem a_new {idx j : Nat} {C : String} {T : u_T} {N : Nat} {ty : Nat → FieldType} {fs : List Value} (dg : decode I.2.1 pc = .ok (.new idx, 3)) (ci : CI j C T N ty) (hw : Cond.classLink I.1.cls idx C ∈ WT) (hw2 : Cond.instantiable C N ∈ WT) (hw3 : Cond.initialized C ∈ WT) (hfs : ∀ i, i < N → defaultValue (ty i) = vp_V (fs.map (coV V)) i) (hn1 : n + 1 ≤ n0 + R.cells) (hz1 : z + N ≤ z0 + R.slots) (kk : AW V I R Qf n0 z0 (pc + 3) lv (.ref n :: st) (hu h n (.inr (j, fs))) (n + 1) (z + N)) : AW V I R Qf n0 z0 pc lv st h n z := by
  intro p l e s m args below meth c H locs ls X hS hP hL h1 h2 h3 h4
  have hts := X.2.2.2.2.1
  have hKn := X.2.2.2.2.2.2.2.2.1.1 j _ ci.1
  refine W.newcK X.1 X.2.1 X.2.2.2.1 (hts _ hw) (hts _ hw2) (hts _ hw3) rfl dg (by omega) (by omega) hKn.2.1 rfl fun H1 kC hkC e1 z1 o1 => ?_
  have K := kk p l e s m args below meth c H1 locs ls X (hS.grow z1 o1) (hP.push z1 o1 ⟨_, ci.1, (u_born ty hts ci.2.1 hKn hkC e1 ci.2.2.1).to hfs⟩) hL (by omega) hn1 (by omega) hz1
  rw [List.map_cons, ref_new hP, show n + 1 - n0 = n - n0 + 1 by omega, show z + N - z0 = z - z0 + N by omega] at K
  exact K
theorem a_obj {idx a : Nat} (dg : decode I.2.1 pc = .ok (.invokespecial idx, 3)) (hw : Cond.methodLink I.1.cls idx Lib.objectInit ∈ WT) (hw2 : Cond.instanceMethod Lib.objectInit ∈ WT) (hw3 : Cond.code Lib.objectInit ⟨#[0xb1]⟩ 1 none ∈ WT) (hf : 1 ≤ R.frames) (hl : 12 ≤ R.locals) (kk : AW V I R Qf n0 z0 (pc + 3) lv [] h n z) : AW V I R Qf n0 z0 pc lv [.ref a] h n z := by
  intro p l e s m args below meth c H locs ls X hS hP hL h1 h2 h3 h4
  have hts := X.2.2.2.2.1
  refine W.objInit X.1 X.2.1 X.2.2.2.1 (hts _ hw) (hts _ hw2) (hts _ hw3) rfl (by rw [X.2.2.1]; exact hL.1) rfl dg hf ?_ (kk p l e s m args below meth c H locs ls X hS hP hL h1 h2 h3 h4)
  have := lv_room (m := m) (pc := pc) (ls := ls) (rest := []) (st := []) (by decide)
  simpa [JFrame.monitorRoom] using hl
/-! returns -/
theorem Wd.end {V : VV} {I : MI} {p : Program} {s t : State} {m : MethodId} {args : Array Value} {meth : Method} {c : Code} {H : Heap} {locs : List Loc} {h : AH} {n : Nat} (X : Cx V I p s m args meth c) (hS : va_S (Ab V) s.heap H locs) (hP : Pos V h n H) (ht : t.heap = H) (hW : s.WarmedH t.vm) : Wd V h n t := by
  refine ⟨va_K.moved hW.alike X.2.2.2.2.2.2.2.2.1, ?_, by rw [ht]; exact hP⟩
  rw [ht]
  exact (X.2.2.2.2.2.2.2.2.2.1.kept (fun a h1 h2 => hS.2.1 a h1 h2)).moved hW.alike
theorem a_iret {d mc ms : Nat} {r : Option Value} {h' : AH} {n' : Nat} {v : Int32} (dg : decode I.2.1 pc = .ok (.ireturn, 1)) (hr : I.2.2.2 = some .int) (e1 : r = some (.int v)) (e2 : h' = h) (e3 : n' = n) : AW V I (RmM d mc ms) (QM V r h' n' mc ms) n0 z0 pc lv [.int v] h n z := by
  subst e1; subst e2; subst e3
  intro p l e s m args below meth c H locs ls X hS hP hL h1 h2 h3 h4
  refine W.widen (k := mc) (n := ms) (by have : n' ≤ n0 + mc := h2; omega) (by have : z ≤ z0 + ms := h4; omega) ?_
  exact W.iret X.1 X.2.1 (X.2.2.2.2.2.1.trans hr) (fun t ht hW => ⟨rfl, Wd.end X hS hP ht hW, hS.F ht⟩) hS.2.2 dg X.2.2.2.2.2.2.1
theorem a_zret {d mc ms : Nat} {r : Option Value} {h' : AH} {n' : Nat} {v : Int32} (dg : decode I.2.1 pc = .ok (.ireturn, 1)) (hr : I.2.2.2 = some .boolean) (hv : v = 0 ∨ v = 1) (e1 : r = some (.int v)) (e2 : h' = h) (e3 : n' = n) : AW V I (RmM d mc ms) (QM V r h' n' mc ms) n0 z0 pc lv [.int v] h n z := by
  subst e1; subst e2; subst e3
  intro p l e s m args below meth c H locs ls X hS hP hL h1 h2 h3 h4
  refine W.widen (k := mc) (n := ms) (by have : n' ≤ n0 + mc := h2; omega) (by have : z ≤ z0 + ms := h4; omega) ?_
  exact W.zret X.1 X.2.1 (X.2.2.2.2.2.1.trans hr) (by rcases hv with rfl | rfl <;> decide) (fun t ht hW => ⟨rfl, Wd.end X hS hP ht hW, hS.F ht⟩) hS.2.2 dg X.2.2.2.2.2.2.1
theorem a_lret {d mc ms : Nat} {r : Option Value} {h' : AH} {n' : Nat} {v : Int64} (dg : decode I.2.1 pc = .ok (.lreturn, 1)) (hr : I.2.2.2 = some .long) (e1 : r = some (.long v)) (e2 : h' = h) (e3 : n' = n) : AW V I (RmM d mc ms) (QM V r h' n' mc ms) n0 z0 pc lv [.long v] h n z := by
  subst e1; subst e2; subst e3
  intro p l e s m args below meth c H locs ls X hS hP hL h1 h2 h3 h4
  refine W.widen (k := mc) (n := ms) (by have : n' ≤ n0 + mc := h2; omega) (by have : z ≤ z0 + ms := h4; omega) ?_
  exact W.lret X.1 X.2.1 (X.2.2.2.2.2.1.trans hr) (fun t ht hW => ⟨rfl, Wd.end X hS hP ht hW, hS.F ht⟩) hS.2.2 dg X.2.2.2.2.2.2.1
theorem a_vret {d mc ms : Nat} {r : Option Value} {h' : AH} {n' : Nat} (dg : decode I.2.1 pc = .ok (.return_, 1)) (hr : I.2.2.2 = none) (e1 : r = none) (e2 : h' = h) (e3 : n' = n) : AW V I (RmM d mc ms) (QM V r h' n' mc ms) n0 z0 pc lv [] h n z := by
  subst e1; subst e2; subst e3
  intro p l e s m args below meth c H locs ls X hS hP hL h1 h2 h3 h4
  refine W.widen (k := mc) (n := ms) (by have : n' ≤ n0 + mc := h2; omega) (by have : z ≤ z0 + ms := h4; omega) ?_
  exact W.vret X.1 X.2.1 (X.2.2.2.2.2.1.trans hr) (fun t ht hW => ⟨rfl, Wd.end X hS hP ht hW, hS.F ht⟩) hS.2.2 dg X.2.2.2.2.2.2.1
theorem a_aret {d mc ms : Nat} {r : Option Value} {h' : AH} {n' : Nat} {v : Value} {nm : String} (dg : decode I.2.1 pc = .ok (.areturn, 1)) (hr : I.2.2.2 = some (.object nm)) (hv : v = .null ∨ ∃ a, v = .ref a) (e1 : r = some v) (e2 : h' = h) (e3 : n' = n) : AW V I (RmM d mc ms) (QM V r h' n' mc ms) n0 z0 pc lv [v] h n z := by
  subst e1; subst e2; subst e3
  intro p l e s m args below meth c H locs ls X hS hP hL h1 h2 h3 h4
  refine W.widen (k := mc) (n := ms) (by have : n' ≤ n0 + mc := h2; omega) (by have : z ≤ z0 + ms := h4; omega) ?_
  exact W.aret X.1 X.2.1 (X.2.2.2.2.2.1.trans hr) (Or.inl ⟨nm, rfl⟩) (by rcases hv with rfl | ⟨a, rfl⟩; exact Or.inl rfl; exact Or.inr ⟨_, rfl⟩) (fun t ht hW => ⟨rfl, Wd.end X hS hP ht hW, hS.F ht⟩) hS.2.2 dg X.2.2.2.2.2.2.1
/-! calls -/
theorem aw_call {p : Program} {l : Launch} {e : Env} {s : State} {m : MethodId} {args : Array Value} {below : List Frame} {meth : Method} {c : Code} {H : Heap} {locs : List Loc} {ls : Array Slot} {r : Option Value} {h' : AH} {n' z' : Nat} {a : Array Value} {st0 : List Value} {rest : List Value}
    (X : Cx V I p s m args meth c) (hS : va_S (Ab V) s.heap H locs) (hL : Lo V I.2.2.1 ls lv) (h1 : n0 ≤ n) (h3 : z0 ≤ z) (hn : n ≤ n') (hz : z ≤ z') (hn' : n' ≤ n0 + R.cells) (hz' : z' ≤ z0 + R.slots)
    (hr : va_Run p l e R s m args below meth c H locs (n - n0) (z - z0) (n' - n) (z' - z) (F0 m pc ls st0) (rest.map (coV V)) (QcM V r h' n' a) (Ab V))
    (k : AW V I R Qf n0 z0 (pc + 3) lv (r.toList ++ rest) h' n' z') : W p l e R s m args below meth c H locs (n - n0) (z - z0) (Qf below args s) (F0 m pc ls st0) := by
  intro T hT XT
  obtain ⟨v, st₀, t, T', L, e0, X', hL', e1, e2, ⟨hv, hwd, hz1, hk⟩, st⟩ := hr T hT XT
  cases hv
  rw [e0] at hz1 hk
  have hS' : va_S (Ab V) s.heap T'.heap (locs ++ L) := ⟨Nat.le_trans hS.1 (by rw [e1]; exact hz1), fun q q1 q2 => by rw [e1, hk q (Nat.lt_of_lt_of_le q1 hS.1) q2]; exact hS.2.1 q q1 q2, fun q hq => by
    rcases List.mem_append.mp hq with g | g
    · exact hS.2.2 q g
    · exact hL' q g⟩
  have hP' : Pos V h' n' T'.heap := by rw [e1]; exact hwd.2.2
  have K := k p l e s m args below meth c T'.heap (locs ++ L) ls X hS' hP' hL (by omega) hn' (by omega) hz'
  rw [show n' - n0 = n - n0 + (n' - n) by omega, show z' - z0 = z - z0 + (z' - z) by omega] at K
  have es : (r.toList ++ rest).map (coV V) = (r.map (coV V)).toList ++ rest.map (coV V) := by cases r <;> simp
  rw [es] at K
  obtain ⟨t2, a1, b1⟩ := K T' rfl X'
  exact ⟨t2, st t2 a1, b1⟩
theorem r8 {m : MethodId} {ls : Array Slot} {rest : List Value} {st0 : List Value} (h8 : (rest.map fun v => v.category).sum ≤ 8) : 2 * (F0 m pc ls st0).monitorRoom + ((rest.map (coV V)).map fun v => v.category).sum ≤ 8 := by
  refine lv_room (st := rest.map (coV V)) ?_
  have e : (rest.map (coV V)).map (fun v => v.category) = rest.map (fun v => v.category) := by
    rw [List.map_map]
    apply List.map_congr_left
    intro v _
    exact coV_cat V v
  rw [e]
  exact h8
def MC (J : MI) (np : Nat) : Prop := Cond.code J.1 J.2.1 J.2.2.1 J.2.2.2 ∈ WT ∧ Cond.initialized J.1.cls ∈ WT ∧ J.1.cls ≠ "java/lang/invoke/MethodHandle" ∧ J.1.cls ≠ "java/lang/invoke/VarHandle" ∧ (parseMethodDescriptor J.1.desc).map (fun d => d.parameters.length) = some np
theorem MC.good {J : MI} {np : Nat} (c : MC J np) : GoodIn WT (wsM J) := by
  intro w hw
  rcases List.mem_cons.mp hw with rfl | hw
  · exact ⟨c.1, wt_ok c.1⟩
  · exact ⟨hw, wt_ok hw⟩
theorem a_cs {J : MI} {np d idx : Nat} {As rest st0 : List Value} {r : Option Value} {h' : AH} {n' z' : Nat} (dg : decode I.2.1 pc = .ok (.invokestatic idx, 3)) (mc : MC J np) (hs : Cond.static J.1 ∈ WT) (ml : Cond.methodLink I.1.cls idx J.1 ∈ WT) (hM : AMet V J d As h n z r h' n' z') (hst : As.reverse ++ rest = st0) (hp : As.length = np) (hR : d + 1 ≤ R.frames ∧ 8 + (J.2.2.1 + 11) + 40 * d ≤ R.locals) (h8 : (rest.map fun v => v.category).sum ≤ 8) (hn' : n' ≤ n0 + R.cells) (hz' : z' ≤ z0 + R.slots)
    (k : AW V I R Qf n0 z0 (pc + 3) lv (r.toList ++ rest) h' n' z') : AW V I R Qf n0 z0 pc lv st0 h n z := by
  intro p l e s m args below meth c H locs ls X hS hP hL h1 h2 h3 h4
  subst hst
  obtain ⟨g1, g2, hMet⟩ := hM
  have hts := X.2.2.2.2.1
  have cw : CallB R s args I.1.cls idx J.1 J.2.1 J.2.2.1 J.2.2.2 (wsM J) (RmM d (n' - n) (z' - z)) (n' - n) (z' - z) np ∧ (Cond.static J.1).before args s = true :=
    ⟨callB_of np hts mc.good rfl rfl rfl (hts _ mc.2.1) (hts _ ml) ⟨mc.2.2.1, mc.2.2.2.1, mc.2.2.2.2⟩ hR, hts _ hs⟩
  refine aw_call X hS hL h1 h3 g1 g2 hn' hz' (a := (As.map (coV V)).toArray) (va_runS (As := As.map (coV V)) (rest := rest.map (coV V)) ⟨X.1, X.2.1, X.2.2.1, X.2.2.2.1, hts⟩ (hMet l) cw ⟨Wd.blind, fun U hU hW => ⟨rfl, Wd.end X hS hP hU hW⟩⟩ rfl (by rw [List.length_map]; exact hp) hL.1 (by simp) (r8 h8) dg ⟨by omega, by omega⟩) k
theorem a_cv {J : MI} {np d idx j a : Nat} {fs : List Value} {q : vw_C} {As rest st0 : List Value} {r : Option Value} {h' : AH} {n' z' : Nat} (dg : decode I.2.1 pc = .ok (.invokevirtual idx, 3)) (mc : MC J np) (hs : Cond.instanceMethod J.1 ∈ WT ∧ Cond.selects J.1.cls J.1 J.1 ∈ WT) (ml : Cond.methodLink I.1.cls idx J.1 ∈ WT) (hg : h a = .inr (j, fs)) (hc : vwCl[j]? = some q) (hq : q.1 = J.1.cls) (hM : AMet V J d (.ref a :: As) h n z r h' n' z') (hst : As.reverse ++ .ref a :: rest = st0) (hp : As.length = np) (hR : d + 1 ≤ R.frames ∧ 8 + (J.2.2.1 + 11) + 40 * d ≤ R.locals) (h8 : (rest.map fun v => v.category).sum ≤ 8) (hn' : n' ≤ n0 + R.cells) (hz' : z' ≤ z0 + R.slots)
    (k : AW V I R Qf n0 z0 (pc + 3) lv (r.toList ++ rest) h' n' z') : AW V I R Qf n0 z0 pc lv st0 h n z := by
  intro p l e s m args below meth c H locs ls X hS hP hL h1 h2 h3 h4
  subst hst
  obtain ⟨g1, g2, hMet⟩ := hM
  have hts := X.2.2.2.2.1
  have ha := hP.at (nj_o hg)
  have he := wsA_get V h ha.1 ha.2
  rw [hg] at he
  have cw : CallW R s args I.1.cls J.1.cls idx J.1 J.2.1 J.2.2.1 J.2.2.2 (wsM J) (RmM d (n' - n) (z' - z)) (n' - n) (z' - z) np :=
    ⟨callB_of np hts mc.good rfl rfl rfl (hts _ mc.2.1) (hts _ ml) ⟨mc.2.2.1, mc.2.2.2.1, mc.2.2.2.2⟩ hR, hts _ hs.1, hts _ hs.2⟩
  have hrc := va_recv X.2.2.2.2.2.2.2.2.1 hP.2.2.2 hc he
  rw [hq] at hrc
  refine aw_call X hS hL h1 h3 g1 g2 hn' hz' (a := ((.ref a :: As).map (coV V)).toArray) (va_runV (As := As.map (coV V)) (rest := rest.map (coV V)) (b := ad V a) ⟨X.1, X.2.1, X.2.2.1, X.2.2.2.1, hts⟩ (hMet l) cw ⟨Wd.blind, hrc, fun U hU hW => ⟨rfl, Wd.end X hS hP hU hW⟩⟩ rfl (by rw [List.length_map]; exact hp) hL.1 (by simp [coV]) (r8 h8) dg ⟨by omega, by omega⟩) k
theorem a_ci {J : MI} {np d idx a : Nat} {As rest st0 : List Value} {r : Option Value} {h' : AH} {n' z' : Nat} (dg : decode I.2.1 pc = .ok (.invokespecial idx, 3)) (mc : MC J np) (hs : Cond.instanceMethod J.1 ∈ WT ∧ J.1.name = "<init>" ∧ J.2.2.2 = none) (ml : Cond.methodLink I.1.cls idx J.1 ∈ WT) (hM : AMet V J d (.ref a :: As) h n z r h' n' z') (hst : As.reverse ++ .ref a :: rest = st0) (hp : As.length = np) (hR : d + 1 ≤ R.frames ∧ 8 + (J.2.2.1 + 11) + 40 * d ≤ R.locals) (h8 : (rest.map fun v => v.category).sum ≤ 8) (hn' : n' ≤ n0 + R.cells) (hz' : z' ≤ z0 + R.slots)
    (k : AW V I R Qf n0 z0 (pc + 3) lv (r.toList ++ rest) h' n' z') : AW V I R Qf n0 z0 pc lv st0 h n z := by
  intro p l e s m args below meth c H locs ls X hS hP hL h1 h2 h3 h4
  subst hst
  obtain ⟨g1, g2, hMet⟩ := hM
  have hts := X.2.2.2.2.1
  have cb := callB_of (R := R) (own := I.1.cls) (index := idx) (rm := RmM d (n' - n) (z' - z)) np hts mc.good rfl rfl rfl (hts _ mc.2.1) (hts _ ml) ⟨mc.2.2.1, mc.2.2.2.1, mc.2.2.2.2⟩ hR
  rw [hs.2.2] at cb
  refine aw_call X hS hL h1 h3 g1 g2 hn' hz' (a := ((.ref a :: As).map (coV V)).toArray) (va_runI (As := As.map (coV V)) (rest := rest.map (coV V)) (b := ad V a) ⟨X.1, X.2.1, X.2.2.1, X.2.2.2.1, hts⟩ (hMet l) ⟨cb, hs.2.1, hts _ hs.1⟩ ⟨Wd.blind, fun U hU hW => ⟨rfl, Wd.end X hS hP hU hW⟩⟩ rfl (by rw [List.length_map]; exact hp) hL.1 (by simp [coV]) (r8 h8) dg ⟨by omega, by omega⟩) k
end AWMem
end
section
/-! NAMES of methods, links of fields and methods: printed by wip/whole/gen.py -/
theorem wt_l {ws : List Cond} (ps : List Nat) (hp : ws = ps.filterMap (fun i => tables_1[i]?)) (hg : ws.all goodWord = true) : ∀ w ∈ ws, w ∈ WT := by
  intro w hw
  have h1 := List.all_eq_true.mp hg w hw
  rw [hp] at hw
  obtain ⟨i, -, hi⟩ := List.mem_filterMap.mp hw
  exact wt_t i hi h1
def i_Dot_init : MI := (yX11_init, cX11_init, 4, none)
def i_Tap_init : MI := (yX10_init, cX10_init, 1, none)
def i_Rdg_init : MI := (yX8_init, cX8_init, 1, none)
def i_Pic_init : MI := (yX6_init, cX6_init, 1, none)
def i_Acts_init : MI := (yX0_init, cX0_init, 1, none)
def i_Brs_init : MI := (yX3_init, cX3_init, 1, none)
def i_Str_init : MI := (yX9_init, cX9_init, 2, none)
def i_Pol_init : MI := (yX7_init, cX7_init, 3, none)
def i_Bend_init : MI := (yX1_init, cX1_init, 1, none)
def i_Fil_init : MI := (yX4_init, cX4_init, 2, none)
def i_Dot_feed : MI := (yX11_feed, cX11_feed, 2, (Option.some Jvm.ClassFile.FieldType.int))
def i_Tap_add : MI := (yX10_add, cX10_add, 2, (Option.some Jvm.ClassFile.FieldType.boolean))
def i_Dot_picture : MI := (yX11_picture, cX11_picture, 2, (Option.some Jvm.ClassFile.FieldType.int))
def i_Rdg_read : MI := (yX8_read, cX8_read, 6, (Option.some Jvm.ClassFile.FieldType.int))
def i_Tap_letterAt : MI := (yX10_letterAt, cX10_letterAt, 2, (Option.some Jvm.ClassFile.FieldType.int))
def i_Rdg_faultInHead : MI := (yX8_faultInHead, cX8_faultInHead, 4, (Option.some Jvm.ClassFile.FieldType.int))
def i_Rdg_faultInRows : MI := (yX8_faultInRows, cX8_faultInRows, 6, (Option.some Jvm.ClassFile.FieldType.int))
def i_Grid_bit : MI := (yX5_bit, cX5_bit, 2, (Option.some Jvm.ClassFile.FieldType.long))
def i_Pic_darkDots : MI := (yX6_darkDots, cX6_darkDots, 1, (Option.some Jvm.ClassFile.FieldType.int))
def i_Lng_bitCount : MI := (yJ13_bitCount_95d88, cJ13_bitCount_95d88, 2, (Option.some Jvm.ClassFile.FieldType.int))
def i_Dot_fault : MI := (yX11_fault, cX11_fault, 1, (Option.some Jvm.ClassFile.FieldType.int))
def i_Dot_undo : MI := (yX11_undo, cX11_undo, 1, (Option.some Jvm.ClassFile.FieldType.int))
def i_Acts_takeBack : MI := (yX0_takeBack, cX0_takeBack, 2, (Option.some Jvm.ClassFile.FieldType.boolean))
def i_Dot_flip : MI := (yX11_flip, cX11_flip, 3, (Option.some Jvm.ClassFile.FieldType.int))
def i_Pic_has : MI := (yX6_has, cX6_has, 3, (Option.some Jvm.ClassFile.FieldType.boolean))
def i_Acts_remember : MI := (yX0_remember, cX0_remember, 2, none)
def i_Acts_forgetOldest : MI := (yX0_forgetOldest, cX0_forgetOldest, 2, none)
def i_Pic_isDark : MI := (yX6_isDark, cX6_isDark, 3, (Option.some Jvm.ClassFile.FieldType.boolean))
def i_Dot_frame : MI := (yX11_frame, cX11_frame, 6, (Option.some Jvm.ClassFile.FieldType.int))
def i_Grid_block : MI := (yX5_block, cX5_block, 7, (Option.some Jvm.ClassFile.FieldType.long))
def i_Mth_max : MI := (yJ9_max_7cf53, cJ9_max_7cf53, 2, (Option.some Jvm.ClassFile.FieldType.int))
def i_Grid_rowFrom : MI := (yX5_rowFrom, cX5_rowFrom, 2, (Option.some Jvm.ClassFile.FieldType.long))
def i_Pic_lay : MI := (yX6_lay, cX6_lay, 4, none)
def i_Dot_joined : MI := (yX11_joined, cX11_joined, 3, (Option.some Jvm.ClassFile.FieldType.int))
def i_Pic_isThere : MI := (yX6_isThere, cX6_isThere, 1, (Option.some Jvm.ClassFile.FieldType.boolean))
def i_Dot_sharp : MI := (yX11_sharp, cX11_sharp, 3, (Option.some Jvm.ClassFile.FieldType.int))
def i_Dot_dot : MI := (yX11_dot, cX11_dot, 3, (Option.some Jvm.ClassFile.FieldType.int))
def i_Dot_borders : MI := (yX11_borders, cX11_borders, 1, (Option.some Jvm.ClassFile.FieldType.int))
def i_Dot_walkedBorders : MI := (yX11_walkedBorders, cX11_walkedBorders, 1, (Option.some Jvm.ClassFile.FieldType.int))
def i_Brs_follow : MI := (yX3_follow, cX3_follow, 9, none)
def i_Brs_nextBorder : MI := (yX3_nextBorder, cX3_nextBorder, 1, (Option.some (Jvm.ClassFile.FieldType.object "DotOutlines$Border")))
def i_Brd_init : MI := (yX2_init, cX2_init, 1, none)
def i_Brd_begin : MI := (yX2_begin, cX2_begin, 3, none)
def i_Brs_walk : MI := (yX3_walk, cX3_walk, 12, none)
def i_Grid_columnOf : MI := (yX5_columnOf, cX5_columnOf, 1, (Option.some Jvm.ClassFile.FieldType.int))
def i_Grid_rowOf : MI := (yX5_rowOf, cX5_rowOf, 1, (Option.some Jvm.ClassFile.FieldType.int))
def i_Brs_dotsRightOf : MI := (yX3_dotsRightOf, cX3_dotsRightOf, 3, (Option.some Jvm.ClassFile.FieldType.long))
def i_Brs_dotAhead : MI := (yX3_dotAhead, cX3_dotAhead, 3, (Option.some Jvm.ClassFile.FieldType.long))
def i_Brs_nextWay : MI := (yX3_nextWay, cX3_nextWay, 5, (Option.some Jvm.ClassFile.FieldType.int))
def i_Dot_border : MI := (yX11_border, cX11_border, 4, (Option.some Jvm.ClassFile.FieldType.int))
def i_Dot_borderNumber : MI := (yX11_borderNumber, cX11_borderNumber, 2, (Option.some (Jvm.ClassFile.FieldType.object "DotOutlines$Border")))
def i_Brs_at : MI := (yX3_at, cX3_at, 2, (Option.some (Jvm.ClassFile.FieldType.object "DotOutlines$Border")))
def i_Brs_turningSteps : MI := (yX3_turningSteps, cX3_turningSteps, 4, (Option.some Jvm.ClassFile.FieldType.int))
def i_Brs_wayAt : MI := (yX3_wayAt, cX3_wayAt, 4, (Option.some Jvm.ClassFile.FieldType.int))
def i_Brd_place : MI := (yX2_place, cX2_place, 2, (Option.some Jvm.ClassFile.FieldType.int))
def i_Dot_corner : MI := (yX11_corner, cX11_corner, 5, (Option.some Jvm.ClassFile.FieldType.int))
def i_Brs_xAt : MI := (yX3_xAt, cX3_xAt, 4, (Option.some Jvm.ClassFile.FieldType.int))
def i_Brs_yAt : MI := (yX3_yAt, cX3_yAt, 4, (Option.some Jvm.ClassFile.FieldType.int))
def i_Dot_inside : MI := (yX11_inside, cX11_inside, 5, (Option.some Jvm.ClassFile.FieldType.int))
def i_Dot_straight : MI := (yX11_straight, cX11_straight, 5, (Option.some Jvm.ClassFile.FieldType.int))
def i_Brd_hasStretch : MI := (yX2_hasStretch, cX2_hasStretch, 3, (Option.some Jvm.ClassFile.FieldType.boolean))
def i_Brd_hasCorner : MI := (yX2_hasCorner, cX2_hasCorner, 2, (Option.some Jvm.ClassFile.FieldType.boolean))
def i_Str_offOf : MI := (yX9_offOf, cX9_offOf, 12, (Option.some Jvm.ClassFile.FieldType.int))
def i_Mth_abs : MI := (yJ9_abs_0f7a4, cJ9_abs_0f7a4, 1, (Option.some Jvm.ClassFile.FieldType.int))
def i_Dot_off : MI := (yX11_off, cX11_off, 6, (Option.some Jvm.ClassFile.FieldType.int))
def i_Dot_longest : MI := (yX11_longest, cX11_longest, 4, (Option.some Jvm.ClassFile.FieldType.int))
def i_Str_longestFrom : MI := (yX9_longestFrom, cX9_longestFrom, 4, (Option.some Jvm.ClassFile.FieldType.int))
def i_Mth_min : MI := (yJ9_min_7cf53, cJ9_min_7cf53, 2, (Option.some Jvm.ClassFile.FieldType.int))
def i_Dot_best : MI := (yX11_best, cX11_best, 4, (Option.some Jvm.ClassFile.FieldType.int))
def i_Dot_shapedBorder : MI := (yX11_shapedBorder, cX11_shapedBorder, 3, (Option.some (Jvm.ClassFile.FieldType.object "DotOutlines$Border")))
def i_Pol_seek : MI := (yX7_seek, cX7_seek, 6, none)
def i_Str_measure : MI := (yX9_measure, cX9_measure, 7, none)
def i_Pol_costOfRound : MI := (yX7_costOfRound, cX7_costOfRound, 10, (Option.some Jvm.ClassFile.FieldType.int))
def i_Str_reachAt : MI := (yX9_reachAt, cX9_reachAt, 2, (Option.some Jvm.ClassFile.FieldType.int))
def i_Str_offAt : MI := (yX9_offAt, cX9_offAt, 3, (Option.some Jvm.ClassFile.FieldType.int))
def i_Pol_writeVertices : MI := (yX7_writeVertices, cX7_writeVertices, 7, none)
def i_Pol_nearestStep : MI := (yX7_nearestStep, cX7_nearestStep, 9, (Option.some Jvm.ClassFile.FieldType.int))
def i_Pol_sharpVertices : MI := (yX7_sharpVertices, cX7_sharpVertices, 5, (Option.some Jvm.ClassFile.FieldType.int))
def i_Pol_bendAt : MI := (yX7_bendAt, cX7_bendAt, 6, (Option.some (Jvm.ClassFile.FieldType.object "DotOutlines$Bend")))
def i_Pol_cornerOfVertex : MI := (yX7_cornerOfVertex, cX7_cornerOfVertex, 4, (Option.some Jvm.ClassFile.FieldType.int))
def i_Bend_from : MI := (yX1_from, cX1_from, 3, none)
def i_Bend_by : MI := (yX1_by, cX1_by, 3, none)
def i_Bend_to : MI := (yX1_to, cX1_to, 3, none)
def i_Bend_isSharp : MI := (yX1_isSharp, cX1_isSharp, 3, (Option.some Jvm.ClassFile.FieldType.boolean))
def i_Bend_turn : MI := (yX1_turn, cX1_turn, 3, (Option.some Jvm.ClassFile.FieldType.int))
def i_Bend_greater : MI := (yX1_greater, cX1_greater, 2, (Option.some Jvm.ClassFile.FieldType.int))
def i_Pol_twiceTheArea : MI := (yX7_twiceTheArea, cX7_twiceTheArea, 6, (Option.some Jvm.ClassFile.FieldType.int))
def i_Dot_vertex : MI := (yX11_vertex, cX11_vertex, 5, (Option.some Jvm.ClassFile.FieldType.int))
def i_Brd_hasVertex : MI := (yX2_hasVertex, cX2_hasVertex, 2, (Option.some Jvm.ClassFile.FieldType.boolean))
def i_Dot_past : MI := (yX11_past, cX11_past, 4, (Option.some Jvm.ClassFile.FieldType.int))
def i_Pol_fewestThrough : MI := (yX7_fewestThrough, cX7_fewestThrough, 3, (Option.some Jvm.ClassFile.FieldType.int))
def i_Dot_point : MI := (yX11_point, cX11_point, 7, (Option.some Jvm.ClassFile.FieldType.int))
def i_Bend_xOnRound : MI := (yX1_xOnRound, cX1_xOnRound, 2, (Option.some Jvm.ClassFile.FieldType.int))
def i_Bend_onRound : MI := (yX1_onRound, cX1_onRound, 4, (Option.some Jvm.ClassFile.FieldType.int))
def i_Bend_yOnRound : MI := (yX1_yOnRound, cX1_yOnRound, 2, (Option.some Jvm.ClassFile.FieldType.int))
def i_Dot_filled : MI := (yX11_filled, cX11_filled, 6, (Option.some Jvm.ClassFile.FieldType.int))
def i_Fil_by : MI := (yX4_by, cX4_by, 8, (Option.some Jvm.ClassFile.FieldType.long))
def i_Bend_xOfVertex : MI := (yX1_xOfVertex, cX1_xOfVertex, 1, (Option.some Jvm.ClassFile.FieldType.int))
def i_Bend_yOfVertex : MI := (yX1_yOfVertex, cX1_yOfVertex, 1, (Option.some Jvm.ClassFile.FieldType.int))
def i_Bend_xOfNext : MI := (yX1_xOfNext, cX1_xOfNext, 1, (Option.some Jvm.ClassFile.FieldType.int))
def i_Bend_yOfNext : MI := (yX1_yOfNext, cX1_yOfNext, 1, (Option.some Jvm.ClassFile.FieldType.int))
def i_Fil_rightOf : MI := (yX4_rightOf, cX4_rightOf, 4, (Option.some Jvm.ClassFile.FieldType.long))
def i_Fil_rightOfFalling : MI := (yX4_rightOfFalling, cX4_rightOfFalling, 8, (Option.some Jvm.ClassFile.FieldType.long))
def i_Fil_firstColumnRightOf : MI := (yX4_firstColumnRightOf, cX4_firstColumnRightOf, 7, (Option.some Jvm.ClassFile.FieldType.int))
def i_Fil_rightOfSharp : MI := (yX4_rightOfSharp, cX4_rightOfSharp, 3, (Option.some Jvm.ClassFile.FieldType.long))
def i_Fil_rightOfRound : MI := (yX4_rightOfRound, cX4_rightOfRound, 4, (Option.some Jvm.ClassFile.FieldType.long))
def i_Dot_differ : MI := (yX11_differ, cX11_differ, 4, (Option.some Jvm.ClassFile.FieldType.int))
def i_Dot_wrong : MI := (yX11_wrong, cX11_wrong, 7, (Option.some Jvm.ClassFile.FieldType.int))
def i_Dot_all : MI := (yX11_all, cX11_all, 6, (Option.some Jvm.ClassFile.FieldType.int))
def i_Dot_sizeOf : MI := (yX11_sizeOf, cX11_sizeOf, 3, (Option.some Jvm.ClassFile.FieldType.int))
def i_Dot_image : MI := (yX11_image, cX11_image, 3, (Option.some Jvm.ClassFile.FieldType.int))
def i_Dot_imageNumber : MI := (yX11_imageNumber, cX11_imageNumber, 2, (Option.some (Jvm.ClassFile.FieldType.object "DotOutlines$Picture")))
def i_Pic_becomeLike : MI := (yX6_becomeLike, cX6_becomeLike, 2, none)
def i_Dot_restore : MI := (yX11_restore, cX11_restore, 3, (Option.some Jvm.ClassFile.FieldType.int))
def i_Dot_count : MI := (yX11_count, cX11_count, 2, (Option.some Jvm.ClassFile.FieldType.int))
def i_Mod_init : MI := (yX12_init, cX12_init, 1, none)
def i_Mod_feed : MI := (yX12_feed, cX12_feed, 2, (Option.some Jvm.ClassFile.FieldType.int))
def i_Mod_in : MI := (yX12_in, cX12_in, 3, (Option.some Jvm.ClassFile.FieldType.boolean))
def i_Mod_picture : MI := (yX12_picture, cX12_picture, 2, (Option.some Jvm.ClassFile.FieldType.int))
def i_Mod_reads : MI := (yX12_reads, cX12_reads, 3, (Option.some Jvm.ClassFile.FieldType.int))
def i_Mod_sign : MI := (yX12_sign, cX12_sign, 2, (Option.some Jvm.ClassFile.FieldType.int))
def i_Mod_due : MI := (yX12_due, cX12_due, 5, (Option.some Jvm.ClassFile.FieldType.int))
def i_Mod_readsRow : MI := (yX12_readsRow, cX12_readsRow, 5, (Option.some Jvm.ClassFile.FieldType.int))
def i_Mod_bring : MI := (yX12_bring, cX12_bring, 6, none)
def i_Mod_dark : MI := (yX12_dark, cX12_dark, 3, (Option.some Jvm.ClassFile.FieldType.int))
def i_Mod_fault : MI := (yX12_fault, cX12_fault, 1, (Option.some Jvm.ClassFile.FieldType.int))
def i_Mod_undo : MI := (yX12_undo, cX12_undo, 1, (Option.some Jvm.ClassFile.FieldType.int))
def i_Mod_flip : MI := (yX12_flip, cX12_flip, 3, (Option.some Jvm.ClassFile.FieldType.int))
def i_Mod_isDot : MI := (yX12_isDot, cX12_isDot, 3, (Option.some Jvm.ClassFile.FieldType.boolean))
def i_Mod_notes : MI := (yX12_notes, cX12_notes, 1, none)
def i_Mod_frame : MI := (yX12_frame, cX12_frame, 9, (Option.some Jvm.ClassFile.FieldType.int))
def i_Mod_joined : MI := (yX12_joined, cX12_joined, 2, (Option.some Jvm.ClassFile.FieldType.int))
def i_Mod_tells : MI := (yX12_tells, cX12_tells, 6, (Option.some Jvm.ClassFile.FieldType.int))
def i_Mod_isPicture : MI := (yX12_isPicture, cX12_isPicture, 1, (Option.some Jvm.ClassFile.FieldType.boolean))
def i_Mod_sharp : MI := (yX12_sharp, cX12_sharp, 2, (Option.some Jvm.ClassFile.FieldType.int))
def i_Mod_dot : MI := (yX12_dot, cX12_dot, 3, (Option.some Jvm.ClassFile.FieldType.int))
def i_Mod_borders : MI := (yX12_borders, cX12_borders, 1, (Option.some Jvm.ClassFile.FieldType.int))
def i_Mod_lays : MI := (yX12_lays, cX12_lays, 4, none)
def i_Mod_walks : MI := (yX12_walks, cX12_walks, 8, none)
def i_Mod_stepX : MI := (yX12_stepX, cX12_stepX, 1, (Option.some Jvm.ClassFile.FieldType.int))
def i_Mod_stepY : MI := (yX12_stepY, cX12_stepY, 1, (Option.some Jvm.ClassFile.FieldType.int))
def i_Mod_turns : MI := (yX12_turns, cX12_turns, 6, (Option.some Jvm.ClassFile.FieldType.int))
def i_Mod_isBeside : MI := (yX12_isBeside, cX12_isBeside, 7, (Option.some Jvm.ClassFile.FieldType.boolean))
def i_Mod_isRest : MI := (yX12_isRest, cX12_isRest, 3, (Option.some Jvm.ClassFile.FieldType.boolean))
def i_Mod_isWithin : MI := (yX12_isWithin, cX12_isWithin, 7, (Option.some Jvm.ClassFile.FieldType.boolean))
def i_Mod_border : MI := (yX12_border, cX12_border, 3, (Option.some Jvm.ClassFile.FieldType.int))
def i_Mod_isBorder : MI := (yX12_isBorder, cX12_isBorder, 2, (Option.some Jvm.ClassFile.FieldType.boolean))
def i_Mod_ones : MI := (yX12_ones, cX12_ones, 4, (Option.some Jvm.ClassFile.FieldType.int))
def i_Mod_bends : MI := (yX12_bends, cX12_bends, 4, (Option.some Jvm.ClassFile.FieldType.int))
def i_Mod_corner : MI := (yX12_corner, cX12_corner, 5, (Option.some Jvm.ClassFile.FieldType.int))
def i_Mod_inside : MI := (yX12_inside, cX12_inside, 4, (Option.some Jvm.ClassFile.FieldType.int))
def i_Mod_isIn : MI := (yX12_isIn, cX12_isIn, 4, (Option.some Jvm.ClassFile.FieldType.boolean))
def i_Mod_straight : MI := (yX12_straight, cX12_straight, 4, (Option.some Jvm.ClassFile.FieldType.int))
def i_Mod_isStretch : MI := (yX12_isStretch, cX12_isStretch, 4, (Option.some Jvm.ClassFile.FieldType.boolean))
def i_Mod_offOf : MI := (yX12_offOf, cX12_offOf, 14, (Option.some Jvm.ClassFile.FieldType.int))
def i_Mod_size : MI := (yX12_size, cX12_size, 1, (Option.some Jvm.ClassFile.FieldType.int))
def i_Mod_off : MI := (yX12_off, cX12_off, 4, (Option.some Jvm.ClassFile.FieldType.int))
def i_Mod_longest : MI := (yX12_longest, cX12_longest, 4, (Option.some Jvm.ClassFile.FieldType.int))
def i_Mod_best : MI := (yX12_best, cX12_best, 3, (Option.some Jvm.ClassFile.FieldType.int))
def i_Mod_laysTable : MI := (yX12_laysTable, cX12_laysTable, 4, none)
def i_Mod_laysBest : MI := (yX12_laysBest, cX12_laysBest, 7, none)
def i_Mod_laysLeast : MI := (yX12_laysLeast, cX12_laysLeast, 7, (Option.some Jvm.ClassFile.FieldType.int))
def i_Mod_stretch : MI := (yX12_stretch, cX12_stretch, 4, (Option.some Jvm.ClassFile.FieldType.int))
def i_Mod_sharpMany : MI := (yX12_sharpMany, cX12_sharpMany, 4, (Option.some Jvm.ClassFile.FieldType.int))
def i_Mod_isSharp : MI := (yX12_isSharp, cX12_isSharp, 4, (Option.some Jvm.ClassFile.FieldType.boolean))
def i_Mod_vx : MI := (yX12_vx, cX12_vx, 3, (Option.some Jvm.ClassFile.FieldType.int))
def i_Mod_vy : MI := (yX12_vy, cX12_vy, 3, (Option.some Jvm.ClassFile.FieldType.int))
def i_Mod_turnOf : MI := (yX12_turnOf, cX12_turnOf, 7, (Option.some Jvm.ClassFile.FieldType.int))
def i_Mod_greater : MI := (yX12_greater, cX12_greater, 2, (Option.some Jvm.ClassFile.FieldType.int))
def i_Mod_twice : MI := (yX12_twice, cX12_twice, 4, (Option.some Jvm.ClassFile.FieldType.int))
def i_Mod_vertex : MI := (yX12_vertex, cX12_vertex, 4, (Option.some Jvm.ClassFile.FieldType.int))
def i_Mod_past : MI := (yX12_past, cX12_past, 3, (Option.some Jvm.ClassFile.FieldType.int))
def i_Mod_fewest : MI := (yX12_fewest, cX12_fewest, 8, (Option.some Jvm.ClassFile.FieldType.int))
def i_Mod_point : MI := (yX12_point, cX12_point, 5, (Option.some Jvm.ClassFile.FieldType.int))
def i_Mod_pointOf : MI := (yX12_pointOf, cX12_pointOf, 8, (Option.some Jvm.ClassFile.FieldType.int))
def i_Mod_filled : MI := (yX12_filled, cX12_filled, 5, (Option.some Jvm.ClassFile.FieldType.int))
def i_Mod_laysLine : MI := (yX12_laysLine, cX12_laysLine, 5, none)
def i_Mod_adds : MI := (yX12_adds, cX12_adds, 3, none)
def i_Mod_isFilled : MI := (yX12_isFilled, cX12_isFilled, 11, (Option.some Jvm.ClassFile.FieldType.boolean))
def i_Mod_differ : MI := (yX12_differ, cX12_differ, 5, (Option.some Jvm.ClassFile.FieldType.int))
def i_Mod_wrong : MI := (yX12_wrong, cX12_wrong, 6, (Option.some Jvm.ClassFile.FieldType.int))
def i_Mod_all : MI := (yX12_all, cX12_all, 4, (Option.some Jvm.ClassFile.FieldType.int))
def i_Mod_image : MI := (yX12_image, cX12_image, 2, (Option.some Jvm.ClassFile.FieldType.int))
def i_Mod_restore : MI := (yX12_restore, cX12_restore, 2, (Option.some Jvm.ClassFile.FieldType.int))
def i_Mod_count : MI := (yX12_count, cX12_count, 2, (Option.some Jvm.ClassFile.FieldType.int))
theorem ci_Acts : CI 0 RX0 TX0 4 tyX0 := ⟨rfl, wt_l [104, 106, 108, 110] (by decide +kernel) (by decide +kernel), tyX0_ok, nmX0⟩
theorem ci_Bend : CI 1 RX1 TX1 6 tyX1 := ⟨rfl, wt_l [182, 184, 186, 188, 190, 192] (by decide +kernel) (by decide +kernel), tyX1_ok, nmX1⟩
theorem ci_Brd : CI 2 RX2 TX2 7 tyX2 := ⟨rfl, wt_l [414, 416, 418, 420, 422, 424, 426] (by decide +kernel) (by decide +kernel), tyX2_ok, nmX2⟩
theorem ci_Brs : CI 3 RX3 TX3 8 tyX3 := ⟨rfl, wt_l [131, 133, 135, 137, 139, 141, 143, 145] (by decide +kernel) (by decide +kernel), tyX3_ok, nmX3⟩
theorem ci_Fil : CI 4 RX4 TX4 1 tyX4 := ⟨rfl, wt_l [218] (by decide +kernel) (by decide +kernel), tyX4_ok, nmX4⟩
theorem ci_Pic : CI 5 RX6 TX6 5 tyX6 := ⟨rfl, wt_l [82, 84, 86, 88, 90] (by decide +kernel) (by decide +kernel), tyX6_ok, nmX6⟩
theorem ci_Pol : CI 6 RX7 TX7 5 tyX7 := ⟨rfl, wt_l [200, 202, 204, 206, 208] (by decide +kernel) (by decide +kernel), tyX7_ok, nmX7⟩
theorem ci_Rdg : CI 7 RX8 TX8 4 tyX8 := ⟨rfl, wt_l [54, 56, 58, 60] (by decide +kernel) (by decide +kernel), tyX8_ok, nmX8⟩
theorem ci_Str : CI 8 RX9 TX9 3 tyX9 := ⟨rfl, wt_l [157, 159, 161] (by decide +kernel) (by decide +kernel), tyX9_ok, nmX9⟩
theorem ci_Tap : CI 9 RX10 TX10 2 tyX10 := ⟨rfl, wt_l [34, 36] (by decide +kernel) (by decide +kernel), tyX10_ok, nmX10⟩
theorem ci_Dot : CI 10 RX11 TX11 11 tyX11 := ⟨rfl, wt_l [232, 234, 236, 238, 240, 242, 244, 246, 248, 250, 252] (by decide +kernel) (by decide +kernel), tyX11_ok, nmX11⟩
theorem ci_Mod : CI 11 RX12 TX12 31 tyX12 := ⟨rfl, wt_l [792, 794, 796, 798, 800, 802, 804, 806, 808, 810, 812, 814, 816, 818, 820, 822, 824, 826, 828, 830, 832, 834, 836, 838, 840, 842, 844, 846, 848, 850, 852] (by decide +kernel) (by decide +kernel), tyX12_ok, nmX12⟩
theorem w_arrI : Cond.arrayClass .int ∈ WT := wt_t 39 (by decide +kernel) (by decide +kernel)
theorem w_arrL : Cond.arrayClass .long ∈ WT := wt_t 113 (by decide +kernel) (by decide +kernel)
theorem w_oi1 : Cond.instanceMethod Lib.objectInit ∈ WT := wt_t 22 (by decide +kernel) (by decide +kernel)
theorem w_oi2 : Cond.code Lib.objectInit ⟨#[0xb1]⟩ 1 none ∈ WT := wt_t 23 (by decide +kernel) (by decide +kernel)
theorem f_Tap_9 : FL RX10 9 9 RX10 TX10 2 tyX10 0 := ⟨ci_Tap, by decide, wt_t 30 (by decide +kernel) (by decide +kernel)⟩
theorem f_Tap_13 : FL RX10 13 9 RX10 TX10 2 tyX10 1 := ⟨ci_Tap, by decide, wt_t 31 (by decide +kernel) (by decide +kernel)⟩
theorem f_Rdg_20 : FL RX8 20 9 RX10 TX10 2 tyX10 1 := ⟨ci_Tap, by decide, wt_t 32 (by decide +kernel) (by decide +kernel)⟩
theorem f_Dot_82 : FL RX11 82 9 RX10 TX10 2 tyX10 1 := ⟨ci_Tap, by decide, wt_t 33 (by decide +kernel) (by decide +kernel)⟩
theorem f_Rdg_7 : FL RX8 7 7 RX8 TX8 4 tyX8 0 := ⟨ci_Rdg, by decide, wt_t 46 (by decide +kernel) (by decide +kernel)⟩
theorem f_Dot_98 : FL RX11 98 7 RX8 TX8 4 tyX8 0 := ⟨ci_Rdg, by decide, wt_t 47 (by decide +kernel) (by decide +kernel)⟩
theorem f_Rdg_13 : FL RX8 13 7 RX8 TX8 4 tyX8 1 := ⟨ci_Rdg, by decide, wt_t 48 (by decide +kernel) (by decide +kernel)⟩
theorem f_Dot_102 : FL RX11 102 7 RX8 TX8 4 tyX8 1 := ⟨ci_Rdg, by decide, wt_t 49 (by decide +kernel) (by decide +kernel)⟩
theorem f_Rdg_16 : FL RX8 16 7 RX8 TX8 4 tyX8 2 := ⟨ci_Rdg, by decide, wt_t 50 (by decide +kernel) (by decide +kernel)⟩
theorem f_Dot_106 : FL RX11 106 7 RX8 TX8 4 tyX8 2 := ⟨ci_Rdg, by decide, wt_t 51 (by decide +kernel) (by decide +kernel)⟩
theorem f_Rdg_36 : FL RX8 36 7 RX8 TX8 4 tyX8 3 := ⟨ci_Rdg, by decide, wt_t 52 (by decide +kernel) (by decide +kernel)⟩
theorem f_Dot_95 : FL RX11 95 7 RX8 TX8 4 tyX8 3 := ⟨ci_Rdg, by decide, wt_t 53 (by decide +kernel) (by decide +kernel)⟩
theorem f_Pic_7 : FL RX6 7 5 RX6 TX6 5 tyX6 0 := ⟨ci_Pic, by decide, wt_t 69 (by decide +kernel) (by decide +kernel)⟩
theorem f_Dot_101 : FL RX11 101 5 RX6 TX6 5 tyX6 0 := ⟨ci_Pic, by decide, wt_t 70 (by decide +kernel) (by decide +kernel)⟩
theorem f_Pic_13 : FL RX6 13 5 RX6 TX6 5 tyX6 1 := ⟨ci_Pic, by decide, wt_t 71 (by decide +kernel) (by decide +kernel)⟩
theorem f_Dot_105 : FL RX11 105 5 RX6 TX6 5 tyX6 1 := ⟨ci_Pic, by decide, wt_t 72 (by decide +kernel) (by decide +kernel)⟩
theorem f_Acts_27 : FL RX0 27 5 RX6 TX6 5 tyX6 2 := ⟨ci_Pic, by decide, wt_t 73 (by decide +kernel) (by decide +kernel)⟩
theorem f_Dot_110 : FL RX11 110 5 RX6 TX6 5 tyX6 2 := ⟨ci_Pic, by decide, wt_t 74 (by decide +kernel) (by decide +kernel)⟩
theorem f_Pic_16 : FL RX6 16 5 RX6 TX6 5 tyX6 2 := ⟨ci_Pic, by decide, wt_t 75 (by decide +kernel) (by decide +kernel)⟩
theorem f_Acts_32 : FL RX0 32 5 RX6 TX6 5 tyX6 3 := ⟨ci_Pic, by decide, wt_t 76 (by decide +kernel) (by decide +kernel)⟩
theorem f_Dot_111 : FL RX11 111 5 RX6 TX6 5 tyX6 3 := ⟨ci_Pic, by decide, wt_t 77 (by decide +kernel) (by decide +kernel)⟩
theorem f_Pic_34 : FL RX6 34 5 RX6 TX6 5 tyX6 3 := ⟨ci_Pic, by decide, wt_t 78 (by decide +kernel) (by decide +kernel)⟩
theorem f_Acts_35 : FL RX0 35 5 RX6 TX6 5 tyX6 4 := ⟨ci_Pic, by decide, wt_t 79 (by decide +kernel) (by decide +kernel)⟩
theorem f_Dot_114 : FL RX11 114 5 RX6 TX6 5 tyX6 4 := ⟨ci_Pic, by decide, wt_t 80 (by decide +kernel) (by decide +kernel)⟩
theorem f_Pic_37 : FL RX6 37 5 RX6 TX6 5 tyX6 4 := ⟨ci_Pic, by decide, wt_t 81 (by decide +kernel) (by decide +kernel)⟩
theorem f_Acts_9 : FL RX0 9 0 RX0 TX0 4 tyX0 0 := ⟨ci_Acts, by decide, wt_t 99 (by decide +kernel) (by decide +kernel)⟩
theorem f_Acts_13 : FL RX0 13 0 RX0 TX0 4 tyX0 1 := ⟨ci_Acts, by decide, wt_t 100 (by decide +kernel) (by decide +kernel)⟩
theorem f_Acts_17 : FL RX0 17 0 RX0 TX0 4 tyX0 2 := ⟨ci_Acts, by decide, wt_t 101 (by decide +kernel) (by decide +kernel)⟩
theorem f_Acts_20 : FL RX0 20 0 RX0 TX0 4 tyX0 3 := ⟨ci_Acts, by decide, wt_t 102 (by decide +kernel) (by decide +kernel)⟩
theorem f_Dot_117 : FL RX11 117 0 RX0 TX0 4 tyX0 3 := ⟨ci_Acts, by decide, wt_t 103 (by decide +kernel) (by decide +kernel)⟩
theorem f_Brs_9 : FL RX3 9 3 RX3 TX3 8 tyX3 0 := ⟨ci_Brs, by decide, wt_t 122 (by decide +kernel) (by decide +kernel)⟩
theorem f_Brs_13 : FL RX3 13 3 RX3 TX3 8 tyX3 1 := ⟨ci_Brs, by decide, wt_t 123 (by decide +kernel) (by decide +kernel)⟩
theorem f_Brs_16 : FL RX3 16 3 RX3 TX3 8 tyX3 2 := ⟨ci_Brs, by decide, wt_t 124 (by decide +kernel) (by decide +kernel)⟩
theorem f_Brs_23 : FL RX3 23 3 RX3 TX3 8 tyX3 3 := ⟨ci_Brs, by decide, wt_t 125 (by decide +kernel) (by decide +kernel)⟩
theorem f_Brs_42 : FL RX3 42 3 RX3 TX3 8 tyX3 4 := ⟨ci_Brs, by decide, wt_t 126 (by decide +kernel) (by decide +kernel)⟩
theorem f_Brs_46 : FL RX3 46 3 RX3 TX3 8 tyX3 5 := ⟨ci_Brs, by decide, wt_t 127 (by decide +kernel) (by decide +kernel)⟩
theorem f_Brs_50 : FL RX3 50 3 RX3 TX3 8 tyX3 6 := ⟨ci_Brs, by decide, wt_t 128 (by decide +kernel) (by decide +kernel)⟩
theorem f_Brs_27 : FL RX3 27 3 RX3 TX3 8 tyX3 7 := ⟨ci_Brs, by decide, wt_t 129 (by decide +kernel) (by decide +kernel)⟩
theorem f_Dot_274 : FL RX11 274 3 RX3 TX3 8 tyX3 7 := ⟨ci_Brs, by decide, wt_t 130 (by decide +kernel) (by decide +kernel)⟩
theorem f_Str_18 : FL RX9 18 8 RX9 TX9 3 tyX9 0 := ⟨ci_Str, by decide, wt_t 154 (by decide +kernel) (by decide +kernel)⟩
theorem f_Str_11 : FL RX9 11 8 RX9 TX9 3 tyX9 1 := ⟨ci_Str, by decide, wt_t 155 (by decide +kernel) (by decide +kernel)⟩
theorem f_Str_15 : FL RX9 15 8 RX9 TX9 3 tyX9 2 := ⟨ci_Str, by decide, wt_t 156 (by decide +kernel) (by decide +kernel)⟩
theorem f_Bend_7 : FL RX1 7 1 RX1 TX1 6 tyX1 0 := ⟨ci_Bend, by decide, wt_t 176 (by decide +kernel) (by decide +kernel)⟩
theorem f_Bend_13 : FL RX1 13 1 RX1 TX1 6 tyX1 1 := ⟨ci_Bend, by decide, wt_t 177 (by decide +kernel) (by decide +kernel)⟩
theorem f_Bend_16 : FL RX1 16 1 RX1 TX1 6 tyX1 2 := ⟨ci_Bend, by decide, wt_t 178 (by decide +kernel) (by decide +kernel)⟩
theorem f_Bend_19 : FL RX1 19 1 RX1 TX1 6 tyX1 3 := ⟨ci_Bend, by decide, wt_t 179 (by decide +kernel) (by decide +kernel)⟩
theorem f_Bend_22 : FL RX1 22 1 RX1 TX1 6 tyX1 4 := ⟨ci_Bend, by decide, wt_t 180 (by decide +kernel) (by decide +kernel)⟩
theorem f_Bend_25 : FL RX1 25 1 RX1 TX1 6 tyX1 5 := ⟨ci_Bend, by decide, wt_t 181 (by decide +kernel) (by decide +kernel)⟩
theorem f_Pol_25 : FL RX7 25 6 RX7 TX7 5 tyX7 0 := ⟨ci_Pol, by decide, wt_t 195 (by decide +kernel) (by decide +kernel)⟩
theorem f_Pol_29 : FL RX7 29 6 RX7 TX7 5 tyX7 1 := ⟨ci_Pol, by decide, wt_t 196 (by decide +kernel) (by decide +kernel)⟩
theorem f_Pol_10 : FL RX7 10 6 RX7 TX7 5 tyX7 2 := ⟨ci_Pol, by decide, wt_t 197 (by decide +kernel) (by decide +kernel)⟩
theorem f_Pol_18 : FL RX7 18 6 RX7 TX7 5 tyX7 3 := ⟨ci_Pol, by decide, wt_t 198 (by decide +kernel) (by decide +kernel)⟩
theorem f_Pol_22 : FL RX7 22 6 RX7 TX7 5 tyX7 4 := ⟨ci_Pol, by decide, wt_t 199 (by decide +kernel) (by decide +kernel)⟩
theorem f_Fil_7 : FL RX4 7 4 RX4 TX4 1 tyX4 0 := ⟨ci_Fil, by decide, wt_t 217 (by decide +kernel) (by decide +kernel)⟩
theorem f_Dot_10 : FL RX11 10 10 RX11 TX11 11 tyX11 0 := ⟨ci_Dot, by decide, wt_t 221 (by decide +kernel) (by decide +kernel)⟩
theorem f_Dot_19 : FL RX11 19 10 RX11 TX11 11 tyX11 1 := ⟨ci_Dot, by decide, wt_t 222 (by decide +kernel) (by decide +kernel)⟩
theorem f_Dot_26 : FL RX11 26 10 RX11 TX11 11 tyX11 2 := ⟨ci_Dot, by decide, wt_t 223 (by decide +kernel) (by decide +kernel)⟩
theorem f_Dot_30 : FL RX11 30 10 RX11 TX11 11 tyX11 3 := ⟨ci_Dot, by decide, wt_t 224 (by decide +kernel) (by decide +kernel)⟩
theorem f_Dot_33 : FL RX11 33 10 RX11 TX11 11 tyX11 4 := ⟨ci_Dot, by decide, wt_t 225 (by decide +kernel) (by decide +kernel)⟩
theorem f_Dot_39 : FL RX11 39 10 RX11 TX11 11 tyX11 5 := ⟨ci_Dot, by decide, wt_t 226 (by decide +kernel) (by decide +kernel)⟩
theorem f_Dot_56 : FL RX11 56 10 RX11 TX11 11 tyX11 6 := ⟨ci_Dot, by decide, wt_t 227 (by decide +kernel) (by decide +kernel)⟩
theorem f_Dot_60 : FL RX11 60 10 RX11 TX11 11 tyX11 7 := ⟨ci_Dot, by decide, wt_t 228 (by decide +kernel) (by decide +kernel)⟩
theorem f_Dot_64 : FL RX11 64 10 RX11 TX11 11 tyX11 8 := ⟨ci_Dot, by decide, wt_t 229 (by decide +kernel) (by decide +kernel)⟩
theorem f_Dot_73 : FL RX11 73 10 RX11 TX11 11 tyX11 9 := ⟨ci_Dot, by decide, wt_t 230 (by decide +kernel) (by decide +kernel)⟩
theorem f_Dot_91 : FL RX11 91 10 RX11 TX11 11 tyX11 10 := ⟨ci_Dot, by decide, wt_t 231 (by decide +kernel) (by decide +kernel)⟩
theorem f_Brd_7 : FL RX2 7 2 RX2 TX2 7 tyX2 0 := ⟨ci_Brd, by decide, wt_t 391 (by decide +kernel) (by decide +kernel)⟩
theorem f_Pol_50 : FL RX7 50 2 RX2 TX2 7 tyX2 0 := ⟨ci_Brd, by decide, wt_t 392 (by decide +kernel) (by decide +kernel)⟩
theorem f_Brs_78 : FL RX3 78 2 RX2 TX2 7 tyX2 0 := ⟨ci_Brd, by decide, wt_t 393 (by decide +kernel) (by decide +kernel)⟩
theorem f_Brd_13 : FL RX2 13 2 RX2 TX2 7 tyX2 1 := ⟨ci_Brd, by decide, wt_t 394 (by decide +kernel) (by decide +kernel)⟩
theorem f_Str_39 : FL RX9 39 2 RX2 TX2 7 tyX2 1 := ⟨ci_Brd, by decide, wt_t 395 (by decide +kernel) (by decide +kernel)⟩
theorem f_Brs_35 : FL RX3 35 2 RX2 TX2 7 tyX2 1 := ⟨ci_Brd, by decide, wt_t 396 (by decide +kernel) (by decide +kernel)⟩
theorem f_Pol_91 : FL RX7 91 2 RX2 TX2 7 tyX2 1 := ⟨ci_Brd, by decide, wt_t 397 (by decide +kernel) (by decide +kernel)⟩
theorem f_Dot_165 : FL RX11 165 2 RX2 TX2 7 tyX2 1 := ⟨ci_Brd, by decide, wt_t 398 (by decide +kernel) (by decide +kernel)⟩
theorem f_Brd_16 : FL RX2 16 2 RX2 TX2 7 tyX2 2 := ⟨ci_Brd, by decide, wt_t 399 (by decide +kernel) (by decide +kernel)⟩
theorem f_Brs_69 : FL RX3 69 2 RX2 TX2 7 tyX2 2 := ⟨ci_Brd, by decide, wt_t 400 (by decide +kernel) (by decide +kernel)⟩
theorem f_Dot_168 : FL RX11 168 2 RX2 TX2 7 tyX2 2 := ⟨ci_Brd, by decide, wt_t 401 (by decide +kernel) (by decide +kernel)⟩
theorem f_Brd_19 : FL RX2 19 2 RX2 TX2 7 tyX2 3 := ⟨ci_Brd, by decide, wt_t 402 (by decide +kernel) (by decide +kernel)⟩
theorem f_Brs_65 : FL RX3 65 2 RX2 TX2 7 tyX2 3 := ⟨ci_Brd, by decide, wt_t 403 (by decide +kernel) (by decide +kernel)⟩
theorem f_Dot_171 : FL RX11 171 2 RX2 TX2 7 tyX2 3 := ⟨ci_Brd, by decide, wt_t 404 (by decide +kernel) (by decide +kernel)⟩
theorem f_Brd_23 : FL RX2 23 2 RX2 TX2 7 tyX2 4 := ⟨ci_Brd, by decide, wt_t 405 (by decide +kernel) (by decide +kernel)⟩
theorem f_Str_52 : FL RX9 52 2 RX2 TX2 7 tyX2 4 := ⟨ci_Brd, by decide, wt_t 406 (by decide +kernel) (by decide +kernel)⟩
theorem f_Fil_13 : FL RX4 13 2 RX2 TX2 7 tyX2 5 := ⟨ci_Brd, by decide, wt_t 407 (by decide +kernel) (by decide +kernel)⟩
theorem f_Brd_27 : FL RX2 27 2 RX2 TX2 7 tyX2 5 := ⟨ci_Brd, by decide, wt_t 408 (by decide +kernel) (by decide +kernel)⟩
theorem f_Pol_44 : FL RX7 44 2 RX2 TX2 7 tyX2 5 := ⟨ci_Brd, by decide, wt_t 409 (by decide +kernel) (by decide +kernel)⟩
theorem f_Dot_218 : FL RX11 218 2 RX2 TX2 7 tyX2 5 := ⟨ci_Brd, by decide, wt_t 410 (by decide +kernel) (by decide +kernel)⟩
theorem f_Brd_30 : FL RX2 30 2 RX2 TX2 7 tyX2 6 := ⟨ci_Brd, by decide, wt_t 411 (by decide +kernel) (by decide +kernel)⟩
theorem f_Pol_94 : FL RX7 94 2 RX2 TX2 7 tyX2 6 := ⟨ci_Brd, by decide, wt_t 412 (by decide +kernel) (by decide +kernel)⟩
theorem f_Dot_221 : FL RX11 221 2 RX2 TX2 7 tyX2 6 := ⟨ci_Brd, by decide, wt_t 413 (by decide +kernel) (by decide +kernel)⟩
theorem s_Brs_91 : Cond.fieldLink RX3 91 (sC 0) (sN 0) "[I" ∈ WT := wt_t 448 (by decide +kernel) (by decide +kernel)
theorem s_Brs_94 : Cond.fieldLink RX3 94 (sC 1) (sN 1) "[I" ∈ WT := wt_t 450 (by decide +kernel) (by decide +kernel)
theorem s_Brs_108 : Cond.fieldLink RX3 108 (sC 2) (sN 2) "[I" ∈ WT := wt_t 455 (by decide +kernel) (by decide +kernel)
theorem s_Brs_111 : Cond.fieldLink RX3 111 (sC 3) (sN 3) "[I" ∈ WT := wt_t 457 (by decide +kernel) (by decide +kernel)
theorem s_Bend_49 : Cond.fieldLink RX1 49 (sC 4) (sN 4) "[I" ∈ WT := wt_t 665 (by decide +kernel) (by decide +kernel)
theorem s_Bend_53 : Cond.fieldLink RX1 53 (sC 5) (sN 5) "[I" ∈ WT := wt_t 667 (by decide +kernel) (by decide +kernel)
theorem s_Bend_56 : Cond.fieldLink RX1 56 (sC 6) (sN 6) "[I" ∈ WT := wt_t 669 (by decide +kernel) (by decide +kernel)
theorem f_Mod_7 : FL RX12 7 11 RX12 TX12 31 tyX12 0 := ⟨ci_Mod, by decide, wt_t 761 (by decide +kernel) (by decide +kernel)⟩
theorem f_Mod_13 : FL RX12 13 11 RX12 TX12 31 tyX12 1 := ⟨ci_Mod, by decide, wt_t 762 (by decide +kernel) (by decide +kernel)⟩
theorem f_Mod_107 : FL RX12 107 11 RX12 TX12 31 tyX12 2 := ⟨ci_Mod, by decide, wt_t 763 (by decide +kernel) (by decide +kernel)⟩
theorem f_Mod_16 : FL RX12 16 11 RX12 TX12 31 tyX12 3 := ⟨ci_Mod, by decide, wt_t 764 (by decide +kernel) (by decide +kernel)⟩
theorem f_Mod_19 : FL RX12 19 11 RX12 TX12 31 tyX12 4 := ⟨ci_Mod, by decide, wt_t 765 (by decide +kernel) (by decide +kernel)⟩
theorem f_Mod_22 : FL RX12 22 11 RX12 TX12 31 tyX12 5 := ⟨ci_Mod, by decide, wt_t 766 (by decide +kernel) (by decide +kernel)⟩
theorem f_Mod_76 : FL RX12 76 11 RX12 TX12 31 tyX12 6 := ⟨ci_Mod, by decide, wt_t 767 (by decide +kernel) (by decide +kernel)⟩
theorem f_Mod_99 : FL RX12 99 11 RX12 TX12 31 tyX12 7 := ⟨ci_Mod, by decide, wt_t 768 (by decide +kernel) (by decide +kernel)⟩
theorem f_Mod_25 : FL RX12 25 11 RX12 TX12 31 tyX12 8 := ⟨ci_Mod, by decide, wt_t 769 (by decide +kernel) (by decide +kernel)⟩
theorem f_Mod_81 : FL RX12 81 11 RX12 TX12 31 tyX12 9 := ⟨ci_Mod, by decide, wt_t 770 (by decide +kernel) (by decide +kernel)⟩
theorem f_Mod_110 : FL RX12 110 11 RX12 TX12 31 tyX12 10 := ⟨ci_Mod, by decide, wt_t 771 (by decide +kernel) (by decide +kernel)⟩
theorem f_Mod_156 : FL RX12 156 11 RX12 TX12 31 tyX12 11 := ⟨ci_Mod, by decide, wt_t 772 (by decide +kernel) (by decide +kernel)⟩
theorem f_Mod_28 : FL RX12 28 11 RX12 TX12 31 tyX12 12 := ⟨ci_Mod, by decide, wt_t 773 (by decide +kernel) (by decide +kernel)⟩
theorem f_Mod_31 : FL RX12 31 11 RX12 TX12 31 tyX12 13 := ⟨ci_Mod, by decide, wt_t 774 (by decide +kernel) (by decide +kernel)⟩
theorem f_Mod_34 : FL RX12 34 11 RX12 TX12 31 tyX12 14 := ⟨ci_Mod, by decide, wt_t 775 (by decide +kernel) (by decide +kernel)⟩
theorem f_Mod_37 : FL RX12 37 11 RX12 TX12 31 tyX12 15 := ⟨ci_Mod, by decide, wt_t 776 (by decide +kernel) (by decide +kernel)⟩
theorem f_Mod_40 : FL RX12 40 11 RX12 TX12 31 tyX12 16 := ⟨ci_Mod, by decide, wt_t 777 (by decide +kernel) (by decide +kernel)⟩
theorem f_Mod_44 : FL RX12 44 11 RX12 TX12 31 tyX12 17 := ⟨ci_Mod, by decide, wt_t 778 (by decide +kernel) (by decide +kernel)⟩
theorem f_Mod_47 : FL RX12 47 11 RX12 TX12 31 tyX12 18 := ⟨ci_Mod, by decide, wt_t 779 (by decide +kernel) (by decide +kernel)⟩
theorem f_Mod_50 : FL RX12 50 11 RX12 TX12 31 tyX12 19 := ⟨ci_Mod, by decide, wt_t 780 (by decide +kernel) (by decide +kernel)⟩
theorem f_Mod_132 : FL RX12 132 11 RX12 TX12 31 tyX12 20 := ⟨ci_Mod, by decide, wt_t 781 (by decide +kernel) (by decide +kernel)⟩
theorem f_Mod_153 : FL RX12 153 11 RX12 TX12 31 tyX12 21 := ⟨ci_Mod, by decide, wt_t 782 (by decide +kernel) (by decide +kernel)⟩
theorem f_Mod_53 : FL RX12 53 11 RX12 TX12 31 tyX12 22 := ⟨ci_Mod, by decide, wt_t 783 (by decide +kernel) (by decide +kernel)⟩
theorem f_Mod_56 : FL RX12 56 11 RX12 TX12 31 tyX12 23 := ⟨ci_Mod, by decide, wt_t 784 (by decide +kernel) (by decide +kernel)⟩
theorem f_Mod_205 : FL RX12 205 11 RX12 TX12 31 tyX12 24 := ⟨ci_Mod, by decide, wt_t 785 (by decide +kernel) (by decide +kernel)⟩
theorem f_Mod_208 : FL RX12 208 11 RX12 TX12 31 tyX12 25 := ⟨ci_Mod, by decide, wt_t 786 (by decide +kernel) (by decide +kernel)⟩
theorem f_Mod_59 : FL RX12 59 11 RX12 TX12 31 tyX12 26 := ⟨ci_Mod, by decide, wt_t 787 (by decide +kernel) (by decide +kernel)⟩
theorem f_Mod_62 : FL RX12 62 11 RX12 TX12 31 tyX12 27 := ⟨ci_Mod, by decide, wt_t 788 (by decide +kernel) (by decide +kernel)⟩
theorem f_Mod_65 : FL RX12 65 11 RX12 TX12 31 tyX12 28 := ⟨ci_Mod, by decide, wt_t 789 (by decide +kernel) (by decide +kernel)⟩
theorem f_Mod_68 : FL RX12 68 11 RX12 TX12 31 tyX12 29 := ⟨ci_Mod, by decide, wt_t 790 (by decide +kernel) (by decide +kernel)⟩
theorem f_Mod_241 : FL RX12 241 11 RX12 TX12 31 tyX12 30 := ⟨ci_Mod, by decide, wt_t 791 (by decide +kernel) (by decide +kernel)⟩
theorem l_Law_9 : Cond.methodLink RL 9 yX11_init ∈ WT := wt_t 18 (by decide +kernel) (by decide +kernel)
theorem l_Dot_1 : Cond.methodLink RX11 1 Lib.objectInit ∈ WT := wt_t 21 (by decide +kernel) (by decide +kernel)
theorem l_Dot_9 : Cond.methodLink RX11 9 yX10_init ∈ WT := wt_t 26 (by decide +kernel) (by decide +kernel)
theorem l_Tap_1 : Cond.methodLink RX10 1 Lib.objectInit ∈ WT := wt_t 29 (by decide +kernel) (by decide +kernel)
theorem l_Dot_18 : Cond.methodLink RX11 18 yX8_init ∈ WT := wt_t 42 (by decide +kernel) (by decide +kernel)
theorem l_Rdg_1 : Cond.methodLink RX8 1 Lib.objectInit ∈ WT := wt_t 45 (by decide +kernel) (by decide +kernel)
theorem l_Dot_25 : Cond.methodLink RX11 25 yX6_init ∈ WT := wt_t 65 (by decide +kernel) (by decide +kernel)
theorem l_Pic_1 : Cond.methodLink RX6 1 Lib.objectInit ∈ WT := wt_t 68 (by decide +kernel) (by decide +kernel)
theorem l_Dot_38 : Cond.methodLink RX11 38 yX0_init ∈ WT := wt_t 95 (by decide +kernel) (by decide +kernel)
theorem l_Acts_1 : Cond.methodLink RX0 1 Lib.objectInit ∈ WT := wt_t 98 (by decide +kernel) (by decide +kernel)
theorem l_Dot_45 : Cond.methodLink RX11 45 yX3_init ∈ WT := wt_t 116 (by decide +kernel) (by decide +kernel)
theorem l_Brs_1 : Cond.methodLink RX3 1 Lib.objectInit ∈ WT := wt_t 119 (by decide +kernel) (by decide +kernel)
theorem l_Dot_48 : Cond.methodLink RX11 48 yX9_init ∈ WT := wt_t 150 (by decide +kernel) (by decide +kernel)
theorem l_Str_3 : Cond.methodLink RX9 3 Lib.objectInit ∈ WT := wt_t 153 (by decide +kernel) (by decide +kernel)
theorem l_Dot_53 : Cond.methodLink RX11 53 yX7_init ∈ WT := wt_t 166 (by decide +kernel) (by decide +kernel)
theorem l_Pol_1 : Cond.methodLink RX7 1 Lib.objectInit ∈ WT := wt_t 169 (by decide +kernel) (by decide +kernel)
theorem l_Pol_9 : Cond.methodLink RX7 9 yX1_init ∈ WT := wt_t 172 (by decide +kernel) (by decide +kernel)
theorem l_Bend_1 : Cond.methodLink RX1 1 Lib.objectInit ∈ WT := wt_t 175 (by decide +kernel) (by decide +kernel)
theorem l_Dot_70 : Cond.methodLink RX11 70 yX4_init ∈ WT := wt_t 213 (by decide +kernel) (by decide +kernel)
theorem l_Fil_1 : Cond.methodLink RX4 1 Lib.objectInit ∈ WT := wt_t 216 (by decide +kernel) (by decide +kernel)
theorem l_Law_13 : Cond.methodLink RL 13 yX11_feed ∈ WT := wt_t 255 (by decide +kernel) (by decide +kernel)
theorem l_Dot_78 : Cond.methodLink RX11 78 yX10_add ∈ WT := wt_t 260 (by decide +kernel) (by decide +kernel)
theorem l_Law_18 : Cond.methodLink RL 18 yX11_picture ∈ WT := wt_t 265 (by decide +kernel) (by decide +kernel)
theorem l_Dot_87 : Cond.methodLink RX11 87 yX8_read ∈ WT := wt_t 269 (by decide +kernel) (by decide +kernel)
theorem l_Rdg_25 : Cond.methodLink RX8 25 yX10_letterAt ∈ WT := wt_t 273 (by decide +kernel) (by decide +kernel)
theorem l_Rdg_29 : Cond.methodLink RX8 29 yX8_faultInHead ∈ WT := wt_t 277 (by decide +kernel) (by decide +kernel)
theorem l_Rdg_33 : Cond.methodLink RX8 33 yX8_faultInRows ∈ WT := wt_t 281 (by decide +kernel) (by decide +kernel)
theorem l_Rdg_41 : Cond.methodLink RX8 41 yX5_bit ∈ WT := wt_t 285 (by decide +kernel) (by decide +kernel)
theorem l_Dot_120 : Cond.methodLink RX11 120 yX6_darkDots ∈ WT := wt_t 289 (by decide +kernel) (by decide +kernel)
theorem l_Pic_26 : Cond.methodLink RX6 26 yJ13_bitCount_95d88 ∈ WT := wt_t 293 (by decide +kernel) (by decide +kernel)
theorem l_Law_23 : Cond.methodLink RL 23 yX11_fault ∈ WT := wt_t 299 (by decide +kernel) (by decide +kernel)
theorem l_Law_27 : Cond.methodLink RL 27 yX11_undo ∈ WT := wt_t 303 (by decide +kernel) (by decide +kernel)
theorem l_Dot_124 : Cond.methodLink RX11 124 yX0_takeBack ∈ WT := wt_t 307 (by decide +kernel) (by decide +kernel)
theorem l_Law_31 : Cond.methodLink RL 31 yX11_flip ∈ WT := wt_t 312 (by decide +kernel) (by decide +kernel)
theorem l_Dot_129 : Cond.methodLink RX11 129 yX6_has ∈ WT := wt_t 316 (by decide +kernel) (by decide +kernel)
theorem l_Dot_133 : Cond.methodLink RX11 133 yX0_remember ∈ WT := wt_t 320 (by decide +kernel) (by decide +kernel)
theorem l_Acts_24 : Cond.methodLink RX0 24 yX0_forgetOldest ∈ WT := wt_t 324 (by decide +kernel) (by decide +kernel)
theorem l_Dot_137 : Cond.methodLink RX11 137 yX5_bit ∈ WT := wt_t 328 (by decide +kernel) (by decide +kernel)
theorem l_Dot_143 : Cond.methodLink RX11 143 yX6_isDark ∈ WT := wt_t 329 (by decide +kernel) (by decide +kernel)
theorem l_Pic_20 : Cond.methodLink RX6 20 yX5_bit ∈ WT := wt_t 333 (by decide +kernel) (by decide +kernel)
theorem l_Law_36 : Cond.methodLink RL 36 yX11_frame ∈ WT := wt_t 334 (by decide +kernel) (by decide +kernel)
theorem l_Dot_146 : Cond.methodLink RX11 146 yX5_block ∈ WT := wt_t 338 (by decide +kernel) (by decide +kernel)
theorem l_Grid_11 : Cond.methodLink RX5 11 yJ9_max_7cf53 ∈ WT := wt_t 341 (by decide +kernel) (by decide +kernel)
theorem l_Grid_17 : Cond.methodLink RX5 17 yX5_rowFrom ∈ WT := wt_t 344 (by decide +kernel) (by decide +kernel)
theorem l_Dot_150 : Cond.methodLink RX11 150 yX6_lay ∈ WT := wt_t 349 (by decide +kernel) (by decide +kernel)
theorem l_Law_41 : Cond.methodLink RL 41 yX11_joined ∈ WT := wt_t 354 (by decide +kernel) (by decide +kernel)
theorem l_Dot_154 : Cond.methodLink RX11 154 yX6_isThere ∈ WT := wt_t 358 (by decide +kernel) (by decide +kernel)
theorem l_Law_45 : Cond.methodLink RL 45 yX11_sharp ∈ WT := wt_t 362 (by decide +kernel) (by decide +kernel)
theorem l_Law_49 : Cond.methodLink RL 49 yX11_dot ∈ WT := wt_t 366 (by decide +kernel) (by decide +kernel)
theorem l_Law_53 : Cond.methodLink RL 53 yX11_borders ∈ WT := wt_t 370 (by decide +kernel) (by decide +kernel)
theorem l_Dot_158 : Cond.methodLink RX11 158 yX11_walkedBorders ∈ WT := wt_t 374 (by decide +kernel) (by decide +kernel)
theorem l_Dot_271 : Cond.methodLink RX11 271 yX3_follow ∈ WT := wt_t 378 (by decide +kernel) (by decide +kernel)
theorem l_Brs_53 : Cond.methodLink RX3 53 yX3_nextBorder ∈ WT := wt_t 382 (by decide +kernel) (by decide +kernel)
theorem l_Brs_68 : Cond.methodLink RX3 68 yX2_init ∈ WT := wt_t 387 (by decide +kernel) (by decide +kernel)
theorem l_Brd_1 : Cond.methodLink RX2 1 Lib.objectInit ∈ WT := wt_t 390 (by decide +kernel) (by decide +kernel)
theorem l_Brs_57 : Cond.methodLink RX3 57 yX2_begin ∈ WT := wt_t 429 (by decide +kernel) (by decide +kernel)
theorem l_Brs_61 : Cond.methodLink RX3 61 yX3_walk ∈ WT := wt_t 433 (by decide +kernel) (by decide +kernel)
theorem l_Brs_72 : Cond.methodLink RX3 72 yX5_columnOf ∈ WT := wt_t 437 (by decide +kernel) (by decide +kernel)
theorem l_Brs_75 : Cond.methodLink RX3 75 yX5_rowOf ∈ WT := wt_t 440 (by decide +kernel) (by decide +kernel)
theorem l_Brs_81 : Cond.methodLink RX3 81 yJ9_max_7cf53 ∈ WT := wt_t 443 (by decide +kernel) (by decide +kernel)
theorem l_Brs_87 : Cond.methodLink RX3 87 yX3_dotsRightOf ∈ WT := wt_t 444 (by decide +kernel) (by decide +kernel)
theorem l_Brs_104 : Cond.methodLink RX3 104 yX5_rowFrom ∈ WT := wt_t 447 (by decide +kernel) (by decide +kernel)
theorem l_Brs_97 : Cond.methodLink RX3 97 yX3_dotAhead ∈ WT := wt_t 452 (by decide +kernel) (by decide +kernel)
theorem l_Brs_114 : Cond.methodLink RX3 114 yX5_bit ∈ WT := wt_t 459 (by decide +kernel) (by decide +kernel)
theorem l_Brs_100 : Cond.methodLink RX3 100 yX3_nextWay ∈ WT := wt_t 460 (by decide +kernel) (by decide +kernel)
theorem l_Law_57 : Cond.methodLink RL 57 yX11_border ∈ WT := wt_t 464 (by decide +kernel) (by decide +kernel)
theorem l_Dot_161 : Cond.methodLink RX11 161 yX11_borderNumber ∈ WT := wt_t 468 (by decide +kernel) (by decide +kernel)
theorem l_Dot_275 : Cond.methodLink RX11 275 yX3_at ∈ WT := wt_t 472 (by decide +kernel) (by decide +kernel)
theorem l_Dot_174 : Cond.methodLink RX11 174 yJ13_bitCount_95d88 ∈ WT := wt_t 476 (by decide +kernel) (by decide +kernel)
theorem l_Dot_180 : Cond.methodLink RX11 180 yX5_columnOf ∈ WT := wt_t 477 (by decide +kernel) (by decide +kernel)
theorem l_Dot_184 : Cond.methodLink RX11 184 yX5_rowOf ∈ WT := wt_t 478 (by decide +kernel) (by decide +kernel)
theorem l_Dot_187 : Cond.methodLink RX11 187 yX3_turningSteps ∈ WT := wt_t 479 (by decide +kernel) (by decide +kernel)
theorem l_Brs_38 : Cond.methodLink RX3 38 yX3_wayAt ∈ WT := wt_t 483 (by decide +kernel) (by decide +kernel)
theorem l_Brs_31 : Cond.methodLink RX3 31 yX2_place ∈ WT := wt_t 487 (by decide +kernel) (by decide +kernel)
theorem l_Law_61 : Cond.methodLink RL 61 yX11_corner ∈ WT := wt_t 491 (by decide +kernel) (by decide +kernel)
theorem l_Dot_191 : Cond.methodLink RX11 191 yX3_xAt ∈ WT := wt_t 495 (by decide +kernel) (by decide +kernel)
theorem l_Dot_195 : Cond.methodLink RX11 195 yX3_yAt ∈ WT := wt_t 499 (by decide +kernel) (by decide +kernel)
theorem l_Dot_198 : Cond.methodLink RX11 198 yX3_wayAt ∈ WT := wt_t 503 (by decide +kernel) (by decide +kernel)
theorem l_Law_66 : Cond.methodLink RL 66 yX11_inside ∈ WT := wt_t 504 (by decide +kernel) (by decide +kernel)
theorem l_Law_70 : Cond.methodLink RL 70 yX11_straight ∈ WT := wt_t 508 (by decide +kernel) (by decide +kernel)
theorem l_Dot_201 : Cond.methodLink RX11 201 yX2_hasStretch ∈ WT := wt_t 512 (by decide +kernel) (by decide +kernel)
theorem l_Brd_33 : Cond.methodLink RX2 33 yX2_hasCorner ∈ WT := wt_t 516 (by decide +kernel) (by decide +kernel)
theorem l_Dot_204 : Cond.methodLink RX11 204 yX9_offOf ∈ WT := wt_t 520 (by decide +kernel) (by decide +kernel)
theorem l_Str_22 : Cond.methodLink RX9 22 yX3_xAt ∈ WT := wt_t 524 (by decide +kernel) (by decide +kernel)
theorem l_Str_26 : Cond.methodLink RX9 26 yX3_yAt ∈ WT := wt_t 525 (by decide +kernel) (by decide +kernel)
theorem l_Str_29 : Cond.methodLink RX9 29 yJ9_abs_0f7a4 ∈ WT := wt_t 526 (by decide +kernel) (by decide +kernel)
theorem l_Str_35 : Cond.methodLink RX9 35 yJ9_max_7cf53 ∈ WT := wt_t 529 (by decide +kernel) (by decide +kernel)
theorem l_Law_74 : Cond.methodLink RL 74 yX11_off ∈ WT := wt_t 530 (by decide +kernel) (by decide +kernel)
theorem l_Law_78 : Cond.methodLink RL 78 yX11_longest ∈ WT := wt_t 535 (by decide +kernel) (by decide +kernel)
theorem l_Dot_209 : Cond.methodLink RX11 209 yX2_hasCorner ∈ WT := wt_t 539 (by decide +kernel) (by decide +kernel)
theorem l_Dot_212 : Cond.methodLink RX11 212 yX9_longestFrom ∈ WT := wt_t 540 (by decide +kernel) (by decide +kernel)
theorem l_Str_45 : Cond.methodLink RX9 45 yJ9_min_7cf53 ∈ WT := wt_t 544 (by decide +kernel) (by decide +kernel)
theorem l_Str_48 : Cond.methodLink RX9 48 yX9_offOf ∈ WT := wt_t 547 (by decide +kernel) (by decide +kernel)
theorem l_Law_82 : Cond.methodLink RL 82 yX11_best ∈ WT := wt_t 548 (by decide +kernel) (by decide +kernel)
theorem l_Dot_215 : Cond.methodLink RX11 215 yX11_shapedBorder ∈ WT := wt_t 552 (by decide +kernel) (by decide +kernel)
theorem l_Dot_278 : Cond.methodLink RX11 278 yX7_seek ∈ WT := wt_t 556 (by decide +kernel) (by decide +kernel)
theorem l_Pol_33 : Cond.methodLink RX7 33 yX9_measure ∈ WT := wt_t 560 (by decide +kernel) (by decide +kernel)
theorem l_Str_56 : Cond.methodLink RX9 56 yX2_place ∈ WT := wt_t 564 (by decide +kernel) (by decide +kernel)
theorem l_Pol_39 : Cond.methodLink RX7 39 yX7_costOfRound ∈ WT := wt_t 566 (by decide +kernel) (by decide +kernel)
theorem l_Pol_101 : Cond.methodLink RX7 101 yJ9_min_7cf53 ∈ WT := wt_t 570 (by decide +kernel) (by decide +kernel)
theorem l_Pol_104 : Cond.methodLink RX7 104 yX2_place ∈ WT := wt_t 571 (by decide +kernel) (by decide +kernel)
theorem l_Pol_107 : Cond.methodLink RX7 107 yX9_reachAt ∈ WT := wt_t 572 (by decide +kernel) (by decide +kernel)
theorem l_Pol_110 : Cond.methodLink RX7 110 yX9_offAt ∈ WT := wt_t 576 (by decide +kernel) (by decide +kernel)
theorem l_Pol_97 : Cond.methodLink RX7 97 yX7_writeVertices ∈ WT := wt_t 581 (by decide +kernel) (by decide +kernel)
theorem l_Pol_113 : Cond.methodLink RX7 113 yX7_nearestStep ∈ WT := wt_t 585 (by decide +kernel) (by decide +kernel)
theorem l_Pol_53 : Cond.methodLink RX7 53 yJ9_max_7cf53 ∈ WT := wt_t 589 (by decide +kernel) (by decide +kernel)
theorem l_Dot_224 : Cond.methodLink RX11 224 yX7_sharpVertices ∈ WT := wt_t 590 (by decide +kernel) (by decide +kernel)
theorem l_Pol_78 : Cond.methodLink RX7 78 yX7_bendAt ∈ WT := wt_t 594 (by decide +kernel) (by decide +kernel)
theorem l_Pol_59 : Cond.methodLink RX7 59 yX7_cornerOfVertex ∈ WT := wt_t 598 (by decide +kernel) (by decide +kernel)
theorem l_Pol_62 : Cond.methodLink RX7 62 yX3_xAt ∈ WT := wt_t 602 (by decide +kernel) (by decide +kernel)
theorem l_Pol_65 : Cond.methodLink RX7 65 yX3_yAt ∈ WT := wt_t 603 (by decide +kernel) (by decide +kernel)
theorem l_Pol_68 : Cond.methodLink RX7 68 yX1_from ∈ WT := wt_t 604 (by decide +kernel) (by decide +kernel)
theorem l_Pol_72 : Cond.methodLink RX7 72 yX1_by ∈ WT := wt_t 608 (by decide +kernel) (by decide +kernel)
theorem l_Pol_75 : Cond.methodLink RX7 75 yX1_to ∈ WT := wt_t 612 (by decide +kernel) (by decide +kernel)
theorem l_Pol_82 : Cond.methodLink RX7 82 yX1_isSharp ∈ WT := wt_t 616 (by decide +kernel) (by decide +kernel)
theorem l_Bend_38 : Cond.methodLink RX1 38 yX1_turn ∈ WT := wt_t 620 (by decide +kernel) (by decide +kernel)
theorem l_Bend_28 : Cond.methodLink RX1 28 yX1_greater ∈ WT := wt_t 624 (by decide +kernel) (by decide +kernel)
theorem l_Bend_32 : Cond.methodLink RX1 32 yJ9_abs_0f7a4 ∈ WT := wt_t 627 (by decide +kernel) (by decide +kernel)
theorem l_Bend_42 : Cond.methodLink RX1 42 yJ9_max_7cf53 ∈ WT := wt_t 628 (by decide +kernel) (by decide +kernel)
theorem l_Dot_227 : Cond.methodLink RX11 227 yX7_twiceTheArea ∈ WT := wt_t 629 (by decide +kernel) (by decide +kernel)
theorem l_Pol_86 : Cond.methodLink RX7 86 yJ9_abs_0f7a4 ∈ WT := wt_t 633 (by decide +kernel) (by decide +kernel)
theorem l_Law_86 : Cond.methodLink RL 86 yX11_vertex ∈ WT := wt_t 634 (by decide +kernel) (by decide +kernel)
theorem l_Dot_230 : Cond.methodLink RX11 230 yX2_hasVertex ∈ WT := wt_t 638 (by decide +kernel) (by decide +kernel)
theorem l_Dot_233 : Cond.methodLink RX11 233 yX7_cornerOfVertex ∈ WT := wt_t 642 (by decide +kernel) (by decide +kernel)
theorem l_Dot_236 : Cond.methodLink RX11 236 yX7_bendAt ∈ WT := wt_t 643 (by decide +kernel) (by decide +kernel)
theorem l_Dot_240 : Cond.methodLink RX11 240 yX1_turn ∈ WT := wt_t 644 (by decide +kernel) (by decide +kernel)
theorem l_Dot_245 : Cond.methodLink RX11 245 yX1_isSharp ∈ WT := wt_t 645 (by decide +kernel) (by decide +kernel)
theorem l_Law_90 : Cond.methodLink RL 90 yX11_past ∈ WT := wt_t 646 (by decide +kernel) (by decide +kernel)
theorem l_Dot_248 : Cond.methodLink RX11 248 yX7_fewestThrough ∈ WT := wt_t 650 (by decide +kernel) (by decide +kernel)
theorem l_Law_94 : Cond.methodLink RL 94 yX11_point ∈ WT := wt_t 654 (by decide +kernel) (by decide +kernel)
theorem l_Dot_251 : Cond.methodLink RX11 251 yX1_xOnRound ∈ WT := wt_t 658 (by decide +kernel) (by decide +kernel)
theorem l_Bend_45 : Cond.methodLink RX1 45 yX1_onRound ∈ WT := wt_t 662 (by decide +kernel) (by decide +kernel)
theorem l_Dot_254 : Cond.methodLink RX11 254 yX1_yOnRound ∈ WT := wt_t 671 (by decide +kernel) (by decide +kernel)
theorem l_Law_99 : Cond.methodLink RL 99 yX11_filled ∈ WT := wt_t 675 (by decide +kernel) (by decide +kernel)
theorem l_Dot_257 : Cond.methodLink RX11 257 yX4_by ∈ WT := wt_t 679 (by decide +kernel) (by decide +kernel)
theorem l_Fil_19 : Cond.methodLink RX4 19 yX7_bendAt ∈ WT := wt_t 683 (by decide +kernel) (by decide +kernel)
theorem l_Fil_25 : Cond.methodLink RX4 25 yX1_xOfVertex ∈ WT := wt_t 684 (by decide +kernel) (by decide +kernel)
theorem l_Fil_31 : Cond.methodLink RX4 31 yX1_yOfVertex ∈ WT := wt_t 688 (by decide +kernel) (by decide +kernel)
theorem l_Fil_34 : Cond.methodLink RX4 34 yX1_xOfNext ∈ WT := wt_t 692 (by decide +kernel) (by decide +kernel)
theorem l_Fil_37 : Cond.methodLink RX4 37 yX1_yOfNext ∈ WT := wt_t 696 (by decide +kernel) (by decide +kernel)
theorem l_Fil_40 : Cond.methodLink RX4 40 yX4_rightOf ∈ WT := wt_t 700 (by decide +kernel) (by decide +kernel)
theorem l_Fil_62 : Cond.methodLink RX4 62 yX4_rightOfFalling ∈ WT := wt_t 703 (by decide +kernel) (by decide +kernel)
theorem l_Fil_67 : Cond.methodLink RX4 67 yX4_firstColumnRightOf ∈ WT := wt_t 706 (by decide +kernel) (by decide +kernel)
theorem l_Fil_71 : Cond.methodLink RX4 71 yX5_rowFrom ∈ WT := wt_t 709 (by decide +kernel) (by decide +kernel)
theorem l_Fil_44 : Cond.methodLink RX4 44 yX1_isSharp ∈ WT := wt_t 710 (by decide +kernel) (by decide +kernel)
theorem l_Fil_48 : Cond.methodLink RX4 48 yX4_rightOfSharp ∈ WT := wt_t 711 (by decide +kernel) (by decide +kernel)
theorem l_Fil_55 : Cond.methodLink RX4 55 yX1_xOnRound ∈ WT := wt_t 714 (by decide +kernel) (by decide +kernel)
theorem l_Fil_59 : Cond.methodLink RX4 59 yX1_yOnRound ∈ WT := wt_t 715 (by decide +kernel) (by decide +kernel)
theorem l_Fil_52 : Cond.methodLink RX4 52 yX4_rightOfRound ∈ WT := wt_t 716 (by decide +kernel) (by decide +kernel)
theorem l_Law_103 : Cond.methodLink RL 103 yX11_differ ∈ WT := wt_t 719 (by decide +kernel) (by decide +kernel)
theorem l_Law_107 : Cond.methodLink RL 107 yX11_wrong ∈ WT := wt_t 723 (by decide +kernel) (by decide +kernel)
theorem l_Law_111 : Cond.methodLink RL 111 yX11_all ∈ WT := wt_t 727 (by decide +kernel) (by decide +kernel)
theorem l_Dot_261 : Cond.methodLink RX11 261 yX11_sizeOf ∈ WT := wt_t 731 (by decide +kernel) (by decide +kernel)
theorem l_Law_115 : Cond.methodLink RL 115 yX11_image ∈ WT := wt_t 735 (by decide +kernel) (by decide +kernel)
theorem l_Dot_264 : Cond.methodLink RX11 264 yX11_imageNumber ∈ WT := wt_t 739 (by decide +kernel) (by decide +kernel)
theorem l_Dot_268 : Cond.methodLink RX11 268 yX6_becomeLike ∈ WT := wt_t 743 (by decide +kernel) (by decide +kernel)
theorem l_Law_119 : Cond.methodLink RL 119 yX11_restore ∈ WT := wt_t 747 (by decide +kernel) (by decide +kernel)
theorem l_Law_123 : Cond.methodLink RL 123 yX11_count ∈ WT := wt_t 751 (by decide +kernel) (by decide +kernel)
theorem l_Law_12 : Cond.methodLink RL 12 yX12_init ∈ WT := wt_t 757 (by decide +kernel) (by decide +kernel)
theorem l_Mod_1 : Cond.methodLink RX12 1 Lib.objectInit ∈ WT := wt_t 760 (by decide +kernel) (by decide +kernel)
theorem l_Law_17 : Cond.methodLink RL 17 yX12_feed ∈ WT := wt_t 855 (by decide +kernel) (by decide +kernel)
theorem l_Mod_71 : Cond.methodLink RX12 71 yX12_in ∈ WT := wt_t 859 (by decide +kernel) (by decide +kernel)
theorem l_Law_22 : Cond.methodLink RL 22 yX12_picture ∈ WT := wt_t 864 (by decide +kernel) (by decide +kernel)
theorem l_Mod_95 : Cond.methodLink RX12 95 yX12_reads ∈ WT := wt_t 868 (by decide +kernel) (by decide +kernel)
theorem l_Mod_88 : Cond.methodLink RX12 88 yX12_sign ∈ WT := wt_t 872 (by decide +kernel) (by decide +kernel)
theorem l_Mod_84 : Cond.methodLink RX12 84 yX12_due ∈ WT := wt_t 876 (by decide +kernel) (by decide +kernel)
theorem l_Mod_92 : Cond.methodLink RX12 92 yX12_readsRow ∈ WT := wt_t 880 (by decide +kernel) (by decide +kernel)
theorem l_Mod_103 : Cond.methodLink RX12 103 yX12_bring ∈ WT := wt_t 885 (by decide +kernel) (by decide +kernel)
theorem l_Mod_114 : Cond.methodLink RX12 114 yX12_dark ∈ WT := wt_t 888 (by decide +kernel) (by decide +kernel)
theorem l_Law_26 : Cond.methodLink RL 26 yX12_fault ∈ WT := wt_t 892 (by decide +kernel) (by decide +kernel)
theorem l_Law_30 : Cond.methodLink RL 30 yX12_undo ∈ WT := wt_t 896 (by decide +kernel) (by decide +kernel)
theorem l_Law_35 : Cond.methodLink RL 35 yX12_flip ∈ WT := wt_t 901 (by decide +kernel) (by decide +kernel)
theorem l_Mod_118 : Cond.methodLink RX12 118 yX12_isDot ∈ WT := wt_t 905 (by decide +kernel) (by decide +kernel)
theorem l_Mod_122 : Cond.methodLink RX12 122 yX12_notes ∈ WT := wt_t 909 (by decide +kernel) (by decide +kernel)
theorem l_Law_40 : Cond.methodLink RL 40 yX12_frame ∈ WT := wt_t 913 (by decide +kernel) (by decide +kernel)
theorem l_Law_44 : Cond.methodLink RL 44 yX12_joined ∈ WT := wt_t 917 (by decide +kernel) (by decide +kernel)
theorem l_Mod_129 : Cond.methodLink RX12 129 yX12_tells ∈ WT := wt_t 921 (by decide +kernel) (by decide +kernel)
theorem l_Mod_125 : Cond.methodLink RX12 125 yX12_isPicture ∈ WT := wt_t 925 (by decide +kernel) (by decide +kernel)
theorem l_Law_48 : Cond.methodLink RL 48 yX12_sharp ∈ WT := wt_t 929 (by decide +kernel) (by decide +kernel)
theorem l_Law_52 : Cond.methodLink RL 52 yX12_dot ∈ WT := wt_t 933 (by decide +kernel) (by decide +kernel)
theorem l_Law_56 : Cond.methodLink RL 56 yX12_borders ∈ WT := wt_t 937 (by decide +kernel) (by decide +kernel)
theorem l_Mod_166 : Cond.methodLink RX12 166 yX12_lays ∈ WT := wt_t 941 (by decide +kernel) (by decide +kernel)
theorem l_Mod_159 : Cond.methodLink RX12 159 yX12_walks ∈ WT := wt_t 945 (by decide +kernel) (by decide +kernel)
theorem l_Mod_136 : Cond.methodLink RX12 136 yX12_stepX ∈ WT := wt_t 949 (by decide +kernel) (by decide +kernel)
theorem l_Mod_139 : Cond.methodLink RX12 139 yX12_stepY ∈ WT := wt_t 952 (by decide +kernel) (by decide +kernel)
theorem l_Mod_149 : Cond.methodLink RX12 149 yX12_turns ∈ WT := wt_t 955 (by decide +kernel) (by decide +kernel)
theorem l_Mod_145 : Cond.methodLink RX12 145 yX12_isBeside ∈ WT := wt_t 959 (by decide +kernel) (by decide +kernel)
theorem l_Mod_142 : Cond.methodLink RX12 142 yX12_isRest ∈ WT := wt_t 963 (by decide +kernel) (by decide +kernel)
theorem l_Mod_163 : Cond.methodLink RX12 163 yX12_isWithin ∈ WT := wt_t 967 (by decide +kernel) (by decide +kernel)
theorem l_Law_60 : Cond.methodLink RL 60 yX12_border ∈ WT := wt_t 971 (by decide +kernel) (by decide +kernel)
theorem l_Mod_169 : Cond.methodLink RX12 169 yX12_isBorder ∈ WT := wt_t 975 (by decide +kernel) (by decide +kernel)
theorem l_Mod_173 : Cond.methodLink RX12 173 yX12_ones ∈ WT := wt_t 979 (by decide +kernel) (by decide +kernel)
theorem l_Mod_177 : Cond.methodLink RX12 177 yX12_bends ∈ WT := wt_t 982 (by decide +kernel) (by decide +kernel)
theorem l_Law_65 : Cond.methodLink RL 65 yX12_corner ∈ WT := wt_t 986 (by decide +kernel) (by decide +kernel)
theorem l_Law_69 : Cond.methodLink RL 69 yX12_inside ∈ WT := wt_t 990 (by decide +kernel) (by decide +kernel)
theorem l_Mod_180 : Cond.methodLink RX12 180 yX12_isIn ∈ WT := wt_t 994 (by decide +kernel) (by decide +kernel)
theorem l_Law_73 : Cond.methodLink RL 73 yX12_straight ∈ WT := wt_t 998 (by decide +kernel) (by decide +kernel)
theorem l_Mod_193 : Cond.methodLink RX12 193 yX12_isStretch ∈ WT := wt_t 1002 (by decide +kernel) (by decide +kernel)
theorem l_Mod_186 : Cond.methodLink RX12 186 yX12_offOf ∈ WT := wt_t 1006 (by decide +kernel) (by decide +kernel)
theorem l_Mod_183 : Cond.methodLink RX12 183 yX12_size ∈ WT := wt_t 1010 (by decide +kernel) (by decide +kernel)
theorem l_Law_77 : Cond.methodLink RL 77 yX12_off ∈ WT := wt_t 1014 (by decide +kernel) (by decide +kernel)
theorem l_Law_81 : Cond.methodLink RL 81 yX12_longest ∈ WT := wt_t 1018 (by decide +kernel) (by decide +kernel)
theorem l_Law_85 : Cond.methodLink RL 85 yX12_best ∈ WT := wt_t 1022 (by decide +kernel) (by decide +kernel)
theorem l_Mod_226 : Cond.methodLink RX12 226 yX12_laysTable ∈ WT := wt_t 1026 (by decide +kernel) (by decide +kernel)
theorem l_Mod_189 : Cond.methodLink RX12 189 yX12_laysBest ∈ WT := wt_t 1030 (by decide +kernel) (by decide +kernel)
theorem l_Mod_201 : Cond.methodLink RX12 201 yX12_laysLeast ∈ WT := wt_t 1035 (by decide +kernel) (by decide +kernel)
theorem l_Mod_198 : Cond.methodLink RX12 198 yX12_stretch ∈ WT := wt_t 1039 (by decide +kernel) (by decide +kernel)
theorem l_Mod_229 : Cond.methodLink RX12 229 yX12_sharpMany ∈ WT := wt_t 1044 (by decide +kernel) (by decide +kernel)
theorem l_Mod_223 : Cond.methodLink RX12 223 yX12_isSharp ∈ WT := wt_t 1048 (by decide +kernel) (by decide +kernel)
theorem l_Mod_211 : Cond.methodLink RX12 211 yX12_vx ∈ WT := wt_t 1052 (by decide +kernel) (by decide +kernel)
theorem l_Mod_214 : Cond.methodLink RX12 214 yX12_vy ∈ WT := wt_t 1056 (by decide +kernel) (by decide +kernel)
theorem l_Mod_220 : Cond.methodLink RX12 220 yX12_turnOf ∈ WT := wt_t 1060 (by decide +kernel) (by decide +kernel)
theorem l_Mod_217 : Cond.methodLink RX12 217 yX12_greater ∈ WT := wt_t 1064 (by decide +kernel) (by decide +kernel)
theorem l_Mod_232 : Cond.methodLink RX12 232 yX12_twice ∈ WT := wt_t 1067 (by decide +kernel) (by decide +kernel)
theorem l_Law_89 : Cond.methodLink RL 89 yX12_vertex ∈ WT := wt_t 1071 (by decide +kernel) (by decide +kernel)
theorem l_Law_93 : Cond.methodLink RL 93 yX12_past ∈ WT := wt_t 1075 (by decide +kernel) (by decide +kernel)
theorem l_Mod_235 : Cond.methodLink RX12 235 yX12_fewest ∈ WT := wt_t 1079 (by decide +kernel) (by decide +kernel)
theorem l_Law_98 : Cond.methodLink RL 98 yX12_point ∈ WT := wt_t 1083 (by decide +kernel) (by decide +kernel)
theorem l_Mod_238 : Cond.methodLink RX12 238 yX12_pointOf ∈ WT := wt_t 1087 (by decide +kernel) (by decide +kernel)
theorem l_Law_102 : Cond.methodLink RL 102 yX12_filled ∈ WT := wt_t 1091 (by decide +kernel) (by decide +kernel)
theorem l_Mod_247 : Cond.methodLink RX12 247 yX12_laysLine ∈ WT := wt_t 1095 (by decide +kernel) (by decide +kernel)
theorem l_Mod_244 : Cond.methodLink RX12 244 yX12_adds ∈ WT := wt_t 1099 (by decide +kernel) (by decide +kernel)
theorem l_Mod_250 : Cond.methodLink RX12 250 yX12_isFilled ∈ WT := wt_t 1103 (by decide +kernel) (by decide +kernel)
theorem l_Law_106 : Cond.methodLink RL 106 yX12_differ ∈ WT := wt_t 1107 (by decide +kernel) (by decide +kernel)
theorem l_Law_110 : Cond.methodLink RL 110 yX12_wrong ∈ WT := wt_t 1111 (by decide +kernel) (by decide +kernel)
theorem l_Law_114 : Cond.methodLink RL 114 yX12_all ∈ WT := wt_t 1115 (by decide +kernel) (by decide +kernel)
theorem l_Law_118 : Cond.methodLink RL 118 yX12_image ∈ WT := wt_t 1119 (by decide +kernel) (by decide +kernel)
theorem l_Law_122 : Cond.methodLink RL 122 yX12_restore ∈ WT := wt_t 1123 (by decide +kernel) (by decide +kernel)
theorem l_Law_126 : Cond.methodLink RL 126 yX12_count ∈ WT := wt_t 1127 (by decide +kernel) (by decide +kernel)
theorem c_Law_7 : Cond.classLink RL 7 RX11 ∈ WT := wt_t 16 (by decide +kernel) (by decide +kernel)
theorem c_Dot_7 : Cond.classLink RX11 7 RX10 ∈ WT := wt_t 24 (by decide +kernel) (by decide +kernel)
theorem c_Dot_16 : Cond.classLink RX11 16 RX8 ∈ WT := wt_t 40 (by decide +kernel) (by decide +kernel)
theorem c_Dot_23 : Cond.classLink RX11 23 RX6 ∈ WT := wt_t 63 (by decide +kernel) (by decide +kernel)
theorem c_Dot_36 : Cond.classLink RX11 36 RX0 ∈ WT := wt_t 93 (by decide +kernel) (by decide +kernel)
theorem c_Dot_43 : Cond.classLink RX11 43 RX3 ∈ WT := wt_t 114 (by decide +kernel) (by decide +kernel)
theorem c_Brs_21 : Cond.classLink RX3 21 RX2 ∈ WT := wt_t 120 (by decide +kernel) (by decide +kernel)
theorem c_Dot_46 : Cond.classLink RX11 46 RX9 ∈ WT := wt_t 148 (by decide +kernel) (by decide +kernel)
theorem c_Dot_51 : Cond.classLink RX11 51 RX7 ∈ WT := wt_t 164 (by decide +kernel) (by decide +kernel)
theorem c_Pol_7 : Cond.classLink RX7 7 RX1 ∈ WT := wt_t 170 (by decide +kernel) (by decide +kernel)
theorem c_Dot_68 : Cond.classLink RX11 68 RX4 ∈ WT := wt_t 211 (by decide +kernel) (by decide +kernel)
theorem c_Law_10 : Cond.classLink RL 10 RX12 ∈ WT := wt_t 755 (by decide +kernel) (by decide +kernel)
theorem k_Dot_77 : Cond.constant RX11 77 (-1000001) ∈ WT := wt_t 259 (by decide +kernel) (by decide +kernel)
theorem k_Dot_86 : Cond.constant RX11 86 (-1000003) ∈ WT := wt_t 264 (by decide +kernel) (by decide +kernel)
theorem k_Dot_94 : Cond.constant RX11 94 (-1000100) ∈ WT := wt_t 288 (by decide +kernel) (by decide +kernel)
theorem k_Lng_314 : Cond.constantLong RJ13 314 (6148914691236517205) ∈ WT := wt_t 296 (by decide +kernel) (by decide +kernel)
theorem k_Lng_316 : Cond.constantLong RJ13 316 (3689348814741910323) ∈ WT := wt_t 297 (by decide +kernel) (by decide +kernel)
theorem k_Lng_318 : Cond.constantLong RJ13 318 (1085102592571150095) ∈ WT := wt_t 298 (by decide +kernel) (by decide +kernel)
theorem k_Dot_128 : Cond.constant RX11 128 (-1000002) ∈ WT := wt_t 311 (by decide +kernel) (by decide +kernel)
theorem k_Grid_9 : Cond.constantLong RX5 9 (255) ∈ WT := wt_t 347 (by decide +kernel) (by decide +kernel)
theorem k_Grid_21 : Cond.constantLong RX5 21 (-1) ∈ WT := wt_t 348 (by decide +kernel) (by decide +kernel)
theorem k_Pic_32 : Cond.constantLong RX6 32 (-1) ∈ WT := wt_t 353 (by decide +kernel) (by decide +kernel)
theorem k_Dot_208 : Cond.constant RX11 208 (-1000000) ∈ WT := wt_t 534 (by decide +kernel) (by decide +kernel)
theorem k_Pol_90 : Cond.constant RX7 90 (1000000000) ∈ WT := wt_t 565 (by decide +kernel) (by decide +kernel)
theorem k_Pol_43 : Cond.constant RX7 43 (100000) ∈ WT := wt_t 580 (by decide +kernel) (by decide +kernel)
theorem k_Mod_75 : Cond.constant RX12 75 (-1000001) ∈ WT := wt_t 862 (by decide +kernel) (by decide +kernel)
theorem k_Mod_80 : Cond.constant RX12 80 (-1000003) ∈ WT := wt_t 863 (by decide +kernel) (by decide +kernel)
theorem k_Mod_102 : Cond.constant RX12 102 (-1000100) ∈ WT := wt_t 884 (by decide +kernel) (by decide +kernel)
theorem k_Mod_117 : Cond.constant RX12 117 (-1000002) ∈ WT := wt_t 900 (by decide +kernel) (by decide +kernel)
theorem k_Mod_185 : Cond.constant RX12 185 (-1000000) ∈ WT := wt_t 1013 (by decide +kernel) (by decide +kernel)
theorem k_Mod_196 : Cond.constant RX12 196 (1000000000) ∈ WT := wt_t 1034 (by decide +kernel) (by decide +kernel)
theorem k_Mod_197 : Cond.constant RX12 197 (1000000) ∈ WT := wt_t 1043 (by decide +kernel) (by decide +kernel)
theorem n_Acts : Cond.instantiable RX0 4 ∈ WT := wt_t 94 (by decide +kernel) (by decide +kernel)
theorem n_Bend : Cond.instantiable RX1 6 ∈ WT := wt_t 171 (by decide +kernel) (by decide +kernel)
theorem n_Brd : Cond.instantiable RX2 7 ∈ WT := wt_t 386 (by decide +kernel) (by decide +kernel)
theorem n_Brs : Cond.instantiable RX3 8 ∈ WT := wt_t 115 (by decide +kernel) (by decide +kernel)
theorem n_Fil : Cond.instantiable RX4 1 ∈ WT := wt_t 212 (by decide +kernel) (by decide +kernel)
theorem n_Pic : Cond.instantiable RX6 5 ∈ WT := wt_t 64 (by decide +kernel) (by decide +kernel)
theorem n_Pol : Cond.instantiable RX7 5 ∈ WT := wt_t 165 (by decide +kernel) (by decide +kernel)
theorem n_Rdg : Cond.instantiable RX8 4 ∈ WT := wt_t 41 (by decide +kernel) (by decide +kernel)
theorem n_Str : Cond.instantiable RX9 3 ∈ WT := wt_t 149 (by decide +kernel) (by decide +kernel)
theorem n_Tap : Cond.instantiable RX10 2 ∈ WT := wt_t 25 (by decide +kernel) (by decide +kernel)
theorem n_Dot : Cond.instantiable RX11 11 ∈ WT := wt_t 17 (by decide +kernel) (by decide +kernel)
theorem n_Mod : Cond.instantiable RX12 31 ∈ WT := wt_t 756 (by decide +kernel) (by decide +kernel)
theorem z_Acts : Cond.initialized RX0 ∈ WT := wt_t 5 (by decide +kernel) (by decide +kernel)
theorem z_Bend : Cond.initialized RX1 ∈ WT := wt_t 9 (by decide +kernel) (by decide +kernel)
theorem z_Brd : Cond.initialized RX2 ∈ WT := wt_t 15 (by decide +kernel) (by decide +kernel)
theorem z_Brs : Cond.initialized RX3 ∈ WT := wt_t 6 (by decide +kernel) (by decide +kernel)
theorem z_Fil : Cond.initialized RX4 ∈ WT := wt_t 10 (by decide +kernel) (by decide +kernel)
theorem z_Grid : Cond.initialized RX5 ∈ WT := wt_t 12 (by decide +kernel) (by decide +kernel)
theorem z_Pic : Cond.initialized RX6 ∈ WT := wt_t 4 (by decide +kernel) (by decide +kernel)
theorem z_Pol : Cond.initialized RX7 ∈ WT := wt_t 8 (by decide +kernel) (by decide +kernel)
theorem z_Rdg : Cond.initialized RX8 ∈ WT := wt_t 3 (by decide +kernel) (by decide +kernel)
theorem z_Str : Cond.initialized RX9 ∈ WT := wt_t 7 (by decide +kernel) (by decide +kernel)
theorem z_Tap : Cond.initialized RX10 ∈ WT := wt_t 2 (by decide +kernel) (by decide +kernel)
theorem z_Dot : Cond.initialized RX11 ∈ WT := wt_t 1 (by decide +kernel) (by decide +kernel)
theorem z_Mod : Cond.initialized RX12 ∈ WT := wt_t 11 (by decide +kernel) (by decide +kernel)
theorem z_Lng : Cond.initialized RJ13 ∈ WT := wt_t 13 (by decide +kernel) (by decide +kernel)
theorem z_Mth : Cond.initialized RJ9 ∈ WT := wt_t 14 (by decide +kernel) (by decide +kernel)
theorem z_Law : Cond.initialized RL ∈ WT := wt_t 0 (by decide +kernel) (by decide +kernel)
theorem m_Dot_init : MC i_Dot_init 0 := ⟨wt_t 20 (by decide +kernel) (by decide +kernel), z_Dot, (by decide +kernel), (by decide +kernel), (by decide +kernel)⟩
theorem t_Dot_init : Cond.instanceMethod yX11_init ∈ WT ∧ yX11_init.name = "<init>" ∧ i_Dot_init.2.2.2 = none := ⟨wt_t 19 (by decide +kernel) (by decide +kernel), rfl, rfl⟩
theorem m_Tap_init : MC i_Tap_init 0 := ⟨wt_t 28 (by decide +kernel) (by decide +kernel), z_Tap, (by decide +kernel), (by decide +kernel), (by decide +kernel)⟩
theorem t_Tap_init : Cond.instanceMethod yX10_init ∈ WT ∧ yX10_init.name = "<init>" ∧ i_Tap_init.2.2.2 = none := ⟨wt_t 27 (by decide +kernel) (by decide +kernel), rfl, rfl⟩
theorem m_Rdg_init : MC i_Rdg_init 0 := ⟨wt_t 44 (by decide +kernel) (by decide +kernel), z_Rdg, (by decide +kernel), (by decide +kernel), (by decide +kernel)⟩
theorem t_Rdg_init : Cond.instanceMethod yX8_init ∈ WT ∧ yX8_init.name = "<init>" ∧ i_Rdg_init.2.2.2 = none := ⟨wt_t 43 (by decide +kernel) (by decide +kernel), rfl, rfl⟩
theorem m_Pic_init : MC i_Pic_init 0 := ⟨wt_t 67 (by decide +kernel) (by decide +kernel), z_Pic, (by decide +kernel), (by decide +kernel), (by decide +kernel)⟩
theorem t_Pic_init : Cond.instanceMethod yX6_init ∈ WT ∧ yX6_init.name = "<init>" ∧ i_Pic_init.2.2.2 = none := ⟨wt_t 66 (by decide +kernel) (by decide +kernel), rfl, rfl⟩
theorem m_Acts_init : MC i_Acts_init 0 := ⟨wt_t 97 (by decide +kernel) (by decide +kernel), z_Acts, (by decide +kernel), (by decide +kernel), (by decide +kernel)⟩
theorem t_Acts_init : Cond.instanceMethod yX0_init ∈ WT ∧ yX0_init.name = "<init>" ∧ i_Acts_init.2.2.2 = none := ⟨wt_t 96 (by decide +kernel) (by decide +kernel), rfl, rfl⟩
theorem m_Brs_init : MC i_Brs_init 0 := ⟨wt_t 118 (by decide +kernel) (by decide +kernel), z_Brs, (by decide +kernel), (by decide +kernel), (by decide +kernel)⟩
theorem t_Brs_init : Cond.instanceMethod yX3_init ∈ WT ∧ yX3_init.name = "<init>" ∧ i_Brs_init.2.2.2 = none := ⟨wt_t 117 (by decide +kernel) (by decide +kernel), rfl, rfl⟩
theorem m_Str_init : MC i_Str_init 1 := ⟨wt_t 152 (by decide +kernel) (by decide +kernel), z_Str, (by decide +kernel), (by decide +kernel), (by decide +kernel)⟩
theorem t_Str_init : Cond.instanceMethod yX9_init ∈ WT ∧ yX9_init.name = "<init>" ∧ i_Str_init.2.2.2 = none := ⟨wt_t 151 (by decide +kernel) (by decide +kernel), rfl, rfl⟩
theorem m_Pol_init : MC i_Pol_init 2 := ⟨wt_t 168 (by decide +kernel) (by decide +kernel), z_Pol, (by decide +kernel), (by decide +kernel), (by decide +kernel)⟩
theorem t_Pol_init : Cond.instanceMethod yX7_init ∈ WT ∧ yX7_init.name = "<init>" ∧ i_Pol_init.2.2.2 = none := ⟨wt_t 167 (by decide +kernel) (by decide +kernel), rfl, rfl⟩
theorem m_Bend_init : MC i_Bend_init 0 := ⟨wt_t 174 (by decide +kernel) (by decide +kernel), z_Bend, (by decide +kernel), (by decide +kernel), (by decide +kernel)⟩
theorem t_Bend_init : Cond.instanceMethod yX1_init ∈ WT ∧ yX1_init.name = "<init>" ∧ i_Bend_init.2.2.2 = none := ⟨wt_t 173 (by decide +kernel) (by decide +kernel), rfl, rfl⟩
theorem m_Fil_init : MC i_Fil_init 1 := ⟨wt_t 215 (by decide +kernel) (by decide +kernel), z_Fil, (by decide +kernel), (by decide +kernel), (by decide +kernel)⟩
theorem t_Fil_init : Cond.instanceMethod yX4_init ∈ WT ∧ yX4_init.name = "<init>" ∧ i_Fil_init.2.2.2 = none := ⟨wt_t 214 (by decide +kernel) (by decide +kernel), rfl, rfl⟩
theorem m_Dot_feed : MC i_Dot_feed 1 := ⟨wt_t 258 (by decide +kernel) (by decide +kernel), z_Dot, (by decide +kernel), (by decide +kernel), (by decide +kernel)⟩
theorem t_Dot_feed : Cond.instanceMethod yX11_feed ∈ WT ∧ Cond.selects yX11_feed.cls yX11_feed yX11_feed ∈ WT := ⟨wt_t 256 (by decide +kernel) (by decide +kernel), wt_t 257 (by decide +kernel) (by decide +kernel)⟩
theorem m_Tap_add : MC i_Tap_add 1 := ⟨wt_t 263 (by decide +kernel) (by decide +kernel), z_Tap, (by decide +kernel), (by decide +kernel), (by decide +kernel)⟩
theorem t_Tap_add : Cond.instanceMethod yX10_add ∈ WT ∧ Cond.selects yX10_add.cls yX10_add yX10_add ∈ WT := ⟨wt_t 261 (by decide +kernel) (by decide +kernel), wt_t 262 (by decide +kernel) (by decide +kernel)⟩
theorem m_Dot_picture : MC i_Dot_picture 0 := ⟨wt_t 268 (by decide +kernel) (by decide +kernel), z_Dot, (by decide +kernel), (by decide +kernel), (by decide +kernel)⟩
theorem t_Dot_picture : Cond.instanceMethod yX11_picture ∈ WT ∧ Cond.selects yX11_picture.cls yX11_picture yX11_picture ∈ WT := ⟨wt_t 266 (by decide +kernel) (by decide +kernel), wt_t 267 (by decide +kernel) (by decide +kernel)⟩
theorem m_Rdg_read : MC i_Rdg_read 1 := ⟨wt_t 272 (by decide +kernel) (by decide +kernel), z_Rdg, (by decide +kernel), (by decide +kernel), (by decide +kernel)⟩
theorem t_Rdg_read : Cond.instanceMethod yX8_read ∈ WT ∧ Cond.selects yX8_read.cls yX8_read yX8_read ∈ WT := ⟨wt_t 270 (by decide +kernel) (by decide +kernel), wt_t 271 (by decide +kernel) (by decide +kernel)⟩
theorem m_Tap_letterAt : MC i_Tap_letterAt 1 := ⟨wt_t 276 (by decide +kernel) (by decide +kernel), z_Tap, (by decide +kernel), (by decide +kernel), (by decide +kernel)⟩
theorem t_Tap_letterAt : Cond.instanceMethod yX10_letterAt ∈ WT ∧ Cond.selects yX10_letterAt.cls yX10_letterAt yX10_letterAt ∈ WT := ⟨wt_t 274 (by decide +kernel) (by decide +kernel), wt_t 275 (by decide +kernel) (by decide +kernel)⟩
theorem m_Rdg_faultInHead : MC i_Rdg_faultInHead 2 := ⟨wt_t 280 (by decide +kernel) (by decide +kernel), z_Rdg, (by decide +kernel), (by decide +kernel), (by decide +kernel)⟩
theorem t_Rdg_faultInHead : Cond.instanceMethod yX8_faultInHead ∈ WT ∧ Cond.selects yX8_faultInHead.cls yX8_faultInHead yX8_faultInHead ∈ WT := ⟨wt_t 279 (by decide +kernel) (by decide +kernel), wt_s 0 (by decide +kernel) (by decide +kernel)⟩
theorem m_Rdg_faultInRows : MC i_Rdg_faultInRows 2 := ⟨wt_t 284 (by decide +kernel) (by decide +kernel), z_Rdg, (by decide +kernel), (by decide +kernel), (by decide +kernel)⟩
theorem t_Rdg_faultInRows : Cond.instanceMethod yX8_faultInRows ∈ WT ∧ Cond.selects yX8_faultInRows.cls yX8_faultInRows yX8_faultInRows ∈ WT := ⟨wt_t 283 (by decide +kernel) (by decide +kernel), wt_s 1 (by decide +kernel) (by decide +kernel)⟩
theorem m_Grid_bit : MC i_Grid_bit 2 := ⟨wt_t 287 (by decide +kernel) (by decide +kernel), z_Grid, (by decide +kernel), (by decide +kernel), (by decide +kernel)⟩
theorem t_Grid_bit : Cond.static yX5_bit ∈ WT := wt_t 286 (by decide +kernel) (by decide +kernel)
theorem m_Pic_darkDots : MC i_Pic_darkDots 0 := ⟨wt_t 292 (by decide +kernel) (by decide +kernel), z_Pic, (by decide +kernel), (by decide +kernel), (by decide +kernel)⟩
theorem t_Pic_darkDots : Cond.instanceMethod yX6_darkDots ∈ WT ∧ Cond.selects yX6_darkDots.cls yX6_darkDots yX6_darkDots ∈ WT := ⟨wt_t 290 (by decide +kernel) (by decide +kernel), wt_t 291 (by decide +kernel) (by decide +kernel)⟩
theorem m_Lng_bitCount : MC i_Lng_bitCount 1 := ⟨wt_t 295 (by decide +kernel) (by decide +kernel), z_Lng, (by decide +kernel), (by decide +kernel), (by decide +kernel)⟩
theorem t_Lng_bitCount : Cond.static yJ13_bitCount_95d88 ∈ WT := wt_t 294 (by decide +kernel) (by decide +kernel)
theorem m_Dot_fault : MC i_Dot_fault 0 := ⟨wt_t 302 (by decide +kernel) (by decide +kernel), z_Dot, (by decide +kernel), (by decide +kernel), (by decide +kernel)⟩
theorem t_Dot_fault : Cond.instanceMethod yX11_fault ∈ WT ∧ Cond.selects yX11_fault.cls yX11_fault yX11_fault ∈ WT := ⟨wt_t 300 (by decide +kernel) (by decide +kernel), wt_t 301 (by decide +kernel) (by decide +kernel)⟩
theorem m_Dot_undo : MC i_Dot_undo 0 := ⟨wt_t 306 (by decide +kernel) (by decide +kernel), z_Dot, (by decide +kernel), (by decide +kernel), (by decide +kernel)⟩
theorem t_Dot_undo : Cond.instanceMethod yX11_undo ∈ WT ∧ Cond.selects yX11_undo.cls yX11_undo yX11_undo ∈ WT := ⟨wt_t 304 (by decide +kernel) (by decide +kernel), wt_t 305 (by decide +kernel) (by decide +kernel)⟩
theorem m_Acts_takeBack : MC i_Acts_takeBack 1 := ⟨wt_t 310 (by decide +kernel) (by decide +kernel), z_Acts, (by decide +kernel), (by decide +kernel), (by decide +kernel)⟩
theorem t_Acts_takeBack : Cond.instanceMethod yX0_takeBack ∈ WT ∧ Cond.selects yX0_takeBack.cls yX0_takeBack yX0_takeBack ∈ WT := ⟨wt_t 308 (by decide +kernel) (by decide +kernel), wt_t 309 (by decide +kernel) (by decide +kernel)⟩
theorem m_Dot_flip : MC i_Dot_flip 2 := ⟨wt_t 315 (by decide +kernel) (by decide +kernel), z_Dot, (by decide +kernel), (by decide +kernel), (by decide +kernel)⟩
theorem t_Dot_flip : Cond.instanceMethod yX11_flip ∈ WT ∧ Cond.selects yX11_flip.cls yX11_flip yX11_flip ∈ WT := ⟨wt_t 313 (by decide +kernel) (by decide +kernel), wt_t 314 (by decide +kernel) (by decide +kernel)⟩
theorem m_Pic_has : MC i_Pic_has 2 := ⟨wt_t 319 (by decide +kernel) (by decide +kernel), z_Pic, (by decide +kernel), (by decide +kernel), (by decide +kernel)⟩
theorem t_Pic_has : Cond.instanceMethod yX6_has ∈ WT ∧ Cond.selects yX6_has.cls yX6_has yX6_has ∈ WT := ⟨wt_t 317 (by decide +kernel) (by decide +kernel), wt_t 318 (by decide +kernel) (by decide +kernel)⟩
theorem m_Acts_remember : MC i_Acts_remember 1 := ⟨wt_t 323 (by decide +kernel) (by decide +kernel), z_Acts, (by decide +kernel), (by decide +kernel), (by decide +kernel)⟩
theorem t_Acts_remember : Cond.instanceMethod yX0_remember ∈ WT ∧ Cond.selects yX0_remember.cls yX0_remember yX0_remember ∈ WT := ⟨wt_t 321 (by decide +kernel) (by decide +kernel), wt_t 322 (by decide +kernel) (by decide +kernel)⟩
theorem m_Acts_forgetOldest : MC i_Acts_forgetOldest 0 := ⟨wt_t 327 (by decide +kernel) (by decide +kernel), z_Acts, (by decide +kernel), (by decide +kernel), (by decide +kernel)⟩
theorem t_Acts_forgetOldest : Cond.instanceMethod yX0_forgetOldest ∈ WT ∧ Cond.selects yX0_forgetOldest.cls yX0_forgetOldest yX0_forgetOldest ∈ WT := ⟨wt_t 326 (by decide +kernel) (by decide +kernel), wt_s 2 (by decide +kernel) (by decide +kernel)⟩
theorem m_Pic_isDark : MC i_Pic_isDark 2 := ⟨wt_t 332 (by decide +kernel) (by decide +kernel), z_Pic, (by decide +kernel), (by decide +kernel), (by decide +kernel)⟩
theorem t_Pic_isDark : Cond.instanceMethod yX6_isDark ∈ WT ∧ Cond.selects yX6_isDark.cls yX6_isDark yX6_isDark ∈ WT := ⟨wt_t 330 (by decide +kernel) (by decide +kernel), wt_t 331 (by decide +kernel) (by decide +kernel)⟩
theorem m_Dot_frame : MC i_Dot_frame 5 := ⟨wt_t 337 (by decide +kernel) (by decide +kernel), z_Dot, (by decide +kernel), (by decide +kernel), (by decide +kernel)⟩
theorem t_Dot_frame : Cond.instanceMethod yX11_frame ∈ WT ∧ Cond.selects yX11_frame.cls yX11_frame yX11_frame ∈ WT := ⟨wt_t 335 (by decide +kernel) (by decide +kernel), wt_t 336 (by decide +kernel) (by decide +kernel)⟩
theorem m_Grid_block : MC i_Grid_block 4 := ⟨wt_t 340 (by decide +kernel) (by decide +kernel), z_Grid, (by decide +kernel), (by decide +kernel), (by decide +kernel)⟩
theorem t_Grid_block : Cond.static yX5_block ∈ WT := wt_t 339 (by decide +kernel) (by decide +kernel)
theorem m_Mth_max : MC i_Mth_max 2 := ⟨wt_t 343 (by decide +kernel) (by decide +kernel), z_Mth, (by decide +kernel), (by decide +kernel), (by decide +kernel)⟩
theorem t_Mth_max : Cond.static yJ9_max_7cf53 ∈ WT := wt_t 342 (by decide +kernel) (by decide +kernel)
theorem m_Grid_rowFrom : MC i_Grid_rowFrom 2 := ⟨wt_t 346 (by decide +kernel) (by decide +kernel), z_Grid, (by decide +kernel), (by decide +kernel), (by decide +kernel)⟩
theorem t_Grid_rowFrom : Cond.static yX5_rowFrom ∈ WT := wt_t 345 (by decide +kernel) (by decide +kernel)
theorem m_Pic_lay : MC i_Pic_lay 2 := ⟨wt_t 352 (by decide +kernel) (by decide +kernel), z_Pic, (by decide +kernel), (by decide +kernel), (by decide +kernel)⟩
theorem t_Pic_lay : Cond.instanceMethod yX6_lay ∈ WT ∧ Cond.selects yX6_lay.cls yX6_lay yX6_lay ∈ WT := ⟨wt_t 350 (by decide +kernel) (by decide +kernel), wt_t 351 (by decide +kernel) (by decide +kernel)⟩
theorem m_Dot_joined : MC i_Dot_joined 1 := ⟨wt_t 357 (by decide +kernel) (by decide +kernel), z_Dot, (by decide +kernel), (by decide +kernel), (by decide +kernel)⟩
theorem t_Dot_joined : Cond.instanceMethod yX11_joined ∈ WT ∧ Cond.selects yX11_joined.cls yX11_joined yX11_joined ∈ WT := ⟨wt_t 355 (by decide +kernel) (by decide +kernel), wt_t 356 (by decide +kernel) (by decide +kernel)⟩
theorem m_Pic_isThere : MC i_Pic_isThere 0 := ⟨wt_t 361 (by decide +kernel) (by decide +kernel), z_Pic, (by decide +kernel), (by decide +kernel), (by decide +kernel)⟩
theorem t_Pic_isThere : Cond.instanceMethod yX6_isThere ∈ WT ∧ Cond.selects yX6_isThere.cls yX6_isThere yX6_isThere ∈ WT := ⟨wt_t 359 (by decide +kernel) (by decide +kernel), wt_t 360 (by decide +kernel) (by decide +kernel)⟩
theorem m_Dot_sharp : MC i_Dot_sharp 1 := ⟨wt_t 365 (by decide +kernel) (by decide +kernel), z_Dot, (by decide +kernel), (by decide +kernel), (by decide +kernel)⟩
theorem t_Dot_sharp : Cond.instanceMethod yX11_sharp ∈ WT ∧ Cond.selects yX11_sharp.cls yX11_sharp yX11_sharp ∈ WT := ⟨wt_t 363 (by decide +kernel) (by decide +kernel), wt_t 364 (by decide +kernel) (by decide +kernel)⟩
theorem m_Dot_dot : MC i_Dot_dot 2 := ⟨wt_t 369 (by decide +kernel) (by decide +kernel), z_Dot, (by decide +kernel), (by decide +kernel), (by decide +kernel)⟩
theorem t_Dot_dot : Cond.instanceMethod yX11_dot ∈ WT ∧ Cond.selects yX11_dot.cls yX11_dot yX11_dot ∈ WT := ⟨wt_t 367 (by decide +kernel) (by decide +kernel), wt_t 368 (by decide +kernel) (by decide +kernel)⟩
theorem m_Dot_borders : MC i_Dot_borders 0 := ⟨wt_t 373 (by decide +kernel) (by decide +kernel), z_Dot, (by decide +kernel), (by decide +kernel), (by decide +kernel)⟩
theorem t_Dot_borders : Cond.instanceMethod yX11_borders ∈ WT ∧ Cond.selects yX11_borders.cls yX11_borders yX11_borders ∈ WT := ⟨wt_t 371 (by decide +kernel) (by decide +kernel), wt_t 372 (by decide +kernel) (by decide +kernel)⟩
theorem m_Dot_walkedBorders : MC i_Dot_walkedBorders 0 := ⟨wt_t 377 (by decide +kernel) (by decide +kernel), z_Dot, (by decide +kernel), (by decide +kernel), (by decide +kernel)⟩
theorem t_Dot_walkedBorders : Cond.instanceMethod yX11_walkedBorders ∈ WT ∧ Cond.selects yX11_walkedBorders.cls yX11_walkedBorders yX11_walkedBorders ∈ WT := ⟨wt_t 376 (by decide +kernel) (by decide +kernel), wt_s 3 (by decide +kernel) (by decide +kernel)⟩
theorem m_Brs_follow : MC i_Brs_follow 2 := ⟨wt_t 381 (by decide +kernel) (by decide +kernel), z_Brs, (by decide +kernel), (by decide +kernel), (by decide +kernel)⟩
theorem t_Brs_follow : Cond.instanceMethod yX3_follow ∈ WT ∧ Cond.selects yX3_follow.cls yX3_follow yX3_follow ∈ WT := ⟨wt_t 379 (by decide +kernel) (by decide +kernel), wt_t 380 (by decide +kernel) (by decide +kernel)⟩
theorem m_Brs_nextBorder : MC i_Brs_nextBorder 0 := ⟨wt_t 385 (by decide +kernel) (by decide +kernel), z_Brs, (by decide +kernel), (by decide +kernel), (by decide +kernel)⟩
theorem t_Brs_nextBorder : Cond.instanceMethod yX3_nextBorder ∈ WT ∧ Cond.selects yX3_nextBorder.cls yX3_nextBorder yX3_nextBorder ∈ WT := ⟨wt_t 384 (by decide +kernel) (by decide +kernel), wt_s 4 (by decide +kernel) (by decide +kernel)⟩
theorem m_Brd_init : MC i_Brd_init 0 := ⟨wt_t 389 (by decide +kernel) (by decide +kernel), z_Brd, (by decide +kernel), (by decide +kernel), (by decide +kernel)⟩
theorem t_Brd_init : Cond.instanceMethod yX2_init ∈ WT ∧ yX2_init.name = "<init>" ∧ i_Brd_init.2.2.2 = none := ⟨wt_t 388 (by decide +kernel) (by decide +kernel), rfl, rfl⟩
theorem m_Brd_begin : MC i_Brd_begin 2 := ⟨wt_t 432 (by decide +kernel) (by decide +kernel), z_Brd, (by decide +kernel), (by decide +kernel), (by decide +kernel)⟩
theorem t_Brd_begin : Cond.instanceMethod yX2_begin ∈ WT ∧ Cond.selects yX2_begin.cls yX2_begin yX2_begin ∈ WT := ⟨wt_t 430 (by decide +kernel) (by decide +kernel), wt_t 431 (by decide +kernel) (by decide +kernel)⟩
theorem m_Brs_walk : MC i_Brs_walk 2 := ⟨wt_t 436 (by decide +kernel) (by decide +kernel), z_Brs, (by decide +kernel), (by decide +kernel), (by decide +kernel)⟩
theorem t_Brs_walk : Cond.instanceMethod yX3_walk ∈ WT ∧ Cond.selects yX3_walk.cls yX3_walk yX3_walk ∈ WT := ⟨wt_t 435 (by decide +kernel) (by decide +kernel), wt_s 5 (by decide +kernel) (by decide +kernel)⟩
theorem m_Grid_columnOf : MC i_Grid_columnOf 1 := ⟨wt_t 439 (by decide +kernel) (by decide +kernel), z_Grid, (by decide +kernel), (by decide +kernel), (by decide +kernel)⟩
theorem t_Grid_columnOf : Cond.static yX5_columnOf ∈ WT := wt_t 438 (by decide +kernel) (by decide +kernel)
theorem m_Grid_rowOf : MC i_Grid_rowOf 1 := ⟨wt_t 442 (by decide +kernel) (by decide +kernel), z_Grid, (by decide +kernel), (by decide +kernel), (by decide +kernel)⟩
theorem t_Grid_rowOf : Cond.static yX5_rowOf ∈ WT := wt_t 441 (by decide +kernel) (by decide +kernel)
theorem m_Brs_dotsRightOf : MC i_Brs_dotsRightOf 3 := ⟨wt_t 446 (by decide +kernel) (by decide +kernel), z_Brs, (by decide +kernel), (by decide +kernel), (by decide +kernel)⟩
theorem t_Brs_dotsRightOf : Cond.static yX3_dotsRightOf ∈ WT := wt_t 445 (by decide +kernel) (by decide +kernel)
theorem m_Brs_dotAhead : MC i_Brs_dotAhead 3 := ⟨wt_t 454 (by decide +kernel) (by decide +kernel), z_Brs, (by decide +kernel), (by decide +kernel), (by decide +kernel)⟩
theorem t_Brs_dotAhead : Cond.static yX3_dotAhead ∈ WT := wt_t 453 (by decide +kernel) (by decide +kernel)
theorem m_Brs_nextWay : MC i_Brs_nextWay 3 := ⟨wt_t 463 (by decide +kernel) (by decide +kernel), z_Brs, (by decide +kernel), (by decide +kernel), (by decide +kernel)⟩
theorem t_Brs_nextWay : Cond.instanceMethod yX3_nextWay ∈ WT ∧ Cond.selects yX3_nextWay.cls yX3_nextWay yX3_nextWay ∈ WT := ⟨wt_t 462 (by decide +kernel) (by decide +kernel), wt_s 6 (by decide +kernel) (by decide +kernel)⟩
theorem m_Dot_border : MC i_Dot_border 2 := ⟨wt_t 467 (by decide +kernel) (by decide +kernel), z_Dot, (by decide +kernel), (by decide +kernel), (by decide +kernel)⟩
theorem t_Dot_border : Cond.instanceMethod yX11_border ∈ WT ∧ Cond.selects yX11_border.cls yX11_border yX11_border ∈ WT := ⟨wt_t 465 (by decide +kernel) (by decide +kernel), wt_t 466 (by decide +kernel) (by decide +kernel)⟩
theorem m_Dot_borderNumber : MC i_Dot_borderNumber 1 := ⟨wt_t 471 (by decide +kernel) (by decide +kernel), z_Dot, (by decide +kernel), (by decide +kernel), (by decide +kernel)⟩
theorem t_Dot_borderNumber : Cond.instanceMethod yX11_borderNumber ∈ WT ∧ Cond.selects yX11_borderNumber.cls yX11_borderNumber yX11_borderNumber ∈ WT := ⟨wt_t 470 (by decide +kernel) (by decide +kernel), wt_s 7 (by decide +kernel) (by decide +kernel)⟩
theorem m_Brs_at : MC i_Brs_at 1 := ⟨wt_t 475 (by decide +kernel) (by decide +kernel), z_Brs, (by decide +kernel), (by decide +kernel), (by decide +kernel)⟩
theorem t_Brs_at : Cond.instanceMethod yX3_at ∈ WT ∧ Cond.selects yX3_at.cls yX3_at yX3_at ∈ WT := ⟨wt_t 473 (by decide +kernel) (by decide +kernel), wt_t 474 (by decide +kernel) (by decide +kernel)⟩
theorem m_Brs_turningSteps : MC i_Brs_turningSteps 1 := ⟨wt_t 482 (by decide +kernel) (by decide +kernel), z_Brs, (by decide +kernel), (by decide +kernel), (by decide +kernel)⟩
theorem t_Brs_turningSteps : Cond.instanceMethod yX3_turningSteps ∈ WT ∧ Cond.selects yX3_turningSteps.cls yX3_turningSteps yX3_turningSteps ∈ WT := ⟨wt_t 480 (by decide +kernel) (by decide +kernel), wt_t 481 (by decide +kernel) (by decide +kernel)⟩
theorem m_Brs_wayAt : MC i_Brs_wayAt 2 := ⟨wt_t 486 (by decide +kernel) (by decide +kernel), z_Brs, (by decide +kernel), (by decide +kernel), (by decide +kernel)⟩
theorem t_Brs_wayAt : Cond.instanceMethod yX3_wayAt ∈ WT ∧ Cond.selects yX3_wayAt.cls yX3_wayAt yX3_wayAt ∈ WT := ⟨wt_t 484 (by decide +kernel) (by decide +kernel), wt_t 485 (by decide +kernel) (by decide +kernel)⟩
theorem m_Brd_place : MC i_Brd_place 1 := ⟨wt_t 490 (by decide +kernel) (by decide +kernel), z_Brd, (by decide +kernel), (by decide +kernel), (by decide +kernel)⟩
theorem t_Brd_place : Cond.instanceMethod yX2_place ∈ WT ∧ Cond.selects yX2_place.cls yX2_place yX2_place ∈ WT := ⟨wt_t 488 (by decide +kernel) (by decide +kernel), wt_t 489 (by decide +kernel) (by decide +kernel)⟩
theorem m_Dot_corner : MC i_Dot_corner 3 := ⟨wt_t 494 (by decide +kernel) (by decide +kernel), z_Dot, (by decide +kernel), (by decide +kernel), (by decide +kernel)⟩
theorem t_Dot_corner : Cond.instanceMethod yX11_corner ∈ WT ∧ Cond.selects yX11_corner.cls yX11_corner yX11_corner ∈ WT := ⟨wt_t 492 (by decide +kernel) (by decide +kernel), wt_t 493 (by decide +kernel) (by decide +kernel)⟩
theorem m_Brs_xAt : MC i_Brs_xAt 2 := ⟨wt_t 498 (by decide +kernel) (by decide +kernel), z_Brs, (by decide +kernel), (by decide +kernel), (by decide +kernel)⟩
theorem t_Brs_xAt : Cond.instanceMethod yX3_xAt ∈ WT ∧ Cond.selects yX3_xAt.cls yX3_xAt yX3_xAt ∈ WT := ⟨wt_t 496 (by decide +kernel) (by decide +kernel), wt_t 497 (by decide +kernel) (by decide +kernel)⟩
theorem m_Brs_yAt : MC i_Brs_yAt 2 := ⟨wt_t 502 (by decide +kernel) (by decide +kernel), z_Brs, (by decide +kernel), (by decide +kernel), (by decide +kernel)⟩
theorem t_Brs_yAt : Cond.instanceMethod yX3_yAt ∈ WT ∧ Cond.selects yX3_yAt.cls yX3_yAt yX3_yAt ∈ WT := ⟨wt_t 500 (by decide +kernel) (by decide +kernel), wt_t 501 (by decide +kernel) (by decide +kernel)⟩
theorem m_Dot_inside : MC i_Dot_inside 3 := ⟨wt_t 507 (by decide +kernel) (by decide +kernel), z_Dot, (by decide +kernel), (by decide +kernel), (by decide +kernel)⟩
theorem t_Dot_inside : Cond.instanceMethod yX11_inside ∈ WT ∧ Cond.selects yX11_inside.cls yX11_inside yX11_inside ∈ WT := ⟨wt_t 505 (by decide +kernel) (by decide +kernel), wt_t 506 (by decide +kernel) (by decide +kernel)⟩
theorem m_Dot_straight : MC i_Dot_straight 3 := ⟨wt_t 511 (by decide +kernel) (by decide +kernel), z_Dot, (by decide +kernel), (by decide +kernel), (by decide +kernel)⟩
theorem t_Dot_straight : Cond.instanceMethod yX11_straight ∈ WT ∧ Cond.selects yX11_straight.cls yX11_straight yX11_straight ∈ WT := ⟨wt_t 509 (by decide +kernel) (by decide +kernel), wt_t 510 (by decide +kernel) (by decide +kernel)⟩
theorem m_Brd_hasStretch : MC i_Brd_hasStretch 2 := ⟨wt_t 515 (by decide +kernel) (by decide +kernel), z_Brd, (by decide +kernel), (by decide +kernel), (by decide +kernel)⟩
theorem t_Brd_hasStretch : Cond.instanceMethod yX2_hasStretch ∈ WT ∧ Cond.selects yX2_hasStretch.cls yX2_hasStretch yX2_hasStretch ∈ WT := ⟨wt_t 513 (by decide +kernel) (by decide +kernel), wt_t 514 (by decide +kernel) (by decide +kernel)⟩
theorem m_Brd_hasCorner : MC i_Brd_hasCorner 1 := ⟨wt_t 519 (by decide +kernel) (by decide +kernel), z_Brd, (by decide +kernel), (by decide +kernel), (by decide +kernel)⟩
theorem t_Brd_hasCorner : Cond.instanceMethod yX2_hasCorner ∈ WT ∧ Cond.selects yX2_hasCorner.cls yX2_hasCorner yX2_hasCorner ∈ WT := ⟨wt_t 517 (by decide +kernel) (by decide +kernel), wt_t 518 (by decide +kernel) (by decide +kernel)⟩
theorem m_Str_offOf : MC i_Str_offOf 3 := ⟨wt_t 523 (by decide +kernel) (by decide +kernel), z_Str, (by decide +kernel), (by decide +kernel), (by decide +kernel)⟩
theorem t_Str_offOf : Cond.instanceMethod yX9_offOf ∈ WT ∧ Cond.selects yX9_offOf.cls yX9_offOf yX9_offOf ∈ WT := ⟨wt_t 521 (by decide +kernel) (by decide +kernel), wt_t 522 (by decide +kernel) (by decide +kernel)⟩
theorem m_Mth_abs : MC i_Mth_abs 1 := ⟨wt_t 528 (by decide +kernel) (by decide +kernel), z_Mth, (by decide +kernel), (by decide +kernel), (by decide +kernel)⟩
theorem t_Mth_abs : Cond.static yJ9_abs_0f7a4 ∈ WT := wt_t 527 (by decide +kernel) (by decide +kernel)
theorem m_Dot_off : MC i_Dot_off 3 := ⟨wt_t 533 (by decide +kernel) (by decide +kernel), z_Dot, (by decide +kernel), (by decide +kernel), (by decide +kernel)⟩
theorem t_Dot_off : Cond.instanceMethod yX11_off ∈ WT ∧ Cond.selects yX11_off.cls yX11_off yX11_off ∈ WT := ⟨wt_t 531 (by decide +kernel) (by decide +kernel), wt_t 532 (by decide +kernel) (by decide +kernel)⟩
theorem m_Dot_longest : MC i_Dot_longest 2 := ⟨wt_t 538 (by decide +kernel) (by decide +kernel), z_Dot, (by decide +kernel), (by decide +kernel), (by decide +kernel)⟩
theorem t_Dot_longest : Cond.instanceMethod yX11_longest ∈ WT ∧ Cond.selects yX11_longest.cls yX11_longest yX11_longest ∈ WT := ⟨wt_t 536 (by decide +kernel) (by decide +kernel), wt_t 537 (by decide +kernel) (by decide +kernel)⟩
theorem m_Str_longestFrom : MC i_Str_longestFrom 2 := ⟨wt_t 543 (by decide +kernel) (by decide +kernel), z_Str, (by decide +kernel), (by decide +kernel), (by decide +kernel)⟩
theorem t_Str_longestFrom : Cond.instanceMethod yX9_longestFrom ∈ WT ∧ Cond.selects yX9_longestFrom.cls yX9_longestFrom yX9_longestFrom ∈ WT := ⟨wt_t 541 (by decide +kernel) (by decide +kernel), wt_t 542 (by decide +kernel) (by decide +kernel)⟩
theorem m_Mth_min : MC i_Mth_min 2 := ⟨wt_t 546 (by decide +kernel) (by decide +kernel), z_Mth, (by decide +kernel), (by decide +kernel), (by decide +kernel)⟩
theorem t_Mth_min : Cond.static yJ9_min_7cf53 ∈ WT := wt_t 545 (by decide +kernel) (by decide +kernel)
theorem m_Dot_best : MC i_Dot_best 2 := ⟨wt_t 551 (by decide +kernel) (by decide +kernel), z_Dot, (by decide +kernel), (by decide +kernel), (by decide +kernel)⟩
theorem t_Dot_best : Cond.instanceMethod yX11_best ∈ WT ∧ Cond.selects yX11_best.cls yX11_best yX11_best ∈ WT := ⟨wt_t 549 (by decide +kernel) (by decide +kernel), wt_t 550 (by decide +kernel) (by decide +kernel)⟩
theorem m_Dot_shapedBorder : MC i_Dot_shapedBorder 1 := ⟨wt_t 555 (by decide +kernel) (by decide +kernel), z_Dot, (by decide +kernel), (by decide +kernel), (by decide +kernel)⟩
theorem t_Dot_shapedBorder : Cond.instanceMethod yX11_shapedBorder ∈ WT ∧ Cond.selects yX11_shapedBorder.cls yX11_shapedBorder yX11_shapedBorder ∈ WT := ⟨wt_t 554 (by decide +kernel) (by decide +kernel), wt_s 8 (by decide +kernel) (by decide +kernel)⟩
theorem m_Pol_seek : MC i_Pol_seek 1 := ⟨wt_t 559 (by decide +kernel) (by decide +kernel), z_Pol, (by decide +kernel), (by decide +kernel), (by decide +kernel)⟩
theorem t_Pol_seek : Cond.instanceMethod yX7_seek ∈ WT ∧ Cond.selects yX7_seek.cls yX7_seek yX7_seek ∈ WT := ⟨wt_t 557 (by decide +kernel) (by decide +kernel), wt_t 558 (by decide +kernel) (by decide +kernel)⟩
theorem m_Str_measure : MC i_Str_measure 1 := ⟨wt_t 563 (by decide +kernel) (by decide +kernel), z_Str, (by decide +kernel), (by decide +kernel), (by decide +kernel)⟩
theorem t_Str_measure : Cond.instanceMethod yX9_measure ∈ WT ∧ Cond.selects yX9_measure.cls yX9_measure yX9_measure ∈ WT := ⟨wt_t 561 (by decide +kernel) (by decide +kernel), wt_t 562 (by decide +kernel) (by decide +kernel)⟩
theorem m_Pol_costOfRound : MC i_Pol_costOfRound 2 := ⟨wt_t 569 (by decide +kernel) (by decide +kernel), z_Pol, (by decide +kernel), (by decide +kernel), (by decide +kernel)⟩
theorem t_Pol_costOfRound : Cond.instanceMethod yX7_costOfRound ∈ WT ∧ Cond.selects yX7_costOfRound.cls yX7_costOfRound yX7_costOfRound ∈ WT := ⟨wt_t 568 (by decide +kernel) (by decide +kernel), wt_s 9 (by decide +kernel) (by decide +kernel)⟩
theorem m_Str_reachAt : MC i_Str_reachAt 1 := ⟨wt_t 575 (by decide +kernel) (by decide +kernel), z_Str, (by decide +kernel), (by decide +kernel), (by decide +kernel)⟩
theorem t_Str_reachAt : Cond.instanceMethod yX9_reachAt ∈ WT ∧ Cond.selects yX9_reachAt.cls yX9_reachAt yX9_reachAt ∈ WT := ⟨wt_t 573 (by decide +kernel) (by decide +kernel), wt_t 574 (by decide +kernel) (by decide +kernel)⟩
theorem m_Str_offAt : MC i_Str_offAt 2 := ⟨wt_t 579 (by decide +kernel) (by decide +kernel), z_Str, (by decide +kernel), (by decide +kernel), (by decide +kernel)⟩
theorem t_Str_offAt : Cond.instanceMethod yX9_offAt ∈ WT ∧ Cond.selects yX9_offAt.cls yX9_offAt yX9_offAt ∈ WT := ⟨wt_t 577 (by decide +kernel) (by decide +kernel), wt_t 578 (by decide +kernel) (by decide +kernel)⟩
theorem m_Pol_writeVertices : MC i_Pol_writeVertices 2 := ⟨wt_t 584 (by decide +kernel) (by decide +kernel), z_Pol, (by decide +kernel), (by decide +kernel), (by decide +kernel)⟩
theorem t_Pol_writeVertices : Cond.instanceMethod yX7_writeVertices ∈ WT ∧ Cond.selects yX7_writeVertices.cls yX7_writeVertices yX7_writeVertices ∈ WT := ⟨wt_t 583 (by decide +kernel) (by decide +kernel), wt_s 10 (by decide +kernel) (by decide +kernel)⟩
theorem m_Pol_nearestStep : MC i_Pol_nearestStep 4 := ⟨wt_t 588 (by decide +kernel) (by decide +kernel), z_Pol, (by decide +kernel), (by decide +kernel), (by decide +kernel)⟩
theorem t_Pol_nearestStep : Cond.instanceMethod yX7_nearestStep ∈ WT ∧ Cond.selects yX7_nearestStep.cls yX7_nearestStep yX7_nearestStep ∈ WT := ⟨wt_t 587 (by decide +kernel) (by decide +kernel), wt_s 11 (by decide +kernel) (by decide +kernel)⟩
theorem m_Pol_sharpVertices : MC i_Pol_sharpVertices 2 := ⟨wt_t 593 (by decide +kernel) (by decide +kernel), z_Pol, (by decide +kernel), (by decide +kernel), (by decide +kernel)⟩
theorem t_Pol_sharpVertices : Cond.instanceMethod yX7_sharpVertices ∈ WT ∧ Cond.selects yX7_sharpVertices.cls yX7_sharpVertices yX7_sharpVertices ∈ WT := ⟨wt_t 591 (by decide +kernel) (by decide +kernel), wt_t 592 (by decide +kernel) (by decide +kernel)⟩
theorem m_Pol_bendAt : MC i_Pol_bendAt 2 := ⟨wt_t 597 (by decide +kernel) (by decide +kernel), z_Pol, (by decide +kernel), (by decide +kernel), (by decide +kernel)⟩
theorem t_Pol_bendAt : Cond.instanceMethod yX7_bendAt ∈ WT ∧ Cond.selects yX7_bendAt.cls yX7_bendAt yX7_bendAt ∈ WT := ⟨wt_t 595 (by decide +kernel) (by decide +kernel), wt_t 596 (by decide +kernel) (by decide +kernel)⟩
theorem m_Pol_cornerOfVertex : MC i_Pol_cornerOfVertex 2 := ⟨wt_t 601 (by decide +kernel) (by decide +kernel), z_Pol, (by decide +kernel), (by decide +kernel), (by decide +kernel)⟩
theorem t_Pol_cornerOfVertex : Cond.instanceMethod yX7_cornerOfVertex ∈ WT ∧ Cond.selects yX7_cornerOfVertex.cls yX7_cornerOfVertex yX7_cornerOfVertex ∈ WT := ⟨wt_t 599 (by decide +kernel) (by decide +kernel), wt_t 600 (by decide +kernel) (by decide +kernel)⟩
theorem m_Bend_from : MC i_Bend_from 2 := ⟨wt_t 607 (by decide +kernel) (by decide +kernel), z_Bend, (by decide +kernel), (by decide +kernel), (by decide +kernel)⟩
theorem t_Bend_from : Cond.instanceMethod yX1_from ∈ WT ∧ Cond.selects yX1_from.cls yX1_from yX1_from ∈ WT := ⟨wt_t 605 (by decide +kernel) (by decide +kernel), wt_t 606 (by decide +kernel) (by decide +kernel)⟩
theorem m_Bend_by : MC i_Bend_by 2 := ⟨wt_t 611 (by decide +kernel) (by decide +kernel), z_Bend, (by decide +kernel), (by decide +kernel), (by decide +kernel)⟩
theorem t_Bend_by : Cond.instanceMethod yX1_by ∈ WT ∧ Cond.selects yX1_by.cls yX1_by yX1_by ∈ WT := ⟨wt_t 609 (by decide +kernel) (by decide +kernel), wt_t 610 (by decide +kernel) (by decide +kernel)⟩
theorem m_Bend_to : MC i_Bend_to 2 := ⟨wt_t 615 (by decide +kernel) (by decide +kernel), z_Bend, (by decide +kernel), (by decide +kernel), (by decide +kernel)⟩
theorem t_Bend_to : Cond.instanceMethod yX1_to ∈ WT ∧ Cond.selects yX1_to.cls yX1_to yX1_to ∈ WT := ⟨wt_t 613 (by decide +kernel) (by decide +kernel), wt_t 614 (by decide +kernel) (by decide +kernel)⟩
theorem m_Bend_isSharp : MC i_Bend_isSharp 1 := ⟨wt_t 619 (by decide +kernel) (by decide +kernel), z_Bend, (by decide +kernel), (by decide +kernel), (by decide +kernel)⟩
theorem t_Bend_isSharp : Cond.instanceMethod yX1_isSharp ∈ WT ∧ Cond.selects yX1_isSharp.cls yX1_isSharp yX1_isSharp ∈ WT := ⟨wt_t 617 (by decide +kernel) (by decide +kernel), wt_t 618 (by decide +kernel) (by decide +kernel)⟩
theorem m_Bend_turn : MC i_Bend_turn 0 := ⟨wt_t 623 (by decide +kernel) (by decide +kernel), z_Bend, (by decide +kernel), (by decide +kernel), (by decide +kernel)⟩
theorem t_Bend_turn : Cond.instanceMethod yX1_turn ∈ WT ∧ Cond.selects yX1_turn.cls yX1_turn yX1_turn ∈ WT := ⟨wt_t 621 (by decide +kernel) (by decide +kernel), wt_t 622 (by decide +kernel) (by decide +kernel)⟩
theorem m_Bend_greater : MC i_Bend_greater 2 := ⟨wt_t 626 (by decide +kernel) (by decide +kernel), z_Bend, (by decide +kernel), (by decide +kernel), (by decide +kernel)⟩
theorem t_Bend_greater : Cond.static yX1_greater ∈ WT := wt_t 625 (by decide +kernel) (by decide +kernel)
theorem m_Pol_twiceTheArea : MC i_Pol_twiceTheArea 1 := ⟨wt_t 632 (by decide +kernel) (by decide +kernel), z_Pol, (by decide +kernel), (by decide +kernel), (by decide +kernel)⟩
theorem t_Pol_twiceTheArea : Cond.instanceMethod yX7_twiceTheArea ∈ WT ∧ Cond.selects yX7_twiceTheArea.cls yX7_twiceTheArea yX7_twiceTheArea ∈ WT := ⟨wt_t 630 (by decide +kernel) (by decide +kernel), wt_t 631 (by decide +kernel) (by decide +kernel)⟩
theorem m_Dot_vertex : MC i_Dot_vertex 3 := ⟨wt_t 637 (by decide +kernel) (by decide +kernel), z_Dot, (by decide +kernel), (by decide +kernel), (by decide +kernel)⟩
theorem t_Dot_vertex : Cond.instanceMethod yX11_vertex ∈ WT ∧ Cond.selects yX11_vertex.cls yX11_vertex yX11_vertex ∈ WT := ⟨wt_t 635 (by decide +kernel) (by decide +kernel), wt_t 636 (by decide +kernel) (by decide +kernel)⟩
theorem m_Brd_hasVertex : MC i_Brd_hasVertex 1 := ⟨wt_t 641 (by decide +kernel) (by decide +kernel), z_Brd, (by decide +kernel), (by decide +kernel), (by decide +kernel)⟩
theorem t_Brd_hasVertex : Cond.instanceMethod yX2_hasVertex ∈ WT ∧ Cond.selects yX2_hasVertex.cls yX2_hasVertex yX2_hasVertex ∈ WT := ⟨wt_t 639 (by decide +kernel) (by decide +kernel), wt_t 640 (by decide +kernel) (by decide +kernel)⟩
theorem m_Dot_past : MC i_Dot_past 2 := ⟨wt_t 649 (by decide +kernel) (by decide +kernel), z_Dot, (by decide +kernel), (by decide +kernel), (by decide +kernel)⟩
theorem t_Dot_past : Cond.instanceMethod yX11_past ∈ WT ∧ Cond.selects yX11_past.cls yX11_past yX11_past ∈ WT := ⟨wt_t 647 (by decide +kernel) (by decide +kernel), wt_t 648 (by decide +kernel) (by decide +kernel)⟩
theorem m_Pol_fewestThrough : MC i_Pol_fewestThrough 2 := ⟨wt_t 653 (by decide +kernel) (by decide +kernel), z_Pol, (by decide +kernel), (by decide +kernel), (by decide +kernel)⟩
theorem t_Pol_fewestThrough : Cond.instanceMethod yX7_fewestThrough ∈ WT ∧ Cond.selects yX7_fewestThrough.cls yX7_fewestThrough yX7_fewestThrough ∈ WT := ⟨wt_t 651 (by decide +kernel) (by decide +kernel), wt_t 652 (by decide +kernel) (by decide +kernel)⟩
theorem m_Dot_point : MC i_Dot_point 4 := ⟨wt_t 657 (by decide +kernel) (by decide +kernel), z_Dot, (by decide +kernel), (by decide +kernel), (by decide +kernel)⟩
theorem t_Dot_point : Cond.instanceMethod yX11_point ∈ WT ∧ Cond.selects yX11_point.cls yX11_point yX11_point ∈ WT := ⟨wt_t 655 (by decide +kernel) (by decide +kernel), wt_t 656 (by decide +kernel) (by decide +kernel)⟩
theorem m_Bend_xOnRound : MC i_Bend_xOnRound 1 := ⟨wt_t 661 (by decide +kernel) (by decide +kernel), z_Bend, (by decide +kernel), (by decide +kernel), (by decide +kernel)⟩
theorem t_Bend_xOnRound : Cond.instanceMethod yX1_xOnRound ∈ WT ∧ Cond.selects yX1_xOnRound.cls yX1_xOnRound yX1_xOnRound ∈ WT := ⟨wt_t 659 (by decide +kernel) (by decide +kernel), wt_t 660 (by decide +kernel) (by decide +kernel)⟩
theorem m_Bend_onRound : MC i_Bend_onRound 4 := ⟨wt_t 664 (by decide +kernel) (by decide +kernel), z_Bend, (by decide +kernel), (by decide +kernel), (by decide +kernel)⟩
theorem t_Bend_onRound : Cond.static yX1_onRound ∈ WT := wt_t 663 (by decide +kernel) (by decide +kernel)
theorem m_Bend_yOnRound : MC i_Bend_yOnRound 1 := ⟨wt_t 674 (by decide +kernel) (by decide +kernel), z_Bend, (by decide +kernel), (by decide +kernel), (by decide +kernel)⟩
theorem t_Bend_yOnRound : Cond.instanceMethod yX1_yOnRound ∈ WT ∧ Cond.selects yX1_yOnRound.cls yX1_yOnRound yX1_yOnRound ∈ WT := ⟨wt_t 672 (by decide +kernel) (by decide +kernel), wt_t 673 (by decide +kernel) (by decide +kernel)⟩
theorem m_Dot_filled : MC i_Dot_filled 4 := ⟨wt_t 678 (by decide +kernel) (by decide +kernel), z_Dot, (by decide +kernel), (by decide +kernel), (by decide +kernel)⟩
theorem t_Dot_filled : Cond.instanceMethod yX11_filled ∈ WT ∧ Cond.selects yX11_filled.cls yX11_filled yX11_filled ∈ WT := ⟨wt_t 676 (by decide +kernel) (by decide +kernel), wt_t 677 (by decide +kernel) (by decide +kernel)⟩
theorem m_Fil_by : MC i_Fil_by 3 := ⟨wt_t 682 (by decide +kernel) (by decide +kernel), z_Fil, (by decide +kernel), (by decide +kernel), (by decide +kernel)⟩
theorem t_Fil_by : Cond.instanceMethod yX4_by ∈ WT ∧ Cond.selects yX4_by.cls yX4_by yX4_by ∈ WT := ⟨wt_t 680 (by decide +kernel) (by decide +kernel), wt_t 681 (by decide +kernel) (by decide +kernel)⟩
theorem m_Bend_xOfVertex : MC i_Bend_xOfVertex 0 := ⟨wt_t 687 (by decide +kernel) (by decide +kernel), z_Bend, (by decide +kernel), (by decide +kernel), (by decide +kernel)⟩
theorem t_Bend_xOfVertex : Cond.instanceMethod yX1_xOfVertex ∈ WT ∧ Cond.selects yX1_xOfVertex.cls yX1_xOfVertex yX1_xOfVertex ∈ WT := ⟨wt_t 685 (by decide +kernel) (by decide +kernel), wt_t 686 (by decide +kernel) (by decide +kernel)⟩
theorem m_Bend_yOfVertex : MC i_Bend_yOfVertex 0 := ⟨wt_t 691 (by decide +kernel) (by decide +kernel), z_Bend, (by decide +kernel), (by decide +kernel), (by decide +kernel)⟩
theorem t_Bend_yOfVertex : Cond.instanceMethod yX1_yOfVertex ∈ WT ∧ Cond.selects yX1_yOfVertex.cls yX1_yOfVertex yX1_yOfVertex ∈ WT := ⟨wt_t 689 (by decide +kernel) (by decide +kernel), wt_t 690 (by decide +kernel) (by decide +kernel)⟩
theorem m_Bend_xOfNext : MC i_Bend_xOfNext 0 := ⟨wt_t 695 (by decide +kernel) (by decide +kernel), z_Bend, (by decide +kernel), (by decide +kernel), (by decide +kernel)⟩
theorem t_Bend_xOfNext : Cond.instanceMethod yX1_xOfNext ∈ WT ∧ Cond.selects yX1_xOfNext.cls yX1_xOfNext yX1_xOfNext ∈ WT := ⟨wt_t 693 (by decide +kernel) (by decide +kernel), wt_t 694 (by decide +kernel) (by decide +kernel)⟩
theorem m_Bend_yOfNext : MC i_Bend_yOfNext 0 := ⟨wt_t 699 (by decide +kernel) (by decide +kernel), z_Bend, (by decide +kernel), (by decide +kernel), (by decide +kernel)⟩
theorem t_Bend_yOfNext : Cond.instanceMethod yX1_yOfNext ∈ WT ∧ Cond.selects yX1_yOfNext.cls yX1_yOfNext yX1_yOfNext ∈ WT := ⟨wt_t 697 (by decide +kernel) (by decide +kernel), wt_t 698 (by decide +kernel) (by decide +kernel)⟩
theorem m_Fil_rightOf : MC i_Fil_rightOf 4 := ⟨wt_t 702 (by decide +kernel) (by decide +kernel), z_Fil, (by decide +kernel), (by decide +kernel), (by decide +kernel)⟩
theorem t_Fil_rightOf : Cond.static yX4_rightOf ∈ WT := wt_t 701 (by decide +kernel) (by decide +kernel)
theorem m_Fil_rightOfFalling : MC i_Fil_rightOfFalling 4 := ⟨wt_t 705 (by decide +kernel) (by decide +kernel), z_Fil, (by decide +kernel), (by decide +kernel), (by decide +kernel)⟩
theorem t_Fil_rightOfFalling : Cond.static yX4_rightOfFalling ∈ WT := wt_t 704 (by decide +kernel) (by decide +kernel)
theorem m_Fil_firstColumnRightOf : MC i_Fil_firstColumnRightOf 5 := ⟨wt_t 708 (by decide +kernel) (by decide +kernel), z_Fil, (by decide +kernel), (by decide +kernel), (by decide +kernel)⟩
theorem t_Fil_firstColumnRightOf : Cond.static yX4_firstColumnRightOf ∈ WT := wt_t 707 (by decide +kernel) (by decide +kernel)
theorem m_Fil_rightOfSharp : MC i_Fil_rightOfSharp 1 := ⟨wt_t 713 (by decide +kernel) (by decide +kernel), z_Fil, (by decide +kernel), (by decide +kernel), (by decide +kernel)⟩
theorem t_Fil_rightOfSharp : Cond.static yX4_rightOfSharp ∈ WT := wt_t 712 (by decide +kernel) (by decide +kernel)
theorem m_Fil_rightOfRound : MC i_Fil_rightOfRound 1 := ⟨wt_t 718 (by decide +kernel) (by decide +kernel), z_Fil, (by decide +kernel), (by decide +kernel), (by decide +kernel)⟩
theorem t_Fil_rightOfRound : Cond.static yX4_rightOfRound ∈ WT := wt_t 717 (by decide +kernel) (by decide +kernel)
theorem m_Dot_differ : MC i_Dot_differ 2 := ⟨wt_t 722 (by decide +kernel) (by decide +kernel), z_Dot, (by decide +kernel), (by decide +kernel), (by decide +kernel)⟩
theorem t_Dot_differ : Cond.instanceMethod yX11_differ ∈ WT ∧ Cond.selects yX11_differ.cls yX11_differ yX11_differ ∈ WT := ⟨wt_t 720 (by decide +kernel) (by decide +kernel), wt_t 721 (by decide +kernel) (by decide +kernel)⟩
theorem m_Dot_wrong : MC i_Dot_wrong 1 := ⟨wt_t 726 (by decide +kernel) (by decide +kernel), z_Dot, (by decide +kernel), (by decide +kernel), (by decide +kernel)⟩
theorem t_Dot_wrong : Cond.instanceMethod yX11_wrong ∈ WT ∧ Cond.selects yX11_wrong.cls yX11_wrong yX11_wrong ∈ WT := ⟨wt_t 724 (by decide +kernel) (by decide +kernel), wt_t 725 (by decide +kernel) (by decide +kernel)⟩
theorem m_Dot_all : MC i_Dot_all 1 := ⟨wt_t 730 (by decide +kernel) (by decide +kernel), z_Dot, (by decide +kernel), (by decide +kernel), (by decide +kernel)⟩
theorem t_Dot_all : Cond.instanceMethod yX11_all ∈ WT ∧ Cond.selects yX11_all.cls yX11_all yX11_all ∈ WT := ⟨wt_t 728 (by decide +kernel) (by decide +kernel), wt_t 729 (by decide +kernel) (by decide +kernel)⟩
theorem m_Dot_sizeOf : MC i_Dot_sizeOf 2 := ⟨wt_t 734 (by decide +kernel) (by decide +kernel), z_Dot, (by decide +kernel), (by decide +kernel), (by decide +kernel)⟩
theorem t_Dot_sizeOf : Cond.instanceMethod yX11_sizeOf ∈ WT ∧ Cond.selects yX11_sizeOf.cls yX11_sizeOf yX11_sizeOf ∈ WT := ⟨wt_t 733 (by decide +kernel) (by decide +kernel), wt_s 12 (by decide +kernel) (by decide +kernel)⟩
theorem m_Dot_image : MC i_Dot_image 1 := ⟨wt_t 738 (by decide +kernel) (by decide +kernel), z_Dot, (by decide +kernel), (by decide +kernel), (by decide +kernel)⟩
theorem t_Dot_image : Cond.instanceMethod yX11_image ∈ WT ∧ Cond.selects yX11_image.cls yX11_image yX11_image ∈ WT := ⟨wt_t 736 (by decide +kernel) (by decide +kernel), wt_t 737 (by decide +kernel) (by decide +kernel)⟩
theorem m_Dot_imageNumber : MC i_Dot_imageNumber 1 := ⟨wt_t 742 (by decide +kernel) (by decide +kernel), z_Dot, (by decide +kernel), (by decide +kernel), (by decide +kernel)⟩
theorem t_Dot_imageNumber : Cond.instanceMethod yX11_imageNumber ∈ WT ∧ Cond.selects yX11_imageNumber.cls yX11_imageNumber yX11_imageNumber ∈ WT := ⟨wt_t 741 (by decide +kernel) (by decide +kernel), wt_s 13 (by decide +kernel) (by decide +kernel)⟩
theorem m_Pic_becomeLike : MC i_Pic_becomeLike 1 := ⟨wt_t 746 (by decide +kernel) (by decide +kernel), z_Pic, (by decide +kernel), (by decide +kernel), (by decide +kernel)⟩
theorem t_Pic_becomeLike : Cond.instanceMethod yX6_becomeLike ∈ WT ∧ Cond.selects yX6_becomeLike.cls yX6_becomeLike yX6_becomeLike ∈ WT := ⟨wt_t 744 (by decide +kernel) (by decide +kernel), wt_t 745 (by decide +kernel) (by decide +kernel)⟩
theorem m_Dot_restore : MC i_Dot_restore 1 := ⟨wt_t 750 (by decide +kernel) (by decide +kernel), z_Dot, (by decide +kernel), (by decide +kernel), (by decide +kernel)⟩
theorem t_Dot_restore : Cond.instanceMethod yX11_restore ∈ WT ∧ Cond.selects yX11_restore.cls yX11_restore yX11_restore ∈ WT := ⟨wt_t 748 (by decide +kernel) (by decide +kernel), wt_t 749 (by decide +kernel) (by decide +kernel)⟩
theorem m_Dot_count : MC i_Dot_count 1 := ⟨wt_t 754 (by decide +kernel) (by decide +kernel), z_Dot, (by decide +kernel), (by decide +kernel), (by decide +kernel)⟩
theorem t_Dot_count : Cond.instanceMethod yX11_count ∈ WT ∧ Cond.selects yX11_count.cls yX11_count yX11_count ∈ WT := ⟨wt_t 752 (by decide +kernel) (by decide +kernel), wt_t 753 (by decide +kernel) (by decide +kernel)⟩
theorem m_Mod_init : MC i_Mod_init 0 := ⟨wt_t 759 (by decide +kernel) (by decide +kernel), z_Mod, (by decide +kernel), (by decide +kernel), (by decide +kernel)⟩
theorem t_Mod_init : Cond.instanceMethod yX12_init ∈ WT ∧ yX12_init.name = "<init>" ∧ i_Mod_init.2.2.2 = none := ⟨wt_t 758 (by decide +kernel) (by decide +kernel), rfl, rfl⟩
theorem m_Mod_feed : MC i_Mod_feed 1 := ⟨wt_t 858 (by decide +kernel) (by decide +kernel), z_Mod, (by decide +kernel), (by decide +kernel), (by decide +kernel)⟩
theorem t_Mod_feed : Cond.instanceMethod yX12_feed ∈ WT ∧ Cond.selects yX12_feed.cls yX12_feed yX12_feed ∈ WT := ⟨wt_t 856 (by decide +kernel) (by decide +kernel), wt_t 857 (by decide +kernel) (by decide +kernel)⟩
theorem m_Mod_in : MC i_Mod_in 3 := ⟨wt_t 861 (by decide +kernel) (by decide +kernel), z_Mod, (by decide +kernel), (by decide +kernel), (by decide +kernel)⟩
theorem t_Mod_in : Cond.static yX12_in ∈ WT := wt_t 860 (by decide +kernel) (by decide +kernel)
theorem m_Mod_picture : MC i_Mod_picture 0 := ⟨wt_t 867 (by decide +kernel) (by decide +kernel), z_Mod, (by decide +kernel), (by decide +kernel), (by decide +kernel)⟩
theorem t_Mod_picture : Cond.instanceMethod yX12_picture ∈ WT ∧ Cond.selects yX12_picture.cls yX12_picture yX12_picture ∈ WT := ⟨wt_t 865 (by decide +kernel) (by decide +kernel), wt_t 866 (by decide +kernel) (by decide +kernel)⟩
theorem m_Mod_reads : MC i_Mod_reads 0 := ⟨wt_t 871 (by decide +kernel) (by decide +kernel), z_Mod, (by decide +kernel), (by decide +kernel), (by decide +kernel)⟩
theorem t_Mod_reads : Cond.instanceMethod yX12_reads ∈ WT ∧ Cond.selects yX12_reads.cls yX12_reads yX12_reads ∈ WT := ⟨wt_t 870 (by decide +kernel) (by decide +kernel), wt_s 14 (by decide +kernel) (by decide +kernel)⟩
theorem m_Mod_sign : MC i_Mod_sign 1 := ⟨wt_t 875 (by decide +kernel) (by decide +kernel), z_Mod, (by decide +kernel), (by decide +kernel), (by decide +kernel)⟩
theorem t_Mod_sign : Cond.instanceMethod yX12_sign ∈ WT ∧ Cond.selects yX12_sign.cls yX12_sign yX12_sign ∈ WT := ⟨wt_t 874 (by decide +kernel) (by decide +kernel), wt_s 15 (by decide +kernel) (by decide +kernel)⟩
theorem m_Mod_due : MC i_Mod_due 4 := ⟨wt_t 879 (by decide +kernel) (by decide +kernel), z_Mod, (by decide +kernel), (by decide +kernel), (by decide +kernel)⟩
theorem t_Mod_due : Cond.instanceMethod yX12_due ∈ WT ∧ Cond.selects yX12_due.cls yX12_due yX12_due ∈ WT := ⟨wt_t 878 (by decide +kernel) (by decide +kernel), wt_s 16 (by decide +kernel) (by decide +kernel)⟩
theorem m_Mod_readsRow : MC i_Mod_readsRow 1 := ⟨wt_t 883 (by decide +kernel) (by decide +kernel), z_Mod, (by decide +kernel), (by decide +kernel), (by decide +kernel)⟩
theorem t_Mod_readsRow : Cond.instanceMethod yX12_readsRow ∈ WT ∧ Cond.selects yX12_readsRow.cls yX12_readsRow yX12_readsRow ∈ WT := ⟨wt_t 882 (by decide +kernel) (by decide +kernel), wt_s 17 (by decide +kernel) (by decide +kernel)⟩
theorem m_Mod_bring : MC i_Mod_bring 5 := ⟨wt_t 887 (by decide +kernel) (by decide +kernel), z_Mod, (by decide +kernel), (by decide +kernel), (by decide +kernel)⟩
theorem t_Mod_bring : Cond.static yX12_bring ∈ WT := wt_t 886 (by decide +kernel) (by decide +kernel)
theorem m_Mod_dark : MC i_Mod_dark 0 := ⟨wt_t 891 (by decide +kernel) (by decide +kernel), z_Mod, (by decide +kernel), (by decide +kernel), (by decide +kernel)⟩
theorem t_Mod_dark : Cond.instanceMethod yX12_dark ∈ WT ∧ Cond.selects yX12_dark.cls yX12_dark yX12_dark ∈ WT := ⟨wt_t 890 (by decide +kernel) (by decide +kernel), wt_s 18 (by decide +kernel) (by decide +kernel)⟩
theorem m_Mod_fault : MC i_Mod_fault 0 := ⟨wt_t 895 (by decide +kernel) (by decide +kernel), z_Mod, (by decide +kernel), (by decide +kernel), (by decide +kernel)⟩
theorem t_Mod_fault : Cond.instanceMethod yX12_fault ∈ WT ∧ Cond.selects yX12_fault.cls yX12_fault yX12_fault ∈ WT := ⟨wt_t 893 (by decide +kernel) (by decide +kernel), wt_t 894 (by decide +kernel) (by decide +kernel)⟩
theorem m_Mod_undo : MC i_Mod_undo 0 := ⟨wt_t 899 (by decide +kernel) (by decide +kernel), z_Mod, (by decide +kernel), (by decide +kernel), (by decide +kernel)⟩
theorem t_Mod_undo : Cond.instanceMethod yX12_undo ∈ WT ∧ Cond.selects yX12_undo.cls yX12_undo yX12_undo ∈ WT := ⟨wt_t 897 (by decide +kernel) (by decide +kernel), wt_t 898 (by decide +kernel) (by decide +kernel)⟩
theorem m_Mod_flip : MC i_Mod_flip 2 := ⟨wt_t 904 (by decide +kernel) (by decide +kernel), z_Mod, (by decide +kernel), (by decide +kernel), (by decide +kernel)⟩
theorem t_Mod_flip : Cond.instanceMethod yX12_flip ∈ WT ∧ Cond.selects yX12_flip.cls yX12_flip yX12_flip ∈ WT := ⟨wt_t 902 (by decide +kernel) (by decide +kernel), wt_t 903 (by decide +kernel) (by decide +kernel)⟩
theorem m_Mod_isDot : MC i_Mod_isDot 2 := ⟨wt_t 908 (by decide +kernel) (by decide +kernel), z_Mod, (by decide +kernel), (by decide +kernel), (by decide +kernel)⟩
theorem t_Mod_isDot : Cond.instanceMethod yX12_isDot ∈ WT ∧ Cond.selects yX12_isDot.cls yX12_isDot yX12_isDot ∈ WT := ⟨wt_t 907 (by decide +kernel) (by decide +kernel), wt_s 19 (by decide +kernel) (by decide +kernel)⟩
theorem m_Mod_notes : MC i_Mod_notes 0 := ⟨wt_t 912 (by decide +kernel) (by decide +kernel), z_Mod, (by decide +kernel), (by decide +kernel), (by decide +kernel)⟩
theorem t_Mod_notes : Cond.instanceMethod yX12_notes ∈ WT ∧ Cond.selects yX12_notes.cls yX12_notes yX12_notes ∈ WT := ⟨wt_t 911 (by decide +kernel) (by decide +kernel), wt_s 20 (by decide +kernel) (by decide +kernel)⟩
theorem m_Mod_frame : MC i_Mod_frame 5 := ⟨wt_t 916 (by decide +kernel) (by decide +kernel), z_Mod, (by decide +kernel), (by decide +kernel), (by decide +kernel)⟩
theorem t_Mod_frame : Cond.instanceMethod yX12_frame ∈ WT ∧ Cond.selects yX12_frame.cls yX12_frame yX12_frame ∈ WT := ⟨wt_t 914 (by decide +kernel) (by decide +kernel), wt_t 915 (by decide +kernel) (by decide +kernel)⟩
theorem m_Mod_joined : MC i_Mod_joined 1 := ⟨wt_t 920 (by decide +kernel) (by decide +kernel), z_Mod, (by decide +kernel), (by decide +kernel), (by decide +kernel)⟩
theorem t_Mod_joined : Cond.instanceMethod yX12_joined ∈ WT ∧ Cond.selects yX12_joined.cls yX12_joined yX12_joined ∈ WT := ⟨wt_t 918 (by decide +kernel) (by decide +kernel), wt_t 919 (by decide +kernel) (by decide +kernel)⟩
theorem m_Mod_tells : MC i_Mod_tells 4 := ⟨wt_t 924 (by decide +kernel) (by decide +kernel), z_Mod, (by decide +kernel), (by decide +kernel), (by decide +kernel)⟩
theorem t_Mod_tells : Cond.instanceMethod yX12_tells ∈ WT ∧ Cond.selects yX12_tells.cls yX12_tells yX12_tells ∈ WT := ⟨wt_t 923 (by decide +kernel) (by decide +kernel), wt_s 21 (by decide +kernel) (by decide +kernel)⟩
theorem m_Mod_isPicture : MC i_Mod_isPicture 0 := ⟨wt_t 928 (by decide +kernel) (by decide +kernel), z_Mod, (by decide +kernel), (by decide +kernel), (by decide +kernel)⟩
theorem t_Mod_isPicture : Cond.instanceMethod yX12_isPicture ∈ WT ∧ Cond.selects yX12_isPicture.cls yX12_isPicture yX12_isPicture ∈ WT := ⟨wt_t 927 (by decide +kernel) (by decide +kernel), wt_s 22 (by decide +kernel) (by decide +kernel)⟩
theorem m_Mod_sharp : MC i_Mod_sharp 1 := ⟨wt_t 932 (by decide +kernel) (by decide +kernel), z_Mod, (by decide +kernel), (by decide +kernel), (by decide +kernel)⟩
theorem t_Mod_sharp : Cond.instanceMethod yX12_sharp ∈ WT ∧ Cond.selects yX12_sharp.cls yX12_sharp yX12_sharp ∈ WT := ⟨wt_t 930 (by decide +kernel) (by decide +kernel), wt_t 931 (by decide +kernel) (by decide +kernel)⟩
theorem m_Mod_dot : MC i_Mod_dot 2 := ⟨wt_t 936 (by decide +kernel) (by decide +kernel), z_Mod, (by decide +kernel), (by decide +kernel), (by decide +kernel)⟩
theorem t_Mod_dot : Cond.instanceMethod yX12_dot ∈ WT ∧ Cond.selects yX12_dot.cls yX12_dot yX12_dot ∈ WT := ⟨wt_t 934 (by decide +kernel) (by decide +kernel), wt_t 935 (by decide +kernel) (by decide +kernel)⟩
theorem m_Mod_borders : MC i_Mod_borders 0 := ⟨wt_t 940 (by decide +kernel) (by decide +kernel), z_Mod, (by decide +kernel), (by decide +kernel), (by decide +kernel)⟩
theorem t_Mod_borders : Cond.instanceMethod yX12_borders ∈ WT ∧ Cond.selects yX12_borders.cls yX12_borders yX12_borders ∈ WT := ⟨wt_t 938 (by decide +kernel) (by decide +kernel), wt_t 939 (by decide +kernel) (by decide +kernel)⟩
theorem m_Mod_lays : MC i_Mod_lays 0 := ⟨wt_t 944 (by decide +kernel) (by decide +kernel), z_Mod, (by decide +kernel), (by decide +kernel), (by decide +kernel)⟩
theorem t_Mod_lays : Cond.instanceMethod yX12_lays ∈ WT ∧ Cond.selects yX12_lays.cls yX12_lays yX12_lays ∈ WT := ⟨wt_t 943 (by decide +kernel) (by decide +kernel), wt_s 23 (by decide +kernel) (by decide +kernel)⟩
theorem m_Mod_walks : MC i_Mod_walks 2 := ⟨wt_t 948 (by decide +kernel) (by decide +kernel), z_Mod, (by decide +kernel), (by decide +kernel), (by decide +kernel)⟩
theorem t_Mod_walks : Cond.instanceMethod yX12_walks ∈ WT ∧ Cond.selects yX12_walks.cls yX12_walks yX12_walks ∈ WT := ⟨wt_t 947 (by decide +kernel) (by decide +kernel), wt_s 24 (by decide +kernel) (by decide +kernel)⟩
theorem m_Mod_stepX : MC i_Mod_stepX 1 := ⟨wt_t 951 (by decide +kernel) (by decide +kernel), z_Mod, (by decide +kernel), (by decide +kernel), (by decide +kernel)⟩
theorem t_Mod_stepX : Cond.static yX12_stepX ∈ WT := wt_t 950 (by decide +kernel) (by decide +kernel)
theorem m_Mod_stepY : MC i_Mod_stepY 1 := ⟨wt_t 954 (by decide +kernel) (by decide +kernel), z_Mod, (by decide +kernel), (by decide +kernel), (by decide +kernel)⟩
theorem t_Mod_stepY : Cond.static yX12_stepY ∈ WT := wt_t 953 (by decide +kernel) (by decide +kernel)
theorem m_Mod_turns : MC i_Mod_turns 3 := ⟨wt_t 958 (by decide +kernel) (by decide +kernel), z_Mod, (by decide +kernel), (by decide +kernel), (by decide +kernel)⟩
theorem t_Mod_turns : Cond.instanceMethod yX12_turns ∈ WT ∧ Cond.selects yX12_turns.cls yX12_turns yX12_turns ∈ WT := ⟨wt_t 957 (by decide +kernel) (by decide +kernel), wt_s 25 (by decide +kernel) (by decide +kernel)⟩
theorem m_Mod_isBeside : MC i_Mod_isBeside 4 := ⟨wt_t 962 (by decide +kernel) (by decide +kernel), z_Mod, (by decide +kernel), (by decide +kernel), (by decide +kernel)⟩
theorem t_Mod_isBeside : Cond.instanceMethod yX12_isBeside ∈ WT ∧ Cond.selects yX12_isBeside.cls yX12_isBeside yX12_isBeside ∈ WT := ⟨wt_t 961 (by decide +kernel) (by decide +kernel), wt_s 26 (by decide +kernel) (by decide +kernel)⟩
theorem m_Mod_isRest : MC i_Mod_isRest 2 := ⟨wt_t 966 (by decide +kernel) (by decide +kernel), z_Mod, (by decide +kernel), (by decide +kernel), (by decide +kernel)⟩
theorem t_Mod_isRest : Cond.instanceMethod yX12_isRest ∈ WT ∧ Cond.selects yX12_isRest.cls yX12_isRest yX12_isRest ∈ WT := ⟨wt_t 965 (by decide +kernel) (by decide +kernel), wt_s 27 (by decide +kernel) (by decide +kernel)⟩
theorem m_Mod_isWithin : MC i_Mod_isWithin 3 := ⟨wt_t 970 (by decide +kernel) (by decide +kernel), z_Mod, (by decide +kernel), (by decide +kernel), (by decide +kernel)⟩
theorem t_Mod_isWithin : Cond.instanceMethod yX12_isWithin ∈ WT ∧ Cond.selects yX12_isWithin.cls yX12_isWithin yX12_isWithin ∈ WT := ⟨wt_t 969 (by decide +kernel) (by decide +kernel), wt_s 28 (by decide +kernel) (by decide +kernel)⟩
theorem m_Mod_border : MC i_Mod_border 2 := ⟨wt_t 974 (by decide +kernel) (by decide +kernel), z_Mod, (by decide +kernel), (by decide +kernel), (by decide +kernel)⟩
theorem t_Mod_border : Cond.instanceMethod yX12_border ∈ WT ∧ Cond.selects yX12_border.cls yX12_border yX12_border ∈ WT := ⟨wt_t 972 (by decide +kernel) (by decide +kernel), wt_t 973 (by decide +kernel) (by decide +kernel)⟩
theorem m_Mod_isBorder : MC i_Mod_isBorder 1 := ⟨wt_t 978 (by decide +kernel) (by decide +kernel), z_Mod, (by decide +kernel), (by decide +kernel), (by decide +kernel)⟩
theorem t_Mod_isBorder : Cond.instanceMethod yX12_isBorder ∈ WT ∧ Cond.selects yX12_isBorder.cls yX12_isBorder yX12_isBorder ∈ WT := ⟨wt_t 977 (by decide +kernel) (by decide +kernel), wt_s 29 (by decide +kernel) (by decide +kernel)⟩
theorem m_Mod_ones : MC i_Mod_ones 1 := ⟨wt_t 981 (by decide +kernel) (by decide +kernel), z_Mod, (by decide +kernel), (by decide +kernel), (by decide +kernel)⟩
theorem t_Mod_ones : Cond.static yX12_ones ∈ WT := wt_t 980 (by decide +kernel) (by decide +kernel)
theorem m_Mod_bends : MC i_Mod_bends 1 := ⟨wt_t 985 (by decide +kernel) (by decide +kernel), z_Mod, (by decide +kernel), (by decide +kernel), (by decide +kernel)⟩
theorem t_Mod_bends : Cond.instanceMethod yX12_bends ∈ WT ∧ Cond.selects yX12_bends.cls yX12_bends yX12_bends ∈ WT := ⟨wt_t 984 (by decide +kernel) (by decide +kernel), wt_s 30 (by decide +kernel) (by decide +kernel)⟩
theorem m_Mod_corner : MC i_Mod_corner 3 := ⟨wt_t 989 (by decide +kernel) (by decide +kernel), z_Mod, (by decide +kernel), (by decide +kernel), (by decide +kernel)⟩
theorem t_Mod_corner : Cond.instanceMethod yX12_corner ∈ WT ∧ Cond.selects yX12_corner.cls yX12_corner yX12_corner ∈ WT := ⟨wt_t 987 (by decide +kernel) (by decide +kernel), wt_t 988 (by decide +kernel) (by decide +kernel)⟩
theorem m_Mod_inside : MC i_Mod_inside 3 := ⟨wt_t 993 (by decide +kernel) (by decide +kernel), z_Mod, (by decide +kernel), (by decide +kernel), (by decide +kernel)⟩
theorem t_Mod_inside : Cond.instanceMethod yX12_inside ∈ WT ∧ Cond.selects yX12_inside.cls yX12_inside yX12_inside ∈ WT := ⟨wt_t 991 (by decide +kernel) (by decide +kernel), wt_t 992 (by decide +kernel) (by decide +kernel)⟩
theorem m_Mod_isIn : MC i_Mod_isIn 3 := ⟨wt_t 997 (by decide +kernel) (by decide +kernel), z_Mod, (by decide +kernel), (by decide +kernel), (by decide +kernel)⟩
theorem t_Mod_isIn : Cond.instanceMethod yX12_isIn ∈ WT ∧ Cond.selects yX12_isIn.cls yX12_isIn yX12_isIn ∈ WT := ⟨wt_t 996 (by decide +kernel) (by decide +kernel), wt_s 31 (by decide +kernel) (by decide +kernel)⟩
theorem m_Mod_straight : MC i_Mod_straight 3 := ⟨wt_t 1001 (by decide +kernel) (by decide +kernel), z_Mod, (by decide +kernel), (by decide +kernel), (by decide +kernel)⟩
theorem t_Mod_straight : Cond.instanceMethod yX12_straight ∈ WT ∧ Cond.selects yX12_straight.cls yX12_straight yX12_straight ∈ WT := ⟨wt_t 999 (by decide +kernel) (by decide +kernel), wt_t 1000 (by decide +kernel) (by decide +kernel)⟩
theorem m_Mod_isStretch : MC i_Mod_isStretch 3 := ⟨wt_t 1005 (by decide +kernel) (by decide +kernel), z_Mod, (by decide +kernel), (by decide +kernel), (by decide +kernel)⟩
theorem t_Mod_isStretch : Cond.instanceMethod yX12_isStretch ∈ WT ∧ Cond.selects yX12_isStretch.cls yX12_isStretch yX12_isStretch ∈ WT := ⟨wt_t 1004 (by decide +kernel) (by decide +kernel), wt_s 32 (by decide +kernel) (by decide +kernel)⟩
theorem m_Mod_offOf : MC i_Mod_offOf 3 := ⟨wt_t 1009 (by decide +kernel) (by decide +kernel), z_Mod, (by decide +kernel), (by decide +kernel), (by decide +kernel)⟩
theorem t_Mod_offOf : Cond.instanceMethod yX12_offOf ∈ WT ∧ Cond.selects yX12_offOf.cls yX12_offOf yX12_offOf ∈ WT := ⟨wt_t 1008 (by decide +kernel) (by decide +kernel), wt_s 33 (by decide +kernel) (by decide +kernel)⟩
theorem m_Mod_size : MC i_Mod_size 1 := ⟨wt_t 1012 (by decide +kernel) (by decide +kernel), z_Mod, (by decide +kernel), (by decide +kernel), (by decide +kernel)⟩
theorem t_Mod_size : Cond.static yX12_size ∈ WT := wt_t 1011 (by decide +kernel) (by decide +kernel)
theorem m_Mod_off : MC i_Mod_off 3 := ⟨wt_t 1017 (by decide +kernel) (by decide +kernel), z_Mod, (by decide +kernel), (by decide +kernel), (by decide +kernel)⟩
theorem t_Mod_off : Cond.instanceMethod yX12_off ∈ WT ∧ Cond.selects yX12_off.cls yX12_off yX12_off ∈ WT := ⟨wt_t 1015 (by decide +kernel) (by decide +kernel), wt_t 1016 (by decide +kernel) (by decide +kernel)⟩
theorem m_Mod_longest : MC i_Mod_longest 2 := ⟨wt_t 1021 (by decide +kernel) (by decide +kernel), z_Mod, (by decide +kernel), (by decide +kernel), (by decide +kernel)⟩
theorem t_Mod_longest : Cond.instanceMethod yX12_longest ∈ WT ∧ Cond.selects yX12_longest.cls yX12_longest yX12_longest ∈ WT := ⟨wt_t 1019 (by decide +kernel) (by decide +kernel), wt_t 1020 (by decide +kernel) (by decide +kernel)⟩
theorem m_Mod_best : MC i_Mod_best 2 := ⟨wt_t 1025 (by decide +kernel) (by decide +kernel), z_Mod, (by decide +kernel), (by decide +kernel), (by decide +kernel)⟩
theorem t_Mod_best : Cond.instanceMethod yX12_best ∈ WT ∧ Cond.selects yX12_best.cls yX12_best yX12_best ∈ WT := ⟨wt_t 1023 (by decide +kernel) (by decide +kernel), wt_t 1024 (by decide +kernel) (by decide +kernel)⟩
theorem m_Mod_laysTable : MC i_Mod_laysTable 1 := ⟨wt_t 1029 (by decide +kernel) (by decide +kernel), z_Mod, (by decide +kernel), (by decide +kernel), (by decide +kernel)⟩
theorem t_Mod_laysTable : Cond.instanceMethod yX12_laysTable ∈ WT ∧ Cond.selects yX12_laysTable.cls yX12_laysTable yX12_laysTable ∈ WT := ⟨wt_t 1028 (by decide +kernel) (by decide +kernel), wt_s 34 (by decide +kernel) (by decide +kernel)⟩
theorem m_Mod_laysBest : MC i_Mod_laysBest 1 := ⟨wt_t 1033 (by decide +kernel) (by decide +kernel), z_Mod, (by decide +kernel), (by decide +kernel), (by decide +kernel)⟩
theorem t_Mod_laysBest : Cond.instanceMethod yX12_laysBest ∈ WT ∧ Cond.selects yX12_laysBest.cls yX12_laysBest yX12_laysBest ∈ WT := ⟨wt_t 1032 (by decide +kernel) (by decide +kernel), wt_s 35 (by decide +kernel) (by decide +kernel)⟩
theorem m_Mod_laysLeast : MC i_Mod_laysLeast 2 := ⟨wt_t 1038 (by decide +kernel) (by decide +kernel), z_Mod, (by decide +kernel), (by decide +kernel), (by decide +kernel)⟩
theorem t_Mod_laysLeast : Cond.instanceMethod yX12_laysLeast ∈ WT ∧ Cond.selects yX12_laysLeast.cls yX12_laysLeast yX12_laysLeast ∈ WT := ⟨wt_t 1037 (by decide +kernel) (by decide +kernel), wt_s 36 (by decide +kernel) (by decide +kernel)⟩
theorem m_Mod_stretch : MC i_Mod_stretch 3 := ⟨wt_t 1042 (by decide +kernel) (by decide +kernel), z_Mod, (by decide +kernel), (by decide +kernel), (by decide +kernel)⟩
theorem t_Mod_stretch : Cond.instanceMethod yX12_stretch ∈ WT ∧ Cond.selects yX12_stretch.cls yX12_stretch yX12_stretch ∈ WT := ⟨wt_t 1041 (by decide +kernel) (by decide +kernel), wt_s 37 (by decide +kernel) (by decide +kernel)⟩
theorem m_Mod_sharpMany : MC i_Mod_sharpMany 1 := ⟨wt_t 1047 (by decide +kernel) (by decide +kernel), z_Mod, (by decide +kernel), (by decide +kernel), (by decide +kernel)⟩
theorem t_Mod_sharpMany : Cond.instanceMethod yX12_sharpMany ∈ WT ∧ Cond.selects yX12_sharpMany.cls yX12_sharpMany yX12_sharpMany ∈ WT := ⟨wt_t 1046 (by decide +kernel) (by decide +kernel), wt_s 38 (by decide +kernel) (by decide +kernel)⟩
theorem m_Mod_isSharp : MC i_Mod_isSharp 2 := ⟨wt_t 1051 (by decide +kernel) (by decide +kernel), z_Mod, (by decide +kernel), (by decide +kernel), (by decide +kernel)⟩
theorem t_Mod_isSharp : Cond.instanceMethod yX12_isSharp ∈ WT ∧ Cond.selects yX12_isSharp.cls yX12_isSharp yX12_isSharp ∈ WT := ⟨wt_t 1050 (by decide +kernel) (by decide +kernel), wt_s 39 (by decide +kernel) (by decide +kernel)⟩
theorem m_Mod_vx : MC i_Mod_vx 2 := ⟨wt_t 1055 (by decide +kernel) (by decide +kernel), z_Mod, (by decide +kernel), (by decide +kernel), (by decide +kernel)⟩
theorem t_Mod_vx : Cond.instanceMethod yX12_vx ∈ WT ∧ Cond.selects yX12_vx.cls yX12_vx yX12_vx ∈ WT := ⟨wt_t 1054 (by decide +kernel) (by decide +kernel), wt_s 40 (by decide +kernel) (by decide +kernel)⟩
theorem m_Mod_vy : MC i_Mod_vy 2 := ⟨wt_t 1059 (by decide +kernel) (by decide +kernel), z_Mod, (by decide +kernel), (by decide +kernel), (by decide +kernel)⟩
theorem t_Mod_vy : Cond.instanceMethod yX12_vy ∈ WT ∧ Cond.selects yX12_vy.cls yX12_vy yX12_vy ∈ WT := ⟨wt_t 1058 (by decide +kernel) (by decide +kernel), wt_s 41 (by decide +kernel) (by decide +kernel)⟩
theorem m_Mod_turnOf : MC i_Mod_turnOf 2 := ⟨wt_t 1063 (by decide +kernel) (by decide +kernel), z_Mod, (by decide +kernel), (by decide +kernel), (by decide +kernel)⟩
theorem t_Mod_turnOf : Cond.instanceMethod yX12_turnOf ∈ WT ∧ Cond.selects yX12_turnOf.cls yX12_turnOf yX12_turnOf ∈ WT := ⟨wt_t 1062 (by decide +kernel) (by decide +kernel), wt_s 42 (by decide +kernel) (by decide +kernel)⟩
theorem m_Mod_greater : MC i_Mod_greater 2 := ⟨wt_t 1066 (by decide +kernel) (by decide +kernel), z_Mod, (by decide +kernel), (by decide +kernel), (by decide +kernel)⟩
theorem t_Mod_greater : Cond.static yX12_greater ∈ WT := wt_t 1065 (by decide +kernel) (by decide +kernel)
theorem m_Mod_twice : MC i_Mod_twice 1 := ⟨wt_t 1070 (by decide +kernel) (by decide +kernel), z_Mod, (by decide +kernel), (by decide +kernel), (by decide +kernel)⟩
theorem t_Mod_twice : Cond.instanceMethod yX12_twice ∈ WT ∧ Cond.selects yX12_twice.cls yX12_twice yX12_twice ∈ WT := ⟨wt_t 1069 (by decide +kernel) (by decide +kernel), wt_s 43 (by decide +kernel) (by decide +kernel)⟩
theorem m_Mod_vertex : MC i_Mod_vertex 3 := ⟨wt_t 1074 (by decide +kernel) (by decide +kernel), z_Mod, (by decide +kernel), (by decide +kernel), (by decide +kernel)⟩
theorem t_Mod_vertex : Cond.instanceMethod yX12_vertex ∈ WT ∧ Cond.selects yX12_vertex.cls yX12_vertex yX12_vertex ∈ WT := ⟨wt_t 1072 (by decide +kernel) (by decide +kernel), wt_t 1073 (by decide +kernel) (by decide +kernel)⟩
theorem m_Mod_past : MC i_Mod_past 2 := ⟨wt_t 1078 (by decide +kernel) (by decide +kernel), z_Mod, (by decide +kernel), (by decide +kernel), (by decide +kernel)⟩
theorem t_Mod_past : Cond.instanceMethod yX12_past ∈ WT ∧ Cond.selects yX12_past.cls yX12_past yX12_past ∈ WT := ⟨wt_t 1076 (by decide +kernel) (by decide +kernel), wt_t 1077 (by decide +kernel) (by decide +kernel)⟩
theorem m_Mod_fewest : MC i_Mod_fewest 2 := ⟨wt_t 1082 (by decide +kernel) (by decide +kernel), z_Mod, (by decide +kernel), (by decide +kernel), (by decide +kernel)⟩
theorem t_Mod_fewest : Cond.instanceMethod yX12_fewest ∈ WT ∧ Cond.selects yX12_fewest.cls yX12_fewest yX12_fewest ∈ WT := ⟨wt_t 1081 (by decide +kernel) (by decide +kernel), wt_s 44 (by decide +kernel) (by decide +kernel)⟩
theorem m_Mod_point : MC i_Mod_point 4 := ⟨wt_t 1086 (by decide +kernel) (by decide +kernel), z_Mod, (by decide +kernel), (by decide +kernel), (by decide +kernel)⟩
theorem t_Mod_point : Cond.instanceMethod yX12_point ∈ WT ∧ Cond.selects yX12_point.cls yX12_point yX12_point ∈ WT := ⟨wt_t 1084 (by decide +kernel) (by decide +kernel), wt_t 1085 (by decide +kernel) (by decide +kernel)⟩
theorem m_Mod_pointOf : MC i_Mod_pointOf 4 := ⟨wt_t 1090 (by decide +kernel) (by decide +kernel), z_Mod, (by decide +kernel), (by decide +kernel), (by decide +kernel)⟩
theorem t_Mod_pointOf : Cond.instanceMethod yX12_pointOf ∈ WT ∧ Cond.selects yX12_pointOf.cls yX12_pointOf yX12_pointOf ∈ WT := ⟨wt_t 1089 (by decide +kernel) (by decide +kernel), wt_s 45 (by decide +kernel) (by decide +kernel)⟩
theorem m_Mod_filled : MC i_Mod_filled 4 := ⟨wt_t 1094 (by decide +kernel) (by decide +kernel), z_Mod, (by decide +kernel), (by decide +kernel), (by decide +kernel)⟩
theorem t_Mod_filled : Cond.instanceMethod yX12_filled ∈ WT ∧ Cond.selects yX12_filled.cls yX12_filled yX12_filled ∈ WT := ⟨wt_t 1092 (by decide +kernel) (by decide +kernel), wt_t 1093 (by decide +kernel) (by decide +kernel)⟩
theorem m_Mod_laysLine : MC i_Mod_laysLine 2 := ⟨wt_t 1098 (by decide +kernel) (by decide +kernel), z_Mod, (by decide +kernel), (by decide +kernel), (by decide +kernel)⟩
theorem t_Mod_laysLine : Cond.instanceMethod yX12_laysLine ∈ WT ∧ Cond.selects yX12_laysLine.cls yX12_laysLine yX12_laysLine ∈ WT := ⟨wt_t 1097 (by decide +kernel) (by decide +kernel), wt_s 46 (by decide +kernel) (by decide +kernel)⟩
theorem m_Mod_adds : MC i_Mod_adds 2 := ⟨wt_t 1102 (by decide +kernel) (by decide +kernel), z_Mod, (by decide +kernel), (by decide +kernel), (by decide +kernel)⟩
theorem t_Mod_adds : Cond.instanceMethod yX12_adds ∈ WT ∧ Cond.selects yX12_adds.cls yX12_adds yX12_adds ∈ WT := ⟨wt_t 1101 (by decide +kernel) (by decide +kernel), wt_s 47 (by decide +kernel) (by decide +kernel)⟩
theorem m_Mod_isFilled : MC i_Mod_isFilled 2 := ⟨wt_t 1106 (by decide +kernel) (by decide +kernel), z_Mod, (by decide +kernel), (by decide +kernel), (by decide +kernel)⟩
theorem t_Mod_isFilled : Cond.instanceMethod yX12_isFilled ∈ WT ∧ Cond.selects yX12_isFilled.cls yX12_isFilled yX12_isFilled ∈ WT := ⟨wt_t 1105 (by decide +kernel) (by decide +kernel), wt_s 48 (by decide +kernel) (by decide +kernel)⟩
theorem m_Mod_differ : MC i_Mod_differ 2 := ⟨wt_t 1110 (by decide +kernel) (by decide +kernel), z_Mod, (by decide +kernel), (by decide +kernel), (by decide +kernel)⟩
theorem t_Mod_differ : Cond.instanceMethod yX12_differ ∈ WT ∧ Cond.selects yX12_differ.cls yX12_differ yX12_differ ∈ WT := ⟨wt_t 1108 (by decide +kernel) (by decide +kernel), wt_t 1109 (by decide +kernel) (by decide +kernel)⟩
theorem m_Mod_wrong : MC i_Mod_wrong 1 := ⟨wt_t 1114 (by decide +kernel) (by decide +kernel), z_Mod, (by decide +kernel), (by decide +kernel), (by decide +kernel)⟩
theorem t_Mod_wrong : Cond.instanceMethod yX12_wrong ∈ WT ∧ Cond.selects yX12_wrong.cls yX12_wrong yX12_wrong ∈ WT := ⟨wt_t 1112 (by decide +kernel) (by decide +kernel), wt_t 1113 (by decide +kernel) (by decide +kernel)⟩
theorem m_Mod_all : MC i_Mod_all 1 := ⟨wt_t 1118 (by decide +kernel) (by decide +kernel), z_Mod, (by decide +kernel), (by decide +kernel), (by decide +kernel)⟩
theorem t_Mod_all : Cond.instanceMethod yX12_all ∈ WT ∧ Cond.selects yX12_all.cls yX12_all yX12_all ∈ WT := ⟨wt_t 1116 (by decide +kernel) (by decide +kernel), wt_t 1117 (by decide +kernel) (by decide +kernel)⟩
theorem m_Mod_image : MC i_Mod_image 1 := ⟨wt_t 1122 (by decide +kernel) (by decide +kernel), z_Mod, (by decide +kernel), (by decide +kernel), (by decide +kernel)⟩
theorem t_Mod_image : Cond.instanceMethod yX12_image ∈ WT ∧ Cond.selects yX12_image.cls yX12_image yX12_image ∈ WT := ⟨wt_t 1120 (by decide +kernel) (by decide +kernel), wt_t 1121 (by decide +kernel) (by decide +kernel)⟩
theorem m_Mod_restore : MC i_Mod_restore 1 := ⟨wt_t 1126 (by decide +kernel) (by decide +kernel), z_Mod, (by decide +kernel), (by decide +kernel), (by decide +kernel)⟩
theorem t_Mod_restore : Cond.instanceMethod yX12_restore ∈ WT ∧ Cond.selects yX12_restore.cls yX12_restore yX12_restore ∈ WT := ⟨wt_t 1124 (by decide +kernel) (by decide +kernel), wt_t 1125 (by decide +kernel) (by decide +kernel)⟩
theorem m_Mod_count : MC i_Mod_count 1 := ⟨wt_t 1130 (by decide +kernel) (by decide +kernel), z_Mod, (by decide +kernel), (by decide +kernel), (by decide +kernel)⟩
theorem t_Mod_count : Cond.instanceMethod yX12_count ∈ WT ∧ Cond.selects yX12_count.cls yX12_count yX12_count ∈ WT := ⟨wt_t 1128 (by decide +kernel) (by decide +kernel), wt_t 1129 (by decide +kernel) (by decide +kernel)⟩
def i_Law_law : MI := (yL_law, code, 4, some .boolean)
end
section
theorem d_Acts_init_0 : decode i_Acts_init.2.1 0 = .ok (.aload_n 0, 1) := by decide +kernel
theorem d_Acts_init_1 : decode i_Acts_init.2.1 1 = .ok (.invokespecial 1, 3) := by decide +kernel
theorem d_Acts_init_4 : decode i_Acts_init.2.1 4 = .ok (.aload_n 0, 1) := by decide +kernel
theorem d_Acts_init_5 : decode i_Acts_init.2.1 5 = .ok (.bipush 8, 2) := by decide +kernel
theorem d_Acts_init_7 : decode i_Acts_init.2.1 7 = .ok (.newarray .long, 2) := by decide +kernel
theorem d_Acts_init_9 : decode i_Acts_init.2.1 9 = .ok (.putfield 9, 3) := by decide +kernel
theorem d_Acts_init_12 : decode i_Acts_init.2.1 12 = .ok (.aload_n 0, 1) := by decide +kernel
theorem d_Acts_init_13 : decode i_Acts_init.2.1 13 = .ok (.bipush 8, 2) := by decide +kernel
theorem d_Acts_init_15 : decode i_Acts_init.2.1 15 = .ok (.newarray .int, 2) := by decide +kernel
theorem d_Acts_init_17 : decode i_Acts_init.2.1 17 = .ok (.putfield 13, 3) := by decide +kernel
theorem d_Acts_init_20 : decode i_Acts_init.2.1 20 = .ok (.aload_n 0, 1) := by decide +kernel
theorem d_Acts_init_21 : decode i_Acts_init.2.1 21 = .ok (.bipush 8, 2) := by decide +kernel
theorem d_Acts_init_23 : decode i_Acts_init.2.1 23 = .ok (.newarray .int, 2) := by decide +kernel
theorem d_Acts_init_25 : decode i_Acts_init.2.1 25 = .ok (.putfield 17, 3) := by decide +kernel
theorem d_Acts_init_28 : decode i_Acts_init.2.1 28 = .ok (.return_, 1) := by decide +kernel
theorem d_Acts_remember_0 : decode i_Acts_remember.2.1 0 = .ok (.aload_n 0, 1) := by decide +kernel
theorem d_Acts_remember_1 : decode i_Acts_remember.2.1 1 = .ok (.getfield 20, 3) := by decide +kernel
theorem d_Acts_remember_4 : decode i_Acts_remember.2.1 4 = .ok (.bipush 8, 2) := by decide +kernel
theorem d_Acts_remember_6 : decode i_Acts_remember.2.1 6 = .ok (.if_icmp .lt 7, 3) := by decide +kernel
theorem d_Acts_remember_9 : decode i_Acts_remember.2.1 9 = .ok (.aload_n 0, 1) := by decide +kernel
theorem d_Acts_remember_10 : decode i_Acts_remember.2.1 10 = .ok (.invokevirtual 24, 3) := by decide +kernel
theorem d_Acts_remember_13 : decode i_Acts_remember.2.1 13 = .ok (.aload_n 0, 1) := by decide +kernel
theorem d_Acts_remember_14 : decode i_Acts_remember.2.1 14 = .ok (.getfield 20, 3) := by decide +kernel
theorem d_Acts_remember_17 : decode i_Acts_remember.2.1 17 = .ok (.ifCond .lt 12, 3) := by decide +kernel
theorem d_Acts_remember_20 : decode i_Acts_remember.2.1 20 = .ok (.aload_n 0, 1) := by decide +kernel
theorem d_Acts_remember_21 : decode i_Acts_remember.2.1 21 = .ok (.getfield 20, 3) := by decide +kernel
theorem d_Acts_remember_24 : decode i_Acts_remember.2.1 24 = .ok (.bipush 8, 2) := by decide +kernel
theorem d_Acts_remember_26 : decode i_Acts_remember.2.1 26 = .ok (.if_icmp .lt 4, 3) := by decide +kernel
theorem d_Acts_remember_29 : decode i_Acts_remember.2.1 29 = .ok (.return_, 1) := by decide +kernel
theorem d_Acts_remember_30 : decode i_Acts_remember.2.1 30 = .ok (.aload_n 0, 1) := by decide +kernel
theorem d_Acts_remember_31 : decode i_Acts_remember.2.1 31 = .ok (.getfield 9, 3) := by decide +kernel
theorem d_Acts_remember_34 : decode i_Acts_remember.2.1 34 = .ok (.aload_n 0, 1) := by decide +kernel
theorem d_Acts_remember_35 : decode i_Acts_remember.2.1 35 = .ok (.getfield 20, 3) := by decide +kernel
theorem d_Acts_remember_38 : decode i_Acts_remember.2.1 38 = .ok (.aload_n 1, 1) := by decide +kernel
theorem d_Acts_remember_39 : decode i_Acts_remember.2.1 39 = .ok (.getfield 27, 3) := by decide +kernel
theorem d_Acts_remember_42 : decode i_Acts_remember.2.1 42 = .ok (.lastore, 1) := by decide +kernel
theorem d_Acts_remember_43 : decode i_Acts_remember.2.1 43 = .ok (.aload_n 0, 1) := by decide +kernel
theorem d_Acts_remember_44 : decode i_Acts_remember.2.1 44 = .ok (.getfield 13, 3) := by decide +kernel
theorem d_Acts_remember_47 : decode i_Acts_remember.2.1 47 = .ok (.aload_n 0, 1) := by decide +kernel
theorem d_Acts_remember_48 : decode i_Acts_remember.2.1 48 = .ok (.getfield 20, 3) := by decide +kernel
theorem d_Acts_remember_51 : decode i_Acts_remember.2.1 51 = .ok (.aload_n 1, 1) := by decide +kernel
theorem d_Acts_remember_52 : decode i_Acts_remember.2.1 52 = .ok (.getfield 32, 3) := by decide +kernel
theorem d_Acts_remember_55 : decode i_Acts_remember.2.1 55 = .ok (.iastore, 1) := by decide +kernel
theorem d_Acts_remember_56 : decode i_Acts_remember.2.1 56 = .ok (.aload_n 0, 1) := by decide +kernel
theorem d_Acts_remember_57 : decode i_Acts_remember.2.1 57 = .ok (.getfield 17, 3) := by decide +kernel
theorem d_Acts_remember_60 : decode i_Acts_remember.2.1 60 = .ok (.aload_n 0, 1) := by decide +kernel
theorem d_Acts_remember_61 : decode i_Acts_remember.2.1 61 = .ok (.getfield 20, 3) := by decide +kernel
theorem d_Acts_remember_64 : decode i_Acts_remember.2.1 64 = .ok (.aload_n 1, 1) := by decide +kernel
theorem d_Acts_remember_65 : decode i_Acts_remember.2.1 65 = .ok (.getfield 35, 3) := by decide +kernel
theorem d_Acts_remember_68 : decode i_Acts_remember.2.1 68 = .ok (.iastore, 1) := by decide +kernel
theorem d_Acts_remember_69 : decode i_Acts_remember.2.1 69 = .ok (.aload_n 0, 1) := by decide +kernel
theorem d_Acts_remember_70 : decode i_Acts_remember.2.1 70 = .ok (.dup, 1) := by decide +kernel
theorem d_Acts_remember_71 : decode i_Acts_remember.2.1 71 = .ok (.getfield 20, 3) := by decide +kernel
theorem d_Acts_remember_74 : decode i_Acts_remember.2.1 74 = .ok (.iconst 1, 1) := by decide +kernel
theorem d_Acts_remember_75 : decode i_Acts_remember.2.1 75 = .ok (.iadd, 1) := by decide +kernel
theorem d_Acts_remember_76 : decode i_Acts_remember.2.1 76 = .ok (.putfield 20, 3) := by decide +kernel
theorem d_Acts_remember_79 : decode i_Acts_remember.2.1 79 = .ok (.return_, 1) := by decide +kernel
theorem d_Acts_forgetOldest_0 : decode i_Acts_forgetOldest.2.1 0 = .ok (.iconst 1, 1) := by decide +kernel
theorem d_Acts_forgetOldest_1 : decode i_Acts_forgetOldest.2.1 1 = .ok (.istore_n 1, 1) := by decide +kernel
theorem d_Acts_forgetOldest_2 : decode i_Acts_forgetOldest.2.1 2 = .ok (.iload_n 1, 1) := by decide +kernel
theorem d_Acts_forgetOldest_3 : decode i_Acts_forgetOldest.2.1 3 = .ok (.bipush 8, 2) := by decide +kernel
theorem d_Acts_forgetOldest_5 : decode i_Acts_forgetOldest.2.1 5 = .ok (.if_icmp .ge 51, 3) := by decide +kernel
theorem d_Acts_forgetOldest_8 : decode i_Acts_forgetOldest.2.1 8 = .ok (.aload_n 0, 1) := by decide +kernel
theorem d_Acts_forgetOldest_9 : decode i_Acts_forgetOldest.2.1 9 = .ok (.getfield 9, 3) := by decide +kernel
theorem d_Acts_forgetOldest_12 : decode i_Acts_forgetOldest.2.1 12 = .ok (.iload_n 1, 1) := by decide +kernel
theorem d_Acts_forgetOldest_13 : decode i_Acts_forgetOldest.2.1 13 = .ok (.iconst 1, 1) := by decide +kernel
theorem d_Acts_forgetOldest_14 : decode i_Acts_forgetOldest.2.1 14 = .ok (.isub, 1) := by decide +kernel
theorem d_Acts_forgetOldest_15 : decode i_Acts_forgetOldest.2.1 15 = .ok (.aload_n 0, 1) := by decide +kernel
theorem d_Acts_forgetOldest_16 : decode i_Acts_forgetOldest.2.1 16 = .ok (.getfield 9, 3) := by decide +kernel
theorem d_Acts_forgetOldest_19 : decode i_Acts_forgetOldest.2.1 19 = .ok (.iload_n 1, 1) := by decide +kernel
theorem d_Acts_forgetOldest_20 : decode i_Acts_forgetOldest.2.1 20 = .ok (.laload, 1) := by decide +kernel
theorem d_Acts_forgetOldest_21 : decode i_Acts_forgetOldest.2.1 21 = .ok (.lastore, 1) := by decide +kernel
theorem d_Acts_forgetOldest_22 : decode i_Acts_forgetOldest.2.1 22 = .ok (.aload_n 0, 1) := by decide +kernel
theorem d_Acts_forgetOldest_23 : decode i_Acts_forgetOldest.2.1 23 = .ok (.getfield 13, 3) := by decide +kernel
theorem d_Acts_forgetOldest_26 : decode i_Acts_forgetOldest.2.1 26 = .ok (.iload_n 1, 1) := by decide +kernel
theorem d_Acts_forgetOldest_27 : decode i_Acts_forgetOldest.2.1 27 = .ok (.iconst 1, 1) := by decide +kernel
theorem d_Acts_forgetOldest_28 : decode i_Acts_forgetOldest.2.1 28 = .ok (.isub, 1) := by decide +kernel
theorem d_Acts_forgetOldest_29 : decode i_Acts_forgetOldest.2.1 29 = .ok (.aload_n 0, 1) := by decide +kernel
theorem d_Acts_forgetOldest_30 : decode i_Acts_forgetOldest.2.1 30 = .ok (.getfield 13, 3) := by decide +kernel
theorem d_Acts_forgetOldest_33 : decode i_Acts_forgetOldest.2.1 33 = .ok (.iload_n 1, 1) := by decide +kernel
theorem d_Acts_forgetOldest_34 : decode i_Acts_forgetOldest.2.1 34 = .ok (.iaload, 1) := by decide +kernel
theorem d_Acts_forgetOldest_35 : decode i_Acts_forgetOldest.2.1 35 = .ok (.iastore, 1) := by decide +kernel
theorem d_Acts_forgetOldest_36 : decode i_Acts_forgetOldest.2.1 36 = .ok (.aload_n 0, 1) := by decide +kernel
theorem d_Acts_forgetOldest_37 : decode i_Acts_forgetOldest.2.1 37 = .ok (.getfield 17, 3) := by decide +kernel
theorem d_Acts_forgetOldest_40 : decode i_Acts_forgetOldest.2.1 40 = .ok (.iload_n 1, 1) := by decide +kernel
theorem d_Acts_forgetOldest_41 : decode i_Acts_forgetOldest.2.1 41 = .ok (.iconst 1, 1) := by decide +kernel
theorem d_Acts_forgetOldest_42 : decode i_Acts_forgetOldest.2.1 42 = .ok (.isub, 1) := by decide +kernel
theorem d_Acts_forgetOldest_43 : decode i_Acts_forgetOldest.2.1 43 = .ok (.aload_n 0, 1) := by decide +kernel
theorem d_Acts_forgetOldest_44 : decode i_Acts_forgetOldest.2.1 44 = .ok (.getfield 17, 3) := by decide +kernel
theorem d_Acts_forgetOldest_47 : decode i_Acts_forgetOldest.2.1 47 = .ok (.iload_n 1, 1) := by decide +kernel
theorem d_Acts_forgetOldest_48 : decode i_Acts_forgetOldest.2.1 48 = .ok (.iaload, 1) := by decide +kernel
theorem d_Acts_forgetOldest_49 : decode i_Acts_forgetOldest.2.1 49 = .ok (.iastore, 1) := by decide +kernel
theorem d_Acts_forgetOldest_50 : decode i_Acts_forgetOldest.2.1 50 = .ok (.iinc 1 1, 3) := by decide +kernel
theorem d_Acts_forgetOldest_53 : decode i_Acts_forgetOldest.2.1 53 = .ok (.goto (-51), 3) := by decide +kernel
theorem d_Acts_forgetOldest_56 : decode i_Acts_forgetOldest.2.1 56 = .ok (.aload_n 0, 1) := by decide +kernel
theorem d_Acts_forgetOldest_57 : decode i_Acts_forgetOldest.2.1 57 = .ok (.bipush 7, 2) := by decide +kernel
theorem d_Acts_forgetOldest_59 : decode i_Acts_forgetOldest.2.1 59 = .ok (.putfield 20, 3) := by decide +kernel
theorem d_Acts_forgetOldest_62 : decode i_Acts_forgetOldest.2.1 62 = .ok (.return_, 1) := by decide +kernel
theorem d_Acts_takeBack_0 : decode i_Acts_takeBack.2.1 0 = .ok (.aload_n 0, 1) := by decide +kernel
theorem d_Acts_takeBack_1 : decode i_Acts_takeBack.2.1 1 = .ok (.getfield 20, 3) := by decide +kernel
theorem d_Acts_takeBack_4 : decode i_Acts_takeBack.2.1 4 = .ok (.ifCond .le 12, 3) := by decide +kernel
theorem d_Acts_takeBack_7 : decode i_Acts_takeBack.2.1 7 = .ok (.aload_n 0, 1) := by decide +kernel
theorem d_Acts_takeBack_8 : decode i_Acts_takeBack.2.1 8 = .ok (.getfield 20, 3) := by decide +kernel
theorem d_Acts_takeBack_11 : decode i_Acts_takeBack.2.1 11 = .ok (.bipush 8, 2) := by decide +kernel
theorem d_Acts_takeBack_13 : decode i_Acts_takeBack.2.1 13 = .ok (.if_icmp .le 5, 3) := by decide +kernel
theorem d_Acts_takeBack_16 : decode i_Acts_takeBack.2.1 16 = .ok (.iconst 0, 1) := by decide +kernel
theorem d_Acts_takeBack_17 : decode i_Acts_takeBack.2.1 17 = .ok (.ireturn, 1) := by decide +kernel
theorem d_Acts_takeBack_18 : decode i_Acts_takeBack.2.1 18 = .ok (.aload_n 0, 1) := by decide +kernel
theorem d_Acts_takeBack_19 : decode i_Acts_takeBack.2.1 19 = .ok (.dup, 1) := by decide +kernel
theorem d_Acts_takeBack_20 : decode i_Acts_takeBack.2.1 20 = .ok (.getfield 20, 3) := by decide +kernel
theorem d_Acts_takeBack_23 : decode i_Acts_takeBack.2.1 23 = .ok (.iconst 1, 1) := by decide +kernel
theorem d_Acts_takeBack_24 : decode i_Acts_takeBack.2.1 24 = .ok (.isub, 1) := by decide +kernel
theorem d_Acts_takeBack_25 : decode i_Acts_takeBack.2.1 25 = .ok (.putfield 20, 3) := by decide +kernel
theorem d_Acts_takeBack_28 : decode i_Acts_takeBack.2.1 28 = .ok (.aload_n 1, 1) := by decide +kernel
theorem d_Acts_takeBack_29 : decode i_Acts_takeBack.2.1 29 = .ok (.aload_n 0, 1) := by decide +kernel
theorem d_Acts_takeBack_30 : decode i_Acts_takeBack.2.1 30 = .ok (.getfield 9, 3) := by decide +kernel
theorem d_Acts_takeBack_33 : decode i_Acts_takeBack.2.1 33 = .ok (.aload_n 0, 1) := by decide +kernel
theorem d_Acts_takeBack_34 : decode i_Acts_takeBack.2.1 34 = .ok (.getfield 20, 3) := by decide +kernel
theorem d_Acts_takeBack_37 : decode i_Acts_takeBack.2.1 37 = .ok (.laload, 1) := by decide +kernel
theorem d_Acts_takeBack_38 : decode i_Acts_takeBack.2.1 38 = .ok (.putfield 27, 3) := by decide +kernel
theorem d_Acts_takeBack_41 : decode i_Acts_takeBack.2.1 41 = .ok (.aload_n 1, 1) := by decide +kernel
theorem d_Acts_takeBack_42 : decode i_Acts_takeBack.2.1 42 = .ok (.aload_n 0, 1) := by decide +kernel
theorem d_Acts_takeBack_43 : decode i_Acts_takeBack.2.1 43 = .ok (.getfield 13, 3) := by decide +kernel
theorem d_Acts_takeBack_46 : decode i_Acts_takeBack.2.1 46 = .ok (.aload_n 0, 1) := by decide +kernel
theorem d_Acts_takeBack_47 : decode i_Acts_takeBack.2.1 47 = .ok (.getfield 20, 3) := by decide +kernel
theorem d_Acts_takeBack_50 : decode i_Acts_takeBack.2.1 50 = .ok (.iaload, 1) := by decide +kernel
theorem d_Acts_takeBack_51 : decode i_Acts_takeBack.2.1 51 = .ok (.putfield 32, 3) := by decide +kernel
theorem d_Acts_takeBack_54 : decode i_Acts_takeBack.2.1 54 = .ok (.aload_n 1, 1) := by decide +kernel
theorem d_Acts_takeBack_55 : decode i_Acts_takeBack.2.1 55 = .ok (.aload_n 0, 1) := by decide +kernel
theorem d_Acts_takeBack_56 : decode i_Acts_takeBack.2.1 56 = .ok (.getfield 17, 3) := by decide +kernel
theorem d_Acts_takeBack_59 : decode i_Acts_takeBack.2.1 59 = .ok (.aload_n 0, 1) := by decide +kernel
theorem d_Acts_takeBack_60 : decode i_Acts_takeBack.2.1 60 = .ok (.getfield 20, 3) := by decide +kernel
theorem d_Acts_takeBack_63 : decode i_Acts_takeBack.2.1 63 = .ok (.iaload, 1) := by decide +kernel
theorem d_Acts_takeBack_64 : decode i_Acts_takeBack.2.1 64 = .ok (.putfield 35, 3) := by decide +kernel
theorem d_Acts_takeBack_67 : decode i_Acts_takeBack.2.1 67 = .ok (.iconst 1, 1) := by decide +kernel
theorem d_Acts_takeBack_68 : decode i_Acts_takeBack.2.1 68 = .ok (.ireturn, 1) := by decide +kernel
theorem d_Bend_init_0 : decode i_Bend_init.2.1 0 = .ok (.aload_n 0, 1) := by decide +kernel
theorem d_Bend_init_1 : decode i_Bend_init.2.1 1 = .ok (.invokespecial 1, 3) := by decide +kernel
theorem d_Bend_init_4 : decode i_Bend_init.2.1 4 = .ok (.return_, 1) := by decide +kernel
theorem d_Bend_from_0 : decode i_Bend_from.2.1 0 = .ok (.aload_n 0, 1) := by decide +kernel
theorem d_Bend_from_1 : decode i_Bend_from.2.1 1 = .ok (.iload_n 1, 1) := by decide +kernel
theorem d_Bend_from_2 : decode i_Bend_from.2.1 2 = .ok (.putfield 7, 3) := by decide +kernel
theorem d_Bend_from_5 : decode i_Bend_from.2.1 5 = .ok (.aload_n 0, 1) := by decide +kernel
theorem d_Bend_from_6 : decode i_Bend_from.2.1 6 = .ok (.iload_n 2, 1) := by decide +kernel
theorem d_Bend_from_7 : decode i_Bend_from.2.1 7 = .ok (.putfield 13, 3) := by decide +kernel
theorem d_Bend_from_10 : decode i_Bend_from.2.1 10 = .ok (.return_, 1) := by decide +kernel
theorem d_Bend_by_0 : decode i_Bend_by.2.1 0 = .ok (.aload_n 0, 1) := by decide +kernel
theorem d_Bend_by_1 : decode i_Bend_by.2.1 1 = .ok (.iload_n 1, 1) := by decide +kernel
theorem d_Bend_by_2 : decode i_Bend_by.2.1 2 = .ok (.putfield 16, 3) := by decide +kernel
theorem d_Bend_by_5 : decode i_Bend_by.2.1 5 = .ok (.aload_n 0, 1) := by decide +kernel
theorem d_Bend_by_6 : decode i_Bend_by.2.1 6 = .ok (.iload_n 2, 1) := by decide +kernel
theorem d_Bend_by_7 : decode i_Bend_by.2.1 7 = .ok (.putfield 19, 3) := by decide +kernel
theorem d_Bend_by_10 : decode i_Bend_by.2.1 10 = .ok (.return_, 1) := by decide +kernel
theorem d_Bend_to_0 : decode i_Bend_to.2.1 0 = .ok (.aload_n 0, 1) := by decide +kernel
theorem d_Bend_to_1 : decode i_Bend_to.2.1 1 = .ok (.iload_n 1, 1) := by decide +kernel
theorem d_Bend_to_2 : decode i_Bend_to.2.1 2 = .ok (.putfield 22, 3) := by decide +kernel
theorem d_Bend_to_5 : decode i_Bend_to.2.1 5 = .ok (.aload_n 0, 1) := by decide +kernel
theorem d_Bend_to_6 : decode i_Bend_to.2.1 6 = .ok (.iload_n 2, 1) := by decide +kernel
theorem d_Bend_to_7 : decode i_Bend_to.2.1 7 = .ok (.putfield 25, 3) := by decide +kernel
theorem d_Bend_to_10 : decode i_Bend_to.2.1 10 = .ok (.return_, 1) := by decide +kernel
theorem d_Bend_turn_0 : decode i_Bend_turn.2.1 0 = .ok (.aload_n 0, 1) := by decide +kernel
theorem d_Bend_turn_1 : decode i_Bend_turn.2.1 1 = .ok (.getfield 16, 3) := by decide +kernel
theorem d_Bend_turn_4 : decode i_Bend_turn.2.1 4 = .ok (.aload_n 0, 1) := by decide +kernel
theorem d_Bend_turn_5 : decode i_Bend_turn.2.1 5 = .ok (.getfield 7, 3) := by decide +kernel
theorem d_Bend_turn_8 : decode i_Bend_turn.2.1 8 = .ok (.isub, 1) := by decide +kernel
theorem d_Bend_turn_9 : decode i_Bend_turn.2.1 9 = .ok (.aload_n 0, 1) := by decide +kernel
theorem d_Bend_turn_10 : decode i_Bend_turn.2.1 10 = .ok (.getfield 25, 3) := by decide +kernel
theorem d_Bend_turn_13 : decode i_Bend_turn.2.1 13 = .ok (.aload_n 0, 1) := by decide +kernel
theorem d_Bend_turn_14 : decode i_Bend_turn.2.1 14 = .ok (.getfield 19, 3) := by decide +kernel
theorem d_Bend_turn_17 : decode i_Bend_turn.2.1 17 = .ok (.isub, 1) := by decide +kernel
theorem d_Bend_turn_18 : decode i_Bend_turn.2.1 18 = .ok (.imul, 1) := by decide +kernel
theorem d_Bend_turn_19 : decode i_Bend_turn.2.1 19 = .ok (.aload_n 0, 1) := by decide +kernel
theorem d_Bend_turn_20 : decode i_Bend_turn.2.1 20 = .ok (.getfield 19, 3) := by decide +kernel
theorem d_Bend_turn_23 : decode i_Bend_turn.2.1 23 = .ok (.aload_n 0, 1) := by decide +kernel
theorem d_Bend_turn_24 : decode i_Bend_turn.2.1 24 = .ok (.getfield 13, 3) := by decide +kernel
theorem d_Bend_turn_27 : decode i_Bend_turn.2.1 27 = .ok (.isub, 1) := by decide +kernel
theorem d_Bend_turn_28 : decode i_Bend_turn.2.1 28 = .ok (.aload_n 0, 1) := by decide +kernel
theorem d_Bend_turn_29 : decode i_Bend_turn.2.1 29 = .ok (.getfield 22, 3) := by decide +kernel
theorem d_Bend_turn_32 : decode i_Bend_turn.2.1 32 = .ok (.aload_n 0, 1) := by decide +kernel
theorem d_Bend_turn_33 : decode i_Bend_turn.2.1 33 = .ok (.getfield 16, 3) := by decide +kernel
theorem d_Bend_turn_36 : decode i_Bend_turn.2.1 36 = .ok (.isub, 1) := by decide +kernel
theorem d_Bend_turn_37 : decode i_Bend_turn.2.1 37 = .ok (.imul, 1) := by decide +kernel
theorem d_Bend_turn_38 : decode i_Bend_turn.2.1 38 = .ok (.isub, 1) := by decide +kernel
theorem d_Bend_turn_39 : decode i_Bend_turn.2.1 39 = .ok (.istore_n 1, 1) := by decide +kernel
theorem d_Bend_turn_40 : decode i_Bend_turn.2.1 40 = .ok (.aload_n 0, 1) := by decide +kernel
theorem d_Bend_turn_41 : decode i_Bend_turn.2.1 41 = .ok (.getfield 16, 3) := by decide +kernel
theorem d_Bend_turn_44 : decode i_Bend_turn.2.1 44 = .ok (.aload_n 0, 1) := by decide +kernel
theorem d_Bend_turn_45 : decode i_Bend_turn.2.1 45 = .ok (.getfield 7, 3) := by decide +kernel
theorem d_Bend_turn_48 : decode i_Bend_turn.2.1 48 = .ok (.isub, 1) := by decide +kernel
theorem d_Bend_turn_49 : decode i_Bend_turn.2.1 49 = .ok (.aload_n 0, 1) := by decide +kernel
theorem d_Bend_turn_50 : decode i_Bend_turn.2.1 50 = .ok (.getfield 19, 3) := by decide +kernel
theorem d_Bend_turn_53 : decode i_Bend_turn.2.1 53 = .ok (.aload_n 0, 1) := by decide +kernel
theorem d_Bend_turn_54 : decode i_Bend_turn.2.1 54 = .ok (.getfield 13, 3) := by decide +kernel
theorem d_Bend_turn_57 : decode i_Bend_turn.2.1 57 = .ok (.isub, 1) := by decide +kernel
theorem d_Bend_turn_58 : decode i_Bend_turn.2.1 58 = .ok (.invokestatic 28, 3) := by decide +kernel
theorem d_Bend_turn_61 : decode i_Bend_turn.2.1 61 = .ok (.aload_n 0, 1) := by decide +kernel
theorem d_Bend_turn_62 : decode i_Bend_turn.2.1 62 = .ok (.getfield 22, 3) := by decide +kernel
theorem d_Bend_turn_65 : decode i_Bend_turn.2.1 65 = .ok (.aload_n 0, 1) := by decide +kernel
theorem d_Bend_turn_66 : decode i_Bend_turn.2.1 66 = .ok (.getfield 16, 3) := by decide +kernel
theorem d_Bend_turn_69 : decode i_Bend_turn.2.1 69 = .ok (.isub, 1) := by decide +kernel
theorem d_Bend_turn_70 : decode i_Bend_turn.2.1 70 = .ok (.aload_n 0, 1) := by decide +kernel
theorem d_Bend_turn_71 : decode i_Bend_turn.2.1 71 = .ok (.getfield 25, 3) := by decide +kernel
theorem d_Bend_turn_74 : decode i_Bend_turn.2.1 74 = .ok (.aload_n 0, 1) := by decide +kernel
theorem d_Bend_turn_75 : decode i_Bend_turn.2.1 75 = .ok (.getfield 19, 3) := by decide +kernel
theorem d_Bend_turn_78 : decode i_Bend_turn.2.1 78 = .ok (.isub, 1) := by decide +kernel
theorem d_Bend_turn_79 : decode i_Bend_turn.2.1 79 = .ok (.invokestatic 28, 3) := by decide +kernel
theorem d_Bend_turn_82 : decode i_Bend_turn.2.1 82 = .ok (.iadd, 1) := by decide +kernel
theorem d_Bend_turn_83 : decode i_Bend_turn.2.1 83 = .ok (.istore_n 2, 1) := by decide +kernel
theorem d_Bend_turn_84 : decode i_Bend_turn.2.1 84 = .ok (.iload_n 2, 1) := by decide +kernel
theorem d_Bend_turn_85 : decode i_Bend_turn.2.1 85 = .ok (.ifCond .ne 7, 3) := by decide +kernel
theorem d_Bend_turn_88 : decode i_Bend_turn.2.1 88 = .ok (.iconst 0, 1) := by decide +kernel
theorem d_Bend_turn_89 : decode i_Bend_turn.2.1 89 = .ok (.goto 12, 3) := by decide +kernel
theorem d_Bend_turn_92 : decode i_Bend_turn.2.1 92 = .ok (.bipush 8, 2) := by decide +kernel
theorem d_Bend_turn_94 : decode i_Bend_turn.2.1 94 = .ok (.iload_n 1, 1) := by decide +kernel
theorem d_Bend_turn_95 : decode i_Bend_turn.2.1 95 = .ok (.invokestatic 32, 3) := by decide +kernel
theorem d_Bend_turn_98 : decode i_Bend_turn.2.1 98 = .ok (.imul, 1) := by decide +kernel
theorem d_Bend_turn_99 : decode i_Bend_turn.2.1 99 = .ok (.iload_n 2, 1) := by decide +kernel
theorem d_Bend_turn_100 : decode i_Bend_turn.2.1 100 = .ok (.idiv, 1) := by decide +kernel
theorem d_Bend_turn_101 : decode i_Bend_turn.2.1 101 = .ok (.ireturn, 1) := by decide +kernel
theorem d_Bend_isSharp_0 : decode i_Bend_isSharp.2.1 0 = .ok (.aload_n 0, 1) := by decide +kernel
theorem d_Bend_isSharp_1 : decode i_Bend_isSharp.2.1 1 = .ok (.getfield 16, 3) := by decide +kernel
theorem d_Bend_isSharp_4 : decode i_Bend_isSharp.2.1 4 = .ok (.aload_n 0, 1) := by decide +kernel
theorem d_Bend_isSharp_5 : decode i_Bend_isSharp.2.1 5 = .ok (.getfield 7, 3) := by decide +kernel
theorem d_Bend_isSharp_8 : decode i_Bend_isSharp.2.1 8 = .ok (.isub, 1) := by decide +kernel
theorem d_Bend_isSharp_9 : decode i_Bend_isSharp.2.1 9 = .ok (.aload_n 0, 1) := by decide +kernel
theorem d_Bend_isSharp_10 : decode i_Bend_isSharp.2.1 10 = .ok (.getfield 22, 3) := by decide +kernel
theorem d_Bend_isSharp_13 : decode i_Bend_isSharp.2.1 13 = .ok (.aload_n 0, 1) := by decide +kernel
theorem d_Bend_isSharp_14 : decode i_Bend_isSharp.2.1 14 = .ok (.getfield 16, 3) := by decide +kernel
theorem d_Bend_isSharp_17 : decode i_Bend_isSharp.2.1 17 = .ok (.isub, 1) := by decide +kernel
theorem d_Bend_isSharp_18 : decode i_Bend_isSharp.2.1 18 = .ok (.imul, 1) := by decide +kernel
theorem d_Bend_isSharp_19 : decode i_Bend_isSharp.2.1 19 = .ok (.aload_n 0, 1) := by decide +kernel
theorem d_Bend_isSharp_20 : decode i_Bend_isSharp.2.1 20 = .ok (.getfield 19, 3) := by decide +kernel
theorem d_Bend_isSharp_23 : decode i_Bend_isSharp.2.1 23 = .ok (.aload_n 0, 1) := by decide +kernel
theorem d_Bend_isSharp_24 : decode i_Bend_isSharp.2.1 24 = .ok (.getfield 13, 3) := by decide +kernel
theorem d_Bend_isSharp_27 : decode i_Bend_isSharp.2.1 27 = .ok (.isub, 1) := by decide +kernel
theorem d_Bend_isSharp_28 : decode i_Bend_isSharp.2.1 28 = .ok (.aload_n 0, 1) := by decide +kernel
theorem d_Bend_isSharp_29 : decode i_Bend_isSharp.2.1 29 = .ok (.getfield 25, 3) := by decide +kernel
theorem d_Bend_isSharp_32 : decode i_Bend_isSharp.2.1 32 = .ok (.aload_n 0, 1) := by decide +kernel
theorem d_Bend_isSharp_33 : decode i_Bend_isSharp.2.1 33 = .ok (.getfield 19, 3) := by decide +kernel
theorem d_Bend_isSharp_36 : decode i_Bend_isSharp.2.1 36 = .ok (.isub, 1) := by decide +kernel
theorem d_Bend_isSharp_37 : decode i_Bend_isSharp.2.1 37 = .ok (.imul, 1) := by decide +kernel
theorem d_Bend_isSharp_38 : decode i_Bend_isSharp.2.1 38 = .ok (.iadd, 1) := by decide +kernel
theorem d_Bend_isSharp_39 : decode i_Bend_isSharp.2.1 39 = .ok (.istore_n 2, 1) := by decide +kernel
theorem d_Bend_isSharp_40 : decode i_Bend_isSharp.2.1 40 = .ok (.iload_n 2, 1) := by decide +kernel
theorem d_Bend_isSharp_41 : decode i_Bend_isSharp.2.1 41 = .ok (.ifCond .le 11, 3) := by decide +kernel
theorem d_Bend_isSharp_44 : decode i_Bend_isSharp.2.1 44 = .ok (.aload_n 0, 1) := by decide +kernel
theorem d_Bend_isSharp_45 : decode i_Bend_isSharp.2.1 45 = .ok (.invokevirtual 38, 3) := by decide +kernel
theorem d_Bend_isSharp_48 : decode i_Bend_isSharp.2.1 48 = .ok (.iload_n 1, 1) := by decide +kernel
theorem d_Bend_isSharp_49 : decode i_Bend_isSharp.2.1 49 = .ok (.if_icmp .lt 7, 3) := by decide +kernel
theorem d_Bend_isSharp_52 : decode i_Bend_isSharp.2.1 52 = .ok (.iconst 1, 1) := by decide +kernel
theorem d_Bend_isSharp_53 : decode i_Bend_isSharp.2.1 53 = .ok (.goto 4, 3) := by decide +kernel
theorem d_Bend_isSharp_56 : decode i_Bend_isSharp.2.1 56 = .ok (.iconst 0, 1) := by decide +kernel
theorem d_Bend_isSharp_57 : decode i_Bend_isSharp.2.1 57 = .ok (.ireturn, 1) := by decide +kernel
theorem d_Bend_greater_0 : decode i_Bend_greater.2.1 0 = .ok (.iload_n 0, 1) := by decide +kernel
theorem d_Bend_greater_1 : decode i_Bend_greater.2.1 1 = .ok (.invokestatic 32, 3) := by decide +kernel
theorem d_Bend_greater_4 : decode i_Bend_greater.2.1 4 = .ok (.iload_n 1, 1) := by decide +kernel
theorem d_Bend_greater_5 : decode i_Bend_greater.2.1 5 = .ok (.invokestatic 32, 3) := by decide +kernel
theorem d_Bend_greater_8 : decode i_Bend_greater.2.1 8 = .ok (.invokestatic 42, 3) := by decide +kernel
theorem d_Bend_greater_11 : decode i_Bend_greater.2.1 11 = .ok (.ireturn, 1) := by decide +kernel
theorem d_Bend_xOnRound_0 : decode i_Bend_xOnRound.2.1 0 = .ok (.iload_n 1, 1) := by decide +kernel
theorem d_Bend_xOnRound_1 : decode i_Bend_xOnRound.2.1 1 = .ok (.aload_n 0, 1) := by decide +kernel
theorem d_Bend_xOnRound_2 : decode i_Bend_xOnRound.2.1 2 = .ok (.getfield 7, 3) := by decide +kernel
theorem d_Bend_xOnRound_5 : decode i_Bend_xOnRound.2.1 5 = .ok (.aload_n 0, 1) := by decide +kernel
theorem d_Bend_xOnRound_6 : decode i_Bend_xOnRound.2.1 6 = .ok (.getfield 16, 3) := by decide +kernel
theorem d_Bend_xOnRound_9 : decode i_Bend_xOnRound.2.1 9 = .ok (.aload_n 0, 1) := by decide +kernel
theorem d_Bend_xOnRound_10 : decode i_Bend_xOnRound.2.1 10 = .ok (.getfield 22, 3) := by decide +kernel
theorem d_Bend_xOnRound_13 : decode i_Bend_xOnRound.2.1 13 = .ok (.invokestatic 45, 3) := by decide +kernel
theorem d_Bend_xOnRound_16 : decode i_Bend_xOnRound.2.1 16 = .ok (.ireturn, 1) := by decide +kernel
theorem d_Bend_yOnRound_0 : decode i_Bend_yOnRound.2.1 0 = .ok (.iload_n 1, 1) := by decide +kernel
theorem d_Bend_yOnRound_1 : decode i_Bend_yOnRound.2.1 1 = .ok (.aload_n 0, 1) := by decide +kernel
theorem d_Bend_yOnRound_2 : decode i_Bend_yOnRound.2.1 2 = .ok (.getfield 13, 3) := by decide +kernel
theorem d_Bend_yOnRound_5 : decode i_Bend_yOnRound.2.1 5 = .ok (.aload_n 0, 1) := by decide +kernel
theorem d_Bend_yOnRound_6 : decode i_Bend_yOnRound.2.1 6 = .ok (.getfield 19, 3) := by decide +kernel
theorem d_Bend_yOnRound_9 : decode i_Bend_yOnRound.2.1 9 = .ok (.aload_n 0, 1) := by decide +kernel
theorem d_Bend_yOnRound_10 : decode i_Bend_yOnRound.2.1 10 = .ok (.getfield 25, 3) := by decide +kernel
theorem d_Bend_yOnRound_13 : decode i_Bend_yOnRound.2.1 13 = .ok (.invokestatic 45, 3) := by decide +kernel
theorem d_Bend_yOnRound_16 : decode i_Bend_yOnRound.2.1 16 = .ok (.ireturn, 1) := by decide +kernel
theorem d_Bend_xOfVertex_0 : decode i_Bend_xOfVertex.2.1 0 = .ok (.bipush 32, 2) := by decide +kernel
theorem d_Bend_xOfVertex_2 : decode i_Bend_xOfVertex.2.1 2 = .ok (.aload_n 0, 1) := by decide +kernel
theorem d_Bend_xOfVertex_3 : decode i_Bend_xOfVertex.2.1 3 = .ok (.getfield 16, 3) := by decide +kernel
theorem d_Bend_xOfVertex_6 : decode i_Bend_xOfVertex.2.1 6 = .ok (.imul, 1) := by decide +kernel
theorem d_Bend_xOfVertex_7 : decode i_Bend_xOfVertex.2.1 7 = .ok (.ireturn, 1) := by decide +kernel
theorem d_Bend_yOfVertex_0 : decode i_Bend_yOfVertex.2.1 0 = .ok (.bipush 32, 2) := by decide +kernel
theorem d_Bend_yOfVertex_2 : decode i_Bend_yOfVertex.2.1 2 = .ok (.aload_n 0, 1) := by decide +kernel
theorem d_Bend_yOfVertex_3 : decode i_Bend_yOfVertex.2.1 3 = .ok (.getfield 19, 3) := by decide +kernel
theorem d_Bend_yOfVertex_6 : decode i_Bend_yOfVertex.2.1 6 = .ok (.imul, 1) := by decide +kernel
theorem d_Bend_yOfVertex_7 : decode i_Bend_yOfVertex.2.1 7 = .ok (.ireturn, 1) := by decide +kernel
theorem d_Bend_xOfNext_0 : decode i_Bend_xOfNext.2.1 0 = .ok (.bipush 32, 2) := by decide +kernel
theorem d_Bend_xOfNext_2 : decode i_Bend_xOfNext.2.1 2 = .ok (.aload_n 0, 1) := by decide +kernel
theorem d_Bend_xOfNext_3 : decode i_Bend_xOfNext.2.1 3 = .ok (.getfield 22, 3) := by decide +kernel
theorem d_Bend_xOfNext_6 : decode i_Bend_xOfNext.2.1 6 = .ok (.imul, 1) := by decide +kernel
theorem d_Bend_xOfNext_7 : decode i_Bend_xOfNext.2.1 7 = .ok (.ireturn, 1) := by decide +kernel
theorem d_Bend_yOfNext_0 : decode i_Bend_yOfNext.2.1 0 = .ok (.bipush 32, 2) := by decide +kernel
theorem d_Bend_yOfNext_2 : decode i_Bend_yOfNext.2.1 2 = .ok (.aload_n 0, 1) := by decide +kernel
theorem d_Bend_yOfNext_3 : decode i_Bend_yOfNext.2.1 3 = .ok (.getfield 25, 3) := by decide +kernel
theorem d_Bend_yOfNext_6 : decode i_Bend_yOfNext.2.1 6 = .ok (.imul, 1) := by decide +kernel
theorem d_Bend_yOfNext_7 : decode i_Bend_yOfNext.2.1 7 = .ok (.ireturn, 1) := by decide +kernel
theorem d_Bend_onRound_0 : decode i_Bend_onRound.2.1 0 = .ok (.iload_n 0, 1) := by decide +kernel
theorem d_Bend_onRound_1 : decode i_Bend_onRound.2.1 1 = .ok (.ifCond .lt 8, 3) := by decide +kernel
theorem d_Bend_onRound_4 : decode i_Bend_onRound.2.1 4 = .ok (.iload_n 0, 1) := by decide +kernel
theorem d_Bend_onRound_5 : decode i_Bend_onRound.2.1 5 = .ok (.iconst 4, 1) := by decide +kernel
theorem d_Bend_onRound_6 : decode i_Bend_onRound.2.1 6 = .ok (.if_icmp .le 5, 3) := by decide +kernel
theorem d_Bend_onRound_9 : decode i_Bend_onRound.2.1 9 = .ok (.iconst 0, 1) := by decide +kernel
theorem d_Bend_onRound_10 : decode i_Bend_onRound.2.1 10 = .ok (.ireturn, 1) := by decide +kernel
theorem d_Bend_onRound_11 : decode i_Bend_onRound.2.1 11 = .ok (.getstatic 49, 3) := by decide +kernel
theorem d_Bend_onRound_14 : decode i_Bend_onRound.2.1 14 = .ok (.iload_n 0, 1) := by decide +kernel
theorem d_Bend_onRound_15 : decode i_Bend_onRound.2.1 15 = .ok (.iaload, 1) := by decide +kernel
theorem d_Bend_onRound_16 : decode i_Bend_onRound.2.1 16 = .ok (.iload_n 1, 1) := by decide +kernel
theorem d_Bend_onRound_17 : decode i_Bend_onRound.2.1 17 = .ok (.iload_n 2, 1) := by decide +kernel
theorem d_Bend_onRound_18 : decode i_Bend_onRound.2.1 18 = .ok (.iadd, 1) := by decide +kernel
theorem d_Bend_onRound_19 : decode i_Bend_onRound.2.1 19 = .ok (.imul, 1) := by decide +kernel
theorem d_Bend_onRound_20 : decode i_Bend_onRound.2.1 20 = .ok (.iconst 2, 1) := by decide +kernel
theorem d_Bend_onRound_21 : decode i_Bend_onRound.2.1 21 = .ok (.getstatic 53, 3) := by decide +kernel
theorem d_Bend_onRound_24 : decode i_Bend_onRound.2.1 24 = .ok (.iload_n 0, 1) := by decide +kernel
theorem d_Bend_onRound_25 : decode i_Bend_onRound.2.1 25 = .ok (.iaload, 1) := by decide +kernel
theorem d_Bend_onRound_26 : decode i_Bend_onRound.2.1 26 = .ok (.imul, 1) := by decide +kernel
theorem d_Bend_onRound_27 : decode i_Bend_onRound.2.1 27 = .ok (.iload_n 2, 1) := by decide +kernel
theorem d_Bend_onRound_28 : decode i_Bend_onRound.2.1 28 = .ok (.imul, 1) := by decide +kernel
theorem d_Bend_onRound_29 : decode i_Bend_onRound.2.1 29 = .ok (.iadd, 1) := by decide +kernel
theorem d_Bend_onRound_30 : decode i_Bend_onRound.2.1 30 = .ok (.getstatic 56, 3) := by decide +kernel
theorem d_Bend_onRound_33 : decode i_Bend_onRound.2.1 33 = .ok (.iload_n 0, 1) := by decide +kernel
theorem d_Bend_onRound_34 : decode i_Bend_onRound.2.1 34 = .ok (.iaload, 1) := by decide +kernel
theorem d_Bend_onRound_35 : decode i_Bend_onRound.2.1 35 = .ok (.iload_n 2, 1) := by decide +kernel
theorem d_Bend_onRound_36 : decode i_Bend_onRound.2.1 36 = .ok (.iload_n 3, 1) := by decide +kernel
theorem d_Bend_onRound_37 : decode i_Bend_onRound.2.1 37 = .ok (.iadd, 1) := by decide +kernel
theorem d_Bend_onRound_38 : decode i_Bend_onRound.2.1 38 = .ok (.imul, 1) := by decide +kernel
theorem d_Bend_onRound_39 : decode i_Bend_onRound.2.1 39 = .ok (.iadd, 1) := by decide +kernel
theorem d_Bend_onRound_40 : decode i_Bend_onRound.2.1 40 = .ok (.ireturn, 1) := by decide +kernel
theorem d_Brd_init_0 : decode i_Brd_init.2.1 0 = .ok (.aload_n 0, 1) := by decide +kernel
theorem d_Brd_init_1 : decode i_Brd_init.2.1 1 = .ok (.invokespecial 1, 3) := by decide +kernel
theorem d_Brd_init_4 : decode i_Brd_init.2.1 4 = .ok (.return_, 1) := by decide +kernel
theorem d_Brd_begin_0 : decode i_Brd_begin.2.1 0 = .ok (.aload_n 0, 1) := by decide +kernel
theorem d_Brd_begin_1 : decode i_Brd_begin.2.1 1 = .ok (.iload_n 1, 1) := by decide +kernel
theorem d_Brd_begin_2 : decode i_Brd_begin.2.1 2 = .ok (.putfield 7, 3) := by decide +kernel
theorem d_Brd_begin_5 : decode i_Brd_begin.2.1 5 = .ok (.aload_n 0, 1) := by decide +kernel
theorem d_Brd_begin_6 : decode i_Brd_begin.2.1 6 = .ok (.iconst 0, 1) := by decide +kernel
theorem d_Brd_begin_7 : decode i_Brd_begin.2.1 7 = .ok (.putfield 13, 3) := by decide +kernel
theorem d_Brd_begin_10 : decode i_Brd_begin.2.1 10 = .ok (.aload_n 0, 1) := by decide +kernel
theorem d_Brd_begin_11 : decode i_Brd_begin.2.1 11 = .ok (.iload_n 2, 1) := by decide +kernel
theorem d_Brd_begin_12 : decode i_Brd_begin.2.1 12 = .ok (.putfield 16, 3) := by decide +kernel
theorem d_Brd_begin_15 : decode i_Brd_begin.2.1 15 = .ok (.aload_n 0, 1) := by decide +kernel
theorem d_Brd_begin_16 : decode i_Brd_begin.2.1 16 = .ok (.lconst 0, 1) := by decide +kernel
theorem d_Brd_begin_17 : decode i_Brd_begin.2.1 17 = .ok (.putfield 19, 3) := by decide +kernel
theorem d_Brd_begin_20 : decode i_Brd_begin.2.1 20 = .ok (.aload_n 0, 1) := by decide +kernel
theorem d_Brd_begin_21 : decode i_Brd_begin.2.1 21 = .ok (.iconst 0, 1) := by decide +kernel
theorem d_Brd_begin_22 : decode i_Brd_begin.2.1 22 = .ok (.putfield 23, 3) := by decide +kernel
theorem d_Brd_begin_25 : decode i_Brd_begin.2.1 25 = .ok (.aload_n 0, 1) := by decide +kernel
theorem d_Brd_begin_26 : decode i_Brd_begin.2.1 26 = .ok (.iconst 0, 1) := by decide +kernel
theorem d_Brd_begin_27 : decode i_Brd_begin.2.1 27 = .ok (.putfield 27, 3) := by decide +kernel
theorem d_Brd_begin_30 : decode i_Brd_begin.2.1 30 = .ok (.aload_n 0, 1) := by decide +kernel
theorem d_Brd_begin_31 : decode i_Brd_begin.2.1 31 = .ok (.iconst 0, 1) := by decide +kernel
theorem d_Brd_begin_32 : decode i_Brd_begin.2.1 32 = .ok (.putfield 30, 3) := by decide +kernel
theorem d_Brd_begin_35 : decode i_Brd_begin.2.1 35 = .ok (.return_, 1) := by decide +kernel
theorem d_Brd_hasCorner_0 : decode i_Brd_hasCorner.2.1 0 = .ok (.iload_n 1, 1) := by decide +kernel
theorem d_Brd_hasCorner_1 : decode i_Brd_hasCorner.2.1 1 = .ok (.ifCond .lt 15, 3) := by decide +kernel
theorem d_Brd_hasCorner_4 : decode i_Brd_hasCorner.2.1 4 = .ok (.iload_n 1, 1) := by decide +kernel
theorem d_Brd_hasCorner_5 : decode i_Brd_hasCorner.2.1 5 = .ok (.aload_n 0, 1) := by decide +kernel
theorem d_Brd_hasCorner_6 : decode i_Brd_hasCorner.2.1 6 = .ok (.getfield 13, 3) := by decide +kernel
theorem d_Brd_hasCorner_9 : decode i_Brd_hasCorner.2.1 9 = .ok (.if_icmp .ge 7, 3) := by decide +kernel
theorem d_Brd_hasCorner_12 : decode i_Brd_hasCorner.2.1 12 = .ok (.iconst 1, 1) := by decide +kernel
theorem d_Brd_hasCorner_13 : decode i_Brd_hasCorner.2.1 13 = .ok (.goto 4, 3) := by decide +kernel
theorem d_Brd_hasCorner_16 : decode i_Brd_hasCorner.2.1 16 = .ok (.iconst 0, 1) := by decide +kernel
theorem d_Brd_hasCorner_17 : decode i_Brd_hasCorner.2.1 17 = .ok (.ireturn, 1) := by decide +kernel
theorem d_Brd_hasVertex_0 : decode i_Brd_hasVertex.2.1 0 = .ok (.iload_n 1, 1) := by decide +kernel
theorem d_Brd_hasVertex_1 : decode i_Brd_hasVertex.2.1 1 = .ok (.ifCond .lt 15, 3) := by decide +kernel
theorem d_Brd_hasVertex_4 : decode i_Brd_hasVertex.2.1 4 = .ok (.iload_n 1, 1) := by decide +kernel
theorem d_Brd_hasVertex_5 : decode i_Brd_hasVertex.2.1 5 = .ok (.aload_n 0, 1) := by decide +kernel
theorem d_Brd_hasVertex_6 : decode i_Brd_hasVertex.2.1 6 = .ok (.getfield 27, 3) := by decide +kernel
theorem d_Brd_hasVertex_9 : decode i_Brd_hasVertex.2.1 9 = .ok (.if_icmp .ge 7, 3) := by decide +kernel
theorem d_Brd_hasVertex_12 : decode i_Brd_hasVertex.2.1 12 = .ok (.iconst 1, 1) := by decide +kernel
theorem d_Brd_hasVertex_13 : decode i_Brd_hasVertex.2.1 13 = .ok (.goto 4, 3) := by decide +kernel
theorem d_Brd_hasVertex_16 : decode i_Brd_hasVertex.2.1 16 = .ok (.iconst 0, 1) := by decide +kernel
theorem d_Brd_hasVertex_17 : decode i_Brd_hasVertex.2.1 17 = .ok (.ireturn, 1) := by decide +kernel
theorem d_Brd_hasStretch_0 : decode i_Brd_hasStretch.2.1 0 = .ok (.aload_n 0, 1) := by decide +kernel
theorem d_Brd_hasStretch_1 : decode i_Brd_hasStretch.2.1 1 = .ok (.iload_n 1, 1) := by decide +kernel
theorem d_Brd_hasStretch_2 : decode i_Brd_hasStretch.2.1 2 = .ok (.invokevirtual 33, 3) := by decide +kernel
theorem d_Brd_hasStretch_5 : decode i_Brd_hasStretch.2.1 5 = .ok (.ifCond .eq 20, 3) := by decide +kernel
theorem d_Brd_hasStretch_8 : decode i_Brd_hasStretch.2.1 8 = .ok (.iload_n 2, 1) := by decide +kernel
theorem d_Brd_hasStretch_9 : decode i_Brd_hasStretch.2.1 9 = .ok (.iconst 1, 1) := by decide +kernel
theorem d_Brd_hasStretch_10 : decode i_Brd_hasStretch.2.1 10 = .ok (.if_icmp .lt 15, 3) := by decide +kernel
theorem d_Brd_hasStretch_13 : decode i_Brd_hasStretch.2.1 13 = .ok (.iload_n 2, 1) := by decide +kernel
theorem d_Brd_hasStretch_14 : decode i_Brd_hasStretch.2.1 14 = .ok (.aload_n 0, 1) := by decide +kernel
theorem d_Brd_hasStretch_15 : decode i_Brd_hasStretch.2.1 15 = .ok (.getfield 13, 3) := by decide +kernel
theorem d_Brd_hasStretch_18 : decode i_Brd_hasStretch.2.1 18 = .ok (.if_icmp .ge 7, 3) := by decide +kernel
theorem d_Brd_hasStretch_21 : decode i_Brd_hasStretch.2.1 21 = .ok (.iconst 1, 1) := by decide +kernel
theorem d_Brd_hasStretch_22 : decode i_Brd_hasStretch.2.1 22 = .ok (.goto 4, 3) := by decide +kernel
theorem d_Brd_hasStretch_25 : decode i_Brd_hasStretch.2.1 25 = .ok (.iconst 0, 1) := by decide +kernel
theorem d_Brd_hasStretch_26 : decode i_Brd_hasStretch.2.1 26 = .ok (.ireturn, 1) := by decide +kernel
theorem d_Brd_place_0 : decode i_Brd_place.2.1 0 = .ok (.iload_n 1, 1) := by decide +kernel
theorem d_Brd_place_1 : decode i_Brd_place.2.1 1 = .ok (.ifCond .lt 10, 3) := by decide +kernel
theorem d_Brd_place_4 : decode i_Brd_place.2.1 4 = .ok (.aload_n 0, 1) := by decide +kernel
theorem d_Brd_place_5 : decode i_Brd_place.2.1 5 = .ok (.getfield 13, 3) := by decide +kernel
theorem d_Brd_place_8 : decode i_Brd_place.2.1 8 = .ok (.ifCond .gt 8, 3) := by decide +kernel
theorem d_Brd_place_11 : decode i_Brd_place.2.1 11 = .ok (.aload_n 0, 1) := by decide +kernel
theorem d_Brd_place_12 : decode i_Brd_place.2.1 12 = .ok (.getfield 7, 3) := by decide +kernel
theorem d_Brd_place_15 : decode i_Brd_place.2.1 15 = .ok (.ireturn, 1) := by decide +kernel
theorem d_Brd_place_16 : decode i_Brd_place.2.1 16 = .ok (.aload_n 0, 1) := by decide +kernel
theorem d_Brd_place_17 : decode i_Brd_place.2.1 17 = .ok (.getfield 7, 3) := by decide +kernel
theorem d_Brd_place_20 : decode i_Brd_place.2.1 20 = .ok (.iload_n 1, 1) := by decide +kernel
theorem d_Brd_place_21 : decode i_Brd_place.2.1 21 = .ok (.aload_n 0, 1) := by decide +kernel
theorem d_Brd_place_22 : decode i_Brd_place.2.1 22 = .ok (.getfield 13, 3) := by decide +kernel
theorem d_Brd_place_25 : decode i_Brd_place.2.1 25 = .ok (.if_icmp .ge 7, 3) := by decide +kernel
theorem d_Brd_place_28 : decode i_Brd_place.2.1 28 = .ok (.iload_n 1, 1) := by decide +kernel
theorem d_Brd_place_29 : decode i_Brd_place.2.1 29 = .ok (.goto 9, 3) := by decide +kernel
theorem d_Brd_place_32 : decode i_Brd_place.2.1 32 = .ok (.iload_n 1, 1) := by decide +kernel
theorem d_Brd_place_33 : decode i_Brd_place.2.1 33 = .ok (.aload_n 0, 1) := by decide +kernel
theorem d_Brd_place_34 : decode i_Brd_place.2.1 34 = .ok (.getfield 13, 3) := by decide +kernel
theorem d_Brd_place_37 : decode i_Brd_place.2.1 37 = .ok (.irem, 1) := by decide +kernel
theorem d_Brd_place_38 : decode i_Brd_place.2.1 38 = .ok (.iadd, 1) := by decide +kernel
theorem d_Brd_place_39 : decode i_Brd_place.2.1 39 = .ok (.ireturn, 1) := by decide +kernel
theorem d_Brs_init_0 : decode i_Brs_init.2.1 0 = .ok (.aload_n 0, 1) := by decide +kernel
theorem d_Brs_init_1 : decode i_Brs_init.2.1 1 = .ok (.invokespecial 1, 3) := by decide +kernel
theorem d_Brs_init_4 : decode i_Brs_init.2.1 4 = .ok (.aload_n 0, 1) := by decide +kernel
theorem d_Brs_init_5 : decode i_Brs_init.2.1 5 = .ok (.sipush 144, 3) := by decide +kernel
theorem d_Brs_init_8 : decode i_Brs_init.2.1 8 = .ok (.newarray .int, 2) := by decide +kernel
theorem d_Brs_init_10 : decode i_Brs_init.2.1 10 = .ok (.putfield 9, 3) := by decide +kernel
theorem d_Brs_init_13 : decode i_Brs_init.2.1 13 = .ok (.aload_n 0, 1) := by decide +kernel
theorem d_Brs_init_14 : decode i_Brs_init.2.1 14 = .ok (.sipush 144, 3) := by decide +kernel
theorem d_Brs_init_17 : decode i_Brs_init.2.1 17 = .ok (.newarray .int, 2) := by decide +kernel
theorem d_Brs_init_19 : decode i_Brs_init.2.1 19 = .ok (.putfield 13, 3) := by decide +kernel
theorem d_Brs_init_22 : decode i_Brs_init.2.1 22 = .ok (.aload_n 0, 1) := by decide +kernel
theorem d_Brs_init_23 : decode i_Brs_init.2.1 23 = .ok (.sipush 144, 3) := by decide +kernel
theorem d_Brs_init_26 : decode i_Brs_init.2.1 26 = .ok (.newarray .int, 2) := by decide +kernel
theorem d_Brs_init_28 : decode i_Brs_init.2.1 28 = .ok (.putfield 16, 3) := by decide +kernel
theorem d_Brs_init_31 : decode i_Brs_init.2.1 31 = .ok (.aload_n 0, 1) := by decide +kernel
theorem d_Brs_init_32 : decode i_Brs_init.2.1 32 = .ok (.bipush 64, 2) := by decide +kernel
theorem d_Brs_init_34 : decode i_Brs_init.2.1 34 = .ok (.anewarray 21, 3) := by decide +kernel
theorem d_Brs_init_37 : decode i_Brs_init.2.1 37 = .ok (.putfield 23, 3) := by decide +kernel
theorem d_Brs_init_40 : decode i_Brs_init.2.1 40 = .ok (.return_, 1) := by decide +kernel
theorem d_Brs_at_0 : decode i_Brs_at.2.1 0 = .ok (.iload_n 1, 1) := by decide +kernel
theorem d_Brs_at_1 : decode i_Brs_at.2.1 1 = .ok (.ifCond .lt 26, 3) := by decide +kernel
theorem d_Brs_at_4 : decode i_Brs_at.2.1 4 = .ok (.iload_n 1, 1) := by decide +kernel
theorem d_Brs_at_5 : decode i_Brs_at.2.1 5 = .ok (.aload_n 0, 1) := by decide +kernel
theorem d_Brs_at_6 : decode i_Brs_at.2.1 6 = .ok (.getfield 27, 3) := by decide +kernel
theorem d_Brs_at_9 : decode i_Brs_at.2.1 9 = .ok (.if_icmp .ge 18, 3) := by decide +kernel
theorem d_Brs_at_12 : decode i_Brs_at.2.1 12 = .ok (.iload_n 1, 1) := by decide +kernel
theorem d_Brs_at_13 : decode i_Brs_at.2.1 13 = .ok (.bipush 64, 2) := by decide +kernel
theorem d_Brs_at_15 : decode i_Brs_at.2.1 15 = .ok (.if_icmp .ge 12, 3) := by decide +kernel
theorem d_Brs_at_18 : decode i_Brs_at.2.1 18 = .ok (.aload_n 0, 1) := by decide +kernel
theorem d_Brs_at_19 : decode i_Brs_at.2.1 19 = .ok (.getfield 23, 3) := by decide +kernel
theorem d_Brs_at_22 : decode i_Brs_at.2.1 22 = .ok (.iload_n 1, 1) := by decide +kernel
theorem d_Brs_at_23 : decode i_Brs_at.2.1 23 = .ok (.aaload, 1) := by decide +kernel
theorem d_Brs_at_24 : decode i_Brs_at.2.1 24 = .ok (.goto 4, 3) := by decide +kernel
theorem d_Brs_at_27 : decode i_Brs_at.2.1 27 = .ok (.aconst_null, 1) := by decide +kernel
theorem d_Brs_at_28 : decode i_Brs_at.2.1 28 = .ok (.areturn, 1) := by decide +kernel
theorem d_Brs_xAt_0 : decode i_Brs_xAt.2.1 0 = .ok (.aload_n 1, 1) := by decide +kernel
theorem d_Brs_xAt_1 : decode i_Brs_xAt.2.1 1 = .ok (.iload_n 2, 1) := by decide +kernel
theorem d_Brs_xAt_2 : decode i_Brs_xAt.2.1 2 = .ok (.invokevirtual 31, 3) := by decide +kernel
theorem d_Brs_xAt_5 : decode i_Brs_xAt.2.1 5 = .ok (.istore_n 3, 1) := by decide +kernel
theorem d_Brs_xAt_6 : decode i_Brs_xAt.2.1 6 = .ok (.iload_n 3, 1) := by decide +kernel
theorem d_Brs_xAt_7 : decode i_Brs_xAt.2.1 7 = .ok (.ifCond .lt 19, 3) := by decide +kernel
theorem d_Brs_xAt_10 : decode i_Brs_xAt.2.1 10 = .ok (.iload_n 3, 1) := by decide +kernel
theorem d_Brs_xAt_11 : decode i_Brs_xAt.2.1 11 = .ok (.sipush 144, 3) := by decide +kernel
theorem d_Brs_xAt_14 : decode i_Brs_xAt.2.1 14 = .ok (.if_icmp .ge 12, 3) := by decide +kernel
theorem d_Brs_xAt_17 : decode i_Brs_xAt.2.1 17 = .ok (.aload_n 0, 1) := by decide +kernel
theorem d_Brs_xAt_18 : decode i_Brs_xAt.2.1 18 = .ok (.getfield 9, 3) := by decide +kernel
theorem d_Brs_xAt_21 : decode i_Brs_xAt.2.1 21 = .ok (.iload_n 3, 1) := by decide +kernel
theorem d_Brs_xAt_22 : decode i_Brs_xAt.2.1 22 = .ok (.iaload, 1) := by decide +kernel
theorem d_Brs_xAt_23 : decode i_Brs_xAt.2.1 23 = .ok (.goto 4, 3) := by decide +kernel
theorem d_Brs_xAt_26 : decode i_Brs_xAt.2.1 26 = .ok (.iconst 0, 1) := by decide +kernel
theorem d_Brs_xAt_27 : decode i_Brs_xAt.2.1 27 = .ok (.ireturn, 1) := by decide +kernel
theorem d_Brs_yAt_0 : decode i_Brs_yAt.2.1 0 = .ok (.aload_n 1, 1) := by decide +kernel
theorem d_Brs_yAt_1 : decode i_Brs_yAt.2.1 1 = .ok (.iload_n 2, 1) := by decide +kernel
theorem d_Brs_yAt_2 : decode i_Brs_yAt.2.1 2 = .ok (.invokevirtual 31, 3) := by decide +kernel
theorem d_Brs_yAt_5 : decode i_Brs_yAt.2.1 5 = .ok (.istore_n 3, 1) := by decide +kernel
theorem d_Brs_yAt_6 : decode i_Brs_yAt.2.1 6 = .ok (.iload_n 3, 1) := by decide +kernel
theorem d_Brs_yAt_7 : decode i_Brs_yAt.2.1 7 = .ok (.ifCond .lt 19, 3) := by decide +kernel
theorem d_Brs_yAt_10 : decode i_Brs_yAt.2.1 10 = .ok (.iload_n 3, 1) := by decide +kernel
theorem d_Brs_yAt_11 : decode i_Brs_yAt.2.1 11 = .ok (.sipush 144, 3) := by decide +kernel
theorem d_Brs_yAt_14 : decode i_Brs_yAt.2.1 14 = .ok (.if_icmp .ge 12, 3) := by decide +kernel
theorem d_Brs_yAt_17 : decode i_Brs_yAt.2.1 17 = .ok (.aload_n 0, 1) := by decide +kernel
theorem d_Brs_yAt_18 : decode i_Brs_yAt.2.1 18 = .ok (.getfield 13, 3) := by decide +kernel
theorem d_Brs_yAt_21 : decode i_Brs_yAt.2.1 21 = .ok (.iload_n 3, 1) := by decide +kernel
theorem d_Brs_yAt_22 : decode i_Brs_yAt.2.1 22 = .ok (.iaload, 1) := by decide +kernel
theorem d_Brs_yAt_23 : decode i_Brs_yAt.2.1 23 = .ok (.goto 4, 3) := by decide +kernel
theorem d_Brs_yAt_26 : decode i_Brs_yAt.2.1 26 = .ok (.iconst 0, 1) := by decide +kernel
theorem d_Brs_yAt_27 : decode i_Brs_yAt.2.1 27 = .ok (.ireturn, 1) := by decide +kernel
theorem d_Brs_wayAt_0 : decode i_Brs_wayAt.2.1 0 = .ok (.aload_n 1, 1) := by decide +kernel
theorem d_Brs_wayAt_1 : decode i_Brs_wayAt.2.1 1 = .ok (.iload_n 2, 1) := by decide +kernel
theorem d_Brs_wayAt_2 : decode i_Brs_wayAt.2.1 2 = .ok (.invokevirtual 31, 3) := by decide +kernel
theorem d_Brs_wayAt_5 : decode i_Brs_wayAt.2.1 5 = .ok (.istore_n 3, 1) := by decide +kernel
theorem d_Brs_wayAt_6 : decode i_Brs_wayAt.2.1 6 = .ok (.iload_n 3, 1) := by decide +kernel
theorem d_Brs_wayAt_7 : decode i_Brs_wayAt.2.1 7 = .ok (.ifCond .lt 19, 3) := by decide +kernel
theorem d_Brs_wayAt_10 : decode i_Brs_wayAt.2.1 10 = .ok (.iload_n 3, 1) := by decide +kernel
theorem d_Brs_wayAt_11 : decode i_Brs_wayAt.2.1 11 = .ok (.sipush 144, 3) := by decide +kernel
theorem d_Brs_wayAt_14 : decode i_Brs_wayAt.2.1 14 = .ok (.if_icmp .ge 12, 3) := by decide +kernel
theorem d_Brs_wayAt_17 : decode i_Brs_wayAt.2.1 17 = .ok (.aload_n 0, 1) := by decide +kernel
theorem d_Brs_wayAt_18 : decode i_Brs_wayAt.2.1 18 = .ok (.getfield 16, 3) := by decide +kernel
theorem d_Brs_wayAt_21 : decode i_Brs_wayAt.2.1 21 = .ok (.iload_n 3, 1) := by decide +kernel
theorem d_Brs_wayAt_22 : decode i_Brs_wayAt.2.1 22 = .ok (.iaload, 1) := by decide +kernel
theorem d_Brs_wayAt_23 : decode i_Brs_wayAt.2.1 23 = .ok (.goto 4, 3) := by decide +kernel
theorem d_Brs_wayAt_26 : decode i_Brs_wayAt.2.1 26 = .ok (.iconst 0, 1) := by decide +kernel
theorem d_Brs_wayAt_27 : decode i_Brs_wayAt.2.1 27 = .ok (.ireturn, 1) := by decide +kernel
theorem d_Brs_turningSteps_0 : decode i_Brs_turningSteps.2.1 0 = .ok (.iconst 0, 1) := by decide +kernel
theorem d_Brs_turningSteps_1 : decode i_Brs_turningSteps.2.1 1 = .ok (.istore_n 2, 1) := by decide +kernel
theorem d_Brs_turningSteps_2 : decode i_Brs_turningSteps.2.1 2 = .ok (.iconst 0, 1) := by decide +kernel
theorem d_Brs_turningSteps_3 : decode i_Brs_turningSteps.2.1 3 = .ok (.istore_n 3, 1) := by decide +kernel
theorem d_Brs_turningSteps_4 : decode i_Brs_turningSteps.2.1 4 = .ok (.iload_n 3, 1) := by decide +kernel
theorem d_Brs_turningSteps_5 : decode i_Brs_turningSteps.2.1 5 = .ok (.aload_n 1, 1) := by decide +kernel
theorem d_Brs_turningSteps_6 : decode i_Brs_turningSteps.2.1 6 = .ok (.getfield 35, 3) := by decide +kernel
theorem d_Brs_turningSteps_9 : decode i_Brs_turningSteps.2.1 9 = .ok (.if_icmp .ge 29, 3) := by decide +kernel
theorem d_Brs_turningSteps_12 : decode i_Brs_turningSteps.2.1 12 = .ok (.aload_n 0, 1) := by decide +kernel
theorem d_Brs_turningSteps_13 : decode i_Brs_turningSteps.2.1 13 = .ok (.aload_n 1, 1) := by decide +kernel
theorem d_Brs_turningSteps_14 : decode i_Brs_turningSteps.2.1 14 = .ok (.iload_n 3, 1) := by decide +kernel
theorem d_Brs_turningSteps_15 : decode i_Brs_turningSteps.2.1 15 = .ok (.invokevirtual 38, 3) := by decide +kernel
theorem d_Brs_turningSteps_18 : decode i_Brs_turningSteps.2.1 18 = .ok (.aload_n 0, 1) := by decide +kernel
theorem d_Brs_turningSteps_19 : decode i_Brs_turningSteps.2.1 19 = .ok (.aload_n 1, 1) := by decide +kernel
theorem d_Brs_turningSteps_20 : decode i_Brs_turningSteps.2.1 20 = .ok (.iload_n 3, 1) := by decide +kernel
theorem d_Brs_turningSteps_21 : decode i_Brs_turningSteps.2.1 21 = .ok (.iconst 1, 1) := by decide +kernel
theorem d_Brs_turningSteps_22 : decode i_Brs_turningSteps.2.1 22 = .ok (.iadd, 1) := by decide +kernel
theorem d_Brs_turningSteps_23 : decode i_Brs_turningSteps.2.1 23 = .ok (.invokevirtual 38, 3) := by decide +kernel
theorem d_Brs_turningSteps_26 : decode i_Brs_turningSteps.2.1 26 = .ok (.if_icmp .eq 6, 3) := by decide +kernel
theorem d_Brs_turningSteps_29 : decode i_Brs_turningSteps.2.1 29 = .ok (.iinc 2 1, 3) := by decide +kernel
theorem d_Brs_turningSteps_32 : decode i_Brs_turningSteps.2.1 32 = .ok (.iinc 3 1, 3) := by decide +kernel
theorem d_Brs_turningSteps_35 : decode i_Brs_turningSteps.2.1 35 = .ok (.goto (-31), 3) := by decide +kernel
theorem d_Brs_turningSteps_38 : decode i_Brs_turningSteps.2.1 38 = .ok (.iload_n 2, 1) := by decide +kernel
theorem d_Brs_turningSteps_39 : decode i_Brs_turningSteps.2.1 39 = .ok (.ireturn, 1) := by decide +kernel
theorem d_Brs_follow_0 : decode i_Brs_follow.2.1 0 = .ok (.aload_n 0, 1) := by decide +kernel
theorem d_Brs_follow_1 : decode i_Brs_follow.2.1 1 = .ok (.getfield 42, 3) := by decide +kernel
theorem d_Brs_follow_4 : decode i_Brs_follow.2.1 4 = .ok (.ifCond .eq 21, 3) := by decide +kernel
theorem d_Brs_follow_7 : decode i_Brs_follow.2.1 7 = .ok (.aload_n 0, 1) := by decide +kernel
theorem d_Brs_follow_8 : decode i_Brs_follow.2.1 8 = .ok (.getfield 46, 3) := by decide +kernel
theorem d_Brs_follow_11 : decode i_Brs_follow.2.1 11 = .ok (.lload_n 1, 1) := by decide +kernel
theorem d_Brs_follow_12 : decode i_Brs_follow.2.1 12 = .ok (.lcmp, 1) := by decide +kernel
theorem d_Brs_follow_13 : decode i_Brs_follow.2.1 13 = .ok (.ifCond .ne 12, 3) := by decide +kernel
theorem d_Brs_follow_16 : decode i_Brs_follow.2.1 16 = .ok (.aload_n 0, 1) := by decide +kernel
theorem d_Brs_follow_17 : decode i_Brs_follow.2.1 17 = .ok (.getfield 50, 3) := by decide +kernel
theorem d_Brs_follow_20 : decode i_Brs_follow.2.1 20 = .ok (.iload_n 3, 1) := by decide +kernel
theorem d_Brs_follow_21 : decode i_Brs_follow.2.1 21 = .ok (.if_icmp .ne 4, 3) := by decide +kernel
theorem d_Brs_follow_24 : decode i_Brs_follow.2.1 24 = .ok (.return_, 1) := by decide +kernel
theorem d_Brs_follow_25 : decode i_Brs_follow.2.1 25 = .ok (.aload_n 0, 1) := by decide +kernel
theorem d_Brs_follow_26 : decode i_Brs_follow.2.1 26 = .ok (.iconst 1, 1) := by decide +kernel
theorem d_Brs_follow_27 : decode i_Brs_follow.2.1 27 = .ok (.putfield 42, 3) := by decide +kernel
theorem d_Brs_follow_30 : decode i_Brs_follow.2.1 30 = .ok (.aload_n 0, 1) := by decide +kernel
theorem d_Brs_follow_31 : decode i_Brs_follow.2.1 31 = .ok (.lload_n 1, 1) := by decide +kernel
theorem d_Brs_follow_32 : decode i_Brs_follow.2.1 32 = .ok (.putfield 46, 3) := by decide +kernel
theorem d_Brs_follow_35 : decode i_Brs_follow.2.1 35 = .ok (.aload_n 0, 1) := by decide +kernel
theorem d_Brs_follow_36 : decode i_Brs_follow.2.1 36 = .ok (.iload_n 3, 1) := by decide +kernel
theorem d_Brs_follow_37 : decode i_Brs_follow.2.1 37 = .ok (.putfield 50, 3) := by decide +kernel
theorem d_Brs_follow_40 : decode i_Brs_follow.2.1 40 = .ok (.aload_n 0, 1) := by decide +kernel
theorem d_Brs_follow_41 : decode i_Brs_follow.2.1 41 = .ok (.iconst 0, 1) := by decide +kernel
theorem d_Brs_follow_42 : decode i_Brs_follow.2.1 42 = .ok (.putfield 27, 3) := by decide +kernel
theorem d_Brs_follow_45 : decode i_Brs_follow.2.1 45 = .ok (.aload_n 0, 1) := by decide +kernel
theorem d_Brs_follow_46 : decode i_Brs_follow.2.1 46 = .ok (.getfield 46, 3) := by decide +kernel
theorem d_Brs_follow_49 : decode i_Brs_follow.2.1 49 = .ok (.lstore 4, 2) := by decide +kernel
theorem d_Brs_follow_51 : decode i_Brs_follow.2.1 51 = .ok (.iconst 0, 1) := by decide +kernel
theorem d_Brs_follow_52 : decode i_Brs_follow.2.1 52 = .ok (.istore 6, 2) := by decide +kernel
theorem d_Brs_follow_54 : decode i_Brs_follow.2.1 54 = .ok (.iconst 0, 1) := by decide +kernel
theorem d_Brs_follow_55 : decode i_Brs_follow.2.1 55 = .ok (.istore 7, 2) := by decide +kernel
theorem d_Brs_follow_57 : decode i_Brs_follow.2.1 57 = .ok (.iload 7, 2) := by decide +kernel
theorem d_Brs_follow_59 : decode i_Brs_follow.2.1 59 = .ok (.bipush 64, 2) := by decide +kernel
theorem d_Brs_follow_61 : decode i_Brs_follow.2.1 61 = .ok (.if_icmp .ge 70, 3) := by decide +kernel
theorem d_Brs_follow_64 : decode i_Brs_follow.2.1 64 = .ok (.lload 4, 2) := by decide +kernel
theorem d_Brs_follow_66 : decode i_Brs_follow.2.1 66 = .ok (.iload 7, 2) := by decide +kernel
theorem d_Brs_follow_68 : decode i_Brs_follow.2.1 68 = .ok (.lushr, 1) := by decide +kernel
theorem d_Brs_follow_69 : decode i_Brs_follow.2.1 69 = .ok (.lconst 1, 1) := by decide +kernel
theorem d_Brs_follow_70 : decode i_Brs_follow.2.1 70 = .ok (.land, 1) := by decide +kernel
theorem d_Brs_follow_71 : decode i_Brs_follow.2.1 71 = .ok (.lconst 1, 1) := by decide +kernel
theorem d_Brs_follow_72 : decode i_Brs_follow.2.1 72 = .ok (.lcmp, 1) := by decide +kernel
theorem d_Brs_follow_73 : decode i_Brs_follow.2.1 73 = .ok (.ifCond .ne 52, 3) := by decide +kernel
theorem d_Brs_follow_76 : decode i_Brs_follow.2.1 76 = .ok (.aload_n 0, 1) := by decide +kernel
theorem d_Brs_follow_77 : decode i_Brs_follow.2.1 77 = .ok (.invokevirtual 53, 3) := by decide +kernel
theorem d_Brs_follow_80 : decode i_Brs_follow.2.1 80 = .ok (.astore 8, 2) := by decide +kernel
theorem d_Brs_follow_82 : decode i_Brs_follow.2.1 82 = .ok (.aload 8, 2) := by decide +kernel
theorem d_Brs_follow_84 : decode i_Brs_follow.2.1 84 = .ok (.ifnonnull 4, 3) := by decide +kernel
theorem d_Brs_follow_87 : decode i_Brs_follow.2.1 87 = .ok (.return_, 1) := by decide +kernel
theorem d_Brs_follow_88 : decode i_Brs_follow.2.1 88 = .ok (.aload 8, 2) := by decide +kernel
theorem d_Brs_follow_90 : decode i_Brs_follow.2.1 90 = .ok (.iload 6, 2) := by decide +kernel
theorem d_Brs_follow_92 : decode i_Brs_follow.2.1 92 = .ok (.iload 7, 2) := by decide +kernel
theorem d_Brs_follow_94 : decode i_Brs_follow.2.1 94 = .ok (.invokevirtual 57, 3) := by decide +kernel
theorem d_Brs_follow_97 : decode i_Brs_follow.2.1 97 = .ok (.aload_n 0, 1) := by decide +kernel
theorem d_Brs_follow_98 : decode i_Brs_follow.2.1 98 = .ok (.aload 8, 2) := by decide +kernel
theorem d_Brs_follow_100 : decode i_Brs_follow.2.1 100 = .ok (.lload 4, 2) := by decide +kernel
theorem d_Brs_follow_102 : decode i_Brs_follow.2.1 102 = .ok (.invokevirtual 61, 3) := by decide +kernel
theorem d_Brs_follow_105 : decode i_Brs_follow.2.1 105 = .ok (.iload 6, 2) := by decide +kernel
theorem d_Brs_follow_107 : decode i_Brs_follow.2.1 107 = .ok (.aload 8, 2) := by decide +kernel
theorem d_Brs_follow_109 : decode i_Brs_follow.2.1 109 = .ok (.getfield 35, 3) := by decide +kernel
theorem d_Brs_follow_112 : decode i_Brs_follow.2.1 112 = .ok (.iadd, 1) := by decide +kernel
theorem d_Brs_follow_113 : decode i_Brs_follow.2.1 113 = .ok (.istore 6, 2) := by decide +kernel
theorem d_Brs_follow_115 : decode i_Brs_follow.2.1 115 = .ok (.lload 4, 2) := by decide +kernel
theorem d_Brs_follow_117 : decode i_Brs_follow.2.1 117 = .ok (.aload 8, 2) := by decide +kernel
theorem d_Brs_follow_119 : decode i_Brs_follow.2.1 119 = .ok (.getfield 65, 3) := by decide +kernel
theorem d_Brs_follow_122 : decode i_Brs_follow.2.1 122 = .ok (.lxor, 1) := by decide +kernel
theorem d_Brs_follow_123 : decode i_Brs_follow.2.1 123 = .ok (.lstore 4, 2) := by decide +kernel
theorem d_Brs_follow_125 : decode i_Brs_follow.2.1 125 = .ok (.iinc 7 1, 3) := by decide +kernel
theorem d_Brs_follow_128 : decode i_Brs_follow.2.1 128 = .ok (.goto (-71), 3) := by decide +kernel
theorem d_Brs_follow_131 : decode i_Brs_follow.2.1 131 = .ok (.return_, 1) := by decide +kernel
theorem d_Brs_nextBorder_0 : decode i_Brs_nextBorder.2.1 0 = .ok (.aload_n 0, 1) := by decide +kernel
theorem d_Brs_nextBorder_1 : decode i_Brs_nextBorder.2.1 1 = .ok (.getfield 27, 3) := by decide +kernel
theorem d_Brs_nextBorder_4 : decode i_Brs_nextBorder.2.1 4 = .ok (.ifCond .lt 12, 3) := by decide +kernel
theorem d_Brs_nextBorder_7 : decode i_Brs_nextBorder.2.1 7 = .ok (.aload_n 0, 1) := by decide +kernel
theorem d_Brs_nextBorder_8 : decode i_Brs_nextBorder.2.1 8 = .ok (.getfield 27, 3) := by decide +kernel
theorem d_Brs_nextBorder_11 : decode i_Brs_nextBorder.2.1 11 = .ok (.bipush 64, 2) := by decide +kernel
theorem d_Brs_nextBorder_13 : decode i_Brs_nextBorder.2.1 13 = .ok (.if_icmp .lt 5, 3) := by decide +kernel
theorem d_Brs_nextBorder_16 : decode i_Brs_nextBorder.2.1 16 = .ok (.aconst_null, 1) := by decide +kernel
theorem d_Brs_nextBorder_17 : decode i_Brs_nextBorder.2.1 17 = .ok (.areturn, 1) := by decide +kernel
theorem d_Brs_nextBorder_18 : decode i_Brs_nextBorder.2.1 18 = .ok (.aload_n 0, 1) := by decide +kernel
theorem d_Brs_nextBorder_19 : decode i_Brs_nextBorder.2.1 19 = .ok (.getfield 23, 3) := by decide +kernel
theorem d_Brs_nextBorder_22 : decode i_Brs_nextBorder.2.1 22 = .ok (.aload_n 0, 1) := by decide +kernel
theorem d_Brs_nextBorder_23 : decode i_Brs_nextBorder.2.1 23 = .ok (.getfield 27, 3) := by decide +kernel
theorem d_Brs_nextBorder_26 : decode i_Brs_nextBorder.2.1 26 = .ok (.aaload, 1) := by decide +kernel
theorem d_Brs_nextBorder_27 : decode i_Brs_nextBorder.2.1 27 = .ok (.ifnonnull 19, 3) := by decide +kernel
theorem d_Brs_nextBorder_30 : decode i_Brs_nextBorder.2.1 30 = .ok (.aload_n 0, 1) := by decide +kernel
theorem d_Brs_nextBorder_31 : decode i_Brs_nextBorder.2.1 31 = .ok (.getfield 23, 3) := by decide +kernel
theorem d_Brs_nextBorder_34 : decode i_Brs_nextBorder.2.1 34 = .ok (.aload_n 0, 1) := by decide +kernel
theorem d_Brs_nextBorder_35 : decode i_Brs_nextBorder.2.1 35 = .ok (.getfield 27, 3) := by decide +kernel
theorem d_Brs_nextBorder_38 : decode i_Brs_nextBorder.2.1 38 = .ok (.new 21, 3) := by decide +kernel
theorem d_Brs_nextBorder_41 : decode i_Brs_nextBorder.2.1 41 = .ok (.dup, 1) := by decide +kernel
theorem d_Brs_nextBorder_42 : decode i_Brs_nextBorder.2.1 42 = .ok (.invokespecial 68, 3) := by decide +kernel
theorem d_Brs_nextBorder_45 : decode i_Brs_nextBorder.2.1 45 = .ok (.aastore, 1) := by decide +kernel
theorem d_Brs_nextBorder_46 : decode i_Brs_nextBorder.2.1 46 = .ok (.aload_n 0, 1) := by decide +kernel
theorem d_Brs_nextBorder_47 : decode i_Brs_nextBorder.2.1 47 = .ok (.dup, 1) := by decide +kernel
theorem d_Brs_nextBorder_48 : decode i_Brs_nextBorder.2.1 48 = .ok (.getfield 27, 3) := by decide +kernel
theorem d_Brs_nextBorder_51 : decode i_Brs_nextBorder.2.1 51 = .ok (.iconst 1, 1) := by decide +kernel
theorem d_Brs_nextBorder_52 : decode i_Brs_nextBorder.2.1 52 = .ok (.iadd, 1) := by decide +kernel
theorem d_Brs_nextBorder_53 : decode i_Brs_nextBorder.2.1 53 = .ok (.putfield 27, 3) := by decide +kernel
theorem d_Brs_nextBorder_56 : decode i_Brs_nextBorder.2.1 56 = .ok (.aload_n 0, 1) := by decide +kernel
theorem d_Brs_nextBorder_57 : decode i_Brs_nextBorder.2.1 57 = .ok (.getfield 23, 3) := by decide +kernel
theorem d_Brs_nextBorder_60 : decode i_Brs_nextBorder.2.1 60 = .ok (.aload_n 0, 1) := by decide +kernel
theorem d_Brs_nextBorder_61 : decode i_Brs_nextBorder.2.1 61 = .ok (.getfield 27, 3) := by decide +kernel
theorem d_Brs_nextBorder_64 : decode i_Brs_nextBorder.2.1 64 = .ok (.iconst 1, 1) := by decide +kernel
theorem d_Brs_nextBorder_65 : decode i_Brs_nextBorder.2.1 65 = .ok (.isub, 1) := by decide +kernel
theorem d_Brs_nextBorder_66 : decode i_Brs_nextBorder.2.1 66 = .ok (.aaload, 1) := by decide +kernel
theorem d_Brs_nextBorder_67 : decode i_Brs_nextBorder.2.1 67 = .ok (.areturn, 1) := by decide +kernel
theorem d_Brs_walk_0 : decode i_Brs_walk.2.1 0 = .ok (.aload_n 1, 1) := by decide +kernel
theorem d_Brs_walk_1 : decode i_Brs_walk.2.1 1 = .ok (.getfield 69, 3) := by decide +kernel
theorem d_Brs_walk_4 : decode i_Brs_walk.2.1 4 = .ok (.invokestatic 72, 3) := by decide +kernel
theorem d_Brs_walk_7 : decode i_Brs_walk.2.1 7 = .ok (.istore 4, 2) := by decide +kernel
theorem d_Brs_walk_9 : decode i_Brs_walk.2.1 9 = .ok (.aload_n 1, 1) := by decide +kernel
theorem d_Brs_walk_10 : decode i_Brs_walk.2.1 10 = .ok (.getfield 69, 3) := by decide +kernel
theorem d_Brs_walk_13 : decode i_Brs_walk.2.1 13 = .ok (.invokestatic 75, 3) := by decide +kernel
theorem d_Brs_walk_16 : decode i_Brs_walk.2.1 16 = .ok (.istore 5, 2) := by decide +kernel
theorem d_Brs_walk_18 : decode i_Brs_walk.2.1 18 = .ok (.iload 4, 2) := by decide +kernel
theorem d_Brs_walk_20 : decode i_Brs_walk.2.1 20 = .ok (.istore 6, 2) := by decide +kernel
theorem d_Brs_walk_22 : decode i_Brs_walk.2.1 22 = .ok (.iload 5, 2) := by decide +kernel
theorem d_Brs_walk_24 : decode i_Brs_walk.2.1 24 = .ok (.istore 7, 2) := by decide +kernel
theorem d_Brs_walk_26 : decode i_Brs_walk.2.1 26 = .ok (.iconst 0, 1) := by decide +kernel
theorem d_Brs_walk_27 : decode i_Brs_walk.2.1 27 = .ok (.istore 8, 2) := by decide +kernel
theorem d_Brs_walk_29 : decode i_Brs_walk.2.1 29 = .ok (.aload_n 1, 1) := by decide +kernel
theorem d_Brs_walk_30 : decode i_Brs_walk.2.1 30 = .ok (.getfield 78, 3) := by decide +kernel
theorem d_Brs_walk_33 : decode i_Brs_walk.2.1 33 = .ok (.iconst 0, 1) := by decide +kernel
theorem d_Brs_walk_34 : decode i_Brs_walk.2.1 34 = .ok (.invokestatic 81, 3) := by decide +kernel
theorem d_Brs_walk_37 : decode i_Brs_walk.2.1 37 = .ok (.istore 9, 2) := by decide +kernel
theorem d_Brs_walk_39 : decode i_Brs_walk.2.1 39 = .ok (.iload 9, 2) := by decide +kernel
theorem d_Brs_walk_41 : decode i_Brs_walk.2.1 41 = .ok (.sipush 144, 3) := by decide +kernel
theorem d_Brs_walk_44 : decode i_Brs_walk.2.1 44 = .ok (.if_icmp .ge 170, 3) := by decide +kernel
theorem d_Brs_walk_47 : decode i_Brs_walk.2.1 47 = .ok (.aload_n 0, 1) := by decide +kernel
theorem d_Brs_walk_48 : decode i_Brs_walk.2.1 48 = .ok (.getfield 9, 3) := by decide +kernel
theorem d_Brs_walk_51 : decode i_Brs_walk.2.1 51 = .ok (.iload 9, 2) := by decide +kernel
theorem d_Brs_walk_53 : decode i_Brs_walk.2.1 53 = .ok (.iload 6, 2) := by decide +kernel
theorem d_Brs_walk_55 : decode i_Brs_walk.2.1 55 = .ok (.iastore, 1) := by decide +kernel
theorem d_Brs_walk_56 : decode i_Brs_walk.2.1 56 = .ok (.aload_n 0, 1) := by decide +kernel
theorem d_Brs_walk_57 : decode i_Brs_walk.2.1 57 = .ok (.getfield 13, 3) := by decide +kernel
theorem d_Brs_walk_60 : decode i_Brs_walk.2.1 60 = .ok (.iload 9, 2) := by decide +kernel
theorem d_Brs_walk_62 : decode i_Brs_walk.2.1 62 = .ok (.iload 7, 2) := by decide +kernel
theorem d_Brs_walk_64 : decode i_Brs_walk.2.1 64 = .ok (.iastore, 1) := by decide +kernel
theorem d_Brs_walk_65 : decode i_Brs_walk.2.1 65 = .ok (.aload_n 0, 1) := by decide +kernel
theorem d_Brs_walk_66 : decode i_Brs_walk.2.1 66 = .ok (.getfield 16, 3) := by decide +kernel
theorem d_Brs_walk_69 : decode i_Brs_walk.2.1 69 = .ok (.iload 9, 2) := by decide +kernel
theorem d_Brs_walk_71 : decode i_Brs_walk.2.1 71 = .ok (.iload 8, 2) := by decide +kernel
theorem d_Brs_walk_73 : decode i_Brs_walk.2.1 73 = .ok (.iastore, 1) := by decide +kernel
theorem d_Brs_walk_74 : decode i_Brs_walk.2.1 74 = .ok (.aload_n 1, 1) := by decide +kernel
theorem d_Brs_walk_75 : decode i_Brs_walk.2.1 75 = .ok (.dup, 1) := by decide +kernel
theorem d_Brs_walk_76 : decode i_Brs_walk.2.1 76 = .ok (.getfield 35, 3) := by decide +kernel
theorem d_Brs_walk_79 : decode i_Brs_walk.2.1 79 = .ok (.iconst 1, 1) := by decide +kernel
theorem d_Brs_walk_80 : decode i_Brs_walk.2.1 80 = .ok (.iadd, 1) := by decide +kernel
theorem d_Brs_walk_81 : decode i_Brs_walk.2.1 81 = .ok (.putfield 35, 3) := by decide +kernel
theorem d_Brs_walk_84 : decode i_Brs_walk.2.1 84 = .ok (.aload_n 1, 1) := by decide +kernel
theorem d_Brs_walk_85 : decode i_Brs_walk.2.1 85 = .ok (.dup, 1) := by decide +kernel
theorem d_Brs_walk_86 : decode i_Brs_walk.2.1 86 = .ok (.getfield 65, 3) := by decide +kernel
theorem d_Brs_walk_89 : decode i_Brs_walk.2.1 89 = .ok (.iload 6, 2) := by decide +kernel
theorem d_Brs_walk_91 : decode i_Brs_walk.2.1 91 = .ok (.iload 7, 2) := by decide +kernel
theorem d_Brs_walk_93 : decode i_Brs_walk.2.1 93 = .ok (.iload 8, 2) := by decide +kernel
theorem d_Brs_walk_95 : decode i_Brs_walk.2.1 95 = .ok (.invokestatic 87, 3) := by decide +kernel
theorem d_Brs_walk_98 : decode i_Brs_walk.2.1 98 = .ok (.lxor, 1) := by decide +kernel
theorem d_Brs_walk_99 : decode i_Brs_walk.2.1 99 = .ok (.putfield 65, 3) := by decide +kernel
theorem d_Brs_walk_102 : decode i_Brs_walk.2.1 102 = .ok (.iload 6, 2) := by decide +kernel
theorem d_Brs_walk_104 : decode i_Brs_walk.2.1 104 = .ok (.getstatic 91, 3) := by decide +kernel
theorem d_Brs_walk_107 : decode i_Brs_walk.2.1 107 = .ok (.iload 8, 2) := by decide +kernel
theorem d_Brs_walk_109 : decode i_Brs_walk.2.1 109 = .ok (.iconst 3, 1) := by decide +kernel
theorem d_Brs_walk_110 : decode i_Brs_walk.2.1 110 = .ok (.iand, 1) := by decide +kernel
theorem d_Brs_walk_111 : decode i_Brs_walk.2.1 111 = .ok (.iaload, 1) := by decide +kernel
theorem d_Brs_walk_112 : decode i_Brs_walk.2.1 112 = .ok (.iadd, 1) := by decide +kernel
theorem d_Brs_walk_113 : decode i_Brs_walk.2.1 113 = .ok (.istore 6, 2) := by decide +kernel
theorem d_Brs_walk_115 : decode i_Brs_walk.2.1 115 = .ok (.iload 7, 2) := by decide +kernel
theorem d_Brs_walk_117 : decode i_Brs_walk.2.1 117 = .ok (.getstatic 94, 3) := by decide +kernel
theorem d_Brs_walk_120 : decode i_Brs_walk.2.1 120 = .ok (.iload 8, 2) := by decide +kernel
theorem d_Brs_walk_122 : decode i_Brs_walk.2.1 122 = .ok (.iconst 3, 1) := by decide +kernel
theorem d_Brs_walk_123 : decode i_Brs_walk.2.1 123 = .ok (.iand, 1) := by decide +kernel
theorem d_Brs_walk_124 : decode i_Brs_walk.2.1 124 = .ok (.iaload, 1) := by decide +kernel
theorem d_Brs_walk_125 : decode i_Brs_walk.2.1 125 = .ok (.iadd, 1) := by decide +kernel
theorem d_Brs_walk_126 : decode i_Brs_walk.2.1 126 = .ok (.istore 7, 2) := by decide +kernel
theorem d_Brs_walk_128 : decode i_Brs_walk.2.1 128 = .ok (.lload_n 2, 1) := by decide +kernel
theorem d_Brs_walk_129 : decode i_Brs_walk.2.1 129 = .ok (.iload 6, 2) := by decide +kernel
theorem d_Brs_walk_131 : decode i_Brs_walk.2.1 131 = .ok (.iload 7, 2) := by decide +kernel
theorem d_Brs_walk_133 : decode i_Brs_walk.2.1 133 = .ok (.iload 8, 2) := by decide +kernel
theorem d_Brs_walk_135 : decode i_Brs_walk.2.1 135 = .ok (.invokestatic 97, 3) := by decide +kernel
theorem d_Brs_walk_138 : decode i_Brs_walk.2.1 138 = .ok (.land, 1) := by decide +kernel
theorem d_Brs_walk_139 : decode i_Brs_walk.2.1 139 = .ok (.lconst 0, 1) := by decide +kernel
theorem d_Brs_walk_140 : decode i_Brs_walk.2.1 140 = .ok (.lcmp, 1) := by decide +kernel
theorem d_Brs_walk_141 : decode i_Brs_walk.2.1 141 = .ok (.ifCond .eq 7, 3) := by decide +kernel
theorem d_Brs_walk_144 : decode i_Brs_walk.2.1 144 = .ok (.iconst 1, 1) := by decide +kernel
theorem d_Brs_walk_145 : decode i_Brs_walk.2.1 145 = .ok (.goto 4, 3) := by decide +kernel
theorem d_Brs_walk_148 : decode i_Brs_walk.2.1 148 = .ok (.iconst 0, 1) := by decide +kernel
theorem d_Brs_walk_149 : decode i_Brs_walk.2.1 149 = .ok (.istore 10, 2) := by decide +kernel
theorem d_Brs_walk_151 : decode i_Brs_walk.2.1 151 = .ok (.lload_n 2, 1) := by decide +kernel
theorem d_Brs_walk_152 : decode i_Brs_walk.2.1 152 = .ok (.iload 6, 2) := by decide +kernel
theorem d_Brs_walk_154 : decode i_Brs_walk.2.1 154 = .ok (.iload 7, 2) := by decide +kernel
theorem d_Brs_walk_156 : decode i_Brs_walk.2.1 156 = .ok (.iload 8, 2) := by decide +kernel
theorem d_Brs_walk_158 : decode i_Brs_walk.2.1 158 = .ok (.iconst 1, 1) := by decide +kernel
theorem d_Brs_walk_159 : decode i_Brs_walk.2.1 159 = .ok (.iadd, 1) := by decide +kernel
theorem d_Brs_walk_160 : decode i_Brs_walk.2.1 160 = .ok (.invokestatic 97, 3) := by decide +kernel
theorem d_Brs_walk_163 : decode i_Brs_walk.2.1 163 = .ok (.land, 1) := by decide +kernel
theorem d_Brs_walk_164 : decode i_Brs_walk.2.1 164 = .ok (.lconst 0, 1) := by decide +kernel
theorem d_Brs_walk_165 : decode i_Brs_walk.2.1 165 = .ok (.lcmp, 1) := by decide +kernel
theorem d_Brs_walk_166 : decode i_Brs_walk.2.1 166 = .ok (.ifCond .eq 7, 3) := by decide +kernel
theorem d_Brs_walk_169 : decode i_Brs_walk.2.1 169 = .ok (.iconst 1, 1) := by decide +kernel
theorem d_Brs_walk_170 : decode i_Brs_walk.2.1 170 = .ok (.goto 4, 3) := by decide +kernel
theorem d_Brs_walk_173 : decode i_Brs_walk.2.1 173 = .ok (.iconst 0, 1) := by decide +kernel
theorem d_Brs_walk_174 : decode i_Brs_walk.2.1 174 = .ok (.istore 11, 2) := by decide +kernel
theorem d_Brs_walk_176 : decode i_Brs_walk.2.1 176 = .ok (.aload_n 0, 1) := by decide +kernel
theorem d_Brs_walk_177 : decode i_Brs_walk.2.1 177 = .ok (.iload 8, 2) := by decide +kernel
theorem d_Brs_walk_179 : decode i_Brs_walk.2.1 179 = .ok (.iload 10, 2) := by decide +kernel
theorem d_Brs_walk_181 : decode i_Brs_walk.2.1 181 = .ok (.iload 11, 2) := by decide +kernel
theorem d_Brs_walk_183 : decode i_Brs_walk.2.1 183 = .ok (.invokevirtual 100, 3) := by decide +kernel
theorem d_Brs_walk_186 : decode i_Brs_walk.2.1 186 = .ok (.istore 8, 2) := by decide +kernel
theorem d_Brs_walk_188 : decode i_Brs_walk.2.1 188 = .ok (.iload 6, 2) := by decide +kernel
theorem d_Brs_walk_190 : decode i_Brs_walk.2.1 190 = .ok (.iload 4, 2) := by decide +kernel
theorem d_Brs_walk_192 : decode i_Brs_walk.2.1 192 = .ok (.if_icmp .ne 16, 3) := by decide +kernel
theorem d_Brs_walk_195 : decode i_Brs_walk.2.1 195 = .ok (.iload 7, 2) := by decide +kernel
theorem d_Brs_walk_197 : decode i_Brs_walk.2.1 197 = .ok (.iload 5, 2) := by decide +kernel
theorem d_Brs_walk_199 : decode i_Brs_walk.2.1 199 = .ok (.if_icmp .ne 9, 3) := by decide +kernel
theorem d_Brs_walk_202 : decode i_Brs_walk.2.1 202 = .ok (.iload 8, 2) := by decide +kernel
theorem d_Brs_walk_204 : decode i_Brs_walk.2.1 204 = .ok (.ifCond .ne 4, 3) := by decide +kernel
theorem d_Brs_walk_207 : decode i_Brs_walk.2.1 207 = .ok (.return_, 1) := by decide +kernel
theorem d_Brs_walk_208 : decode i_Brs_walk.2.1 208 = .ok (.iinc 9 1, 3) := by decide +kernel
theorem d_Brs_walk_211 : decode i_Brs_walk.2.1 211 = .ok (.goto (-172), 3) := by decide +kernel
theorem d_Brs_walk_214 : decode i_Brs_walk.2.1 214 = .ok (.return_, 1) := by decide +kernel
theorem d_Brs_dotsRightOf_0 : decode i_Brs_dotsRightOf.2.1 0 = .ok (.iload_n 2, 1) := by decide +kernel
theorem d_Brs_dotsRightOf_1 : decode i_Brs_dotsRightOf.2.1 1 = .ok (.iconst 1, 1) := by decide +kernel
theorem d_Brs_dotsRightOf_2 : decode i_Brs_dotsRightOf.2.1 2 = .ok (.if_icmp .ne 9, 3) := by decide +kernel
theorem d_Brs_dotsRightOf_5 : decode i_Brs_dotsRightOf.2.1 5 = .ok (.iload_n 0, 1) := by decide +kernel
theorem d_Brs_dotsRightOf_6 : decode i_Brs_dotsRightOf.2.1 6 = .ok (.iload_n 1, 1) := by decide +kernel
theorem d_Brs_dotsRightOf_7 : decode i_Brs_dotsRightOf.2.1 7 = .ok (.invokestatic 104, 3) := by decide +kernel
theorem d_Brs_dotsRightOf_10 : decode i_Brs_dotsRightOf.2.1 10 = .ok (.lreturn, 1) := by decide +kernel
theorem d_Brs_dotsRightOf_11 : decode i_Brs_dotsRightOf.2.1 11 = .ok (.iload_n 2, 1) := by decide +kernel
theorem d_Brs_dotsRightOf_12 : decode i_Brs_dotsRightOf.2.1 12 = .ok (.iconst 3, 1) := by decide +kernel
theorem d_Brs_dotsRightOf_13 : decode i_Brs_dotsRightOf.2.1 13 = .ok (.if_icmp .ne 13, 3) := by decide +kernel
theorem d_Brs_dotsRightOf_16 : decode i_Brs_dotsRightOf.2.1 16 = .ok (.iload_n 0, 1) := by decide +kernel
theorem d_Brs_dotsRightOf_17 : decode i_Brs_dotsRightOf.2.1 17 = .ok (.iload_n 1, 1) := by decide +kernel
theorem d_Brs_dotsRightOf_18 : decode i_Brs_dotsRightOf.2.1 18 = .ok (.iconst 1, 1) := by decide +kernel
theorem d_Brs_dotsRightOf_19 : decode i_Brs_dotsRightOf.2.1 19 = .ok (.isub, 1) := by decide +kernel
theorem d_Brs_dotsRightOf_20 : decode i_Brs_dotsRightOf.2.1 20 = .ok (.invokestatic 104, 3) := by decide +kernel
theorem d_Brs_dotsRightOf_23 : decode i_Brs_dotsRightOf.2.1 23 = .ok (.goto 4, 3) := by decide +kernel
theorem d_Brs_dotsRightOf_26 : decode i_Brs_dotsRightOf.2.1 26 = .ok (.lconst 0, 1) := by decide +kernel
theorem d_Brs_dotsRightOf_27 : decode i_Brs_dotsRightOf.2.1 27 = .ok (.lreturn, 1) := by decide +kernel
theorem d_Brs_dotAhead_0 : decode i_Brs_dotAhead.2.1 0 = .ok (.iload_n 0, 1) := by decide +kernel
theorem d_Brs_dotAhead_1 : decode i_Brs_dotAhead.2.1 1 = .ok (.getstatic 108, 3) := by decide +kernel
theorem d_Brs_dotAhead_4 : decode i_Brs_dotAhead.2.1 4 = .ok (.iload_n 2, 1) := by decide +kernel
theorem d_Brs_dotAhead_5 : decode i_Brs_dotAhead.2.1 5 = .ok (.iconst 3, 1) := by decide +kernel
theorem d_Brs_dotAhead_6 : decode i_Brs_dotAhead.2.1 6 = .ok (.iand, 1) := by decide +kernel
theorem d_Brs_dotAhead_7 : decode i_Brs_dotAhead.2.1 7 = .ok (.iaload, 1) := by decide +kernel
theorem d_Brs_dotAhead_8 : decode i_Brs_dotAhead.2.1 8 = .ok (.iadd, 1) := by decide +kernel
theorem d_Brs_dotAhead_9 : decode i_Brs_dotAhead.2.1 9 = .ok (.iload_n 1, 1) := by decide +kernel
theorem d_Brs_dotAhead_10 : decode i_Brs_dotAhead.2.1 10 = .ok (.getstatic 111, 3) := by decide +kernel
theorem d_Brs_dotAhead_13 : decode i_Brs_dotAhead.2.1 13 = .ok (.iload_n 2, 1) := by decide +kernel
theorem d_Brs_dotAhead_14 : decode i_Brs_dotAhead.2.1 14 = .ok (.iconst 3, 1) := by decide +kernel
theorem d_Brs_dotAhead_15 : decode i_Brs_dotAhead.2.1 15 = .ok (.iand, 1) := by decide +kernel
theorem d_Brs_dotAhead_16 : decode i_Brs_dotAhead.2.1 16 = .ok (.iaload, 1) := by decide +kernel
theorem d_Brs_dotAhead_17 : decode i_Brs_dotAhead.2.1 17 = .ok (.iadd, 1) := by decide +kernel
theorem d_Brs_dotAhead_18 : decode i_Brs_dotAhead.2.1 18 = .ok (.invokestatic 114, 3) := by decide +kernel
theorem d_Brs_dotAhead_21 : decode i_Brs_dotAhead.2.1 21 = .ok (.lreturn, 1) := by decide +kernel
theorem d_Brs_nextWay_0 : decode i_Brs_nextWay.2.1 0 = .ok (.iload_n 3, 1) := by decide +kernel
theorem d_Brs_nextWay_1 : decode i_Brs_nextWay.2.1 1 = .ok (.ifCond .eq 9, 3) := by decide +kernel
theorem d_Brs_nextWay_4 : decode i_Brs_nextWay.2.1 4 = .ok (.iload_n 2, 1) := by decide +kernel
theorem d_Brs_nextWay_5 : decode i_Brs_nextWay.2.1 5 = .ok (.ifCond .ne 5, 3) := by decide +kernel
theorem d_Brs_nextWay_8 : decode i_Brs_nextWay.2.1 8 = .ok (.iload_n 1, 1) := by decide +kernel
theorem d_Brs_nextWay_9 : decode i_Brs_nextWay.2.1 9 = .ok (.ireturn, 1) := by decide +kernel
theorem d_Brs_nextWay_10 : decode i_Brs_nextWay.2.1 10 = .ok (.iload_n 2, 1) := by decide +kernel
theorem d_Brs_nextWay_11 : decode i_Brs_nextWay.2.1 11 = .ok (.ifCond .eq 19, 3) := by decide +kernel
theorem d_Brs_nextWay_14 : decode i_Brs_nextWay.2.1 14 = .ok (.iload_n 3, 1) := by decide +kernel
theorem d_Brs_nextWay_15 : decode i_Brs_nextWay.2.1 15 = .ok (.ifCond .ne 11, 3) := by decide +kernel
theorem d_Brs_nextWay_18 : decode i_Brs_nextWay.2.1 18 = .ok (.aload_n 0, 1) := by decide +kernel
theorem d_Brs_nextWay_19 : decode i_Brs_nextWay.2.1 19 = .ok (.getfield 50, 3) := by decide +kernel
theorem d_Brs_nextWay_22 : decode i_Brs_nextWay.2.1 22 = .ok (.iconst 1, 1) := by decide +kernel
theorem d_Brs_nextWay_23 : decode i_Brs_nextWay.2.1 23 = .ok (.if_icmp .ne 7, 3) := by decide +kernel
theorem d_Brs_nextWay_26 : decode i_Brs_nextWay.2.1 26 = .ok (.iconst 1, 1) := by decide +kernel
theorem d_Brs_nextWay_27 : decode i_Brs_nextWay.2.1 27 = .ok (.goto 4, 3) := by decide +kernel
theorem d_Brs_nextWay_30 : decode i_Brs_nextWay.2.1 30 = .ok (.iconst 0, 1) := by decide +kernel
theorem d_Brs_nextWay_31 : decode i_Brs_nextWay.2.1 31 = .ok (.istore 4, 2) := by decide +kernel
theorem d_Brs_nextWay_33 : decode i_Brs_nextWay.2.1 33 = .ok (.iload 4, 2) := by decide +kernel
theorem d_Brs_nextWay_35 : decode i_Brs_nextWay.2.1 35 = .ok (.ifCond .eq 9, 3) := by decide +kernel
theorem d_Brs_nextWay_38 : decode i_Brs_nextWay.2.1 38 = .ok (.iload_n 1, 1) := by decide +kernel
theorem d_Brs_nextWay_39 : decode i_Brs_nextWay.2.1 39 = .ok (.iconst 3, 1) := by decide +kernel
theorem d_Brs_nextWay_40 : decode i_Brs_nextWay.2.1 40 = .ok (.iadd, 1) := by decide +kernel
theorem d_Brs_nextWay_41 : decode i_Brs_nextWay.2.1 41 = .ok (.goto 6, 3) := by decide +kernel
theorem d_Brs_nextWay_44 : decode i_Brs_nextWay.2.1 44 = .ok (.iload_n 1, 1) := by decide +kernel
theorem d_Brs_nextWay_45 : decode i_Brs_nextWay.2.1 45 = .ok (.iconst 1, 1) := by decide +kernel
theorem d_Brs_nextWay_46 : decode i_Brs_nextWay.2.1 46 = .ok (.iadd, 1) := by decide +kernel
theorem d_Brs_nextWay_47 : decode i_Brs_nextWay.2.1 47 = .ok (.iconst 3, 1) := by decide +kernel
theorem d_Brs_nextWay_48 : decode i_Brs_nextWay.2.1 48 = .ok (.iand, 1) := by decide +kernel
theorem d_Brs_nextWay_49 : decode i_Brs_nextWay.2.1 49 = .ok (.ireturn, 1) := by decide +kernel
theorem d_Fil_init_0 : decode i_Fil_init.2.1 0 = .ok (.aload_n 0, 1) := by decide +kernel
theorem d_Fil_init_1 : decode i_Fil_init.2.1 1 = .ok (.invokespecial 1, 3) := by decide +kernel
theorem d_Fil_init_4 : decode i_Fil_init.2.1 4 = .ok (.aload_n 0, 1) := by decide +kernel
theorem d_Fil_init_5 : decode i_Fil_init.2.1 5 = .ok (.aload_n 1, 1) := by decide +kernel
theorem d_Fil_init_6 : decode i_Fil_init.2.1 6 = .ok (.putfield 7, 3) := by decide +kernel
theorem d_Fil_init_9 : decode i_Fil_init.2.1 9 = .ok (.return_, 1) := by decide +kernel
theorem d_Fil_by_0 : decode i_Fil_by.2.1 0 = .ok (.lconst 0, 1) := by decide +kernel
theorem d_Fil_by_1 : decode i_Fil_by.2.1 1 = .ok (.lstore 4, 2) := by decide +kernel
theorem d_Fil_by_3 : decode i_Fil_by.2.1 3 = .ok (.iconst 0, 1) := by decide +kernel
theorem d_Fil_by_4 : decode i_Fil_by.2.1 4 = .ok (.istore 6, 2) := by decide +kernel
theorem d_Fil_by_6 : decode i_Fil_by.2.1 6 = .ok (.iload 6, 2) := by decide +kernel
theorem d_Fil_by_8 : decode i_Fil_by.2.1 8 = .ok (.aload_n 1, 1) := by decide +kernel
theorem d_Fil_by_9 : decode i_Fil_by.2.1 9 = .ok (.getfield 13, 3) := by decide +kernel
theorem d_Fil_by_12 : decode i_Fil_by.2.1 12 = .ok (.if_icmp .ge 88, 3) := by decide +kernel
theorem d_Fil_by_15 : decode i_Fil_by.2.1 15 = .ok (.aload_n 0, 1) := by decide +kernel
theorem d_Fil_by_16 : decode i_Fil_by.2.1 16 = .ok (.getfield 7, 3) := by decide +kernel
theorem d_Fil_by_19 : decode i_Fil_by.2.1 19 = .ok (.aload_n 1, 1) := by decide +kernel
theorem d_Fil_by_20 : decode i_Fil_by.2.1 20 = .ok (.iload 6, 2) := by decide +kernel
theorem d_Fil_by_22 : decode i_Fil_by.2.1 22 = .ok (.invokevirtual 19, 3) := by decide +kernel
theorem d_Fil_by_25 : decode i_Fil_by.2.1 25 = .ok (.astore 7, 2) := by decide +kernel
theorem d_Fil_by_27 : decode i_Fil_by.2.1 27 = .ok (.iload_n 2, 1) := by decide +kernel
theorem d_Fil_by_28 : decode i_Fil_by.2.1 28 = .ok (.ifCond .ne 34, 3) := by decide +kernel
theorem d_Fil_by_31 : decode i_Fil_by.2.1 31 = .ok (.lload 4, 2) := by decide +kernel
theorem d_Fil_by_33 : decode i_Fil_by.2.1 33 = .ok (.aload 7, 2) := by decide +kernel
theorem d_Fil_by_35 : decode i_Fil_by.2.1 35 = .ok (.invokevirtual 25, 3) := by decide +kernel
theorem d_Fil_by_38 : decode i_Fil_by.2.1 38 = .ok (.aload 7, 2) := by decide +kernel
theorem d_Fil_by_40 : decode i_Fil_by.2.1 40 = .ok (.invokevirtual 31, 3) := by decide +kernel
theorem d_Fil_by_43 : decode i_Fil_by.2.1 43 = .ok (.aload 7, 2) := by decide +kernel
theorem d_Fil_by_45 : decode i_Fil_by.2.1 45 = .ok (.invokevirtual 34, 3) := by decide +kernel
theorem d_Fil_by_48 : decode i_Fil_by.2.1 48 = .ok (.aload 7, 2) := by decide +kernel
theorem d_Fil_by_50 : decode i_Fil_by.2.1 50 = .ok (.invokevirtual 37, 3) := by decide +kernel
theorem d_Fil_by_53 : decode i_Fil_by.2.1 53 = .ok (.invokestatic 40, 3) := by decide +kernel
theorem d_Fil_by_56 : decode i_Fil_by.2.1 56 = .ok (.lxor, 1) := by decide +kernel
theorem d_Fil_by_57 : decode i_Fil_by.2.1 57 = .ok (.lstore 4, 2) := by decide +kernel
theorem d_Fil_by_59 : decode i_Fil_by.2.1 59 = .ok (.goto 35, 3) := by decide +kernel
theorem d_Fil_by_62 : decode i_Fil_by.2.1 62 = .ok (.aload 7, 2) := by decide +kernel
theorem d_Fil_by_64 : decode i_Fil_by.2.1 64 = .ok (.iload_n 3, 1) := by decide +kernel
theorem d_Fil_by_65 : decode i_Fil_by.2.1 65 = .ok (.invokevirtual 44, 3) := by decide +kernel
theorem d_Fil_by_68 : decode i_Fil_by.2.1 68 = .ok (.ifCond .eq 16, 3) := by decide +kernel
theorem d_Fil_by_71 : decode i_Fil_by.2.1 71 = .ok (.lload 4, 2) := by decide +kernel
theorem d_Fil_by_73 : decode i_Fil_by.2.1 73 = .ok (.aload 7, 2) := by decide +kernel
theorem d_Fil_by_75 : decode i_Fil_by.2.1 75 = .ok (.invokestatic 48, 3) := by decide +kernel
theorem d_Fil_by_78 : decode i_Fil_by.2.1 78 = .ok (.lxor, 1) := by decide +kernel
theorem d_Fil_by_79 : decode i_Fil_by.2.1 79 = .ok (.lstore 4, 2) := by decide +kernel
theorem d_Fil_by_81 : decode i_Fil_by.2.1 81 = .ok (.goto 13, 3) := by decide +kernel
theorem d_Fil_by_84 : decode i_Fil_by.2.1 84 = .ok (.lload 4, 2) := by decide +kernel
theorem d_Fil_by_86 : decode i_Fil_by.2.1 86 = .ok (.aload 7, 2) := by decide +kernel
theorem d_Fil_by_88 : decode i_Fil_by.2.1 88 = .ok (.invokestatic 52, 3) := by decide +kernel
theorem d_Fil_by_91 : decode i_Fil_by.2.1 91 = .ok (.lxor, 1) := by decide +kernel
theorem d_Fil_by_92 : decode i_Fil_by.2.1 92 = .ok (.lstore 4, 2) := by decide +kernel
theorem d_Fil_by_94 : decode i_Fil_by.2.1 94 = .ok (.iinc 6 1, 3) := by decide +kernel
theorem d_Fil_by_97 : decode i_Fil_by.2.1 97 = .ok (.goto (-91), 3) := by decide +kernel
theorem d_Fil_by_100 : decode i_Fil_by.2.1 100 = .ok (.lload 4, 2) := by decide +kernel
theorem d_Fil_by_102 : decode i_Fil_by.2.1 102 = .ok (.lreturn, 1) := by decide +kernel
theorem d_Fil_rightOfSharp_0 : decode i_Fil_rightOfSharp.2.1 0 = .ok (.aload_n 0, 1) := by decide +kernel
theorem d_Fil_rightOfSharp_1 : decode i_Fil_rightOfSharp.2.1 1 = .ok (.invokevirtual 25, 3) := by decide +kernel
theorem d_Fil_rightOfSharp_4 : decode i_Fil_rightOfSharp.2.1 4 = .ok (.istore_n 1, 1) := by decide +kernel
theorem d_Fil_rightOfSharp_5 : decode i_Fil_rightOfSharp.2.1 5 = .ok (.aload_n 0, 1) := by decide +kernel
theorem d_Fil_rightOfSharp_6 : decode i_Fil_rightOfSharp.2.1 6 = .ok (.invokevirtual 31, 3) := by decide +kernel
theorem d_Fil_rightOfSharp_9 : decode i_Fil_rightOfSharp.2.1 9 = .ok (.istore_n 2, 1) := by decide +kernel
theorem d_Fil_rightOfSharp_10 : decode i_Fil_rightOfSharp.2.1 10 = .ok (.aload_n 0, 1) := by decide +kernel
theorem d_Fil_rightOfSharp_11 : decode i_Fil_rightOfSharp.2.1 11 = .ok (.iconst 0, 1) := by decide +kernel
theorem d_Fil_rightOfSharp_12 : decode i_Fil_rightOfSharp.2.1 12 = .ok (.invokevirtual 55, 3) := by decide +kernel
theorem d_Fil_rightOfSharp_15 : decode i_Fil_rightOfSharp.2.1 15 = .ok (.aload_n 0, 1) := by decide +kernel
theorem d_Fil_rightOfSharp_16 : decode i_Fil_rightOfSharp.2.1 16 = .ok (.iconst 0, 1) := by decide +kernel
theorem d_Fil_rightOfSharp_17 : decode i_Fil_rightOfSharp.2.1 17 = .ok (.invokevirtual 59, 3) := by decide +kernel
theorem d_Fil_rightOfSharp_20 : decode i_Fil_rightOfSharp.2.1 20 = .ok (.iload_n 1, 1) := by decide +kernel
theorem d_Fil_rightOfSharp_21 : decode i_Fil_rightOfSharp.2.1 21 = .ok (.iload_n 2, 1) := by decide +kernel
theorem d_Fil_rightOfSharp_22 : decode i_Fil_rightOfSharp.2.1 22 = .ok (.invokestatic 40, 3) := by decide +kernel
theorem d_Fil_rightOfSharp_25 : decode i_Fil_rightOfSharp.2.1 25 = .ok (.iload_n 1, 1) := by decide +kernel
theorem d_Fil_rightOfSharp_26 : decode i_Fil_rightOfSharp.2.1 26 = .ok (.iload_n 2, 1) := by decide +kernel
theorem d_Fil_rightOfSharp_27 : decode i_Fil_rightOfSharp.2.1 27 = .ok (.aload_n 0, 1) := by decide +kernel
theorem d_Fil_rightOfSharp_28 : decode i_Fil_rightOfSharp.2.1 28 = .ok (.iconst 4, 1) := by decide +kernel
theorem d_Fil_rightOfSharp_29 : decode i_Fil_rightOfSharp.2.1 29 = .ok (.invokevirtual 55, 3) := by decide +kernel
theorem d_Fil_rightOfSharp_32 : decode i_Fil_rightOfSharp.2.1 32 = .ok (.aload_n 0, 1) := by decide +kernel
theorem d_Fil_rightOfSharp_33 : decode i_Fil_rightOfSharp.2.1 33 = .ok (.iconst 4, 1) := by decide +kernel
theorem d_Fil_rightOfSharp_34 : decode i_Fil_rightOfSharp.2.1 34 = .ok (.invokevirtual 59, 3) := by decide +kernel
theorem d_Fil_rightOfSharp_37 : decode i_Fil_rightOfSharp.2.1 37 = .ok (.invokestatic 40, 3) := by decide +kernel
theorem d_Fil_rightOfSharp_40 : decode i_Fil_rightOfSharp.2.1 40 = .ok (.lxor, 1) := by decide +kernel
theorem d_Fil_rightOfSharp_41 : decode i_Fil_rightOfSharp.2.1 41 = .ok (.lreturn, 1) := by decide +kernel
theorem d_Fil_rightOfRound_0 : decode i_Fil_rightOfRound.2.1 0 = .ok (.lconst 0, 1) := by decide +kernel
theorem d_Fil_rightOfRound_1 : decode i_Fil_rightOfRound.2.1 1 = .ok (.lstore_n 1, 1) := by decide +kernel
theorem d_Fil_rightOfRound_2 : decode i_Fil_rightOfRound.2.1 2 = .ok (.iconst 0, 1) := by decide +kernel
theorem d_Fil_rightOfRound_3 : decode i_Fil_rightOfRound.2.1 3 = .ok (.istore_n 3, 1) := by decide +kernel
theorem d_Fil_rightOfRound_4 : decode i_Fil_rightOfRound.2.1 4 = .ok (.iload_n 3, 1) := by decide +kernel
theorem d_Fil_rightOfRound_5 : decode i_Fil_rightOfRound.2.1 5 = .ok (.iconst 4, 1) := by decide +kernel
theorem d_Fil_rightOfRound_6 : decode i_Fil_rightOfRound.2.1 6 = .ok (.if_icmp .ge 39, 3) := by decide +kernel
theorem d_Fil_rightOfRound_9 : decode i_Fil_rightOfRound.2.1 9 = .ok (.lload_n 1, 1) := by decide +kernel
theorem d_Fil_rightOfRound_10 : decode i_Fil_rightOfRound.2.1 10 = .ok (.aload_n 0, 1) := by decide +kernel
theorem d_Fil_rightOfRound_11 : decode i_Fil_rightOfRound.2.1 11 = .ok (.iload_n 3, 1) := by decide +kernel
theorem d_Fil_rightOfRound_12 : decode i_Fil_rightOfRound.2.1 12 = .ok (.invokevirtual 55, 3) := by decide +kernel
theorem d_Fil_rightOfRound_15 : decode i_Fil_rightOfRound.2.1 15 = .ok (.aload_n 0, 1) := by decide +kernel
theorem d_Fil_rightOfRound_16 : decode i_Fil_rightOfRound.2.1 16 = .ok (.iload_n 3, 1) := by decide +kernel
theorem d_Fil_rightOfRound_17 : decode i_Fil_rightOfRound.2.1 17 = .ok (.invokevirtual 59, 3) := by decide +kernel
theorem d_Fil_rightOfRound_20 : decode i_Fil_rightOfRound.2.1 20 = .ok (.aload_n 0, 1) := by decide +kernel
theorem d_Fil_rightOfRound_21 : decode i_Fil_rightOfRound.2.1 21 = .ok (.iload_n 3, 1) := by decide +kernel
theorem d_Fil_rightOfRound_22 : decode i_Fil_rightOfRound.2.1 22 = .ok (.iconst 1, 1) := by decide +kernel
theorem d_Fil_rightOfRound_23 : decode i_Fil_rightOfRound.2.1 23 = .ok (.iadd, 1) := by decide +kernel
theorem d_Fil_rightOfRound_24 : decode i_Fil_rightOfRound.2.1 24 = .ok (.invokevirtual 55, 3) := by decide +kernel
theorem d_Fil_rightOfRound_27 : decode i_Fil_rightOfRound.2.1 27 = .ok (.aload_n 0, 1) := by decide +kernel
theorem d_Fil_rightOfRound_28 : decode i_Fil_rightOfRound.2.1 28 = .ok (.iload_n 3, 1) := by decide +kernel
theorem d_Fil_rightOfRound_29 : decode i_Fil_rightOfRound.2.1 29 = .ok (.iconst 1, 1) := by decide +kernel
theorem d_Fil_rightOfRound_30 : decode i_Fil_rightOfRound.2.1 30 = .ok (.iadd, 1) := by decide +kernel
theorem d_Fil_rightOfRound_31 : decode i_Fil_rightOfRound.2.1 31 = .ok (.invokevirtual 59, 3) := by decide +kernel
theorem d_Fil_rightOfRound_34 : decode i_Fil_rightOfRound.2.1 34 = .ok (.invokestatic 40, 3) := by decide +kernel
theorem d_Fil_rightOfRound_37 : decode i_Fil_rightOfRound.2.1 37 = .ok (.lxor, 1) := by decide +kernel
theorem d_Fil_rightOfRound_38 : decode i_Fil_rightOfRound.2.1 38 = .ok (.lstore_n 1, 1) := by decide +kernel
theorem d_Fil_rightOfRound_39 : decode i_Fil_rightOfRound.2.1 39 = .ok (.iinc 3 1, 3) := by decide +kernel
theorem d_Fil_rightOfRound_42 : decode i_Fil_rightOfRound.2.1 42 = .ok (.goto (-38), 3) := by decide +kernel
theorem d_Fil_rightOfRound_45 : decode i_Fil_rightOfRound.2.1 45 = .ok (.lload_n 1, 1) := by decide +kernel
theorem d_Fil_rightOfRound_46 : decode i_Fil_rightOfRound.2.1 46 = .ok (.lreturn, 1) := by decide +kernel
theorem d_Fil_rightOf_0 : decode i_Fil_rightOf.2.1 0 = .ok (.iload_n 1, 1) := by decide +kernel
theorem d_Fil_rightOf_1 : decode i_Fil_rightOf.2.1 1 = .ok (.iload_n 3, 1) := by decide +kernel
theorem d_Fil_rightOf_2 : decode i_Fil_rightOf.2.1 2 = .ok (.if_icmp .le 11, 3) := by decide +kernel
theorem d_Fil_rightOf_5 : decode i_Fil_rightOf.2.1 5 = .ok (.iload_n 2, 1) := by decide +kernel
theorem d_Fil_rightOf_6 : decode i_Fil_rightOf.2.1 6 = .ok (.iload_n 3, 1) := by decide +kernel
theorem d_Fil_rightOf_7 : decode i_Fil_rightOf.2.1 7 = .ok (.iload_n 0, 1) := by decide +kernel
theorem d_Fil_rightOf_8 : decode i_Fil_rightOf.2.1 8 = .ok (.iload_n 1, 1) := by decide +kernel
theorem d_Fil_rightOf_9 : decode i_Fil_rightOf.2.1 9 = .ok (.invokestatic 62, 3) := by decide +kernel
theorem d_Fil_rightOf_12 : decode i_Fil_rightOf.2.1 12 = .ok (.lreturn, 1) := by decide +kernel
theorem d_Fil_rightOf_13 : decode i_Fil_rightOf.2.1 13 = .ok (.iload_n 0, 1) := by decide +kernel
theorem d_Fil_rightOf_14 : decode i_Fil_rightOf.2.1 14 = .ok (.iload_n 1, 1) := by decide +kernel
theorem d_Fil_rightOf_15 : decode i_Fil_rightOf.2.1 15 = .ok (.iload_n 2, 1) := by decide +kernel
theorem d_Fil_rightOf_16 : decode i_Fil_rightOf.2.1 16 = .ok (.iload_n 3, 1) := by decide +kernel
theorem d_Fil_rightOf_17 : decode i_Fil_rightOf.2.1 17 = .ok (.invokestatic 62, 3) := by decide +kernel
theorem d_Fil_rightOf_20 : decode i_Fil_rightOf.2.1 20 = .ok (.lreturn, 1) := by decide +kernel
theorem d_Fil_rightOfFalling_0 : decode i_Fil_rightOfFalling.2.1 0 = .ok (.lconst 0, 1) := by decide +kernel
theorem d_Fil_rightOfFalling_1 : decode i_Fil_rightOfFalling.2.1 1 = .ok (.lstore 4, 2) := by decide +kernel
theorem d_Fil_rightOfFalling_3 : decode i_Fil_rightOfFalling.2.1 3 = .ok (.iconst 0, 1) := by decide +kernel
theorem d_Fil_rightOfFalling_4 : decode i_Fil_rightOfFalling.2.1 4 = .ok (.istore 6, 2) := by decide +kernel
theorem d_Fil_rightOfFalling_6 : decode i_Fil_rightOfFalling.2.1 6 = .ok (.iload 6, 2) := by decide +kernel
theorem d_Fil_rightOfFalling_8 : decode i_Fil_rightOfFalling.2.1 8 = .ok (.bipush 8, 2) := by decide +kernel
theorem d_Fil_rightOfFalling_10 : decode i_Fil_rightOfFalling.2.1 10 = .ok (.if_icmp .ge 50, 3) := by decide +kernel
theorem d_Fil_rightOfFalling_13 : decode i_Fil_rightOfFalling.2.1 13 = .ok (.bipush 32, 2) := by decide +kernel
theorem d_Fil_rightOfFalling_15 : decode i_Fil_rightOfFalling.2.1 15 = .ok (.iload 6, 2) := by decide +kernel
theorem d_Fil_rightOfFalling_17 : decode i_Fil_rightOfFalling.2.1 17 = .ok (.imul, 1) := by decide +kernel
theorem d_Fil_rightOfFalling_18 : decode i_Fil_rightOfFalling.2.1 18 = .ok (.bipush 16, 2) := by decide +kernel
theorem d_Fil_rightOfFalling_20 : decode i_Fil_rightOfFalling.2.1 20 = .ok (.iadd, 1) := by decide +kernel
theorem d_Fil_rightOfFalling_21 : decode i_Fil_rightOfFalling.2.1 21 = .ok (.istore 7, 2) := by decide +kernel
theorem d_Fil_rightOfFalling_23 : decode i_Fil_rightOfFalling.2.1 23 = .ok (.iload_n 1, 1) := by decide +kernel
theorem d_Fil_rightOfFalling_24 : decode i_Fil_rightOfFalling.2.1 24 = .ok (.iload 7, 2) := by decide +kernel
theorem d_Fil_rightOfFalling_26 : decode i_Fil_rightOfFalling.2.1 26 = .ok (.if_icmp .ge 28, 3) := by decide +kernel
theorem d_Fil_rightOfFalling_29 : decode i_Fil_rightOfFalling.2.1 29 = .ok (.iload_n 3, 1) := by decide +kernel
theorem d_Fil_rightOfFalling_30 : decode i_Fil_rightOfFalling.2.1 30 = .ok (.iload 7, 2) := by decide +kernel
theorem d_Fil_rightOfFalling_32 : decode i_Fil_rightOfFalling.2.1 32 = .ok (.if_icmp .lt 22, 3) := by decide +kernel
theorem d_Fil_rightOfFalling_35 : decode i_Fil_rightOfFalling.2.1 35 = .ok (.lload 4, 2) := by decide +kernel
theorem d_Fil_rightOfFalling_37 : decode i_Fil_rightOfFalling.2.1 37 = .ok (.iload_n 0, 1) := by decide +kernel
theorem d_Fil_rightOfFalling_38 : decode i_Fil_rightOfFalling.2.1 38 = .ok (.iload_n 1, 1) := by decide +kernel
theorem d_Fil_rightOfFalling_39 : decode i_Fil_rightOfFalling.2.1 39 = .ok (.iload_n 2, 1) := by decide +kernel
theorem d_Fil_rightOfFalling_40 : decode i_Fil_rightOfFalling.2.1 40 = .ok (.iload_n 3, 1) := by decide +kernel
theorem d_Fil_rightOfFalling_41 : decode i_Fil_rightOfFalling.2.1 41 = .ok (.iload 7, 2) := by decide +kernel
theorem d_Fil_rightOfFalling_43 : decode i_Fil_rightOfFalling.2.1 43 = .ok (.invokestatic 67, 3) := by decide +kernel
theorem d_Fil_rightOfFalling_46 : decode i_Fil_rightOfFalling.2.1 46 = .ok (.iload 6, 2) := by decide +kernel
theorem d_Fil_rightOfFalling_48 : decode i_Fil_rightOfFalling.2.1 48 = .ok (.invokestatic 71, 3) := by decide +kernel
theorem d_Fil_rightOfFalling_51 : decode i_Fil_rightOfFalling.2.1 51 = .ok (.lor, 1) := by decide +kernel
theorem d_Fil_rightOfFalling_52 : decode i_Fil_rightOfFalling.2.1 52 = .ok (.lstore 4, 2) := by decide +kernel
theorem d_Fil_rightOfFalling_54 : decode i_Fil_rightOfFalling.2.1 54 = .ok (.iinc 6 1, 3) := by decide +kernel
theorem d_Fil_rightOfFalling_57 : decode i_Fil_rightOfFalling.2.1 57 = .ok (.goto (-51), 3) := by decide +kernel
theorem d_Fil_rightOfFalling_60 : decode i_Fil_rightOfFalling.2.1 60 = .ok (.lload 4, 2) := by decide +kernel
theorem d_Fil_rightOfFalling_62 : decode i_Fil_rightOfFalling.2.1 62 = .ok (.lreturn, 1) := by decide +kernel
theorem d_Fil_firstColumnRightOf_0 : decode i_Fil_firstColumnRightOf.2.1 0 = .ok (.iconst 0, 1) := by decide +kernel
theorem d_Fil_firstColumnRightOf_1 : decode i_Fil_firstColumnRightOf.2.1 1 = .ok (.istore 5, 2) := by decide +kernel
theorem d_Fil_firstColumnRightOf_3 : decode i_Fil_firstColumnRightOf.2.1 3 = .ok (.iload 5, 2) := by decide +kernel
theorem d_Fil_firstColumnRightOf_5 : decode i_Fil_firstColumnRightOf.2.1 5 = .ok (.bipush 8, 2) := by decide +kernel
theorem d_Fil_firstColumnRightOf_7 : decode i_Fil_firstColumnRightOf.2.1 7 = .ok (.if_icmp .ge 41, 3) := by decide +kernel
theorem d_Fil_firstColumnRightOf_10 : decode i_Fil_firstColumnRightOf.2.1 10 = .ok (.bipush 32, 2) := by decide +kernel
theorem d_Fil_firstColumnRightOf_12 : decode i_Fil_firstColumnRightOf.2.1 12 = .ok (.iload 5, 2) := by decide +kernel
theorem d_Fil_firstColumnRightOf_14 : decode i_Fil_firstColumnRightOf.2.1 14 = .ok (.imul, 1) := by decide +kernel
theorem d_Fil_firstColumnRightOf_15 : decode i_Fil_firstColumnRightOf.2.1 15 = .ok (.bipush 16, 2) := by decide +kernel
theorem d_Fil_firstColumnRightOf_17 : decode i_Fil_firstColumnRightOf.2.1 17 = .ok (.iadd, 1) := by decide +kernel
theorem d_Fil_firstColumnRightOf_18 : decode i_Fil_firstColumnRightOf.2.1 18 = .ok (.istore 6, 2) := by decide +kernel
theorem d_Fil_firstColumnRightOf_20 : decode i_Fil_firstColumnRightOf.2.1 20 = .ok (.iload 4, 2) := by decide +kernel
theorem d_Fil_firstColumnRightOf_22 : decode i_Fil_firstColumnRightOf.2.1 22 = .ok (.iload_n 1, 1) := by decide +kernel
theorem d_Fil_firstColumnRightOf_23 : decode i_Fil_firstColumnRightOf.2.1 23 = .ok (.isub, 1) := by decide +kernel
theorem d_Fil_firstColumnRightOf_24 : decode i_Fil_firstColumnRightOf.2.1 24 = .ok (.iload_n 2, 1) := by decide +kernel
theorem d_Fil_firstColumnRightOf_25 : decode i_Fil_firstColumnRightOf.2.1 25 = .ok (.iload_n 0, 1) := by decide +kernel
theorem d_Fil_firstColumnRightOf_26 : decode i_Fil_firstColumnRightOf.2.1 26 = .ok (.isub, 1) := by decide +kernel
theorem d_Fil_firstColumnRightOf_27 : decode i_Fil_firstColumnRightOf.2.1 27 = .ok (.imul, 1) := by decide +kernel
theorem d_Fil_firstColumnRightOf_28 : decode i_Fil_firstColumnRightOf.2.1 28 = .ok (.iload 6, 2) := by decide +kernel
theorem d_Fil_firstColumnRightOf_30 : decode i_Fil_firstColumnRightOf.2.1 30 = .ok (.iload_n 0, 1) := by decide +kernel
theorem d_Fil_firstColumnRightOf_31 : decode i_Fil_firstColumnRightOf.2.1 31 = .ok (.isub, 1) := by decide +kernel
theorem d_Fil_firstColumnRightOf_32 : decode i_Fil_firstColumnRightOf.2.1 32 = .ok (.iload_n 3, 1) := by decide +kernel
theorem d_Fil_firstColumnRightOf_33 : decode i_Fil_firstColumnRightOf.2.1 33 = .ok (.iload_n 1, 1) := by decide +kernel
theorem d_Fil_firstColumnRightOf_34 : decode i_Fil_firstColumnRightOf.2.1 34 = .ok (.isub, 1) := by decide +kernel
theorem d_Fil_firstColumnRightOf_35 : decode i_Fil_firstColumnRightOf.2.1 35 = .ok (.imul, 1) := by decide +kernel
theorem d_Fil_firstColumnRightOf_36 : decode i_Fil_firstColumnRightOf.2.1 36 = .ok (.if_icmp .ge 6, 3) := by decide +kernel
theorem d_Fil_firstColumnRightOf_39 : decode i_Fil_firstColumnRightOf.2.1 39 = .ok (.iload 5, 2) := by decide +kernel
theorem d_Fil_firstColumnRightOf_41 : decode i_Fil_firstColumnRightOf.2.1 41 = .ok (.ireturn, 1) := by decide +kernel
theorem d_Fil_firstColumnRightOf_42 : decode i_Fil_firstColumnRightOf.2.1 42 = .ok (.iinc 5 1, 3) := by decide +kernel
theorem d_Fil_firstColumnRightOf_45 : decode i_Fil_firstColumnRightOf.2.1 45 = .ok (.goto (-42), 3) := by decide +kernel
theorem d_Fil_firstColumnRightOf_48 : decode i_Fil_firstColumnRightOf.2.1 48 = .ok (.bipush 8, 2) := by decide +kernel
theorem d_Fil_firstColumnRightOf_50 : decode i_Fil_firstColumnRightOf.2.1 50 = .ok (.ireturn, 1) := by decide +kernel
theorem d_Grid_columnOf_0 : decode i_Grid_columnOf.2.1 0 = .ok (.iload_n 0, 1) := by decide +kernel
theorem d_Grid_columnOf_1 : decode i_Grid_columnOf.2.1 1 = .ok (.bipush 7, 2) := by decide +kernel
theorem d_Grid_columnOf_3 : decode i_Grid_columnOf.2.1 3 = .ok (.iand, 1) := by decide +kernel
theorem d_Grid_columnOf_4 : decode i_Grid_columnOf.2.1 4 = .ok (.ireturn, 1) := by decide +kernel
theorem d_Grid_rowOf_0 : decode i_Grid_rowOf.2.1 0 = .ok (.iload_n 0, 1) := by decide +kernel
theorem d_Grid_rowOf_1 : decode i_Grid_rowOf.2.1 1 = .ok (.iconst 3, 1) := by decide +kernel
theorem d_Grid_rowOf_2 : decode i_Grid_rowOf.2.1 2 = .ok (.ishr, 1) := by decide +kernel
theorem d_Grid_rowOf_3 : decode i_Grid_rowOf.2.1 3 = .ok (.bipush 7, 2) := by decide +kernel
theorem d_Grid_rowOf_5 : decode i_Grid_rowOf.2.1 5 = .ok (.iand, 1) := by decide +kernel
theorem d_Grid_rowOf_6 : decode i_Grid_rowOf.2.1 6 = .ok (.ireturn, 1) := by decide +kernel
theorem d_Grid_bit_0 : decode i_Grid_bit.2.1 0 = .ok (.iload_n 0, 1) := by decide +kernel
theorem d_Grid_bit_1 : decode i_Grid_bit.2.1 1 = .ok (.ifCond .lt 19, 3) := by decide +kernel
theorem d_Grid_bit_4 : decode i_Grid_bit.2.1 4 = .ok (.iload_n 0, 1) := by decide +kernel
theorem d_Grid_bit_5 : decode i_Grid_bit.2.1 5 = .ok (.bipush 8, 2) := by decide +kernel
theorem d_Grid_bit_7 : decode i_Grid_bit.2.1 7 = .ok (.if_icmp .ge 13, 3) := by decide +kernel
theorem d_Grid_bit_10 : decode i_Grid_bit.2.1 10 = .ok (.iload_n 1, 1) := by decide +kernel
theorem d_Grid_bit_11 : decode i_Grid_bit.2.1 11 = .ok (.ifCond .lt 9, 3) := by decide +kernel
theorem d_Grid_bit_14 : decode i_Grid_bit.2.1 14 = .ok (.iload_n 1, 1) := by decide +kernel
theorem d_Grid_bit_15 : decode i_Grid_bit.2.1 15 = .ok (.bipush 8, 2) := by decide +kernel
theorem d_Grid_bit_17 : decode i_Grid_bit.2.1 17 = .ok (.if_icmp .lt 5, 3) := by decide +kernel
theorem d_Grid_bit_20 : decode i_Grid_bit.2.1 20 = .ok (.lconst 0, 1) := by decide +kernel
theorem d_Grid_bit_21 : decode i_Grid_bit.2.1 21 = .ok (.lreturn, 1) := by decide +kernel
theorem d_Grid_bit_22 : decode i_Grid_bit.2.1 22 = .ok (.lconst 1, 1) := by decide +kernel
theorem d_Grid_bit_23 : decode i_Grid_bit.2.1 23 = .ok (.bipush 8, 2) := by decide +kernel
theorem d_Grid_bit_25 : decode i_Grid_bit.2.1 25 = .ok (.iload_n 1, 1) := by decide +kernel
theorem d_Grid_bit_26 : decode i_Grid_bit.2.1 26 = .ok (.imul, 1) := by decide +kernel
theorem d_Grid_bit_27 : decode i_Grid_bit.2.1 27 = .ok (.iload_n 0, 1) := by decide +kernel
theorem d_Grid_bit_28 : decode i_Grid_bit.2.1 28 = .ok (.iadd, 1) := by decide +kernel
theorem d_Grid_bit_29 : decode i_Grid_bit.2.1 29 = .ok (.lshl, 1) := by decide +kernel
theorem d_Grid_bit_30 : decode i_Grid_bit.2.1 30 = .ok (.lreturn, 1) := by decide +kernel
theorem d_Grid_rowFrom_0 : decode i_Grid_rowFrom.2.1 0 = .ok (.iload_n 0, 1) := by decide +kernel
theorem d_Grid_rowFrom_1 : decode i_Grid_rowFrom.2.1 1 = .ok (.ifCond .lt 19, 3) := by decide +kernel
theorem d_Grid_rowFrom_4 : decode i_Grid_rowFrom.2.1 4 = .ok (.iload_n 0, 1) := by decide +kernel
theorem d_Grid_rowFrom_5 : decode i_Grid_rowFrom.2.1 5 = .ok (.bipush 8, 2) := by decide +kernel
theorem d_Grid_rowFrom_7 : decode i_Grid_rowFrom.2.1 7 = .ok (.if_icmp .ge 13, 3) := by decide +kernel
theorem d_Grid_rowFrom_10 : decode i_Grid_rowFrom.2.1 10 = .ok (.iload_n 1, 1) := by decide +kernel
theorem d_Grid_rowFrom_11 : decode i_Grid_rowFrom.2.1 11 = .ok (.ifCond .lt 9, 3) := by decide +kernel
theorem d_Grid_rowFrom_14 : decode i_Grid_rowFrom.2.1 14 = .ok (.iload_n 1, 1) := by decide +kernel
theorem d_Grid_rowFrom_15 : decode i_Grid_rowFrom.2.1 15 = .ok (.bipush 8, 2) := by decide +kernel
theorem d_Grid_rowFrom_17 : decode i_Grid_rowFrom.2.1 17 = .ok (.if_icmp .lt 5, 3) := by decide +kernel
theorem d_Grid_rowFrom_20 : decode i_Grid_rowFrom.2.1 20 = .ok (.lconst 0, 1) := by decide +kernel
theorem d_Grid_rowFrom_21 : decode i_Grid_rowFrom.2.1 21 = .ok (.lreturn, 1) := by decide +kernel
theorem d_Grid_rowFrom_22 : decode i_Grid_rowFrom.2.1 22 = .ok (.ldc2_w 9, 3) := by decide +kernel
theorem d_Grid_rowFrom_25 : decode i_Grid_rowFrom.2.1 25 = .ok (.iload_n 0, 1) := by decide +kernel
theorem d_Grid_rowFrom_26 : decode i_Grid_rowFrom.2.1 26 = .ok (.lshl, 1) := by decide +kernel
theorem d_Grid_rowFrom_27 : decode i_Grid_rowFrom.2.1 27 = .ok (.ldc2_w 9, 3) := by decide +kernel
theorem d_Grid_rowFrom_30 : decode i_Grid_rowFrom.2.1 30 = .ok (.land, 1) := by decide +kernel
theorem d_Grid_rowFrom_31 : decode i_Grid_rowFrom.2.1 31 = .ok (.bipush 8, 2) := by decide +kernel
theorem d_Grid_rowFrom_33 : decode i_Grid_rowFrom.2.1 33 = .ok (.iload_n 1, 1) := by decide +kernel
theorem d_Grid_rowFrom_34 : decode i_Grid_rowFrom.2.1 34 = .ok (.imul, 1) := by decide +kernel
theorem d_Grid_rowFrom_35 : decode i_Grid_rowFrom.2.1 35 = .ok (.lshl, 1) := by decide +kernel
theorem d_Grid_rowFrom_36 : decode i_Grid_rowFrom.2.1 36 = .ok (.lreturn, 1) := by decide +kernel
theorem d_Grid_block_0 : decode i_Grid_block.2.1 0 = .ok (.lconst 0, 1) := by decide +kernel
theorem d_Grid_block_1 : decode i_Grid_block.2.1 1 = .ok (.lstore 4, 2) := by decide +kernel
theorem d_Grid_block_3 : decode i_Grid_block.2.1 3 = .ok (.iload_n 1, 1) := by decide +kernel
theorem d_Grid_block_4 : decode i_Grid_block.2.1 4 = .ok (.iconst 0, 1) := by decide +kernel
theorem d_Grid_block_5 : decode i_Grid_block.2.1 5 = .ok (.invokestatic 11, 3) := by decide +kernel
theorem d_Grid_block_8 : decode i_Grid_block.2.1 8 = .ok (.istore 6, 2) := by decide +kernel
theorem d_Grid_block_10 : decode i_Grid_block.2.1 10 = .ok (.iload 6, 2) := by decide +kernel
theorem d_Grid_block_12 : decode i_Grid_block.2.1 12 = .ok (.iload_n 3, 1) := by decide +kernel
theorem d_Grid_block_13 : decode i_Grid_block.2.1 13 = .ok (.if_icmp .gt 40, 3) := by decide +kernel
theorem d_Grid_block_16 : decode i_Grid_block.2.1 16 = .ok (.iload 6, 2) := by decide +kernel
theorem d_Grid_block_18 : decode i_Grid_block.2.1 18 = .ok (.bipush 8, 2) := by decide +kernel
theorem d_Grid_block_20 : decode i_Grid_block.2.1 20 = .ok (.if_icmp .ge 33, 3) := by decide +kernel
theorem d_Grid_block_23 : decode i_Grid_block.2.1 23 = .ok (.lload 4, 2) := by decide +kernel
theorem d_Grid_block_25 : decode i_Grid_block.2.1 25 = .ok (.iload_n 0, 1) := by decide +kernel
theorem d_Grid_block_26 : decode i_Grid_block.2.1 26 = .ok (.iload 6, 2) := by decide +kernel
theorem d_Grid_block_28 : decode i_Grid_block.2.1 28 = .ok (.invokestatic 17, 3) := by decide +kernel
theorem d_Grid_block_31 : decode i_Grid_block.2.1 31 = .ok (.iload_n 2, 1) := by decide +kernel
theorem d_Grid_block_32 : decode i_Grid_block.2.1 32 = .ok (.iconst 1, 1) := by decide +kernel
theorem d_Grid_block_33 : decode i_Grid_block.2.1 33 = .ok (.iadd, 1) := by decide +kernel
theorem d_Grid_block_34 : decode i_Grid_block.2.1 34 = .ok (.iload 6, 2) := by decide +kernel
theorem d_Grid_block_36 : decode i_Grid_block.2.1 36 = .ok (.invokestatic 17, 3) := by decide +kernel
theorem d_Grid_block_39 : decode i_Grid_block.2.1 39 = .ok (.ldc2_w 21, 3) := by decide +kernel
theorem d_Grid_block_42 : decode i_Grid_block.2.1 42 = .ok (.lxor, 1) := by decide +kernel
theorem d_Grid_block_43 : decode i_Grid_block.2.1 43 = .ok (.land, 1) := by decide +kernel
theorem d_Grid_block_44 : decode i_Grid_block.2.1 44 = .ok (.lor, 1) := by decide +kernel
theorem d_Grid_block_45 : decode i_Grid_block.2.1 45 = .ok (.lstore 4, 2) := by decide +kernel
theorem d_Grid_block_47 : decode i_Grid_block.2.1 47 = .ok (.iinc 6 1, 3) := by decide +kernel
theorem d_Grid_block_50 : decode i_Grid_block.2.1 50 = .ok (.goto (-40), 3) := by decide +kernel
theorem d_Grid_block_53 : decode i_Grid_block.2.1 53 = .ok (.lload 4, 2) := by decide +kernel
theorem d_Grid_block_55 : decode i_Grid_block.2.1 55 = .ok (.lreturn, 1) := by decide +kernel
theorem d_Pic_init_0 : decode i_Pic_init.2.1 0 = .ok (.aload_n 0, 1) := by decide +kernel
theorem d_Pic_init_1 : decode i_Pic_init.2.1 1 = .ok (.invokespecial 1, 3) := by decide +kernel
theorem d_Pic_init_4 : decode i_Pic_init.2.1 4 = .ok (.return_, 1) := by decide +kernel
theorem d_Pic_isThere_0 : decode i_Pic_isThere.2.1 0 = .ok (.aload_n 0, 1) := by decide +kernel
theorem d_Pic_isThere_1 : decode i_Pic_isThere.2.1 1 = .ok (.getfield 7, 3) := by decide +kernel
theorem d_Pic_isThere_4 : decode i_Pic_isThere.2.1 4 = .ok (.ifCond .le 7, 3) := by decide +kernel
theorem d_Pic_isThere_7 : decode i_Pic_isThere.2.1 7 = .ok (.iconst 1, 1) := by decide +kernel
theorem d_Pic_isThere_8 : decode i_Pic_isThere.2.1 8 = .ok (.goto 4, 3) := by decide +kernel
theorem d_Pic_isThere_11 : decode i_Pic_isThere.2.1 11 = .ok (.iconst 0, 1) := by decide +kernel
theorem d_Pic_isThere_12 : decode i_Pic_isThere.2.1 12 = .ok (.ireturn, 1) := by decide +kernel
theorem d_Pic_has_0 : decode i_Pic_has.2.1 0 = .ok (.iload_n 1, 1) := by decide +kernel
theorem d_Pic_has_1 : decode i_Pic_has.2.1 1 = .ok (.ifCond .lt 27, 3) := by decide +kernel
theorem d_Pic_has_4 : decode i_Pic_has.2.1 4 = .ok (.iload_n 1, 1) := by decide +kernel
theorem d_Pic_has_5 : decode i_Pic_has.2.1 5 = .ok (.aload_n 0, 1) := by decide +kernel
theorem d_Pic_has_6 : decode i_Pic_has.2.1 6 = .ok (.getfield 7, 3) := by decide +kernel
theorem d_Pic_has_9 : decode i_Pic_has.2.1 9 = .ok (.if_icmp .ge 19, 3) := by decide +kernel
theorem d_Pic_has_12 : decode i_Pic_has.2.1 12 = .ok (.iload_n 2, 1) := by decide +kernel
theorem d_Pic_has_13 : decode i_Pic_has.2.1 13 = .ok (.ifCond .lt 15, 3) := by decide +kernel
theorem d_Pic_has_16 : decode i_Pic_has.2.1 16 = .ok (.iload_n 2, 1) := by decide +kernel
theorem d_Pic_has_17 : decode i_Pic_has.2.1 17 = .ok (.aload_n 0, 1) := by decide +kernel
theorem d_Pic_has_18 : decode i_Pic_has.2.1 18 = .ok (.getfield 13, 3) := by decide +kernel
theorem d_Pic_has_21 : decode i_Pic_has.2.1 21 = .ok (.if_icmp .ge 7, 3) := by decide +kernel
theorem d_Pic_has_24 : decode i_Pic_has.2.1 24 = .ok (.iconst 1, 1) := by decide +kernel
theorem d_Pic_has_25 : decode i_Pic_has.2.1 25 = .ok (.goto 4, 3) := by decide +kernel
theorem d_Pic_has_28 : decode i_Pic_has.2.1 28 = .ok (.iconst 0, 1) := by decide +kernel
theorem d_Pic_has_29 : decode i_Pic_has.2.1 29 = .ok (.ireturn, 1) := by decide +kernel
theorem d_Pic_isDark_0 : decode i_Pic_isDark.2.1 0 = .ok (.aload_n 0, 1) := by decide +kernel
theorem d_Pic_isDark_1 : decode i_Pic_isDark.2.1 1 = .ok (.getfield 16, 3) := by decide +kernel
theorem d_Pic_isDark_4 : decode i_Pic_isDark.2.1 4 = .ok (.iload_n 1, 1) := by decide +kernel
theorem d_Pic_isDark_5 : decode i_Pic_isDark.2.1 5 = .ok (.iload_n 2, 1) := by decide +kernel
theorem d_Pic_isDark_6 : decode i_Pic_isDark.2.1 6 = .ok (.invokestatic 20, 3) := by decide +kernel
theorem d_Pic_isDark_9 : decode i_Pic_isDark.2.1 9 = .ok (.land, 1) := by decide +kernel
theorem d_Pic_isDark_10 : decode i_Pic_isDark.2.1 10 = .ok (.lconst 0, 1) := by decide +kernel
theorem d_Pic_isDark_11 : decode i_Pic_isDark.2.1 11 = .ok (.lcmp, 1) := by decide +kernel
theorem d_Pic_isDark_12 : decode i_Pic_isDark.2.1 12 = .ok (.ifCond .eq 7, 3) := by decide +kernel
theorem d_Pic_isDark_15 : decode i_Pic_isDark.2.1 15 = .ok (.iconst 1, 1) := by decide +kernel
theorem d_Pic_isDark_16 : decode i_Pic_isDark.2.1 16 = .ok (.goto 4, 3) := by decide +kernel
theorem d_Pic_isDark_19 : decode i_Pic_isDark.2.1 19 = .ok (.iconst 0, 1) := by decide +kernel
theorem d_Pic_isDark_20 : decode i_Pic_isDark.2.1 20 = .ok (.ireturn, 1) := by decide +kernel
theorem d_Pic_darkDots_0 : decode i_Pic_darkDots.2.1 0 = .ok (.aload_n 0, 1) := by decide +kernel
theorem d_Pic_darkDots_1 : decode i_Pic_darkDots.2.1 1 = .ok (.getfield 16, 3) := by decide +kernel
theorem d_Pic_darkDots_4 : decode i_Pic_darkDots.2.1 4 = .ok (.invokestatic 26, 3) := by decide +kernel
theorem d_Pic_darkDots_7 : decode i_Pic_darkDots.2.1 7 = .ok (.ireturn, 1) := by decide +kernel
theorem d_Pic_lay_0 : decode i_Pic_lay.2.1 0 = .ok (.iload_n 3, 1) := by decide +kernel
end
section
theorem d_Pic_lay_1 : decode i_Pic_lay.2.1 1 = .ok (.ifCond .ne 20, 3) := by decide +kernel
theorem d_Pic_lay_4 : decode i_Pic_lay.2.1 4 = .ok (.aload_n 0, 1) := by decide +kernel
theorem d_Pic_lay_5 : decode i_Pic_lay.2.1 5 = .ok (.dup, 1) := by decide +kernel
theorem d_Pic_lay_6 : decode i_Pic_lay.2.1 6 = .ok (.getfield 16, 3) := by decide +kernel
theorem d_Pic_lay_9 : decode i_Pic_lay.2.1 9 = .ok (.lload_n 1, 1) := by decide +kernel
theorem d_Pic_lay_10 : decode i_Pic_lay.2.1 10 = .ok (.ldc2_w 32, 3) := by decide +kernel
theorem d_Pic_lay_13 : decode i_Pic_lay.2.1 13 = .ok (.lxor, 1) := by decide +kernel
theorem d_Pic_lay_14 : decode i_Pic_lay.2.1 14 = .ok (.land, 1) := by decide +kernel
theorem d_Pic_lay_15 : decode i_Pic_lay.2.1 15 = .ok (.putfield 16, 3) := by decide +kernel
theorem d_Pic_lay_18 : decode i_Pic_lay.2.1 18 = .ok (.goto 31, 3) := by decide +kernel
theorem d_Pic_lay_21 : decode i_Pic_lay.2.1 21 = .ok (.iload_n 3, 1) := by decide +kernel
theorem d_Pic_lay_22 : decode i_Pic_lay.2.1 22 = .ok (.iconst 1, 1) := by decide +kernel
theorem d_Pic_lay_23 : decode i_Pic_lay.2.1 23 = .ok (.if_icmp .ne 16, 3) := by decide +kernel
theorem d_Pic_lay_26 : decode i_Pic_lay.2.1 26 = .ok (.aload_n 0, 1) := by decide +kernel
theorem d_Pic_lay_27 : decode i_Pic_lay.2.1 27 = .ok (.dup, 1) := by decide +kernel
theorem d_Pic_lay_28 : decode i_Pic_lay.2.1 28 = .ok (.getfield 16, 3) := by decide +kernel
theorem d_Pic_lay_31 : decode i_Pic_lay.2.1 31 = .ok (.lload_n 1, 1) := by decide +kernel
theorem d_Pic_lay_32 : decode i_Pic_lay.2.1 32 = .ok (.lor, 1) := by decide +kernel
theorem d_Pic_lay_33 : decode i_Pic_lay.2.1 33 = .ok (.putfield 16, 3) := by decide +kernel
theorem d_Pic_lay_36 : decode i_Pic_lay.2.1 36 = .ok (.goto 13, 3) := by decide +kernel
theorem d_Pic_lay_39 : decode i_Pic_lay.2.1 39 = .ok (.aload_n 0, 1) := by decide +kernel
theorem d_Pic_lay_40 : decode i_Pic_lay.2.1 40 = .ok (.dup, 1) := by decide +kernel
theorem d_Pic_lay_41 : decode i_Pic_lay.2.1 41 = .ok (.getfield 16, 3) := by decide +kernel
theorem d_Pic_lay_44 : decode i_Pic_lay.2.1 44 = .ok (.lload_n 1, 1) := by decide +kernel
theorem d_Pic_lay_45 : decode i_Pic_lay.2.1 45 = .ok (.lxor, 1) := by decide +kernel
theorem d_Pic_lay_46 : decode i_Pic_lay.2.1 46 = .ok (.putfield 16, 3) := by decide +kernel
theorem d_Pic_lay_49 : decode i_Pic_lay.2.1 49 = .ok (.return_, 1) := by decide +kernel
theorem d_Pic_becomeLike_0 : decode i_Pic_becomeLike.2.1 0 = .ok (.aload_n 0, 1) := by decide +kernel
theorem d_Pic_becomeLike_1 : decode i_Pic_becomeLike.2.1 1 = .ok (.aload_n 1, 1) := by decide +kernel
theorem d_Pic_becomeLike_2 : decode i_Pic_becomeLike.2.1 2 = .ok (.getfield 7, 3) := by decide +kernel
theorem d_Pic_becomeLike_5 : decode i_Pic_becomeLike.2.1 5 = .ok (.putfield 7, 3) := by decide +kernel
theorem d_Pic_becomeLike_8 : decode i_Pic_becomeLike.2.1 8 = .ok (.aload_n 0, 1) := by decide +kernel
theorem d_Pic_becomeLike_9 : decode i_Pic_becomeLike.2.1 9 = .ok (.aload_n 1, 1) := by decide +kernel
theorem d_Pic_becomeLike_10 : decode i_Pic_becomeLike.2.1 10 = .ok (.getfield 13, 3) := by decide +kernel
theorem d_Pic_becomeLike_13 : decode i_Pic_becomeLike.2.1 13 = .ok (.putfield 13, 3) := by decide +kernel
theorem d_Pic_becomeLike_16 : decode i_Pic_becomeLike.2.1 16 = .ok (.aload_n 0, 1) := by decide +kernel
theorem d_Pic_becomeLike_17 : decode i_Pic_becomeLike.2.1 17 = .ok (.aload_n 1, 1) := by decide +kernel
theorem d_Pic_becomeLike_18 : decode i_Pic_becomeLike.2.1 18 = .ok (.getfield 16, 3) := by decide +kernel
theorem d_Pic_becomeLike_21 : decode i_Pic_becomeLike.2.1 21 = .ok (.putfield 16, 3) := by decide +kernel
theorem d_Pic_becomeLike_24 : decode i_Pic_becomeLike.2.1 24 = .ok (.aload_n 0, 1) := by decide +kernel
theorem d_Pic_becomeLike_25 : decode i_Pic_becomeLike.2.1 25 = .ok (.aload_n 1, 1) := by decide +kernel
theorem d_Pic_becomeLike_26 : decode i_Pic_becomeLike.2.1 26 = .ok (.getfield 34, 3) := by decide +kernel
theorem d_Pic_becomeLike_29 : decode i_Pic_becomeLike.2.1 29 = .ok (.putfield 34, 3) := by decide +kernel
theorem d_Pic_becomeLike_32 : decode i_Pic_becomeLike.2.1 32 = .ok (.aload_n 0, 1) := by decide +kernel
theorem d_Pic_becomeLike_33 : decode i_Pic_becomeLike.2.1 33 = .ok (.aload_n 1, 1) := by decide +kernel
theorem d_Pic_becomeLike_34 : decode i_Pic_becomeLike.2.1 34 = .ok (.getfield 37, 3) := by decide +kernel
theorem d_Pic_becomeLike_37 : decode i_Pic_becomeLike.2.1 37 = .ok (.putfield 37, 3) := by decide +kernel
theorem d_Pic_becomeLike_40 : decode i_Pic_becomeLike.2.1 40 = .ok (.return_, 1) := by decide +kernel
theorem d_Pol_init_0 : decode i_Pol_init.2.1 0 = .ok (.aload_n 0, 1) := by decide +kernel
theorem d_Pol_init_1 : decode i_Pol_init.2.1 1 = .ok (.invokespecial 1, 3) := by decide +kernel
theorem d_Pol_init_4 : decode i_Pol_init.2.1 4 = .ok (.aload_n 0, 1) := by decide +kernel
theorem d_Pol_init_5 : decode i_Pol_init.2.1 5 = .ok (.new 7, 3) := by decide +kernel
theorem d_Pol_init_8 : decode i_Pol_init.2.1 8 = .ok (.dup, 1) := by decide +kernel
theorem d_Pol_init_9 : decode i_Pol_init.2.1 9 = .ok (.invokespecial 9, 3) := by decide +kernel
theorem d_Pol_init_12 : decode i_Pol_init.2.1 12 = .ok (.putfield 10, 3) := by decide +kernel
theorem d_Pol_init_15 : decode i_Pol_init.2.1 15 = .ok (.aload_n 0, 1) := by decide +kernel
theorem d_Pol_init_16 : decode i_Pol_init.2.1 16 = .ok (.sipush 144, 3) := by decide +kernel
theorem d_Pol_init_19 : decode i_Pol_init.2.1 19 = .ok (.newarray .int, 2) := by decide +kernel
theorem d_Pol_init_21 : decode i_Pol_init.2.1 21 = .ok (.putfield 18, 3) := by decide +kernel
theorem d_Pol_init_24 : decode i_Pol_init.2.1 24 = .ok (.aload_n 0, 1) := by decide +kernel
theorem d_Pol_init_25 : decode i_Pol_init.2.1 25 = .ok (.sipush 145, 3) := by decide +kernel
theorem d_Pol_init_28 : decode i_Pol_init.2.1 28 = .ok (.newarray .int, 2) := by decide +kernel
theorem d_Pol_init_30 : decode i_Pol_init.2.1 30 = .ok (.putfield 22, 3) := by decide +kernel
theorem d_Pol_init_33 : decode i_Pol_init.2.1 33 = .ok (.aload_n 0, 1) := by decide +kernel
theorem d_Pol_init_34 : decode i_Pol_init.2.1 34 = .ok (.aload_n 1, 1) := by decide +kernel
theorem d_Pol_init_35 : decode i_Pol_init.2.1 35 = .ok (.putfield 25, 3) := by decide +kernel
theorem d_Pol_init_38 : decode i_Pol_init.2.1 38 = .ok (.aload_n 0, 1) := by decide +kernel
theorem d_Pol_init_39 : decode i_Pol_init.2.1 39 = .ok (.aload_n 2, 1) := by decide +kernel
theorem d_Pol_init_40 : decode i_Pol_init.2.1 40 = .ok (.putfield 29, 3) := by decide +kernel
theorem d_Pol_init_43 : decode i_Pol_init.2.1 43 = .ok (.return_, 1) := by decide +kernel
theorem d_Pol_fewestThrough_0 : decode i_Pol_fewestThrough.2.1 0 = .ok (.aload_n 0, 1) := by decide +kernel
theorem d_Pol_fewestThrough_1 : decode i_Pol_fewestThrough.2.1 1 = .ok (.getfield 29, 3) := by decide +kernel
theorem d_Pol_fewestThrough_4 : decode i_Pol_fewestThrough.2.1 4 = .ok (.aload_n 1, 1) := by decide +kernel
theorem d_Pol_fewestThrough_5 : decode i_Pol_fewestThrough.2.1 5 = .ok (.invokevirtual 33, 3) := by decide +kernel
theorem d_Pol_fewestThrough_8 : decode i_Pol_fewestThrough.2.1 8 = .ok (.aload_n 0, 1) := by decide +kernel
theorem d_Pol_fewestThrough_9 : decode i_Pol_fewestThrough.2.1 9 = .ok (.aload_n 1, 1) := by decide +kernel
theorem d_Pol_fewestThrough_10 : decode i_Pol_fewestThrough.2.1 10 = .ok (.iload_n 2, 1) := by decide +kernel
theorem d_Pol_fewestThrough_11 : decode i_Pol_fewestThrough.2.1 11 = .ok (.invokevirtual 39, 3) := by decide +kernel
theorem d_Pol_fewestThrough_14 : decode i_Pol_fewestThrough.2.1 14 = .ok (.ldc 43, 2) := by decide +kernel
theorem d_Pol_fewestThrough_16 : decode i_Pol_fewestThrough.2.1 16 = .ok (.idiv, 1) := by decide +kernel
theorem d_Pol_fewestThrough_17 : decode i_Pol_fewestThrough.2.1 17 = .ok (.ireturn, 1) := by decide +kernel
theorem d_Pol_cornerOfVertex_0 : decode i_Pol_cornerOfVertex.2.1 0 = .ok (.iload_n 2, 1) := by decide +kernel
theorem d_Pol_cornerOfVertex_1 : decode i_Pol_cornerOfVertex.2.1 1 = .ok (.ifCond .lt 10, 3) := by decide +kernel
theorem d_Pol_cornerOfVertex_4 : decode i_Pol_cornerOfVertex.2.1 4 = .ok (.aload_n 1, 1) := by decide +kernel
theorem d_Pol_cornerOfVertex_5 : decode i_Pol_cornerOfVertex.2.1 5 = .ok (.getfield 44, 3) := by decide +kernel
theorem d_Pol_cornerOfVertex_8 : decode i_Pol_cornerOfVertex.2.1 8 = .ok (.ifCond .gt 5, 3) := by decide +kernel
theorem d_Pol_cornerOfVertex_11 : decode i_Pol_cornerOfVertex.2.1 11 = .ok (.iconst 0, 1) := by decide +kernel
theorem d_Pol_cornerOfVertex_12 : decode i_Pol_cornerOfVertex.2.1 12 = .ok (.ireturn, 1) := by decide +kernel
theorem d_Pol_cornerOfVertex_13 : decode i_Pol_cornerOfVertex.2.1 13 = .ok (.aload_n 1, 1) := by decide +kernel
theorem d_Pol_cornerOfVertex_14 : decode i_Pol_cornerOfVertex.2.1 14 = .ok (.getfield 50, 3) := by decide +kernel
theorem d_Pol_cornerOfVertex_17 : decode i_Pol_cornerOfVertex.2.1 17 = .ok (.iload_n 2, 1) := by decide +kernel
theorem d_Pol_cornerOfVertex_18 : decode i_Pol_cornerOfVertex.2.1 18 = .ok (.aload_n 1, 1) := by decide +kernel
theorem d_Pol_cornerOfVertex_19 : decode i_Pol_cornerOfVertex.2.1 19 = .ok (.getfield 44, 3) := by decide +kernel
theorem d_Pol_cornerOfVertex_22 : decode i_Pol_cornerOfVertex.2.1 22 = .ok (.irem, 1) := by decide +kernel
theorem d_Pol_cornerOfVertex_23 : decode i_Pol_cornerOfVertex.2.1 23 = .ok (.iadd, 1) := by decide +kernel
theorem d_Pol_cornerOfVertex_24 : decode i_Pol_cornerOfVertex.2.1 24 = .ok (.istore_n 3, 1) := by decide +kernel
theorem d_Pol_cornerOfVertex_25 : decode i_Pol_cornerOfVertex.2.1 25 = .ok (.iload_n 3, 1) := by decide +kernel
theorem d_Pol_cornerOfVertex_26 : decode i_Pol_cornerOfVertex.2.1 26 = .ok (.ifCond .lt 19, 3) := by decide +kernel
theorem d_Pol_cornerOfVertex_29 : decode i_Pol_cornerOfVertex.2.1 29 = .ok (.iload_n 3, 1) := by decide +kernel
theorem d_Pol_cornerOfVertex_30 : decode i_Pol_cornerOfVertex.2.1 30 = .ok (.sipush 144, 3) := by decide +kernel
theorem d_Pol_cornerOfVertex_33 : decode i_Pol_cornerOfVertex.2.1 33 = .ok (.if_icmp .ge 12, 3) := by decide +kernel
theorem d_Pol_cornerOfVertex_36 : decode i_Pol_cornerOfVertex.2.1 36 = .ok (.aload_n 0, 1) := by decide +kernel
theorem d_Pol_cornerOfVertex_37 : decode i_Pol_cornerOfVertex.2.1 37 = .ok (.getfield 18, 3) := by decide +kernel
theorem d_Pol_cornerOfVertex_40 : decode i_Pol_cornerOfVertex.2.1 40 = .ok (.iload_n 3, 1) := by decide +kernel
theorem d_Pol_cornerOfVertex_41 : decode i_Pol_cornerOfVertex.2.1 41 = .ok (.iaload, 1) := by decide +kernel
theorem d_Pol_cornerOfVertex_42 : decode i_Pol_cornerOfVertex.2.1 42 = .ok (.goto 4, 3) := by decide +kernel
theorem d_Pol_cornerOfVertex_45 : decode i_Pol_cornerOfVertex.2.1 45 = .ok (.iconst 0, 1) := by decide +kernel
theorem d_Pol_cornerOfVertex_46 : decode i_Pol_cornerOfVertex.2.1 46 = .ok (.ireturn, 1) := by decide +kernel
theorem d_Pol_bendAt_0 : decode i_Pol_bendAt.2.1 0 = .ok (.aload_n 0, 1) := by decide +kernel
theorem d_Pol_bendAt_1 : decode i_Pol_bendAt.2.1 1 = .ok (.aload_n 1, 1) := by decide +kernel
theorem d_Pol_bendAt_2 : decode i_Pol_bendAt.2.1 2 = .ok (.iload_n 2, 1) := by decide +kernel
theorem d_Pol_bendAt_3 : decode i_Pol_bendAt.2.1 3 = .ok (.aload_n 1, 1) := by decide +kernel
theorem d_Pol_bendAt_4 : decode i_Pol_bendAt.2.1 4 = .ok (.getfield 44, 3) := by decide +kernel
theorem d_Pol_bendAt_7 : decode i_Pol_bendAt.2.1 7 = .ok (.iconst 1, 1) := by decide +kernel
theorem d_Pol_bendAt_8 : decode i_Pol_bendAt.2.1 8 = .ok (.invokestatic 53, 3) := by decide +kernel
theorem d_Pol_bendAt_11 : decode i_Pol_bendAt.2.1 11 = .ok (.iadd, 1) := by decide +kernel
theorem d_Pol_bendAt_12 : decode i_Pol_bendAt.2.1 12 = .ok (.iconst 1, 1) := by decide +kernel
theorem d_Pol_bendAt_13 : decode i_Pol_bendAt.2.1 13 = .ok (.isub, 1) := by decide +kernel
theorem d_Pol_bendAt_14 : decode i_Pol_bendAt.2.1 14 = .ok (.invokevirtual 59, 3) := by decide +kernel
theorem d_Pol_bendAt_17 : decode i_Pol_bendAt.2.1 17 = .ok (.istore_n 3, 1) := by decide +kernel
theorem d_Pol_bendAt_18 : decode i_Pol_bendAt.2.1 18 = .ok (.aload_n 0, 1) := by decide +kernel
theorem d_Pol_bendAt_19 : decode i_Pol_bendAt.2.1 19 = .ok (.aload_n 1, 1) := by decide +kernel
theorem d_Pol_bendAt_20 : decode i_Pol_bendAt.2.1 20 = .ok (.iload_n 2, 1) := by decide +kernel
theorem d_Pol_bendAt_21 : decode i_Pol_bendAt.2.1 21 = .ok (.invokevirtual 59, 3) := by decide +kernel
theorem d_Pol_bendAt_24 : decode i_Pol_bendAt.2.1 24 = .ok (.istore 4, 2) := by decide +kernel
theorem d_Pol_bendAt_26 : decode i_Pol_bendAt.2.1 26 = .ok (.aload_n 0, 1) := by decide +kernel
theorem d_Pol_bendAt_27 : decode i_Pol_bendAt.2.1 27 = .ok (.aload_n 1, 1) := by decide +kernel
theorem d_Pol_bendAt_28 : decode i_Pol_bendAt.2.1 28 = .ok (.iload_n 2, 1) := by decide +kernel
theorem d_Pol_bendAt_29 : decode i_Pol_bendAt.2.1 29 = .ok (.iconst 1, 1) := by decide +kernel
theorem d_Pol_bendAt_30 : decode i_Pol_bendAt.2.1 30 = .ok (.iadd, 1) := by decide +kernel
theorem d_Pol_bendAt_31 : decode i_Pol_bendAt.2.1 31 = .ok (.invokevirtual 59, 3) := by decide +kernel
theorem d_Pol_bendAt_34 : decode i_Pol_bendAt.2.1 34 = .ok (.istore 5, 2) := by decide +kernel
theorem d_Pol_bendAt_36 : decode i_Pol_bendAt.2.1 36 = .ok (.aload_n 0, 1) := by decide +kernel
theorem d_Pol_bendAt_37 : decode i_Pol_bendAt.2.1 37 = .ok (.getfield 10, 3) := by decide +kernel
theorem d_Pol_bendAt_40 : decode i_Pol_bendAt.2.1 40 = .ok (.aload_n 0, 1) := by decide +kernel
theorem d_Pol_bendAt_41 : decode i_Pol_bendAt.2.1 41 = .ok (.getfield 25, 3) := by decide +kernel
theorem d_Pol_bendAt_44 : decode i_Pol_bendAt.2.1 44 = .ok (.aload_n 1, 1) := by decide +kernel
theorem d_Pol_bendAt_45 : decode i_Pol_bendAt.2.1 45 = .ok (.iload_n 3, 1) := by decide +kernel
theorem d_Pol_bendAt_46 : decode i_Pol_bendAt.2.1 46 = .ok (.invokevirtual 62, 3) := by decide +kernel
theorem d_Pol_bendAt_49 : decode i_Pol_bendAt.2.1 49 = .ok (.aload_n 0, 1) := by decide +kernel
theorem d_Pol_bendAt_50 : decode i_Pol_bendAt.2.1 50 = .ok (.getfield 25, 3) := by decide +kernel
theorem d_Pol_bendAt_53 : decode i_Pol_bendAt.2.1 53 = .ok (.aload_n 1, 1) := by decide +kernel
theorem d_Pol_bendAt_54 : decode i_Pol_bendAt.2.1 54 = .ok (.iload_n 3, 1) := by decide +kernel
theorem d_Pol_bendAt_55 : decode i_Pol_bendAt.2.1 55 = .ok (.invokevirtual 65, 3) := by decide +kernel
theorem d_Pol_bendAt_58 : decode i_Pol_bendAt.2.1 58 = .ok (.invokevirtual 68, 3) := by decide +kernel
theorem d_Pol_bendAt_61 : decode i_Pol_bendAt.2.1 61 = .ok (.aload_n 0, 1) := by decide +kernel
theorem d_Pol_bendAt_62 : decode i_Pol_bendAt.2.1 62 = .ok (.getfield 10, 3) := by decide +kernel
theorem d_Pol_bendAt_65 : decode i_Pol_bendAt.2.1 65 = .ok (.aload_n 0, 1) := by decide +kernel
theorem d_Pol_bendAt_66 : decode i_Pol_bendAt.2.1 66 = .ok (.getfield 25, 3) := by decide +kernel
theorem d_Pol_bendAt_69 : decode i_Pol_bendAt.2.1 69 = .ok (.aload_n 1, 1) := by decide +kernel
theorem d_Pol_bendAt_70 : decode i_Pol_bendAt.2.1 70 = .ok (.iload 4, 2) := by decide +kernel
theorem d_Pol_bendAt_72 : decode i_Pol_bendAt.2.1 72 = .ok (.invokevirtual 62, 3) := by decide +kernel
theorem d_Pol_bendAt_75 : decode i_Pol_bendAt.2.1 75 = .ok (.aload_n 0, 1) := by decide +kernel
theorem d_Pol_bendAt_76 : decode i_Pol_bendAt.2.1 76 = .ok (.getfield 25, 3) := by decide +kernel
theorem d_Pol_bendAt_79 : decode i_Pol_bendAt.2.1 79 = .ok (.aload_n 1, 1) := by decide +kernel
theorem d_Pol_bendAt_80 : decode i_Pol_bendAt.2.1 80 = .ok (.iload 4, 2) := by decide +kernel
theorem d_Pol_bendAt_82 : decode i_Pol_bendAt.2.1 82 = .ok (.invokevirtual 65, 3) := by decide +kernel
theorem d_Pol_bendAt_85 : decode i_Pol_bendAt.2.1 85 = .ok (.invokevirtual 72, 3) := by decide +kernel
theorem d_Pol_bendAt_88 : decode i_Pol_bendAt.2.1 88 = .ok (.aload_n 0, 1) := by decide +kernel
theorem d_Pol_bendAt_89 : decode i_Pol_bendAt.2.1 89 = .ok (.getfield 10, 3) := by decide +kernel
theorem d_Pol_bendAt_92 : decode i_Pol_bendAt.2.1 92 = .ok (.aload_n 0, 1) := by decide +kernel
theorem d_Pol_bendAt_93 : decode i_Pol_bendAt.2.1 93 = .ok (.getfield 25, 3) := by decide +kernel
theorem d_Pol_bendAt_96 : decode i_Pol_bendAt.2.1 96 = .ok (.aload_n 1, 1) := by decide +kernel
theorem d_Pol_bendAt_97 : decode i_Pol_bendAt.2.1 97 = .ok (.iload 5, 2) := by decide +kernel
theorem d_Pol_bendAt_99 : decode i_Pol_bendAt.2.1 99 = .ok (.invokevirtual 62, 3) := by decide +kernel
theorem d_Pol_bendAt_102 : decode i_Pol_bendAt.2.1 102 = .ok (.aload_n 0, 1) := by decide +kernel
theorem d_Pol_bendAt_103 : decode i_Pol_bendAt.2.1 103 = .ok (.getfield 25, 3) := by decide +kernel
theorem d_Pol_bendAt_106 : decode i_Pol_bendAt.2.1 106 = .ok (.aload_n 1, 1) := by decide +kernel
theorem d_Pol_bendAt_107 : decode i_Pol_bendAt.2.1 107 = .ok (.iload 5, 2) := by decide +kernel
theorem d_Pol_bendAt_109 : decode i_Pol_bendAt.2.1 109 = .ok (.invokevirtual 65, 3) := by decide +kernel
theorem d_Pol_bendAt_112 : decode i_Pol_bendAt.2.1 112 = .ok (.invokevirtual 75, 3) := by decide +kernel
theorem d_Pol_bendAt_115 : decode i_Pol_bendAt.2.1 115 = .ok (.aload_n 0, 1) := by decide +kernel
theorem d_Pol_bendAt_116 : decode i_Pol_bendAt.2.1 116 = .ok (.getfield 10, 3) := by decide +kernel
theorem d_Pol_bendAt_119 : decode i_Pol_bendAt.2.1 119 = .ok (.areturn, 1) := by decide +kernel
theorem d_Pol_sharpVertices_0 : decode i_Pol_sharpVertices.2.1 0 = .ok (.iconst 0, 1) := by decide +kernel
theorem d_Pol_sharpVertices_1 : decode i_Pol_sharpVertices.2.1 1 = .ok (.istore_n 3, 1) := by decide +kernel
theorem d_Pol_sharpVertices_2 : decode i_Pol_sharpVertices.2.1 2 = .ok (.iconst 0, 1) := by decide +kernel
theorem d_Pol_sharpVertices_3 : decode i_Pol_sharpVertices.2.1 3 = .ok (.istore 4, 2) := by decide +kernel
theorem d_Pol_sharpVertices_5 : decode i_Pol_sharpVertices.2.1 5 = .ok (.iload 4, 2) := by decide +kernel
theorem d_Pol_sharpVertices_7 : decode i_Pol_sharpVertices.2.1 7 = .ok (.aload_n 1, 1) := by decide +kernel
theorem d_Pol_sharpVertices_8 : decode i_Pol_sharpVertices.2.1 8 = .ok (.getfield 44, 3) := by decide +kernel
theorem d_Pol_sharpVertices_11 : decode i_Pol_sharpVertices.2.1 11 = .ok (.if_icmp .ge 26, 3) := by decide +kernel
theorem d_Pol_sharpVertices_14 : decode i_Pol_sharpVertices.2.1 14 = .ok (.aload_n 0, 1) := by decide +kernel
theorem d_Pol_sharpVertices_15 : decode i_Pol_sharpVertices.2.1 15 = .ok (.aload_n 1, 1) := by decide +kernel
theorem d_Pol_sharpVertices_16 : decode i_Pol_sharpVertices.2.1 16 = .ok (.iload 4, 2) := by decide +kernel
theorem d_Pol_sharpVertices_18 : decode i_Pol_sharpVertices.2.1 18 = .ok (.invokevirtual 78, 3) := by decide +kernel
theorem d_Pol_sharpVertices_21 : decode i_Pol_sharpVertices.2.1 21 = .ok (.iload_n 2, 1) := by decide +kernel
theorem d_Pol_sharpVertices_22 : decode i_Pol_sharpVertices.2.1 22 = .ok (.invokevirtual 82, 3) := by decide +kernel
theorem d_Pol_sharpVertices_25 : decode i_Pol_sharpVertices.2.1 25 = .ok (.ifCond .eq 6, 3) := by decide +kernel
theorem d_Pol_sharpVertices_28 : decode i_Pol_sharpVertices.2.1 28 = .ok (.iinc 3 1, 3) := by decide +kernel
theorem d_Pol_sharpVertices_31 : decode i_Pol_sharpVertices.2.1 31 = .ok (.iinc 4 1, 3) := by decide +kernel
theorem d_Pol_sharpVertices_34 : decode i_Pol_sharpVertices.2.1 34 = .ok (.goto (-29), 3) := by decide +kernel
theorem d_Pol_sharpVertices_37 : decode i_Pol_sharpVertices.2.1 37 = .ok (.iload_n 3, 1) := by decide +kernel
theorem d_Pol_sharpVertices_38 : decode i_Pol_sharpVertices.2.1 38 = .ok (.ireturn, 1) := by decide +kernel
theorem d_Pol_twiceTheArea_0 : decode i_Pol_twiceTheArea.2.1 0 = .ok (.iconst 0, 1) := by decide +kernel
theorem d_Pol_twiceTheArea_1 : decode i_Pol_twiceTheArea.2.1 1 = .ok (.istore_n 2, 1) := by decide +kernel
theorem d_Pol_twiceTheArea_2 : decode i_Pol_twiceTheArea.2.1 2 = .ok (.iconst 0, 1) := by decide +kernel
theorem d_Pol_twiceTheArea_3 : decode i_Pol_twiceTheArea.2.1 3 = .ok (.istore_n 3, 1) := by decide +kernel
theorem d_Pol_twiceTheArea_4 : decode i_Pol_twiceTheArea.2.1 4 = .ok (.iload_n 3, 1) := by decide +kernel
theorem d_Pol_twiceTheArea_5 : decode i_Pol_twiceTheArea.2.1 5 = .ok (.aload_n 1, 1) := by decide +kernel
theorem d_Pol_twiceTheArea_6 : decode i_Pol_twiceTheArea.2.1 6 = .ok (.getfield 44, 3) := by decide +kernel
theorem d_Pol_twiceTheArea_9 : decode i_Pol_twiceTheArea.2.1 9 = .ok (.if_icmp .ge 73, 3) := by decide +kernel
theorem d_Pol_twiceTheArea_12 : decode i_Pol_twiceTheArea.2.1 12 = .ok (.aload_n 0, 1) := by decide +kernel
theorem d_Pol_twiceTheArea_13 : decode i_Pol_twiceTheArea.2.1 13 = .ok (.aload_n 1, 1) := by decide +kernel
theorem d_Pol_twiceTheArea_14 : decode i_Pol_twiceTheArea.2.1 14 = .ok (.iload_n 3, 1) := by decide +kernel
theorem d_Pol_twiceTheArea_15 : decode i_Pol_twiceTheArea.2.1 15 = .ok (.invokevirtual 59, 3) := by decide +kernel
theorem d_Pol_twiceTheArea_18 : decode i_Pol_twiceTheArea.2.1 18 = .ok (.istore 4, 2) := by decide +kernel
theorem d_Pol_twiceTheArea_20 : decode i_Pol_twiceTheArea.2.1 20 = .ok (.aload_n 0, 1) := by decide +kernel
theorem d_Pol_twiceTheArea_21 : decode i_Pol_twiceTheArea.2.1 21 = .ok (.aload_n 1, 1) := by decide +kernel
theorem d_Pol_twiceTheArea_22 : decode i_Pol_twiceTheArea.2.1 22 = .ok (.iload_n 3, 1) := by decide +kernel
theorem d_Pol_twiceTheArea_23 : decode i_Pol_twiceTheArea.2.1 23 = .ok (.iconst 1, 1) := by decide +kernel
theorem d_Pol_twiceTheArea_24 : decode i_Pol_twiceTheArea.2.1 24 = .ok (.iadd, 1) := by decide +kernel
theorem d_Pol_twiceTheArea_25 : decode i_Pol_twiceTheArea.2.1 25 = .ok (.invokevirtual 59, 3) := by decide +kernel
theorem d_Pol_twiceTheArea_28 : decode i_Pol_twiceTheArea.2.1 28 = .ok (.istore 5, 2) := by decide +kernel
theorem d_Pol_twiceTheArea_30 : decode i_Pol_twiceTheArea.2.1 30 = .ok (.iload_n 2, 1) := by decide +kernel
theorem d_Pol_twiceTheArea_31 : decode i_Pol_twiceTheArea.2.1 31 = .ok (.aload_n 0, 1) := by decide +kernel
theorem d_Pol_twiceTheArea_32 : decode i_Pol_twiceTheArea.2.1 32 = .ok (.getfield 25, 3) := by decide +kernel
theorem d_Pol_twiceTheArea_35 : decode i_Pol_twiceTheArea.2.1 35 = .ok (.aload_n 1, 1) := by decide +kernel
theorem d_Pol_twiceTheArea_36 : decode i_Pol_twiceTheArea.2.1 36 = .ok (.iload 4, 2) := by decide +kernel
theorem d_Pol_twiceTheArea_38 : decode i_Pol_twiceTheArea.2.1 38 = .ok (.invokevirtual 62, 3) := by decide +kernel
theorem d_Pol_twiceTheArea_41 : decode i_Pol_twiceTheArea.2.1 41 = .ok (.aload_n 0, 1) := by decide +kernel
theorem d_Pol_twiceTheArea_42 : decode i_Pol_twiceTheArea.2.1 42 = .ok (.getfield 25, 3) := by decide +kernel
theorem d_Pol_twiceTheArea_45 : decode i_Pol_twiceTheArea.2.1 45 = .ok (.aload_n 1, 1) := by decide +kernel
theorem d_Pol_twiceTheArea_46 : decode i_Pol_twiceTheArea.2.1 46 = .ok (.iload 5, 2) := by decide +kernel
theorem d_Pol_twiceTheArea_48 : decode i_Pol_twiceTheArea.2.1 48 = .ok (.invokevirtual 65, 3) := by decide +kernel
theorem d_Pol_twiceTheArea_51 : decode i_Pol_twiceTheArea.2.1 51 = .ok (.imul, 1) := by decide +kernel
theorem d_Pol_twiceTheArea_52 : decode i_Pol_twiceTheArea.2.1 52 = .ok (.aload_n 0, 1) := by decide +kernel
theorem d_Pol_twiceTheArea_53 : decode i_Pol_twiceTheArea.2.1 53 = .ok (.getfield 25, 3) := by decide +kernel
theorem d_Pol_twiceTheArea_56 : decode i_Pol_twiceTheArea.2.1 56 = .ok (.aload_n 1, 1) := by decide +kernel
theorem d_Pol_twiceTheArea_57 : decode i_Pol_twiceTheArea.2.1 57 = .ok (.iload 4, 2) := by decide +kernel
theorem d_Pol_twiceTheArea_59 : decode i_Pol_twiceTheArea.2.1 59 = .ok (.invokevirtual 65, 3) := by decide +kernel
theorem d_Pol_twiceTheArea_62 : decode i_Pol_twiceTheArea.2.1 62 = .ok (.aload_n 0, 1) := by decide +kernel
theorem d_Pol_twiceTheArea_63 : decode i_Pol_twiceTheArea.2.1 63 = .ok (.getfield 25, 3) := by decide +kernel
theorem d_Pol_twiceTheArea_66 : decode i_Pol_twiceTheArea.2.1 66 = .ok (.aload_n 1, 1) := by decide +kernel
theorem d_Pol_twiceTheArea_67 : decode i_Pol_twiceTheArea.2.1 67 = .ok (.iload 5, 2) := by decide +kernel
theorem d_Pol_twiceTheArea_69 : decode i_Pol_twiceTheArea.2.1 69 = .ok (.invokevirtual 62, 3) := by decide +kernel
theorem d_Pol_twiceTheArea_72 : decode i_Pol_twiceTheArea.2.1 72 = .ok (.imul, 1) := by decide +kernel
theorem d_Pol_twiceTheArea_73 : decode i_Pol_twiceTheArea.2.1 73 = .ok (.isub, 1) := by decide +kernel
theorem d_Pol_twiceTheArea_74 : decode i_Pol_twiceTheArea.2.1 74 = .ok (.iadd, 1) := by decide +kernel
theorem d_Pol_twiceTheArea_75 : decode i_Pol_twiceTheArea.2.1 75 = .ok (.istore_n 2, 1) := by decide +kernel
theorem d_Pol_twiceTheArea_76 : decode i_Pol_twiceTheArea.2.1 76 = .ok (.iinc 3 1, 3) := by decide +kernel
theorem d_Pol_twiceTheArea_79 : decode i_Pol_twiceTheArea.2.1 79 = .ok (.goto (-75), 3) := by decide +kernel
theorem d_Pol_twiceTheArea_82 : decode i_Pol_twiceTheArea.2.1 82 = .ok (.iload_n 2, 1) := by decide +kernel
theorem d_Pol_twiceTheArea_83 : decode i_Pol_twiceTheArea.2.1 83 = .ok (.invokestatic 86, 3) := by decide +kernel
theorem d_Pol_twiceTheArea_86 : decode i_Pol_twiceTheArea.2.1 86 = .ok (.ireturn, 1) := by decide +kernel
theorem d_Pol_seek_0 : decode i_Pol_seek.2.1 0 = .ok (.aload_n 1, 1) := by decide +kernel
theorem d_Pol_seek_1 : decode i_Pol_seek.2.1 1 = .ok (.getfield 44, 3) := by decide +kernel
theorem d_Pol_seek_4 : decode i_Pol_seek.2.1 4 = .ok (.ifCond .le 4, 3) := by decide +kernel
theorem d_Pol_seek_7 : decode i_Pol_seek.2.1 7 = .ok (.return_, 1) := by decide +kernel
theorem d_Pol_seek_8 : decode i_Pol_seek.2.1 8 = .ok (.aload_n 0, 1) := by decide +kernel
theorem d_Pol_seek_9 : decode i_Pol_seek.2.1 9 = .ok (.getfield 29, 3) := by decide +kernel
theorem d_Pol_seek_12 : decode i_Pol_seek.2.1 12 = .ok (.aload_n 1, 1) := by decide +kernel
theorem d_Pol_seek_13 : decode i_Pol_seek.2.1 13 = .ok (.invokevirtual 33, 3) := by decide +kernel
theorem d_Pol_seek_16 : decode i_Pol_seek.2.1 16 = .ok (.iconst 0, 1) := by decide +kernel
theorem d_Pol_seek_17 : decode i_Pol_seek.2.1 17 = .ok (.istore_n 2, 1) := by decide +kernel
theorem d_Pol_seek_18 : decode i_Pol_seek.2.1 18 = .ok (.ldc 90, 2) := by decide +kernel
theorem d_Pol_seek_20 : decode i_Pol_seek.2.1 20 = .ok (.istore_n 3, 1) := by decide +kernel
theorem d_Pol_seek_21 : decode i_Pol_seek.2.1 21 = .ok (.iconst 0, 1) := by decide +kernel
theorem d_Pol_seek_22 : decode i_Pol_seek.2.1 22 = .ok (.istore 4, 2) := by decide +kernel
theorem d_Pol_seek_24 : decode i_Pol_seek.2.1 24 = .ok (.iload 4, 2) := by decide +kernel
theorem d_Pol_seek_26 : decode i_Pol_seek.2.1 26 = .ok (.aload_n 1, 1) := by decide +kernel
theorem d_Pol_seek_27 : decode i_Pol_seek.2.1 27 = .ok (.getfield 91, 3) := by decide +kernel
theorem d_Pol_seek_30 : decode i_Pol_seek.2.1 30 = .ok (.if_icmp .ge 37, 3) := by decide +kernel
theorem d_Pol_seek_33 : decode i_Pol_seek.2.1 33 = .ok (.iload 4, 2) := by decide +kernel
theorem d_Pol_seek_35 : decode i_Pol_seek.2.1 35 = .ok (.bipush 12, 2) := by decide +kernel
theorem d_Pol_seek_37 : decode i_Pol_seek.2.1 37 = .ok (.if_icmp .ge 30, 3) := by decide +kernel
theorem d_Pol_seek_40 : decode i_Pol_seek.2.1 40 = .ok (.aload_n 0, 1) := by decide +kernel
theorem d_Pol_seek_41 : decode i_Pol_seek.2.1 41 = .ok (.aload_n 1, 1) := by decide +kernel
theorem d_Pol_seek_42 : decode i_Pol_seek.2.1 42 = .ok (.iload 4, 2) := by decide +kernel
theorem d_Pol_seek_44 : decode i_Pol_seek.2.1 44 = .ok (.invokevirtual 39, 3) := by decide +kernel
theorem d_Pol_seek_47 : decode i_Pol_seek.2.1 47 = .ok (.istore 5, 2) := by decide +kernel
theorem d_Pol_seek_49 : decode i_Pol_seek.2.1 49 = .ok (.iload 5, 2) := by decide +kernel
theorem d_Pol_seek_51 : decode i_Pol_seek.2.1 51 = .ok (.iload_n 3, 1) := by decide +kernel
theorem d_Pol_seek_52 : decode i_Pol_seek.2.1 52 = .ok (.if_icmp .ge 9, 3) := by decide +kernel
theorem d_Pol_seek_55 : decode i_Pol_seek.2.1 55 = .ok (.iload 5, 2) := by decide +kernel
theorem d_Pol_seek_57 : decode i_Pol_seek.2.1 57 = .ok (.istore_n 3, 1) := by decide +kernel
theorem d_Pol_seek_58 : decode i_Pol_seek.2.1 58 = .ok (.iload 4, 2) := by decide +kernel
theorem d_Pol_seek_60 : decode i_Pol_seek.2.1 60 = .ok (.istore_n 2, 1) := by decide +kernel
theorem d_Pol_seek_61 : decode i_Pol_seek.2.1 61 = .ok (.iinc 4 1, 3) := by decide +kernel
theorem d_Pol_seek_64 : decode i_Pol_seek.2.1 64 = .ok (.goto (-40), 3) := by decide +kernel
theorem d_Pol_seek_67 : decode i_Pol_seek.2.1 67 = .ok (.aload_n 1, 1) := by decide +kernel
theorem d_Pol_seek_68 : decode i_Pol_seek.2.1 68 = .ok (.aload_n 0, 1) := by decide +kernel
theorem d_Pol_seek_69 : decode i_Pol_seek.2.1 69 = .ok (.aload_n 1, 1) := by decide +kernel
theorem d_Pol_seek_70 : decode i_Pol_seek.2.1 70 = .ok (.iload_n 2, 1) := by decide +kernel
theorem d_Pol_seek_71 : decode i_Pol_seek.2.1 71 = .ok (.invokevirtual 39, 3) := by decide +kernel
theorem d_Pol_seek_74 : decode i_Pol_seek.2.1 74 = .ok (.ldc 43, 2) := by decide +kernel
theorem d_Pol_seek_76 : decode i_Pol_seek.2.1 76 = .ok (.irem, 1) := by decide +kernel
theorem d_Pol_seek_77 : decode i_Pol_seek.2.1 77 = .ok (.putfield 94, 3) := by decide +kernel
theorem d_Pol_seek_80 : decode i_Pol_seek.2.1 80 = .ok (.aload_n 0, 1) := by decide +kernel
theorem d_Pol_seek_81 : decode i_Pol_seek.2.1 81 = .ok (.aload_n 1, 1) := by decide +kernel
theorem d_Pol_seek_82 : decode i_Pol_seek.2.1 82 = .ok (.iload_n 2, 1) := by decide +kernel
theorem d_Pol_seek_83 : decode i_Pol_seek.2.1 83 = .ok (.invokevirtual 97, 3) := by decide +kernel
theorem d_Pol_seek_86 : decode i_Pol_seek.2.1 86 = .ok (.return_, 1) := by decide +kernel
theorem d_Pol_costOfRound_0 : decode i_Pol_costOfRound.2.1 0 = .ok (.aload_n 1, 1) := by decide +kernel
theorem d_Pol_costOfRound_1 : decode i_Pol_costOfRound.2.1 1 = .ok (.getfield 91, 3) := by decide +kernel
theorem d_Pol_costOfRound_4 : decode i_Pol_costOfRound.2.1 4 = .ok (.sipush 144, 3) := by decide +kernel
theorem d_Pol_costOfRound_7 : decode i_Pol_costOfRound.2.1 7 = .ok (.invokestatic 101, 3) := by decide +kernel
theorem d_Pol_costOfRound_10 : decode i_Pol_costOfRound.2.1 10 = .ok (.istore_n 3, 1) := by decide +kernel
theorem d_Pol_costOfRound_11 : decode i_Pol_costOfRound.2.1 11 = .ok (.iload_n 3, 1) := by decide +kernel
theorem d_Pol_costOfRound_12 : decode i_Pol_costOfRound.2.1 12 = .ok (.ifCond .gt 5, 3) := by decide +kernel
theorem d_Pol_costOfRound_15 : decode i_Pol_costOfRound.2.1 15 = .ok (.iconst 0, 1) := by decide +kernel
theorem d_Pol_costOfRound_16 : decode i_Pol_costOfRound.2.1 16 = .ok (.ireturn, 1) := by decide +kernel
theorem d_Pol_costOfRound_17 : decode i_Pol_costOfRound.2.1 17 = .ok (.aload_n 0, 1) := by decide +kernel
theorem d_Pol_costOfRound_18 : decode i_Pol_costOfRound.2.1 18 = .ok (.getfield 22, 3) := by decide +kernel
theorem d_Pol_costOfRound_21 : decode i_Pol_costOfRound.2.1 21 = .ok (.iload_n 3, 1) := by decide +kernel
theorem d_Pol_costOfRound_22 : decode i_Pol_costOfRound.2.1 22 = .ok (.iconst 0, 1) := by decide +kernel
theorem d_Pol_costOfRound_23 : decode i_Pol_costOfRound.2.1 23 = .ok (.iastore, 1) := by decide +kernel
theorem d_Pol_costOfRound_24 : decode i_Pol_costOfRound.2.1 24 = .ok (.iload_n 3, 1) := by decide +kernel
theorem d_Pol_costOfRound_25 : decode i_Pol_costOfRound.2.1 25 = .ok (.iconst 1, 1) := by decide +kernel
theorem d_Pol_costOfRound_26 : decode i_Pol_costOfRound.2.1 26 = .ok (.isub, 1) := by decide +kernel
theorem d_Pol_costOfRound_27 : decode i_Pol_costOfRound.2.1 27 = .ok (.istore 4, 2) := by decide +kernel
theorem d_Pol_costOfRound_29 : decode i_Pol_costOfRound.2.1 29 = .ok (.iload 4, 2) := by decide +kernel
theorem d_Pol_costOfRound_31 : decode i_Pol_costOfRound.2.1 31 = .ok (.ifCond .lt 108, 3) := by decide +kernel
theorem d_Pol_costOfRound_34 : decode i_Pol_costOfRound.2.1 34 = .ok (.aload_n 1, 1) := by decide +kernel
theorem d_Pol_costOfRound_35 : decode i_Pol_costOfRound.2.1 35 = .ok (.iload_n 2, 1) := by decide +kernel
theorem d_Pol_costOfRound_36 : decode i_Pol_costOfRound.2.1 36 = .ok (.iload 4, 2) := by decide +kernel
theorem d_Pol_costOfRound_38 : decode i_Pol_costOfRound.2.1 38 = .ok (.iadd, 1) := by decide +kernel
theorem d_Pol_costOfRound_39 : decode i_Pol_costOfRound.2.1 39 = .ok (.invokevirtual 104, 3) := by decide +kernel
theorem d_Pol_costOfRound_42 : decode i_Pol_costOfRound.2.1 42 = .ok (.istore 5, 2) := by decide +kernel
theorem d_Pol_costOfRound_44 : decode i_Pol_costOfRound.2.1 44 = .ok (.aload_n 0, 1) := by decide +kernel
theorem d_Pol_costOfRound_45 : decode i_Pol_costOfRound.2.1 45 = .ok (.getfield 29, 3) := by decide +kernel
theorem d_Pol_costOfRound_48 : decode i_Pol_costOfRound.2.1 48 = .ok (.iload 5, 2) := by decide +kernel
theorem d_Pol_costOfRound_50 : decode i_Pol_costOfRound.2.1 50 = .ok (.invokevirtual 107, 3) := by decide +kernel
theorem d_Pol_costOfRound_53 : decode i_Pol_costOfRound.2.1 53 = .ok (.iload_n 3, 1) := by decide +kernel
theorem d_Pol_costOfRound_54 : decode i_Pol_costOfRound.2.1 54 = .ok (.iload 4, 2) := by decide +kernel
theorem d_Pol_costOfRound_56 : decode i_Pol_costOfRound.2.1 56 = .ok (.isub, 1) := by decide +kernel
theorem d_Pol_costOfRound_57 : decode i_Pol_costOfRound.2.1 57 = .ok (.invokestatic 101, 3) := by decide +kernel
theorem d_Pol_costOfRound_60 : decode i_Pol_costOfRound.2.1 60 = .ok (.istore 6, 2) := by decide +kernel
theorem d_Pol_costOfRound_62 : decode i_Pol_costOfRound.2.1 62 = .ok (.ldc 90, 2) := by decide +kernel
theorem d_Pol_costOfRound_64 : decode i_Pol_costOfRound.2.1 64 = .ok (.istore 7, 2) := by decide +kernel
theorem d_Pol_costOfRound_66 : decode i_Pol_costOfRound.2.1 66 = .ok (.iconst 1, 1) := by decide +kernel
theorem d_Pol_costOfRound_67 : decode i_Pol_costOfRound.2.1 67 = .ok (.istore 8, 2) := by decide +kernel
theorem d_Pol_costOfRound_69 : decode i_Pol_costOfRound.2.1 69 = .ok (.iload 8, 2) := by decide +kernel
theorem d_Pol_costOfRound_71 : decode i_Pol_costOfRound.2.1 71 = .ok (.iload 6, 2) := by decide +kernel
theorem d_Pol_costOfRound_73 : decode i_Pol_costOfRound.2.1 73 = .ok (.if_icmp .gt 51, 3) := by decide +kernel
theorem d_Pol_costOfRound_76 : decode i_Pol_costOfRound.2.1 76 = .ok (.aload_n 0, 1) := by decide +kernel
theorem d_Pol_costOfRound_77 : decode i_Pol_costOfRound.2.1 77 = .ok (.getfield 29, 3) := by decide +kernel
theorem d_Pol_costOfRound_80 : decode i_Pol_costOfRound.2.1 80 = .ok (.iload 5, 2) := by decide +kernel
theorem d_Pol_costOfRound_82 : decode i_Pol_costOfRound.2.1 82 = .ok (.iload 8, 2) := by decide +kernel
theorem d_Pol_costOfRound_84 : decode i_Pol_costOfRound.2.1 84 = .ok (.invokevirtual 110, 3) := by decide +kernel
theorem d_Pol_costOfRound_87 : decode i_Pol_costOfRound.2.1 87 = .ok (.istore 9, 2) := by decide +kernel
theorem d_Pol_costOfRound_89 : decode i_Pol_costOfRound.2.1 89 = .ok (.iload 9, 2) := by decide +kernel
theorem d_Pol_costOfRound_91 : decode i_Pol_costOfRound.2.1 91 = .ok (.iconst (-1), 1) := by decide +kernel
theorem d_Pol_costOfRound_92 : decode i_Pol_costOfRound.2.1 92 = .ok (.if_icmp .eq 26, 3) := by decide +kernel
theorem d_Pol_costOfRound_95 : decode i_Pol_costOfRound.2.1 95 = .ok (.iload 7, 2) := by decide +kernel
theorem d_Pol_costOfRound_97 : decode i_Pol_costOfRound.2.1 97 = .ok (.ldc 43, 2) := by decide +kernel
theorem d_Pol_costOfRound_99 : decode i_Pol_costOfRound.2.1 99 = .ok (.iload 9, 2) := by decide +kernel
theorem d_Pol_costOfRound_101 : decode i_Pol_costOfRound.2.1 101 = .ok (.iadd, 1) := by decide +kernel
theorem d_Pol_costOfRound_102 : decode i_Pol_costOfRound.2.1 102 = .ok (.aload_n 0, 1) := by decide +kernel
theorem d_Pol_costOfRound_103 : decode i_Pol_costOfRound.2.1 103 = .ok (.getfield 22, 3) := by decide +kernel
theorem d_Pol_costOfRound_106 : decode i_Pol_costOfRound.2.1 106 = .ok (.iload 4, 2) := by decide +kernel
theorem d_Pol_costOfRound_108 : decode i_Pol_costOfRound.2.1 108 = .ok (.iload 8, 2) := by decide +kernel
theorem d_Pol_costOfRound_110 : decode i_Pol_costOfRound.2.1 110 = .ok (.iadd, 1) := by decide +kernel
theorem d_Pol_costOfRound_111 : decode i_Pol_costOfRound.2.1 111 = .ok (.iaload, 1) := by decide +kernel
theorem d_Pol_costOfRound_112 : decode i_Pol_costOfRound.2.1 112 = .ok (.iadd, 1) := by decide +kernel
theorem d_Pol_costOfRound_113 : decode i_Pol_costOfRound.2.1 113 = .ok (.invokestatic 101, 3) := by decide +kernel
theorem d_Pol_costOfRound_116 : decode i_Pol_costOfRound.2.1 116 = .ok (.istore 7, 2) := by decide +kernel
theorem d_Pol_costOfRound_118 : decode i_Pol_costOfRound.2.1 118 = .ok (.iinc 8 1, 3) := by decide +kernel
theorem d_Pol_costOfRound_121 : decode i_Pol_costOfRound.2.1 121 = .ok (.goto (-52), 3) := by decide +kernel
theorem d_Pol_costOfRound_124 : decode i_Pol_costOfRound.2.1 124 = .ok (.aload_n 0, 1) := by decide +kernel
theorem d_Pol_costOfRound_125 : decode i_Pol_costOfRound.2.1 125 = .ok (.getfield 22, 3) := by decide +kernel
theorem d_Pol_costOfRound_128 : decode i_Pol_costOfRound.2.1 128 = .ok (.iload 4, 2) := by decide +kernel
theorem d_Pol_costOfRound_130 : decode i_Pol_costOfRound.2.1 130 = .ok (.iload 7, 2) := by decide +kernel
theorem d_Pol_costOfRound_132 : decode i_Pol_costOfRound.2.1 132 = .ok (.iastore, 1) := by decide +kernel
theorem d_Pol_costOfRound_133 : decode i_Pol_costOfRound.2.1 133 = .ok (.iinc 4 (-1), 3) := by decide +kernel
theorem d_Pol_costOfRound_136 : decode i_Pol_costOfRound.2.1 136 = .ok (.goto (-107), 3) := by decide +kernel
theorem d_Pol_costOfRound_139 : decode i_Pol_costOfRound.2.1 139 = .ok (.aload_n 0, 1) := by decide +kernel
theorem d_Pol_costOfRound_140 : decode i_Pol_costOfRound.2.1 140 = .ok (.getfield 22, 3) := by decide +kernel
theorem d_Pol_costOfRound_143 : decode i_Pol_costOfRound.2.1 143 = .ok (.iconst 0, 1) := by decide +kernel
theorem d_Pol_costOfRound_144 : decode i_Pol_costOfRound.2.1 144 = .ok (.iaload, 1) := by decide +kernel
theorem d_Pol_costOfRound_145 : decode i_Pol_costOfRound.2.1 145 = .ok (.ireturn, 1) := by decide +kernel
theorem d_Pol_writeVertices_0 : decode i_Pol_writeVertices.2.1 0 = .ok (.aload_n 1, 1) := by decide +kernel
theorem d_Pol_writeVertices_1 : decode i_Pol_writeVertices.2.1 1 = .ok (.getfield 91, 3) := by decide +kernel
theorem d_Pol_writeVertices_4 : decode i_Pol_writeVertices.2.1 4 = .ok (.sipush 144, 3) := by decide +kernel
theorem d_Pol_writeVertices_7 : decode i_Pol_writeVertices.2.1 7 = .ok (.invokestatic 101, 3) := by decide +kernel
theorem d_Pol_writeVertices_10 : decode i_Pol_writeVertices.2.1 10 = .ok (.istore_n 3, 1) := by decide +kernel
theorem d_Pol_writeVertices_11 : decode i_Pol_writeVertices.2.1 11 = .ok (.iconst 0, 1) := by decide +kernel
theorem d_Pol_writeVertices_12 : decode i_Pol_writeVertices.2.1 12 = .ok (.istore 4, 2) := by decide +kernel
theorem d_Pol_writeVertices_14 : decode i_Pol_writeVertices.2.1 14 = .ok (.iconst 0, 1) := by decide +kernel
theorem d_Pol_writeVertices_15 : decode i_Pol_writeVertices.2.1 15 = .ok (.istore 5, 2) := by decide +kernel
theorem d_Pol_writeVertices_17 : decode i_Pol_writeVertices.2.1 17 = .ok (.iload 5, 2) := by decide +kernel
theorem d_Pol_writeVertices_19 : decode i_Pol_writeVertices.2.1 19 = .ok (.iload_n 3, 1) := by decide +kernel
theorem d_Pol_writeVertices_20 : decode i_Pol_writeVertices.2.1 20 = .ok (.if_icmp .ge 71, 3) := by decide +kernel
theorem d_Pol_writeVertices_23 : decode i_Pol_writeVertices.2.1 23 = .ok (.iload 4, 2) := by decide +kernel
theorem d_Pol_writeVertices_25 : decode i_Pol_writeVertices.2.1 25 = .ok (.iload_n 3, 1) := by decide +kernel
theorem d_Pol_writeVertices_26 : decode i_Pol_writeVertices.2.1 26 = .ok (.if_icmp .ge 65, 3) := by decide +kernel
theorem d_Pol_writeVertices_29 : decode i_Pol_writeVertices.2.1 29 = .ok (.aload_n 1, 1) := by decide +kernel
theorem d_Pol_writeVertices_30 : decode i_Pol_writeVertices.2.1 30 = .ok (.getfield 50, 3) := by decide +kernel
theorem d_Pol_writeVertices_33 : decode i_Pol_writeVertices.2.1 33 = .ok (.iload 5, 2) := by decide +kernel
theorem d_Pol_writeVertices_35 : decode i_Pol_writeVertices.2.1 35 = .ok (.iadd, 1) := by decide +kernel
theorem d_Pol_writeVertices_36 : decode i_Pol_writeVertices.2.1 36 = .ok (.istore 6, 2) := by decide +kernel
theorem d_Pol_writeVertices_38 : decode i_Pol_writeVertices.2.1 38 = .ok (.iload 6, 2) := by decide +kernel
theorem d_Pol_writeVertices_40 : decode i_Pol_writeVertices.2.1 40 = .ok (.ifCond .lt 11, 3) := by decide +kernel
theorem d_Pol_writeVertices_43 : decode i_Pol_writeVertices.2.1 43 = .ok (.iload 6, 2) := by decide +kernel
theorem d_Pol_writeVertices_45 : decode i_Pol_writeVertices.2.1 45 = .ok (.sipush 144, 3) := by decide +kernel
theorem d_Pol_writeVertices_48 : decode i_Pol_writeVertices.2.1 48 = .ok (.if_icmp .lt 4, 3) := by decide +kernel
theorem d_Pol_writeVertices_51 : decode i_Pol_writeVertices.2.1 51 = .ok (.return_, 1) := by decide +kernel
theorem d_Pol_writeVertices_52 : decode i_Pol_writeVertices.2.1 52 = .ok (.aload_n 0, 1) := by decide +kernel
theorem d_Pol_writeVertices_53 : decode i_Pol_writeVertices.2.1 53 = .ok (.getfield 18, 3) := by decide +kernel
theorem d_Pol_writeVertices_56 : decode i_Pol_writeVertices.2.1 56 = .ok (.iload 6, 2) := by decide +kernel
theorem d_Pol_writeVertices_58 : decode i_Pol_writeVertices.2.1 58 = .ok (.iload_n 2, 1) := by decide +kernel
theorem d_Pol_writeVertices_59 : decode i_Pol_writeVertices.2.1 59 = .ok (.iload 4, 2) := by decide +kernel
theorem d_Pol_writeVertices_61 : decode i_Pol_writeVertices.2.1 61 = .ok (.iadd, 1) := by decide +kernel
theorem d_Pol_writeVertices_62 : decode i_Pol_writeVertices.2.1 62 = .ok (.iastore, 1) := by decide +kernel
theorem d_Pol_writeVertices_63 : decode i_Pol_writeVertices.2.1 63 = .ok (.aload_n 1, 1) := by decide +kernel
theorem d_Pol_writeVertices_64 : decode i_Pol_writeVertices.2.1 64 = .ok (.iload 5, 2) := by decide +kernel
theorem d_Pol_writeVertices_66 : decode i_Pol_writeVertices.2.1 66 = .ok (.iconst 1, 1) := by decide +kernel
theorem d_Pol_writeVertices_67 : decode i_Pol_writeVertices.2.1 67 = .ok (.iadd, 1) := by decide +kernel
theorem d_Pol_writeVertices_68 : decode i_Pol_writeVertices.2.1 68 = .ok (.putfield 44, 3) := by decide +kernel
theorem d_Pol_writeVertices_71 : decode i_Pol_writeVertices.2.1 71 = .ok (.iload 4, 2) := by decide +kernel
theorem d_Pol_writeVertices_73 : decode i_Pol_writeVertices.2.1 73 = .ok (.aload_n 0, 1) := by decide +kernel
theorem d_Pol_writeVertices_74 : decode i_Pol_writeVertices.2.1 74 = .ok (.aload_n 1, 1) := by decide +kernel
theorem d_Pol_writeVertices_75 : decode i_Pol_writeVertices.2.1 75 = .ok (.iload_n 2, 1) := by decide +kernel
theorem d_Pol_writeVertices_76 : decode i_Pol_writeVertices.2.1 76 = .ok (.iload 4, 2) := by decide +kernel
theorem d_Pol_writeVertices_78 : decode i_Pol_writeVertices.2.1 78 = .ok (.iload_n 3, 1) := by decide +kernel
theorem d_Pol_writeVertices_79 : decode i_Pol_writeVertices.2.1 79 = .ok (.invokevirtual 113, 3) := by decide +kernel
theorem d_Pol_writeVertices_82 : decode i_Pol_writeVertices.2.1 82 = .ok (.iadd, 1) := by decide +kernel
theorem d_Pol_writeVertices_83 : decode i_Pol_writeVertices.2.1 83 = .ok (.istore 4, 2) := by decide +kernel
theorem d_Pol_writeVertices_85 : decode i_Pol_writeVertices.2.1 85 = .ok (.iinc 5 1, 3) := by decide +kernel
theorem d_Pol_writeVertices_88 : decode i_Pol_writeVertices.2.1 88 = .ok (.goto (-71), 3) := by decide +kernel
theorem d_Pol_writeVertices_91 : decode i_Pol_writeVertices.2.1 91 = .ok (.return_, 1) := by decide +kernel
theorem d_Pol_nearestStep_0 : decode i_Pol_nearestStep.2.1 0 = .ok (.aload_n 1, 1) := by decide +kernel
theorem d_Pol_nearestStep_1 : decode i_Pol_nearestStep.2.1 1 = .ok (.iload_n 2, 1) := by decide +kernel
theorem d_Pol_nearestStep_2 : decode i_Pol_nearestStep.2.1 2 = .ok (.iload_n 3, 1) := by decide +kernel
theorem d_Pol_nearestStep_3 : decode i_Pol_nearestStep.2.1 3 = .ok (.iadd, 1) := by decide +kernel
theorem d_Pol_nearestStep_4 : decode i_Pol_nearestStep.2.1 4 = .ok (.invokevirtual 104, 3) := by decide +kernel
theorem d_Pol_nearestStep_7 : decode i_Pol_nearestStep.2.1 7 = .ok (.istore 5, 2) := by decide +kernel
theorem d_Pol_nearestStep_9 : decode i_Pol_nearestStep.2.1 9 = .ok (.aload_n 0, 1) := by decide +kernel
theorem d_Pol_nearestStep_10 : decode i_Pol_nearestStep.2.1 10 = .ok (.getfield 29, 3) := by decide +kernel
theorem d_Pol_nearestStep_13 : decode i_Pol_nearestStep.2.1 13 = .ok (.iload 5, 2) := by decide +kernel
theorem d_Pol_nearestStep_15 : decode i_Pol_nearestStep.2.1 15 = .ok (.invokevirtual 107, 3) := by decide +kernel
theorem d_Pol_nearestStep_18 : decode i_Pol_nearestStep.2.1 18 = .ok (.iload 4, 2) := by decide +kernel
theorem d_Pol_nearestStep_20 : decode i_Pol_nearestStep.2.1 20 = .ok (.iload_n 3, 1) := by decide +kernel
theorem d_Pol_nearestStep_21 : decode i_Pol_nearestStep.2.1 21 = .ok (.isub, 1) := by decide +kernel
theorem d_Pol_nearestStep_22 : decode i_Pol_nearestStep.2.1 22 = .ok (.invokestatic 101, 3) := by decide +kernel
theorem d_Pol_nearestStep_25 : decode i_Pol_nearestStep.2.1 25 = .ok (.istore 6, 2) := by decide +kernel
theorem d_Pol_nearestStep_27 : decode i_Pol_nearestStep.2.1 27 = .ok (.iconst 1, 1) := by decide +kernel
theorem d_Pol_nearestStep_28 : decode i_Pol_nearestStep.2.1 28 = .ok (.istore 7, 2) := by decide +kernel
theorem d_Pol_nearestStep_30 : decode i_Pol_nearestStep.2.1 30 = .ok (.iload 7, 2) := by decide +kernel
theorem d_Pol_nearestStep_32 : decode i_Pol_nearestStep.2.1 32 = .ok (.iload 6, 2) := by decide +kernel
theorem d_Pol_nearestStep_34 : decode i_Pol_nearestStep.2.1 34 = .ok (.if_icmp .ge 55, 3) := by decide +kernel
theorem d_Pol_nearestStep_37 : decode i_Pol_nearestStep.2.1 37 = .ok (.aload_n 0, 1) := by decide +kernel
theorem d_Pol_nearestStep_38 : decode i_Pol_nearestStep.2.1 38 = .ok (.getfield 29, 3) := by decide +kernel
theorem d_Pol_nearestStep_41 : decode i_Pol_nearestStep.2.1 41 = .ok (.iload 5, 2) := by decide +kernel
theorem d_Pol_nearestStep_43 : decode i_Pol_nearestStep.2.1 43 = .ok (.iload 7, 2) := by decide +kernel
theorem d_Pol_nearestStep_45 : decode i_Pol_nearestStep.2.1 45 = .ok (.invokevirtual 110, 3) := by decide +kernel
theorem d_Pol_nearestStep_48 : decode i_Pol_nearestStep.2.1 48 = .ok (.istore 8, 2) := by decide +kernel
theorem d_Pol_nearestStep_50 : decode i_Pol_nearestStep.2.1 50 = .ok (.iload 8, 2) := by decide +kernel
theorem d_Pol_nearestStep_52 : decode i_Pol_nearestStep.2.1 52 = .ok (.iconst (-1), 1) := by decide +kernel
theorem d_Pol_nearestStep_53 : decode i_Pol_nearestStep.2.1 53 = .ok (.if_icmp .eq 30, 3) := by decide +kernel
theorem d_Pol_nearestStep_56 : decode i_Pol_nearestStep.2.1 56 = .ok (.ldc 43, 2) := by decide +kernel
theorem d_Pol_nearestStep_58 : decode i_Pol_nearestStep.2.1 58 = .ok (.iload 8, 2) := by decide +kernel
theorem d_Pol_nearestStep_60 : decode i_Pol_nearestStep.2.1 60 = .ok (.iadd, 1) := by decide +kernel
theorem d_Pol_nearestStep_61 : decode i_Pol_nearestStep.2.1 61 = .ok (.aload_n 0, 1) := by decide +kernel
theorem d_Pol_nearestStep_62 : decode i_Pol_nearestStep.2.1 62 = .ok (.getfield 22, 3) := by decide +kernel
theorem d_Pol_nearestStep_65 : decode i_Pol_nearestStep.2.1 65 = .ok (.iload_n 3, 1) := by decide +kernel
theorem d_Pol_nearestStep_66 : decode i_Pol_nearestStep.2.1 66 = .ok (.iload 7, 2) := by decide +kernel
theorem d_Pol_nearestStep_68 : decode i_Pol_nearestStep.2.1 68 = .ok (.iadd, 1) := by decide +kernel
theorem d_Pol_nearestStep_69 : decode i_Pol_nearestStep.2.1 69 = .ok (.iaload, 1) := by decide +kernel
theorem d_Pol_nearestStep_70 : decode i_Pol_nearestStep.2.1 70 = .ok (.iadd, 1) := by decide +kernel
theorem d_Pol_nearestStep_71 : decode i_Pol_nearestStep.2.1 71 = .ok (.aload_n 0, 1) := by decide +kernel
theorem d_Pol_nearestStep_72 : decode i_Pol_nearestStep.2.1 72 = .ok (.getfield 22, 3) := by decide +kernel
theorem d_Pol_nearestStep_75 : decode i_Pol_nearestStep.2.1 75 = .ok (.iload_n 3, 1) := by decide +kernel
theorem d_Pol_nearestStep_76 : decode i_Pol_nearestStep.2.1 76 = .ok (.iaload, 1) := by decide +kernel
theorem d_Pol_nearestStep_77 : decode i_Pol_nearestStep.2.1 77 = .ok (.if_icmp .ne 6, 3) := by decide +kernel
theorem d_Pol_nearestStep_80 : decode i_Pol_nearestStep.2.1 80 = .ok (.iload 7, 2) := by decide +kernel
theorem d_Pol_nearestStep_82 : decode i_Pol_nearestStep.2.1 82 = .ok (.ireturn, 1) := by decide +kernel
theorem d_Pol_nearestStep_83 : decode i_Pol_nearestStep.2.1 83 = .ok (.iinc 7 1, 3) := by decide +kernel
theorem d_Pol_nearestStep_86 : decode i_Pol_nearestStep.2.1 86 = .ok (.goto (-56), 3) := by decide +kernel
theorem d_Pol_nearestStep_89 : decode i_Pol_nearestStep.2.1 89 = .ok (.iload 6, 2) := by decide +kernel
theorem d_Pol_nearestStep_91 : decode i_Pol_nearestStep.2.1 91 = .ok (.iconst 1, 1) := by decide +kernel
theorem d_Pol_nearestStep_92 : decode i_Pol_nearestStep.2.1 92 = .ok (.invokestatic 53, 3) := by decide +kernel
theorem d_Pol_nearestStep_95 : decode i_Pol_nearestStep.2.1 95 = .ok (.ireturn, 1) := by decide +kernel
theorem d_Rdg_init_0 : decode i_Rdg_init.2.1 0 = .ok (.aload_n 0, 1) := by decide +kernel
theorem d_Rdg_init_1 : decode i_Rdg_init.2.1 1 = .ok (.invokespecial 1, 3) := by decide +kernel
theorem d_Rdg_init_4 : decode i_Rdg_init.2.1 4 = .ok (.return_, 1) := by decide +kernel
theorem d_Rdg_read_0 : decode i_Rdg_read.2.1 0 = .ok (.aload_n 0, 1) := by decide +kernel
theorem d_Rdg_read_1 : decode i_Rdg_read.2.1 1 = .ok (.iconst 0, 1) := by decide +kernel
theorem d_Rdg_read_2 : decode i_Rdg_read.2.1 2 = .ok (.putfield 7, 3) := by decide +kernel
theorem d_Rdg_read_5 : decode i_Rdg_read.2.1 5 = .ok (.aload_n 0, 1) := by decide +kernel
theorem d_Rdg_read_6 : decode i_Rdg_read.2.1 6 = .ok (.iconst 0, 1) := by decide +kernel
theorem d_Rdg_read_7 : decode i_Rdg_read.2.1 7 = .ok (.putfield 13, 3) := by decide +kernel
theorem d_Rdg_read_10 : decode i_Rdg_read.2.1 10 = .ok (.aload_n 0, 1) := by decide +kernel
theorem d_Rdg_read_11 : decode i_Rdg_read.2.1 11 = .ok (.lconst 0, 1) := by decide +kernel
theorem d_Rdg_read_12 : decode i_Rdg_read.2.1 12 = .ok (.putfield 16, 3) := by decide +kernel
theorem d_Rdg_read_15 : decode i_Rdg_read.2.1 15 = .ok (.aload_n 1, 1) := by decide +kernel
theorem d_Rdg_read_16 : decode i_Rdg_read.2.1 16 = .ok (.getfield 20, 3) := by decide +kernel
theorem d_Rdg_read_19 : decode i_Rdg_read.2.1 19 = .ok (.istore_n 2, 1) := by decide +kernel
theorem d_Rdg_read_20 : decode i_Rdg_read.2.1 20 = .ok (.iconst 0, 1) := by decide +kernel
theorem d_Rdg_read_21 : decode i_Rdg_read.2.1 21 = .ok (.istore_n 3, 1) := by decide +kernel
theorem d_Rdg_read_22 : decode i_Rdg_read.2.1 22 = .ok (.iload_n 3, 1) := by decide +kernel
theorem d_Rdg_read_23 : decode i_Rdg_read.2.1 23 = .ok (.iload_n 2, 1) := by decide +kernel
theorem d_Rdg_read_24 : decode i_Rdg_read.2.1 24 = .ok (.if_icmp .ge 55, 3) := by decide +kernel
theorem d_Rdg_read_27 : decode i_Rdg_read.2.1 27 = .ok (.aload_n 1, 1) := by decide +kernel
theorem d_Rdg_read_28 : decode i_Rdg_read.2.1 28 = .ok (.iload_n 3, 1) := by decide +kernel
theorem d_Rdg_read_29 : decode i_Rdg_read.2.1 29 = .ok (.invokevirtual 25, 3) := by decide +kernel
theorem d_Rdg_read_32 : decode i_Rdg_read.2.1 32 = .ok (.istore 4, 2) := by decide +kernel
theorem d_Rdg_read_34 : decode i_Rdg_read.2.1 34 = .ok (.iload_n 3, 1) := by decide +kernel
theorem d_Rdg_read_35 : decode i_Rdg_read.2.1 35 = .ok (.iconst 4, 1) := by decide +kernel
theorem d_Rdg_read_36 : decode i_Rdg_read.2.1 36 = .ok (.if_icmp .ge 13, 3) := by decide +kernel
theorem d_Rdg_read_39 : decode i_Rdg_read.2.1 39 = .ok (.aload_n 0, 1) := by decide +kernel
theorem d_Rdg_read_40 : decode i_Rdg_read.2.1 40 = .ok (.iload_n 3, 1) := by decide +kernel
theorem d_Rdg_read_41 : decode i_Rdg_read.2.1 41 = .ok (.iload 4, 2) := by decide +kernel
theorem d_Rdg_read_43 : decode i_Rdg_read.2.1 43 = .ok (.invokevirtual 29, 3) := by decide +kernel
theorem d_Rdg_read_46 : decode i_Rdg_read.2.1 46 = .ok (.goto 12, 3) := by decide +kernel
theorem d_Rdg_read_49 : decode i_Rdg_read.2.1 49 = .ok (.aload_n 0, 1) := by decide +kernel
theorem d_Rdg_read_50 : decode i_Rdg_read.2.1 50 = .ok (.iload_n 3, 1) := by decide +kernel
theorem d_Rdg_read_51 : decode i_Rdg_read.2.1 51 = .ok (.iconst 4, 1) := by decide +kernel
theorem d_Rdg_read_52 : decode i_Rdg_read.2.1 52 = .ok (.isub, 1) := by decide +kernel
theorem d_Rdg_read_53 : decode i_Rdg_read.2.1 53 = .ok (.iload 4, 2) := by decide +kernel
theorem d_Rdg_read_55 : decode i_Rdg_read.2.1 55 = .ok (.invokevirtual 33, 3) := by decide +kernel
theorem d_Rdg_read_58 : decode i_Rdg_read.2.1 58 = .ok (.istore 5, 2) := by decide +kernel
theorem d_Rdg_read_60 : decode i_Rdg_read.2.1 60 = .ok (.iload 5, 2) := by decide +kernel
theorem d_Rdg_read_62 : decode i_Rdg_read.2.1 62 = .ok (.ifCond .eq 11, 3) := by decide +kernel
theorem d_Rdg_read_65 : decode i_Rdg_read.2.1 65 = .ok (.aload_n 0, 1) := by decide +kernel
theorem d_Rdg_read_66 : decode i_Rdg_read.2.1 66 = .ok (.iload_n 3, 1) := by decide +kernel
theorem d_Rdg_read_67 : decode i_Rdg_read.2.1 67 = .ok (.putfield 36, 3) := by decide +kernel
theorem d_Rdg_read_70 : decode i_Rdg_read.2.1 70 = .ok (.iload 5, 2) := by decide +kernel
theorem d_Rdg_read_72 : decode i_Rdg_read.2.1 72 = .ok (.ireturn, 1) := by decide +kernel
theorem d_Rdg_read_73 : decode i_Rdg_read.2.1 73 = .ok (.iinc 3 1, 3) := by decide +kernel
theorem d_Rdg_read_76 : decode i_Rdg_read.2.1 76 = .ok (.goto (-54), 3) := by decide +kernel
theorem d_Rdg_read_79 : decode i_Rdg_read.2.1 79 = .ok (.aload_n 0, 1) := by decide +kernel
theorem d_Rdg_read_80 : decode i_Rdg_read.2.1 80 = .ok (.iload_n 2, 1) := by decide +kernel
theorem d_Rdg_read_81 : decode i_Rdg_read.2.1 81 = .ok (.putfield 36, 3) := by decide +kernel
theorem d_Rdg_read_84 : decode i_Rdg_read.2.1 84 = .ok (.iload_n 2, 1) := by decide +kernel
theorem d_Rdg_read_85 : decode i_Rdg_read.2.1 85 = .ok (.iconst 4, 1) := by decide +kernel
theorem d_Rdg_read_86 : decode i_Rdg_read.2.1 86 = .ok (.if_icmp .lt 24, 3) := by decide +kernel
theorem d_Rdg_read_89 : decode i_Rdg_read.2.1 89 = .ok (.iload_n 2, 1) := by decide +kernel
theorem d_Rdg_read_90 : decode i_Rdg_read.2.1 90 = .ok (.iconst 4, 1) := by decide +kernel
theorem d_Rdg_read_91 : decode i_Rdg_read.2.1 91 = .ok (.aload_n 0, 1) := by decide +kernel
theorem d_Rdg_read_92 : decode i_Rdg_read.2.1 92 = .ok (.getfield 13, 3) := by decide +kernel
theorem d_Rdg_read_95 : decode i_Rdg_read.2.1 95 = .ok (.aload_n 0, 1) := by decide +kernel
theorem d_Rdg_read_96 : decode i_Rdg_read.2.1 96 = .ok (.getfield 7, 3) := by decide +kernel
theorem d_Rdg_read_99 : decode i_Rdg_read.2.1 99 = .ok (.iconst 1, 1) := by decide +kernel
theorem d_Rdg_read_100 : decode i_Rdg_read.2.1 100 = .ok (.iadd, 1) := by decide +kernel
theorem d_Rdg_read_101 : decode i_Rdg_read.2.1 101 = .ok (.imul, 1) := by decide +kernel
theorem d_Rdg_read_102 : decode i_Rdg_read.2.1 102 = .ok (.iadd, 1) := by decide +kernel
theorem d_Rdg_read_103 : decode i_Rdg_read.2.1 103 = .ok (.if_icmp .ne 7, 3) := by decide +kernel
theorem d_Rdg_read_106 : decode i_Rdg_read.2.1 106 = .ok (.iconst 0, 1) := by decide +kernel
theorem d_Rdg_read_107 : decode i_Rdg_read.2.1 107 = .ok (.goto 4, 3) := by decide +kernel
theorem d_Rdg_read_110 : decode i_Rdg_read.2.1 110 = .ok (.iconst 1, 1) := by decide +kernel
theorem d_Rdg_read_111 : decode i_Rdg_read.2.1 111 = .ok (.ireturn, 1) := by decide +kernel
theorem d_Rdg_faultInHead_0 : decode i_Rdg_faultInHead.2.1 0 = .ok (.iload_n 1, 1) := by decide +kernel
theorem d_Rdg_faultInHead_1 : decode i_Rdg_faultInHead.2.1 1 = .ok (.ifCond .ne 15, 3) := by decide +kernel
theorem d_Rdg_faultInHead_4 : decode i_Rdg_faultInHead.2.1 4 = .ok (.iload_n 2, 1) := by decide +kernel
theorem d_Rdg_faultInHead_5 : decode i_Rdg_faultInHead.2.1 5 = .ok (.bipush 100, 2) := by decide +kernel
theorem d_Rdg_faultInHead_7 : decode i_Rdg_faultInHead.2.1 7 = .ok (.if_icmp .ne 7, 3) := by decide +kernel
theorem d_Rdg_faultInHead_10 : decode i_Rdg_faultInHead.2.1 10 = .ok (.iconst 0, 1) := by decide +kernel
theorem d_Rdg_faultInHead_11 : decode i_Rdg_faultInHead.2.1 11 = .ok (.goto 4, 3) := by decide +kernel
theorem d_Rdg_faultInHead_14 : decode i_Rdg_faultInHead.2.1 14 = .ok (.iconst 1, 1) := by decide +kernel
theorem d_Rdg_faultInHead_15 : decode i_Rdg_faultInHead.2.1 15 = .ok (.ireturn, 1) := by decide +kernel
theorem d_Rdg_faultInHead_16 : decode i_Rdg_faultInHead.2.1 16 = .ok (.iload_n 1, 1) := by decide +kernel
theorem d_Rdg_faultInHead_17 : decode i_Rdg_faultInHead.2.1 17 = .ok (.iconst 3, 1) := by decide +kernel
theorem d_Rdg_faultInHead_18 : decode i_Rdg_faultInHead.2.1 18 = .ok (.if_icmp .ne 15, 3) := by decide +kernel
theorem d_Rdg_faultInHead_21 : decode i_Rdg_faultInHead.2.1 21 = .ok (.iload_n 2, 1) := by decide +kernel
theorem d_Rdg_faultInHead_22 : decode i_Rdg_faultInHead.2.1 22 = .ok (.bipush 59, 2) := by decide +kernel
theorem d_Rdg_faultInHead_24 : decode i_Rdg_faultInHead.2.1 24 = .ok (.if_icmp .ne 7, 3) := by decide +kernel
theorem d_Rdg_faultInHead_27 : decode i_Rdg_faultInHead.2.1 27 = .ok (.iconst 0, 1) := by decide +kernel
theorem d_Rdg_faultInHead_28 : decode i_Rdg_faultInHead.2.1 28 = .ok (.goto 4, 3) := by decide +kernel
theorem d_Rdg_faultInHead_31 : decode i_Rdg_faultInHead.2.1 31 = .ok (.iconst 1, 1) := by decide +kernel
theorem d_Rdg_faultInHead_32 : decode i_Rdg_faultInHead.2.1 32 = .ok (.ireturn, 1) := by decide +kernel
theorem d_Rdg_faultInHead_33 : decode i_Rdg_faultInHead.2.1 33 = .ok (.iload_n 2, 1) := by decide +kernel
theorem d_Rdg_faultInHead_34 : decode i_Rdg_faultInHead.2.1 34 = .ok (.bipush 48, 2) := by decide +kernel
theorem d_Rdg_faultInHead_36 : decode i_Rdg_faultInHead.2.1 36 = .ok (.if_icmp .lt 9, 3) := by decide +kernel
theorem d_Rdg_faultInHead_39 : decode i_Rdg_faultInHead.2.1 39 = .ok (.iload_n 2, 1) := by decide +kernel
theorem d_Rdg_faultInHead_40 : decode i_Rdg_faultInHead.2.1 40 = .ok (.bipush 57, 2) := by decide +kernel
theorem d_Rdg_faultInHead_42 : decode i_Rdg_faultInHead.2.1 42 = .ok (.if_icmp .le 5, 3) := by decide +kernel
theorem d_Rdg_faultInHead_45 : decode i_Rdg_faultInHead.2.1 45 = .ok (.iconst 1, 1) := by decide +kernel
theorem d_Rdg_faultInHead_46 : decode i_Rdg_faultInHead.2.1 46 = .ok (.ireturn, 1) := by decide +kernel
theorem d_Rdg_faultInHead_47 : decode i_Rdg_faultInHead.2.1 47 = .ok (.iload_n 2, 1) := by decide +kernel
theorem d_Rdg_faultInHead_48 : decode i_Rdg_faultInHead.2.1 48 = .ok (.bipush 48, 2) := by decide +kernel
theorem d_Rdg_faultInHead_50 : decode i_Rdg_faultInHead.2.1 50 = .ok (.isub, 1) := by decide +kernel
theorem d_Rdg_faultInHead_51 : decode i_Rdg_faultInHead.2.1 51 = .ok (.istore_n 3, 1) := by decide +kernel
theorem d_Rdg_faultInHead_52 : decode i_Rdg_faultInHead.2.1 52 = .ok (.iload_n 3, 1) := by decide +kernel
theorem d_Rdg_faultInHead_53 : decode i_Rdg_faultInHead.2.1 53 = .ok (.iconst 1, 1) := by decide +kernel
theorem d_Rdg_faultInHead_54 : decode i_Rdg_faultInHead.2.1 54 = .ok (.if_icmp .lt 9, 3) := by decide +kernel
theorem d_Rdg_faultInHead_57 : decode i_Rdg_faultInHead.2.1 57 = .ok (.iload_n 3, 1) := by decide +kernel
theorem d_Rdg_faultInHead_58 : decode i_Rdg_faultInHead.2.1 58 = .ok (.bipush 8, 2) := by decide +kernel
theorem d_Rdg_faultInHead_60 : decode i_Rdg_faultInHead.2.1 60 = .ok (.if_icmp .le 5, 3) := by decide +kernel
theorem d_Rdg_faultInHead_63 : decode i_Rdg_faultInHead.2.1 63 = .ok (.iconst 2, 1) := by decide +kernel
theorem d_Rdg_faultInHead_64 : decode i_Rdg_faultInHead.2.1 64 = .ok (.ireturn, 1) := by decide +kernel
theorem d_Rdg_faultInHead_65 : decode i_Rdg_faultInHead.2.1 65 = .ok (.iload_n 1, 1) := by decide +kernel
theorem d_Rdg_faultInHead_66 : decode i_Rdg_faultInHead.2.1 66 = .ok (.iconst 1, 1) := by decide +kernel
theorem d_Rdg_faultInHead_67 : decode i_Rdg_faultInHead.2.1 67 = .ok (.if_icmp .ne 11, 3) := by decide +kernel
theorem d_Rdg_faultInHead_70 : decode i_Rdg_faultInHead.2.1 70 = .ok (.aload_n 0, 1) := by decide +kernel
theorem d_Rdg_faultInHead_71 : decode i_Rdg_faultInHead.2.1 71 = .ok (.iload_n 3, 1) := by decide +kernel
theorem d_Rdg_faultInHead_72 : decode i_Rdg_faultInHead.2.1 72 = .ok (.putfield 7, 3) := by decide +kernel
theorem d_Rdg_faultInHead_75 : decode i_Rdg_faultInHead.2.1 75 = .ok (.goto 8, 3) := by decide +kernel
theorem d_Rdg_faultInHead_78 : decode i_Rdg_faultInHead.2.1 78 = .ok (.aload_n 0, 1) := by decide +kernel
theorem d_Rdg_faultInHead_79 : decode i_Rdg_faultInHead.2.1 79 = .ok (.iload_n 3, 1) := by decide +kernel
theorem d_Rdg_faultInHead_80 : decode i_Rdg_faultInHead.2.1 80 = .ok (.putfield 13, 3) := by decide +kernel
theorem d_Rdg_faultInHead_83 : decode i_Rdg_faultInHead.2.1 83 = .ok (.iconst 0, 1) := by decide +kernel
theorem d_Rdg_faultInHead_84 : decode i_Rdg_faultInHead.2.1 84 = .ok (.ireturn, 1) := by decide +kernel
theorem d_Rdg_faultInRows_0 : decode i_Rdg_faultInRows.2.1 0 = .ok (.aload_n 0, 1) := by decide +kernel
theorem d_Rdg_faultInRows_1 : decode i_Rdg_faultInRows.2.1 1 = .ok (.getfield 7, 3) := by decide +kernel
theorem d_Rdg_faultInRows_4 : decode i_Rdg_faultInRows.2.1 4 = .ok (.iconst 1, 1) := by decide +kernel
theorem d_Rdg_faultInRows_5 : decode i_Rdg_faultInRows.2.1 5 = .ok (.iadd, 1) := by decide +kernel
theorem d_Rdg_faultInRows_6 : decode i_Rdg_faultInRows.2.1 6 = .ok (.istore_n 3, 1) := by decide +kernel
theorem d_Rdg_faultInRows_7 : decode i_Rdg_faultInRows.2.1 7 = .ok (.iload_n 3, 1) := by decide +kernel
theorem d_Rdg_faultInRows_8 : decode i_Rdg_faultInRows.2.1 8 = .ok (.iconst 1, 1) := by decide +kernel
theorem d_Rdg_faultInRows_9 : decode i_Rdg_faultInRows.2.1 9 = .ok (.if_icmp .gt 5, 3) := by decide +kernel
theorem d_Rdg_faultInRows_12 : decode i_Rdg_faultInRows.2.1 12 = .ok (.iconst 1, 1) := by decide +kernel
theorem d_Rdg_faultInRows_13 : decode i_Rdg_faultInRows.2.1 13 = .ok (.ireturn, 1) := by decide +kernel
theorem d_Rdg_faultInRows_14 : decode i_Rdg_faultInRows.2.1 14 = .ok (.iload_n 1, 1) := by decide +kernel
theorem d_Rdg_faultInRows_15 : decode i_Rdg_faultInRows.2.1 15 = .ok (.iload_n 3, 1) := by decide +kernel
theorem d_Rdg_faultInRows_16 : decode i_Rdg_faultInRows.2.1 16 = .ok (.irem, 1) := by decide +kernel
theorem d_Rdg_faultInRows_17 : decode i_Rdg_faultInRows.2.1 17 = .ok (.istore 4, 2) := by decide +kernel
theorem d_Rdg_faultInRows_19 : decode i_Rdg_faultInRows.2.1 19 = .ok (.iload_n 1, 1) := by decide +kernel
theorem d_Rdg_faultInRows_20 : decode i_Rdg_faultInRows.2.1 20 = .ok (.iload_n 3, 1) := by decide +kernel
theorem d_Rdg_faultInRows_21 : decode i_Rdg_faultInRows.2.1 21 = .ok (.idiv, 1) := by decide +kernel
theorem d_Rdg_faultInRows_22 : decode i_Rdg_faultInRows.2.1 22 = .ok (.istore 5, 2) := by decide +kernel
theorem d_Rdg_faultInRows_24 : decode i_Rdg_faultInRows.2.1 24 = .ok (.iload 5, 2) := by decide +kernel
theorem d_Rdg_faultInRows_26 : decode i_Rdg_faultInRows.2.1 26 = .ok (.aload_n 0, 1) := by decide +kernel
theorem d_Rdg_faultInRows_27 : decode i_Rdg_faultInRows.2.1 27 = .ok (.getfield 13, 3) := by decide +kernel
theorem d_Rdg_faultInRows_30 : decode i_Rdg_faultInRows.2.1 30 = .ok (.if_icmp .lt 5, 3) := by decide +kernel
theorem d_Rdg_faultInRows_33 : decode i_Rdg_faultInRows.2.1 33 = .ok (.iconst 1, 1) := by decide +kernel
theorem d_Rdg_faultInRows_34 : decode i_Rdg_faultInRows.2.1 34 = .ok (.ireturn, 1) := by decide +kernel
theorem d_Rdg_faultInRows_35 : decode i_Rdg_faultInRows.2.1 35 = .ok (.iload 4, 2) := by decide +kernel
theorem d_Rdg_faultInRows_37 : decode i_Rdg_faultInRows.2.1 37 = .ok (.aload_n 0, 1) := by decide +kernel
theorem d_Rdg_faultInRows_38 : decode i_Rdg_faultInRows.2.1 38 = .ok (.getfield 7, 3) := by decide +kernel
theorem d_Rdg_faultInRows_41 : decode i_Rdg_faultInRows.2.1 41 = .ok (.if_icmp .ne 15, 3) := by decide +kernel
theorem d_Rdg_faultInRows_44 : decode i_Rdg_faultInRows.2.1 44 = .ok (.iload_n 2, 1) := by decide +kernel
theorem d_Rdg_faultInRows_45 : decode i_Rdg_faultInRows.2.1 45 = .ok (.bipush 59, 2) := by decide +kernel
theorem d_Rdg_faultInRows_47 : decode i_Rdg_faultInRows.2.1 47 = .ok (.if_icmp .ne 7, 3) := by decide +kernel
theorem d_Rdg_faultInRows_50 : decode i_Rdg_faultInRows.2.1 50 = .ok (.iconst 0, 1) := by decide +kernel
theorem d_Rdg_faultInRows_51 : decode i_Rdg_faultInRows.2.1 51 = .ok (.goto 4, 3) := by decide +kernel
theorem d_Rdg_faultInRows_54 : decode i_Rdg_faultInRows.2.1 54 = .ok (.iconst 1, 1) := by decide +kernel
theorem d_Rdg_faultInRows_55 : decode i_Rdg_faultInRows.2.1 55 = .ok (.ireturn, 1) := by decide +kernel
theorem d_Rdg_faultInRows_56 : decode i_Rdg_faultInRows.2.1 56 = .ok (.iload_n 2, 1) := by decide +kernel
theorem d_Rdg_faultInRows_57 : decode i_Rdg_faultInRows.2.1 57 = .ok (.bipush 97, 2) := by decide +kernel
theorem d_Rdg_faultInRows_59 : decode i_Rdg_faultInRows.2.1 59 = .ok (.if_icmp .lt 9, 3) := by decide +kernel
theorem d_Rdg_faultInRows_62 : decode i_Rdg_faultInRows.2.1 62 = .ok (.iload_n 2, 1) := by decide +kernel
theorem d_Rdg_faultInRows_63 : decode i_Rdg_faultInRows.2.1 63 = .ok (.bipush 122, 2) := by decide +kernel
theorem d_Rdg_faultInRows_65 : decode i_Rdg_faultInRows.2.1 65 = .ok (.if_icmp .le 5, 3) := by decide +kernel
theorem d_Rdg_faultInRows_68 : decode i_Rdg_faultInRows.2.1 68 = .ok (.iconst 1, 1) := by decide +kernel
theorem d_Rdg_faultInRows_69 : decode i_Rdg_faultInRows.2.1 69 = .ok (.ireturn, 1) := by decide +kernel
theorem d_Rdg_faultInRows_70 : decode i_Rdg_faultInRows.2.1 70 = .ok (.iload_n 2, 1) := by decide +kernel
theorem d_Rdg_faultInRows_71 : decode i_Rdg_faultInRows.2.1 71 = .ok (.bipush 120, 2) := by decide +kernel
theorem d_Rdg_faultInRows_73 : decode i_Rdg_faultInRows.2.1 73 = .ok (.if_icmp .eq 11, 3) := by decide +kernel
theorem d_Rdg_faultInRows_76 : decode i_Rdg_faultInRows.2.1 76 = .ok (.iload_n 2, 1) := by decide +kernel
theorem d_Rdg_faultInRows_77 : decode i_Rdg_faultInRows.2.1 77 = .ok (.bipush 111, 2) := by decide +kernel
theorem d_Rdg_faultInRows_79 : decode i_Rdg_faultInRows.2.1 79 = .ok (.if_icmp .eq 5, 3) := by decide +kernel
theorem d_Rdg_faultInRows_82 : decode i_Rdg_faultInRows.2.1 82 = .ok (.iconst 2, 1) := by decide +kernel
theorem d_Rdg_faultInRows_83 : decode i_Rdg_faultInRows.2.1 83 = .ok (.ireturn, 1) := by decide +kernel
theorem d_Rdg_faultInRows_84 : decode i_Rdg_faultInRows.2.1 84 = .ok (.iload_n 2, 1) := by decide +kernel
theorem d_Rdg_faultInRows_85 : decode i_Rdg_faultInRows.2.1 85 = .ok (.bipush 120, 2) := by decide +kernel
theorem d_Rdg_faultInRows_87 : decode i_Rdg_faultInRows.2.1 87 = .ok (.if_icmp .ne 19, 3) := by decide +kernel
theorem d_Rdg_faultInRows_90 : decode i_Rdg_faultInRows.2.1 90 = .ok (.aload_n 0, 1) := by decide +kernel
theorem d_Rdg_faultInRows_91 : decode i_Rdg_faultInRows.2.1 91 = .ok (.dup, 1) := by decide +kernel
theorem d_Rdg_faultInRows_92 : decode i_Rdg_faultInRows.2.1 92 = .ok (.getfield 16, 3) := by decide +kernel
theorem d_Rdg_faultInRows_95 : decode i_Rdg_faultInRows.2.1 95 = .ok (.iload 4, 2) := by decide +kernel
theorem d_Rdg_faultInRows_97 : decode i_Rdg_faultInRows.2.1 97 = .ok (.iload 5, 2) := by decide +kernel
theorem d_Rdg_faultInRows_99 : decode i_Rdg_faultInRows.2.1 99 = .ok (.invokestatic 41, 3) := by decide +kernel
theorem d_Rdg_faultInRows_102 : decode i_Rdg_faultInRows.2.1 102 = .ok (.lor, 1) := by decide +kernel
theorem d_Rdg_faultInRows_103 : decode i_Rdg_faultInRows.2.1 103 = .ok (.putfield 16, 3) := by decide +kernel
theorem d_Rdg_faultInRows_106 : decode i_Rdg_faultInRows.2.1 106 = .ok (.iconst 0, 1) := by decide +kernel
theorem d_Rdg_faultInRows_107 : decode i_Rdg_faultInRows.2.1 107 = .ok (.ireturn, 1) := by decide +kernel
theorem d_Str_init_0 : decode i_Str_init.2.1 0 = .ok (.aload_n 0, 1) := by decide +kernel
theorem d_Str_init_1 : decode i_Str_init.2.1 1 = .ok (.invokespecial 3, 3) := by decide +kernel
theorem d_Str_init_4 : decode i_Str_init.2.1 4 = .ok (.aload_n 0, 1) := by decide +kernel
theorem d_Str_init_5 : decode i_Str_init.2.1 5 = .ok (.sipush 1872, 3) := by decide +kernel
theorem d_Str_init_8 : decode i_Str_init.2.1 8 = .ok (.newarray .int, 2) := by decide +kernel
theorem d_Str_init_10 : decode i_Str_init.2.1 10 = .ok (.putfield 11, 3) := by decide +kernel
theorem d_Str_init_13 : decode i_Str_init.2.1 13 = .ok (.aload_n 0, 1) := by decide +kernel
theorem d_Str_init_14 : decode i_Str_init.2.1 14 = .ok (.sipush 144, 3) := by decide +kernel
theorem d_Str_init_17 : decode i_Str_init.2.1 17 = .ok (.newarray .int, 2) := by decide +kernel
theorem d_Str_init_19 : decode i_Str_init.2.1 19 = .ok (.putfield 15, 3) := by decide +kernel
theorem d_Str_init_22 : decode i_Str_init.2.1 22 = .ok (.aload_n 0, 1) := by decide +kernel
theorem d_Str_init_23 : decode i_Str_init.2.1 23 = .ok (.aload_n 1, 1) := by decide +kernel
theorem d_Str_init_24 : decode i_Str_init.2.1 24 = .ok (.putfield 18, 3) := by decide +kernel
theorem d_Str_init_27 : decode i_Str_init.2.1 27 = .ok (.return_, 1) := by decide +kernel
theorem d_Str_offOf_0 : decode i_Str_offOf.2.1 0 = .ok (.aload_n 0, 1) := by decide +kernel
theorem d_Str_offOf_1 : decode i_Str_offOf.2.1 1 = .ok (.getfield 18, 3) := by decide +kernel
theorem d_Str_offOf_4 : decode i_Str_offOf.2.1 4 = .ok (.aload_n 1, 1) := by decide +kernel
theorem d_Str_offOf_5 : decode i_Str_offOf.2.1 5 = .ok (.iload_n 2, 1) := by decide +kernel
theorem d_Str_offOf_6 : decode i_Str_offOf.2.1 6 = .ok (.invokevirtual 22, 3) := by decide +kernel
theorem d_Str_offOf_9 : decode i_Str_offOf.2.1 9 = .ok (.istore 4, 2) := by decide +kernel
theorem d_Str_offOf_11 : decode i_Str_offOf.2.1 11 = .ok (.aload_n 0, 1) := by decide +kernel
theorem d_Str_offOf_12 : decode i_Str_offOf.2.1 12 = .ok (.getfield 18, 3) := by decide +kernel
theorem d_Str_offOf_15 : decode i_Str_offOf.2.1 15 = .ok (.aload_n 1, 1) := by decide +kernel
theorem d_Str_offOf_16 : decode i_Str_offOf.2.1 16 = .ok (.iload_n 2, 1) := by decide +kernel
theorem d_Str_offOf_17 : decode i_Str_offOf.2.1 17 = .ok (.invokevirtual 26, 3) := by decide +kernel
theorem d_Str_offOf_20 : decode i_Str_offOf.2.1 20 = .ok (.istore 5, 2) := by decide +kernel
theorem d_Str_offOf_22 : decode i_Str_offOf.2.1 22 = .ok (.aload_n 0, 1) := by decide +kernel
theorem d_Str_offOf_23 : decode i_Str_offOf.2.1 23 = .ok (.getfield 18, 3) := by decide +kernel
theorem d_Str_offOf_26 : decode i_Str_offOf.2.1 26 = .ok (.aload_n 1, 1) := by decide +kernel
theorem d_Str_offOf_27 : decode i_Str_offOf.2.1 27 = .ok (.iload_n 2, 1) := by decide +kernel
theorem d_Str_offOf_28 : decode i_Str_offOf.2.1 28 = .ok (.iload_n 3, 1) := by decide +kernel
theorem d_Str_offOf_29 : decode i_Str_offOf.2.1 29 = .ok (.iadd, 1) := by decide +kernel
theorem d_Str_offOf_30 : decode i_Str_offOf.2.1 30 = .ok (.invokevirtual 22, 3) := by decide +kernel
theorem d_Str_offOf_33 : decode i_Str_offOf.2.1 33 = .ok (.iload 4, 2) := by decide +kernel
theorem d_Str_offOf_35 : decode i_Str_offOf.2.1 35 = .ok (.isub, 1) := by decide +kernel
theorem d_Str_offOf_36 : decode i_Str_offOf.2.1 36 = .ok (.istore 6, 2) := by decide +kernel
theorem d_Str_offOf_38 : decode i_Str_offOf.2.1 38 = .ok (.aload_n 0, 1) := by decide +kernel
theorem d_Str_offOf_39 : decode i_Str_offOf.2.1 39 = .ok (.getfield 18, 3) := by decide +kernel
theorem d_Str_offOf_42 : decode i_Str_offOf.2.1 42 = .ok (.aload_n 1, 1) := by decide +kernel
theorem d_Str_offOf_43 : decode i_Str_offOf.2.1 43 = .ok (.iload_n 2, 1) := by decide +kernel
theorem d_Str_offOf_44 : decode i_Str_offOf.2.1 44 = .ok (.iload_n 3, 1) := by decide +kernel
theorem d_Str_offOf_45 : decode i_Str_offOf.2.1 45 = .ok (.iadd, 1) := by decide +kernel
theorem d_Str_offOf_46 : decode i_Str_offOf.2.1 46 = .ok (.invokevirtual 26, 3) := by decide +kernel
theorem d_Str_offOf_49 : decode i_Str_offOf.2.1 49 = .ok (.iload 5, 2) := by decide +kernel
theorem d_Str_offOf_51 : decode i_Str_offOf.2.1 51 = .ok (.isub, 1) := by decide +kernel
theorem d_Str_offOf_52 : decode i_Str_offOf.2.1 52 = .ok (.istore 7, 2) := by decide +kernel
theorem d_Str_offOf_54 : decode i_Str_offOf.2.1 54 = .ok (.iload 6, 2) := by decide +kernel
theorem d_Str_offOf_56 : decode i_Str_offOf.2.1 56 = .ok (.invokestatic 29, 3) := by decide +kernel
theorem d_Str_offOf_59 : decode i_Str_offOf.2.1 59 = .ok (.iload 7, 2) := by decide +kernel
theorem d_Str_offOf_61 : decode i_Str_offOf.2.1 61 = .ok (.invokestatic 29, 3) := by decide +kernel
theorem d_Str_offOf_64 : decode i_Str_offOf.2.1 64 = .ok (.invokestatic 35, 3) := by decide +kernel
theorem d_Str_offOf_67 : decode i_Str_offOf.2.1 67 = .ok (.istore 8, 2) := by decide +kernel
theorem d_Str_offOf_69 : decode i_Str_offOf.2.1 69 = .ok (.iload 8, 2) := by decide +kernel
theorem d_Str_offOf_71 : decode i_Str_offOf.2.1 71 = .ok (.ifCond .ne 5, 3) := by decide +kernel
theorem d_Str_offOf_74 : decode i_Str_offOf.2.1 74 = .ok (.iconst (-1), 1) := by decide +kernel
theorem d_Str_offOf_75 : decode i_Str_offOf.2.1 75 = .ok (.ireturn, 1) := by decide +kernel
theorem d_Str_offOf_76 : decode i_Str_offOf.2.1 76 = .ok (.iconst 0, 1) := by decide +kernel
theorem d_Str_offOf_77 : decode i_Str_offOf.2.1 77 = .ok (.istore 9, 2) := by decide +kernel
theorem d_Str_offOf_79 : decode i_Str_offOf.2.1 79 = .ok (.iconst 1, 1) := by decide +kernel
theorem d_Str_offOf_80 : decode i_Str_offOf.2.1 80 = .ok (.istore 10, 2) := by decide +kernel
theorem d_Str_offOf_82 : decode i_Str_offOf.2.1 82 = .ok (.iload 10, 2) := by decide +kernel
theorem d_Str_offOf_84 : decode i_Str_offOf.2.1 84 = .ok (.iload_n 3, 1) := by decide +kernel
theorem d_Str_offOf_85 : decode i_Str_offOf.2.1 85 = .ok (.if_icmp .ge 72, 3) := by decide +kernel
theorem d_Str_offOf_88 : decode i_Str_offOf.2.1 88 = .ok (.iload 6, 2) := by decide +kernel
theorem d_Str_offOf_90 : decode i_Str_offOf.2.1 90 = .ok (.aload_n 0, 1) := by decide +kernel
theorem d_Str_offOf_91 : decode i_Str_offOf.2.1 91 = .ok (.getfield 18, 3) := by decide +kernel
theorem d_Str_offOf_94 : decode i_Str_offOf.2.1 94 = .ok (.aload_n 1, 1) := by decide +kernel
theorem d_Str_offOf_95 : decode i_Str_offOf.2.1 95 = .ok (.iload_n 2, 1) := by decide +kernel
theorem d_Str_offOf_96 : decode i_Str_offOf.2.1 96 = .ok (.iload 10, 2) := by decide +kernel
theorem d_Str_offOf_98 : decode i_Str_offOf.2.1 98 = .ok (.iadd, 1) := by decide +kernel
theorem d_Str_offOf_99 : decode i_Str_offOf.2.1 99 = .ok (.invokevirtual 26, 3) := by decide +kernel
theorem d_Str_offOf_102 : decode i_Str_offOf.2.1 102 = .ok (.iload 5, 2) := by decide +kernel
theorem d_Str_offOf_104 : decode i_Str_offOf.2.1 104 = .ok (.isub, 1) := by decide +kernel
theorem d_Str_offOf_105 : decode i_Str_offOf.2.1 105 = .ok (.imul, 1) := by decide +kernel
theorem d_Str_offOf_106 : decode i_Str_offOf.2.1 106 = .ok (.iload 7, 2) := by decide +kernel
theorem d_Str_offOf_108 : decode i_Str_offOf.2.1 108 = .ok (.aload_n 0, 1) := by decide +kernel
theorem d_Str_offOf_109 : decode i_Str_offOf.2.1 109 = .ok (.getfield 18, 3) := by decide +kernel
theorem d_Str_offOf_112 : decode i_Str_offOf.2.1 112 = .ok (.aload_n 1, 1) := by decide +kernel
theorem d_Str_offOf_113 : decode i_Str_offOf.2.1 113 = .ok (.iload_n 2, 1) := by decide +kernel
theorem d_Str_offOf_114 : decode i_Str_offOf.2.1 114 = .ok (.iload 10, 2) := by decide +kernel
theorem d_Str_offOf_116 : decode i_Str_offOf.2.1 116 = .ok (.iadd, 1) := by decide +kernel
theorem d_Str_offOf_117 : decode i_Str_offOf.2.1 117 = .ok (.invokevirtual 22, 3) := by decide +kernel
theorem d_Str_offOf_120 : decode i_Str_offOf.2.1 120 = .ok (.iload 4, 2) := by decide +kernel
theorem d_Str_offOf_122 : decode i_Str_offOf.2.1 122 = .ok (.isub, 1) := by decide +kernel
theorem d_Str_offOf_123 : decode i_Str_offOf.2.1 123 = .ok (.imul, 1) := by decide +kernel
theorem d_Str_offOf_124 : decode i_Str_offOf.2.1 124 = .ok (.isub, 1) := by decide +kernel
theorem d_Str_offOf_125 : decode i_Str_offOf.2.1 125 = .ok (.invokestatic 29, 3) := by decide +kernel
theorem d_Str_offOf_128 : decode i_Str_offOf.2.1 128 = .ok (.istore 11, 2) := by decide +kernel
theorem d_Str_offOf_130 : decode i_Str_offOf.2.1 130 = .ok (.iconst 2, 1) := by decide +kernel
theorem d_Str_offOf_131 : decode i_Str_offOf.2.1 131 = .ok (.iload 11, 2) := by decide +kernel
theorem d_Str_offOf_133 : decode i_Str_offOf.2.1 133 = .ok (.imul, 1) := by decide +kernel
theorem d_Str_offOf_134 : decode i_Str_offOf.2.1 134 = .ok (.iload 8, 2) := by decide +kernel
theorem d_Str_offOf_136 : decode i_Str_offOf.2.1 136 = .ok (.if_icmp .le 5, 3) := by decide +kernel
theorem d_Str_offOf_139 : decode i_Str_offOf.2.1 139 = .ok (.iconst (-1), 1) := by decide +kernel
theorem d_Str_offOf_140 : decode i_Str_offOf.2.1 140 = .ok (.ireturn, 1) := by decide +kernel
theorem d_Str_offOf_141 : decode i_Str_offOf.2.1 141 = .ok (.iload 9, 2) := by decide +kernel
theorem d_Str_offOf_143 : decode i_Str_offOf.2.1 143 = .ok (.iload 11, 2) := by decide +kernel
theorem d_Str_offOf_145 : decode i_Str_offOf.2.1 145 = .ok (.iload 11, 2) := by decide +kernel
theorem d_Str_offOf_147 : decode i_Str_offOf.2.1 147 = .ok (.imul, 1) := by decide +kernel
theorem d_Str_offOf_148 : decode i_Str_offOf.2.1 148 = .ok (.iadd, 1) := by decide +kernel
theorem d_Str_offOf_149 : decode i_Str_offOf.2.1 149 = .ok (.istore 9, 2) := by decide +kernel
theorem d_Str_offOf_151 : decode i_Str_offOf.2.1 151 = .ok (.iinc 10 1, 3) := by decide +kernel
theorem d_Str_offOf_154 : decode i_Str_offOf.2.1 154 = .ok (.goto (-72), 3) := by decide +kernel
theorem d_Str_offOf_157 : decode i_Str_offOf.2.1 157 = .ok (.iload 9, 2) := by decide +kernel
theorem d_Str_offOf_159 : decode i_Str_offOf.2.1 159 = .ok (.ireturn, 1) := by decide +kernel
theorem d_Str_longestFrom_0 : decode i_Str_longestFrom.2.1 0 = .ok (.aload_n 1, 1) := by decide +kernel
theorem d_Str_longestFrom_1 : decode i_Str_longestFrom.2.1 1 = .ok (.getfield 39, 3) := by decide +kernel
theorem d_Str_longestFrom_4 : decode i_Str_longestFrom.2.1 4 = .ok (.iconst 1, 1) := by decide +kernel
theorem d_Str_longestFrom_5 : decode i_Str_longestFrom.2.1 5 = .ok (.isub, 1) := by decide +kernel
theorem d_Str_longestFrom_6 : decode i_Str_longestFrom.2.1 6 = .ok (.bipush 12, 2) := by decide +kernel
theorem d_Str_longestFrom_8 : decode i_Str_longestFrom.2.1 8 = .ok (.invokestatic 45, 3) := by decide +kernel
theorem d_Str_longestFrom_11 : decode i_Str_longestFrom.2.1 11 = .ok (.istore_n 3, 1) := by decide +kernel
theorem d_Str_longestFrom_12 : decode i_Str_longestFrom.2.1 12 = .ok (.iload_n 3, 1) := by decide +kernel
theorem d_Str_longestFrom_13 : decode i_Str_longestFrom.2.1 13 = .ok (.iconst 1, 1) := by decide +kernel
theorem d_Str_longestFrom_14 : decode i_Str_longestFrom.2.1 14 = .ok (.if_icmp .le 22, 3) := by decide +kernel
theorem d_Str_longestFrom_17 : decode i_Str_longestFrom.2.1 17 = .ok (.aload_n 0, 1) := by decide +kernel
theorem d_Str_longestFrom_18 : decode i_Str_longestFrom.2.1 18 = .ok (.aload_n 1, 1) := by decide +kernel
theorem d_Str_longestFrom_19 : decode i_Str_longestFrom.2.1 19 = .ok (.iload_n 2, 1) := by decide +kernel
theorem d_Str_longestFrom_20 : decode i_Str_longestFrom.2.1 20 = .ok (.iload_n 3, 1) := by decide +kernel
theorem d_Str_longestFrom_21 : decode i_Str_longestFrom.2.1 21 = .ok (.invokevirtual 48, 3) := by decide +kernel
theorem d_Str_longestFrom_24 : decode i_Str_longestFrom.2.1 24 = .ok (.iconst (-1), 1) := by decide +kernel
theorem d_Str_longestFrom_25 : decode i_Str_longestFrom.2.1 25 = .ok (.if_icmp .eq 5, 3) := by decide +kernel
theorem d_Str_longestFrom_28 : decode i_Str_longestFrom.2.1 28 = .ok (.iload_n 3, 1) := by decide +kernel
theorem d_Str_longestFrom_29 : decode i_Str_longestFrom.2.1 29 = .ok (.ireturn, 1) := by decide +kernel
theorem d_Str_longestFrom_30 : decode i_Str_longestFrom.2.1 30 = .ok (.iinc 3 (-1), 3) := by decide +kernel
theorem d_Str_longestFrom_33 : decode i_Str_longestFrom.2.1 33 = .ok (.goto (-21), 3) := by decide +kernel
theorem d_Str_longestFrom_36 : decode i_Str_longestFrom.2.1 36 = .ok (.iconst 1, 1) := by decide +kernel
theorem d_Str_longestFrom_37 : decode i_Str_longestFrom.2.1 37 = .ok (.ireturn, 1) := by decide +kernel
theorem d_Str_measure_0 : decode i_Str_measure.2.1 0 = .ok (.aload_n 1, 1) := by decide +kernel
theorem d_Str_measure_1 : decode i_Str_measure.2.1 1 = .ok (.getfield 52, 3) := by decide +kernel
theorem d_Str_measure_4 : decode i_Str_measure.2.1 4 = .ok (.ifCond .eq 4, 3) := by decide +kernel
theorem d_Str_measure_7 : decode i_Str_measure.2.1 7 = .ok (.return_, 1) := by decide +kernel
theorem d_Str_measure_8 : decode i_Str_measure.2.1 8 = .ok (.aload_n 1, 1) := by decide +kernel
theorem d_Str_measure_9 : decode i_Str_measure.2.1 9 = .ok (.iconst 1, 1) := by decide +kernel
theorem d_Str_measure_10 : decode i_Str_measure.2.1 10 = .ok (.putfield 52, 3) := by decide +kernel
theorem d_Str_measure_13 : decode i_Str_measure.2.1 13 = .ok (.aload_n 1, 1) := by decide +kernel
theorem d_Str_measure_14 : decode i_Str_measure.2.1 14 = .ok (.getfield 39, 3) := by decide +kernel
theorem d_Str_measure_17 : decode i_Str_measure.2.1 17 = .ok (.iconst 1, 1) := by decide +kernel
theorem d_Str_measure_18 : decode i_Str_measure.2.1 18 = .ok (.isub, 1) := by decide +kernel
theorem d_Str_measure_19 : decode i_Str_measure.2.1 19 = .ok (.bipush 12, 2) := by decide +kernel
theorem d_Str_measure_21 : decode i_Str_measure.2.1 21 = .ok (.invokestatic 45, 3) := by decide +kernel
theorem d_Str_measure_24 : decode i_Str_measure.2.1 24 = .ok (.istore_n 2, 1) := by decide +kernel
theorem d_Str_measure_25 : decode i_Str_measure.2.1 25 = .ok (.iconst 0, 1) := by decide +kernel
theorem d_Str_measure_26 : decode i_Str_measure.2.1 26 = .ok (.istore_n 3, 1) := by decide +kernel
theorem d_Str_measure_27 : decode i_Str_measure.2.1 27 = .ok (.iload_n 3, 1) := by decide +kernel
theorem d_Str_measure_28 : decode i_Str_measure.2.1 28 = .ok (.aload_n 1, 1) := by decide +kernel
theorem d_Str_measure_29 : decode i_Str_measure.2.1 29 = .ok (.getfield 39, 3) := by decide +kernel
theorem d_Str_measure_32 : decode i_Str_measure.2.1 32 = .ok (.if_icmp .ge 103, 3) := by decide +kernel
theorem d_Str_measure_35 : decode i_Str_measure.2.1 35 = .ok (.aload_n 1, 1) := by decide +kernel
theorem d_Str_measure_36 : decode i_Str_measure.2.1 36 = .ok (.iload_n 3, 1) := by decide +kernel
theorem d_Str_measure_37 : decode i_Str_measure.2.1 37 = .ok (.invokevirtual 56, 3) := by decide +kernel
theorem d_Str_measure_40 : decode i_Str_measure.2.1 40 = .ok (.istore 4, 2) := by decide +kernel
theorem d_Str_measure_42 : decode i_Str_measure.2.1 42 = .ok (.iload 4, 2) := by decide +kernel
theorem d_Str_measure_44 : decode i_Str_measure.2.1 44 = .ok (.ifCond .lt 11, 3) := by decide +kernel
theorem d_Str_measure_47 : decode i_Str_measure.2.1 47 = .ok (.iload 4, 2) := by decide +kernel
theorem d_Str_measure_49 : decode i_Str_measure.2.1 49 = .ok (.sipush 144, 3) := by decide +kernel
theorem d_Str_measure_52 : decode i_Str_measure.2.1 52 = .ok (.if_icmp .lt 4, 3) := by decide +kernel
theorem d_Str_measure_55 : decode i_Str_measure.2.1 55 = .ok (.return_, 1) := by decide +kernel
theorem d_Str_measure_56 : decode i_Str_measure.2.1 56 = .ok (.aload_n 0, 1) := by decide +kernel
theorem d_Str_measure_57 : decode i_Str_measure.2.1 57 = .ok (.getfield 15, 3) := by decide +kernel
theorem d_Str_measure_60 : decode i_Str_measure.2.1 60 = .ok (.iload 4, 2) := by decide +kernel
theorem d_Str_measure_62 : decode i_Str_measure.2.1 62 = .ok (.iconst 1, 1) := by decide +kernel
theorem d_Str_measure_63 : decode i_Str_measure.2.1 63 = .ok (.iastore, 1) := by decide +kernel
theorem d_Str_measure_64 : decode i_Str_measure.2.1 64 = .ok (.iconst 1, 1) := by decide +kernel
theorem d_Str_measure_65 : decode i_Str_measure.2.1 65 = .ok (.istore 5, 2) := by decide +kernel
theorem d_Str_measure_67 : decode i_Str_measure.2.1 67 = .ok (.iload 5, 2) := by decide +kernel
theorem d_Str_measure_69 : decode i_Str_measure.2.1 69 = .ok (.iload_n 2, 1) := by decide +kernel
theorem d_Str_measure_70 : decode i_Str_measure.2.1 70 = .ok (.if_icmp .gt 59, 3) := by decide +kernel
theorem d_Str_measure_73 : decode i_Str_measure.2.1 73 = .ok (.aload_n 0, 1) := by decide +kernel
theorem d_Str_measure_74 : decode i_Str_measure.2.1 74 = .ok (.aload_n 1, 1) := by decide +kernel
theorem d_Str_measure_75 : decode i_Str_measure.2.1 75 = .ok (.iload_n 3, 1) := by decide +kernel
theorem d_Str_measure_76 : decode i_Str_measure.2.1 76 = .ok (.iload 5, 2) := by decide +kernel
theorem d_Str_measure_78 : decode i_Str_measure.2.1 78 = .ok (.invokevirtual 48, 3) := by decide +kernel
theorem d_Str_measure_81 : decode i_Str_measure.2.1 81 = .ok (.istore 6, 2) := by decide +kernel
theorem d_Str_measure_83 : decode i_Str_measure.2.1 83 = .ok (.aload_n 0, 1) := by decide +kernel
theorem d_Str_measure_84 : decode i_Str_measure.2.1 84 = .ok (.getfield 11, 3) := by decide +kernel
theorem d_Str_measure_87 : decode i_Str_measure.2.1 87 = .ok (.iload 4, 2) := by decide +kernel
theorem d_Str_measure_89 : decode i_Str_measure.2.1 89 = .ok (.bipush 13, 2) := by decide +kernel
theorem d_Str_measure_91 : decode i_Str_measure.2.1 91 = .ok (.imul, 1) := by decide +kernel
theorem d_Str_measure_92 : decode i_Str_measure.2.1 92 = .ok (.iload 5, 2) := by decide +kernel
theorem d_Str_measure_94 : decode i_Str_measure.2.1 94 = .ok (.iadd, 1) := by decide +kernel
theorem d_Str_measure_95 : decode i_Str_measure.2.1 95 = .ok (.iload 6, 2) := by decide +kernel
theorem d_Str_measure_97 : decode i_Str_measure.2.1 97 = .ok (.iastore, 1) := by decide +kernel
theorem d_Str_measure_98 : decode i_Str_measure.2.1 98 = .ok (.aload_n 0, 1) := by decide +kernel
theorem d_Str_measure_99 : decode i_Str_measure.2.1 99 = .ok (.getfield 15, 3) := by decide +kernel
theorem d_Str_measure_102 : decode i_Str_measure.2.1 102 = .ok (.iload 4, 2) := by decide +kernel
theorem d_Str_measure_104 : decode i_Str_measure.2.1 104 = .ok (.iload 6, 2) := by decide +kernel
theorem d_Str_measure_106 : decode i_Str_measure.2.1 106 = .ok (.iconst (-1), 1) := by decide +kernel
theorem d_Str_measure_107 : decode i_Str_measure.2.1 107 = .ok (.if_icmp .ne 13, 3) := by decide +kernel
theorem d_Str_measure_110 : decode i_Str_measure.2.1 110 = .ok (.aload_n 0, 1) := by decide +kernel
theorem d_Str_measure_111 : decode i_Str_measure.2.1 111 = .ok (.getfield 15, 3) := by decide +kernel
theorem d_Str_measure_114 : decode i_Str_measure.2.1 114 = .ok (.iload 4, 2) := by decide +kernel
theorem d_Str_measure_116 : decode i_Str_measure.2.1 116 = .ok (.iaload, 1) := by decide +kernel
theorem d_Str_measure_117 : decode i_Str_measure.2.1 117 = .ok (.goto 5, 3) := by decide +kernel
theorem d_Str_measure_120 : decode i_Str_measure.2.1 120 = .ok (.iload 5, 2) := by decide +kernel
theorem d_Str_measure_122 : decode i_Str_measure.2.1 122 = .ok (.iastore, 1) := by decide +kernel
theorem d_Str_measure_123 : decode i_Str_measure.2.1 123 = .ok (.iinc 5 1, 3) := by decide +kernel
theorem d_Str_measure_126 : decode i_Str_measure.2.1 126 = .ok (.goto (-59), 3) := by decide +kernel
theorem d_Str_measure_129 : decode i_Str_measure.2.1 129 = .ok (.iinc 3 1, 3) := by decide +kernel
theorem d_Str_measure_132 : decode i_Str_measure.2.1 132 = .ok (.goto (-105), 3) := by decide +kernel
theorem d_Str_measure_135 : decode i_Str_measure.2.1 135 = .ok (.return_, 1) := by decide +kernel
theorem d_Str_reachAt_0 : decode i_Str_reachAt.2.1 0 = .ok (.iload_n 1, 1) := by decide +kernel
theorem d_Str_reachAt_1 : decode i_Str_reachAt.2.1 1 = .ok (.ifCond .lt 19, 3) := by decide +kernel
theorem d_Str_reachAt_4 : decode i_Str_reachAt.2.1 4 = .ok (.iload_n 1, 1) := by decide +kernel
theorem d_Str_reachAt_5 : decode i_Str_reachAt.2.1 5 = .ok (.sipush 144, 3) := by decide +kernel
theorem d_Str_reachAt_8 : decode i_Str_reachAt.2.1 8 = .ok (.if_icmp .ge 12, 3) := by decide +kernel
theorem d_Str_reachAt_11 : decode i_Str_reachAt.2.1 11 = .ok (.aload_n 0, 1) := by decide +kernel
theorem d_Str_reachAt_12 : decode i_Str_reachAt.2.1 12 = .ok (.getfield 15, 3) := by decide +kernel
theorem d_Str_reachAt_15 : decode i_Str_reachAt.2.1 15 = .ok (.iload_n 1, 1) := by decide +kernel
theorem d_Str_reachAt_16 : decode i_Str_reachAt.2.1 16 = .ok (.iaload, 1) := by decide +kernel
theorem d_Str_reachAt_17 : decode i_Str_reachAt.2.1 17 = .ok (.goto 4, 3) := by decide +kernel
theorem d_Str_reachAt_20 : decode i_Str_reachAt.2.1 20 = .ok (.iconst 0, 1) := by decide +kernel
theorem d_Str_reachAt_21 : decode i_Str_reachAt.2.1 21 = .ok (.ireturn, 1) := by decide +kernel
theorem d_Str_offAt_0 : decode i_Str_offAt.2.1 0 = .ok (.iload_n 1, 1) := by decide +kernel
theorem d_Str_offAt_1 : decode i_Str_offAt.2.1 1 = .ok (.ifCond .lt 21, 3) := by decide +kernel
theorem d_Str_offAt_4 : decode i_Str_offAt.2.1 4 = .ok (.iload_n 1, 1) := by decide +kernel
theorem d_Str_offAt_5 : decode i_Str_offAt.2.1 5 = .ok (.sipush 144, 3) := by decide +kernel
theorem d_Str_offAt_8 : decode i_Str_offAt.2.1 8 = .ok (.if_icmp .ge 14, 3) := by decide +kernel
theorem d_Str_offAt_11 : decode i_Str_offAt.2.1 11 = .ok (.iload_n 2, 1) := by decide +kernel
theorem d_Str_offAt_12 : decode i_Str_offAt.2.1 12 = .ok (.iconst 1, 1) := by decide +kernel
theorem d_Str_offAt_13 : decode i_Str_offAt.2.1 13 = .ok (.if_icmp .lt 9, 3) := by decide +kernel
theorem d_Str_offAt_16 : decode i_Str_offAt.2.1 16 = .ok (.iload_n 2, 1) := by decide +kernel
theorem d_Str_offAt_17 : decode i_Str_offAt.2.1 17 = .ok (.bipush 12, 2) := by decide +kernel
theorem d_Str_offAt_19 : decode i_Str_offAt.2.1 19 = .ok (.if_icmp .le 5, 3) := by decide +kernel
theorem d_Str_offAt_22 : decode i_Str_offAt.2.1 22 = .ok (.iconst (-1), 1) := by decide +kernel
theorem d_Str_offAt_23 : decode i_Str_offAt.2.1 23 = .ok (.ireturn, 1) := by decide +kernel
theorem d_Str_offAt_24 : decode i_Str_offAt.2.1 24 = .ok (.aload_n 0, 1) := by decide +kernel
theorem d_Str_offAt_25 : decode i_Str_offAt.2.1 25 = .ok (.getfield 11, 3) := by decide +kernel
theorem d_Str_offAt_28 : decode i_Str_offAt.2.1 28 = .ok (.iload_n 1, 1) := by decide +kernel
theorem d_Str_offAt_29 : decode i_Str_offAt.2.1 29 = .ok (.bipush 13, 2) := by decide +kernel
theorem d_Str_offAt_31 : decode i_Str_offAt.2.1 31 = .ok (.imul, 1) := by decide +kernel
theorem d_Str_offAt_32 : decode i_Str_offAt.2.1 32 = .ok (.iload_n 2, 1) := by decide +kernel
theorem d_Str_offAt_33 : decode i_Str_offAt.2.1 33 = .ok (.iadd, 1) := by decide +kernel
theorem d_Str_offAt_34 : decode i_Str_offAt.2.1 34 = .ok (.iaload, 1) := by decide +kernel
theorem d_Str_offAt_35 : decode i_Str_offAt.2.1 35 = .ok (.ireturn, 1) := by decide +kernel
theorem d_Tap_init_0 : decode i_Tap_init.2.1 0 = .ok (.aload_n 0, 1) := by decide +kernel
theorem d_Tap_init_1 : decode i_Tap_init.2.1 1 = .ok (.invokespecial 1, 3) := by decide +kernel
theorem d_Tap_init_4 : decode i_Tap_init.2.1 4 = .ok (.aload_n 0, 1) := by decide +kernel
theorem d_Tap_init_5 : decode i_Tap_init.2.1 5 = .ok (.bipush 90, 2) := by decide +kernel
theorem d_Tap_init_7 : decode i_Tap_init.2.1 7 = .ok (.newarray .int, 2) := by decide +kernel
theorem d_Tap_init_9 : decode i_Tap_init.2.1 9 = .ok (.putfield 9, 3) := by decide +kernel
theorem d_Tap_init_12 : decode i_Tap_init.2.1 12 = .ok (.return_, 1) := by decide +kernel
theorem d_Tap_add_0 : decode i_Tap_add.2.1 0 = .ok (.aload_n 0, 1) := by decide +kernel
theorem d_Tap_add_1 : decode i_Tap_add.2.1 1 = .ok (.getfield 13, 3) := by decide +kernel
theorem d_Tap_add_4 : decode i_Tap_add.2.1 4 = .ok (.ifCond .lt 12, 3) := by decide +kernel
theorem d_Tap_add_7 : decode i_Tap_add.2.1 7 = .ok (.aload_n 0, 1) := by decide +kernel
theorem d_Tap_add_8 : decode i_Tap_add.2.1 8 = .ok (.getfield 13, 3) := by decide +kernel
theorem d_Tap_add_11 : decode i_Tap_add.2.1 11 = .ok (.bipush 90, 2) := by decide +kernel
theorem d_Tap_add_13 : decode i_Tap_add.2.1 13 = .ok (.if_icmp .lt 5, 3) := by decide +kernel
theorem d_Tap_add_16 : decode i_Tap_add.2.1 16 = .ok (.iconst 0, 1) := by decide +kernel
theorem d_Tap_add_17 : decode i_Tap_add.2.1 17 = .ok (.ireturn, 1) := by decide +kernel
theorem d_Tap_add_18 : decode i_Tap_add.2.1 18 = .ok (.aload_n 0, 1) := by decide +kernel
theorem d_Tap_add_19 : decode i_Tap_add.2.1 19 = .ok (.getfield 9, 3) := by decide +kernel
theorem d_Tap_add_22 : decode i_Tap_add.2.1 22 = .ok (.aload_n 0, 1) := by decide +kernel
theorem d_Tap_add_23 : decode i_Tap_add.2.1 23 = .ok (.getfield 13, 3) := by decide +kernel
theorem d_Tap_add_26 : decode i_Tap_add.2.1 26 = .ok (.iload_n 1, 1) := by decide +kernel
theorem d_Tap_add_27 : decode i_Tap_add.2.1 27 = .ok (.iastore, 1) := by decide +kernel
theorem d_Tap_add_28 : decode i_Tap_add.2.1 28 = .ok (.aload_n 0, 1) := by decide +kernel
theorem d_Tap_add_29 : decode i_Tap_add.2.1 29 = .ok (.dup, 1) := by decide +kernel
theorem d_Tap_add_30 : decode i_Tap_add.2.1 30 = .ok (.getfield 13, 3) := by decide +kernel
theorem d_Tap_add_33 : decode i_Tap_add.2.1 33 = .ok (.iconst 1, 1) := by decide +kernel
theorem d_Tap_add_34 : decode i_Tap_add.2.1 34 = .ok (.iadd, 1) := by decide +kernel
theorem d_Tap_add_35 : decode i_Tap_add.2.1 35 = .ok (.putfield 13, 3) := by decide +kernel
theorem d_Tap_add_38 : decode i_Tap_add.2.1 38 = .ok (.iconst 1, 1) := by decide +kernel
theorem d_Tap_add_39 : decode i_Tap_add.2.1 39 = .ok (.ireturn, 1) := by decide +kernel
theorem d_Tap_letterAt_0 : decode i_Tap_letterAt.2.1 0 = .ok (.iload_n 1, 1) := by decide +kernel
theorem d_Tap_letterAt_1 : decode i_Tap_letterAt.2.1 1 = .ok (.ifCond .lt 26, 3) := by decide +kernel
theorem d_Tap_letterAt_4 : decode i_Tap_letterAt.2.1 4 = .ok (.iload_n 1, 1) := by decide +kernel
theorem d_Tap_letterAt_5 : decode i_Tap_letterAt.2.1 5 = .ok (.aload_n 0, 1) := by decide +kernel
theorem d_Tap_letterAt_6 : decode i_Tap_letterAt.2.1 6 = .ok (.getfield 13, 3) := by decide +kernel
theorem d_Tap_letterAt_9 : decode i_Tap_letterAt.2.1 9 = .ok (.if_icmp .ge 18, 3) := by decide +kernel
theorem d_Tap_letterAt_12 : decode i_Tap_letterAt.2.1 12 = .ok (.iload_n 1, 1) := by decide +kernel
theorem d_Tap_letterAt_13 : decode i_Tap_letterAt.2.1 13 = .ok (.bipush 90, 2) := by decide +kernel
theorem d_Tap_letterAt_15 : decode i_Tap_letterAt.2.1 15 = .ok (.if_icmp .ge 12, 3) := by decide +kernel
theorem d_Tap_letterAt_18 : decode i_Tap_letterAt.2.1 18 = .ok (.aload_n 0, 1) := by decide +kernel
theorem d_Tap_letterAt_19 : decode i_Tap_letterAt.2.1 19 = .ok (.getfield 9, 3) := by decide +kernel
theorem d_Tap_letterAt_22 : decode i_Tap_letterAt.2.1 22 = .ok (.iload_n 1, 1) := by decide +kernel
theorem d_Tap_letterAt_23 : decode i_Tap_letterAt.2.1 23 = .ok (.iaload, 1) := by decide +kernel
theorem d_Tap_letterAt_24 : decode i_Tap_letterAt.2.1 24 = .ok (.goto 4, 3) := by decide +kernel
theorem d_Tap_letterAt_27 : decode i_Tap_letterAt.2.1 27 = .ok (.iconst (-1), 1) := by decide +kernel
theorem d_Tap_letterAt_28 : decode i_Tap_letterAt.2.1 28 = .ok (.ireturn, 1) := by decide +kernel
theorem d_Dot_init_0 : decode i_Dot_init.2.1 0 = .ok (.aload_n 0, 1) := by decide +kernel
theorem d_Dot_init_1 : decode i_Dot_init.2.1 1 = .ok (.invokespecial 1, 3) := by decide +kernel
theorem d_Dot_init_4 : decode i_Dot_init.2.1 4 = .ok (.aload_n 0, 1) := by decide +kernel
theorem d_Dot_init_5 : decode i_Dot_init.2.1 5 = .ok (.new 7, 3) := by decide +kernel
theorem d_Dot_init_8 : decode i_Dot_init.2.1 8 = .ok (.dup, 1) := by decide +kernel
theorem d_Dot_init_9 : decode i_Dot_init.2.1 9 = .ok (.invokespecial 9, 3) := by decide +kernel
theorem d_Dot_init_12 : decode i_Dot_init.2.1 12 = .ok (.putfield 10, 3) := by decide +kernel
theorem d_Dot_init_15 : decode i_Dot_init.2.1 15 = .ok (.aload_n 0, 1) := by decide +kernel
theorem d_Dot_init_16 : decode i_Dot_init.2.1 16 = .ok (.new 16, 3) := by decide +kernel
theorem d_Dot_init_19 : decode i_Dot_init.2.1 19 = .ok (.dup, 1) := by decide +kernel
theorem d_Dot_init_20 : decode i_Dot_init.2.1 20 = .ok (.invokespecial 18, 3) := by decide +kernel
theorem d_Dot_init_23 : decode i_Dot_init.2.1 23 = .ok (.putfield 19, 3) := by decide +kernel
theorem d_Dot_init_26 : decode i_Dot_init.2.1 26 = .ok (.aload_n 0, 1) := by decide +kernel
theorem d_Dot_init_27 : decode i_Dot_init.2.1 27 = .ok (.new 23, 3) := by decide +kernel
theorem d_Dot_init_30 : decode i_Dot_init.2.1 30 = .ok (.dup, 1) := by decide +kernel
theorem d_Dot_init_31 : decode i_Dot_init.2.1 31 = .ok (.invokespecial 25, 3) := by decide +kernel
theorem d_Dot_init_34 : decode i_Dot_init.2.1 34 = .ok (.putfield 26, 3) := by decide +kernel
theorem d_Dot_init_37 : decode i_Dot_init.2.1 37 = .ok (.aload_n 0, 1) := by decide +kernel
theorem d_Dot_init_38 : decode i_Dot_init.2.1 38 = .ok (.new 23, 3) := by decide +kernel
theorem d_Dot_init_41 : decode i_Dot_init.2.1 41 = .ok (.dup, 1) := by decide +kernel
theorem d_Dot_init_42 : decode i_Dot_init.2.1 42 = .ok (.invokespecial 25, 3) := by decide +kernel
theorem d_Dot_init_45 : decode i_Dot_init.2.1 45 = .ok (.putfield 30, 3) := by decide +kernel
theorem d_Dot_init_48 : decode i_Dot_init.2.1 48 = .ok (.aload_n 0, 1) := by decide +kernel
theorem d_Dot_init_49 : decode i_Dot_init.2.1 49 = .ok (.new 23, 3) := by decide +kernel
theorem d_Dot_init_52 : decode i_Dot_init.2.1 52 = .ok (.dup, 1) := by decide +kernel
theorem d_Dot_init_53 : decode i_Dot_init.2.1 53 = .ok (.invokespecial 25, 3) := by decide +kernel
theorem d_Dot_init_56 : decode i_Dot_init.2.1 56 = .ok (.putfield 33, 3) := by decide +kernel
theorem d_Dot_init_59 : decode i_Dot_init.2.1 59 = .ok (.aload_n 0, 1) := by decide +kernel
theorem d_Dot_init_60 : decode i_Dot_init.2.1 60 = .ok (.new 36, 3) := by decide +kernel
theorem d_Dot_init_63 : decode i_Dot_init.2.1 63 = .ok (.dup, 1) := by decide +kernel
theorem d_Dot_init_64 : decode i_Dot_init.2.1 64 = .ok (.invokespecial 38, 3) := by decide +kernel
theorem d_Dot_init_67 : decode i_Dot_init.2.1 67 = .ok (.putfield 39, 3) := by decide +kernel
theorem d_Dot_init_70 : decode i_Dot_init.2.1 70 = .ok (.new 43, 3) := by decide +kernel
theorem d_Dot_init_73 : decode i_Dot_init.2.1 73 = .ok (.dup, 1) := by decide +kernel
theorem d_Dot_init_74 : decode i_Dot_init.2.1 74 = .ok (.invokespecial 45, 3) := by decide +kernel
theorem d_Dot_init_77 : decode i_Dot_init.2.1 77 = .ok (.astore_n 1, 1) := by decide +kernel
theorem d_Dot_init_78 : decode i_Dot_init.2.1 78 = .ok (.new 46, 3) := by decide +kernel
theorem d_Dot_init_81 : decode i_Dot_init.2.1 81 = .ok (.dup, 1) := by decide +kernel
theorem d_Dot_init_82 : decode i_Dot_init.2.1 82 = .ok (.aload_n 1, 1) := by decide +kernel
theorem d_Dot_init_83 : decode i_Dot_init.2.1 83 = .ok (.invokespecial 48, 3) := by decide +kernel
theorem d_Dot_init_86 : decode i_Dot_init.2.1 86 = .ok (.astore_n 2, 1) := by decide +kernel
theorem d_Dot_init_87 : decode i_Dot_init.2.1 87 = .ok (.new 51, 3) := by decide +kernel
theorem d_Dot_init_90 : decode i_Dot_init.2.1 90 = .ok (.dup, 1) := by decide +kernel
theorem d_Dot_init_91 : decode i_Dot_init.2.1 91 = .ok (.aload_n 1, 1) := by decide +kernel
theorem d_Dot_init_92 : decode i_Dot_init.2.1 92 = .ok (.aload_n 2, 1) := by decide +kernel
theorem d_Dot_init_93 : decode i_Dot_init.2.1 93 = .ok (.invokespecial 53, 3) := by decide +kernel
theorem d_Dot_init_96 : decode i_Dot_init.2.1 96 = .ok (.astore_n 3, 1) := by decide +kernel
theorem d_Dot_init_97 : decode i_Dot_init.2.1 97 = .ok (.aload_n 0, 1) := by decide +kernel
theorem d_Dot_init_98 : decode i_Dot_init.2.1 98 = .ok (.aload_n 1, 1) := by decide +kernel
theorem d_Dot_init_99 : decode i_Dot_init.2.1 99 = .ok (.putfield 56, 3) := by decide +kernel
theorem d_Dot_init_102 : decode i_Dot_init.2.1 102 = .ok (.aload_n 0, 1) := by decide +kernel
theorem d_Dot_init_103 : decode i_Dot_init.2.1 103 = .ok (.aload_n 2, 1) := by decide +kernel
theorem d_Dot_init_104 : decode i_Dot_init.2.1 104 = .ok (.putfield 60, 3) := by decide +kernel
theorem d_Dot_init_107 : decode i_Dot_init.2.1 107 = .ok (.aload_n 0, 1) := by decide +kernel
theorem d_Dot_init_108 : decode i_Dot_init.2.1 108 = .ok (.aload_n 3, 1) := by decide +kernel
theorem d_Dot_init_109 : decode i_Dot_init.2.1 109 = .ok (.putfield 64, 3) := by decide +kernel
theorem d_Dot_init_112 : decode i_Dot_init.2.1 112 = .ok (.aload_n 0, 1) := by decide +kernel
theorem d_Dot_init_113 : decode i_Dot_init.2.1 113 = .ok (.new 68, 3) := by decide +kernel
theorem d_Dot_init_116 : decode i_Dot_init.2.1 116 = .ok (.dup, 1) := by decide +kernel
theorem d_Dot_init_117 : decode i_Dot_init.2.1 117 = .ok (.aload_n 3, 1) := by decide +kernel
theorem d_Dot_init_118 : decode i_Dot_init.2.1 118 = .ok (.invokespecial 70, 3) := by decide +kernel
theorem d_Dot_init_121 : decode i_Dot_init.2.1 121 = .ok (.putfield 73, 3) := by decide +kernel
theorem d_Dot_init_124 : decode i_Dot_init.2.1 124 = .ok (.return_, 1) := by decide +kernel
theorem d_Dot_feed_0 : decode i_Dot_feed.2.1 0 = .ok (.iload_n 1, 1) := by decide +kernel
theorem d_Dot_feed_1 : decode i_Dot_feed.2.1 1 = .ok (.ifCond .lt 10, 3) := by decide +kernel
theorem d_Dot_feed_4 : decode i_Dot_feed.2.1 4 = .ok (.iload_n 1, 1) := by decide +kernel
theorem d_Dot_feed_5 : decode i_Dot_feed.2.1 5 = .ok (.sipush 255, 3) := by decide +kernel
theorem d_Dot_feed_8 : decode i_Dot_feed.2.1 8 = .ok (.if_icmp .le 6, 3) := by decide +kernel
theorem d_Dot_feed_11 : decode i_Dot_feed.2.1 11 = .ok (.ldc 77, 2) := by decide +kernel
theorem d_Dot_feed_13 : decode i_Dot_feed.2.1 13 = .ok (.ireturn, 1) := by decide +kernel
theorem d_Dot_feed_14 : decode i_Dot_feed.2.1 14 = .ok (.aload_n 0, 1) := by decide +kernel
theorem d_Dot_feed_15 : decode i_Dot_feed.2.1 15 = .ok (.getfield 10, 3) := by decide +kernel
theorem d_Dot_feed_18 : decode i_Dot_feed.2.1 18 = .ok (.iload_n 1, 1) := by decide +kernel
theorem d_Dot_feed_19 : decode i_Dot_feed.2.1 19 = .ok (.invokevirtual 78, 3) := by decide +kernel
theorem d_Dot_feed_22 : decode i_Dot_feed.2.1 22 = .ok (.ifCond .eq 13, 3) := by decide +kernel
theorem d_Dot_feed_25 : decode i_Dot_feed.2.1 25 = .ok (.aload_n 0, 1) := by decide +kernel
theorem d_Dot_feed_26 : decode i_Dot_feed.2.1 26 = .ok (.getfield 10, 3) := by decide +kernel
theorem d_Dot_feed_29 : decode i_Dot_feed.2.1 29 = .ok (.getfield 82, 3) := by decide +kernel
theorem d_Dot_feed_32 : decode i_Dot_feed.2.1 32 = .ok (.goto 5, 3) := by decide +kernel
theorem d_Dot_feed_35 : decode i_Dot_feed.2.1 35 = .ok (.ldc 86, 2) := by decide +kernel
theorem d_Dot_feed_37 : decode i_Dot_feed.2.1 37 = .ok (.ireturn, 1) := by decide +kernel
theorem d_Dot_picture_0 : decode i_Dot_picture.2.1 0 = .ok (.aload_n 0, 1) := by decide +kernel
theorem d_Dot_picture_1 : decode i_Dot_picture.2.1 1 = .ok (.getfield 19, 3) := by decide +kernel
theorem d_Dot_picture_4 : decode i_Dot_picture.2.1 4 = .ok (.aload_n 0, 1) := by decide +kernel
theorem d_Dot_picture_5 : decode i_Dot_picture.2.1 5 = .ok (.getfield 10, 3) := by decide +kernel
theorem d_Dot_picture_8 : decode i_Dot_picture.2.1 8 = .ok (.invokevirtual 87, 3) := by decide +kernel
theorem d_Dot_picture_11 : decode i_Dot_picture.2.1 11 = .ok (.istore_n 1, 1) := by decide +kernel
theorem d_Dot_picture_12 : decode i_Dot_picture.2.1 12 = .ok (.aload_n 0, 1) := by decide +kernel
theorem d_Dot_picture_13 : decode i_Dot_picture.2.1 13 = .ok (.getfield 10, 3) := by decide +kernel
theorem d_Dot_picture_16 : decode i_Dot_picture.2.1 16 = .ok (.iconst 0, 1) := by decide +kernel
theorem d_Dot_picture_17 : decode i_Dot_picture.2.1 17 = .ok (.putfield 82, 3) := by decide +kernel
theorem d_Dot_picture_20 : decode i_Dot_picture.2.1 20 = .ok (.iload_n 1, 1) := by decide +kernel
theorem d_Dot_picture_21 : decode i_Dot_picture.2.1 21 = .ok (.ifCond .eq 19, 3) := by decide +kernel
theorem d_Dot_picture_24 : decode i_Dot_picture.2.1 24 = .ok (.aload_n 0, 1) := by decide +kernel
theorem d_Dot_picture_25 : decode i_Dot_picture.2.1 25 = .ok (.iload_n 1, 1) := by decide +kernel
theorem d_Dot_picture_26 : decode i_Dot_picture.2.1 26 = .ok (.putfield 91, 3) := by decide +kernel
theorem d_Dot_picture_29 : decode i_Dot_picture.2.1 29 = .ok (.ldc 94, 2) := by decide +kernel
theorem d_Dot_picture_31 : decode i_Dot_picture.2.1 31 = .ok (.aload_n 0, 1) := by decide +kernel
theorem d_Dot_picture_32 : decode i_Dot_picture.2.1 32 = .ok (.getfield 19, 3) := by decide +kernel
theorem d_Dot_picture_35 : decode i_Dot_picture.2.1 35 = .ok (.getfield 95, 3) := by decide +kernel
theorem d_Dot_picture_38 : decode i_Dot_picture.2.1 38 = .ok (.isub, 1) := by decide +kernel
theorem d_Dot_picture_39 : decode i_Dot_picture.2.1 39 = .ok (.ireturn, 1) := by decide +kernel
theorem d_Dot_picture_40 : decode i_Dot_picture.2.1 40 = .ok (.aload_n 0, 1) := by decide +kernel
theorem d_Dot_picture_41 : decode i_Dot_picture.2.1 41 = .ok (.getfield 26, 3) := by decide +kernel
theorem d_Dot_picture_44 : decode i_Dot_picture.2.1 44 = .ok (.aload_n 0, 1) := by decide +kernel
theorem d_Dot_picture_45 : decode i_Dot_picture.2.1 45 = .ok (.getfield 19, 3) := by decide +kernel
theorem d_Dot_picture_48 : decode i_Dot_picture.2.1 48 = .ok (.getfield 98, 3) := by decide +kernel
theorem d_Dot_picture_51 : decode i_Dot_picture.2.1 51 = .ok (.putfield 101, 3) := by decide +kernel
theorem d_Dot_picture_54 : decode i_Dot_picture.2.1 54 = .ok (.aload_n 0, 1) := by decide +kernel
theorem d_Dot_picture_55 : decode i_Dot_picture.2.1 55 = .ok (.getfield 26, 3) := by decide +kernel
theorem d_Dot_picture_58 : decode i_Dot_picture.2.1 58 = .ok (.aload_n 0, 1) := by decide +kernel
theorem d_Dot_picture_59 : decode i_Dot_picture.2.1 59 = .ok (.getfield 19, 3) := by decide +kernel
theorem d_Dot_picture_62 : decode i_Dot_picture.2.1 62 = .ok (.getfield 102, 3) := by decide +kernel
theorem d_Dot_picture_65 : decode i_Dot_picture.2.1 65 = .ok (.putfield 105, 3) := by decide +kernel
theorem d_Dot_picture_68 : decode i_Dot_picture.2.1 68 = .ok (.aload_n 0, 1) := by decide +kernel
theorem d_Dot_picture_69 : decode i_Dot_picture.2.1 69 = .ok (.getfield 26, 3) := by decide +kernel
theorem d_Dot_picture_72 : decode i_Dot_picture.2.1 72 = .ok (.aload_n 0, 1) := by decide +kernel
theorem d_Dot_picture_73 : decode i_Dot_picture.2.1 73 = .ok (.getfield 19, 3) := by decide +kernel
theorem d_Dot_picture_76 : decode i_Dot_picture.2.1 76 = .ok (.getfield 106, 3) := by decide +kernel
theorem d_Dot_picture_79 : decode i_Dot_picture.2.1 79 = .ok (.putfield 110, 3) := by decide +kernel
theorem d_Dot_picture_82 : decode i_Dot_picture.2.1 82 = .ok (.aload_n 0, 1) := by decide +kernel
theorem d_Dot_picture_83 : decode i_Dot_picture.2.1 83 = .ok (.getfield 26, 3) := by decide +kernel
theorem d_Dot_picture_86 : decode i_Dot_picture.2.1 86 = .ok (.iconst 0, 1) := by decide +kernel
theorem d_Dot_picture_87 : decode i_Dot_picture.2.1 87 = .ok (.putfield 111, 3) := by decide +kernel
theorem d_Dot_picture_90 : decode i_Dot_picture.2.1 90 = .ok (.aload_n 0, 1) := by decide +kernel
theorem d_Dot_picture_91 : decode i_Dot_picture.2.1 91 = .ok (.getfield 26, 3) := by decide +kernel
theorem d_Dot_picture_94 : decode i_Dot_picture.2.1 94 = .ok (.bipush 8, 2) := by decide +kernel
theorem d_Dot_picture_96 : decode i_Dot_picture.2.1 96 = .ok (.putfield 114, 3) := by decide +kernel
theorem d_Dot_picture_99 : decode i_Dot_picture.2.1 99 = .ok (.aload_n 0, 1) := by decide +kernel
theorem d_Dot_picture_100 : decode i_Dot_picture.2.1 100 = .ok (.getfield 39, 3) := by decide +kernel
theorem d_Dot_picture_103 : decode i_Dot_picture.2.1 103 = .ok (.iconst 0, 1) := by decide +kernel
theorem d_Dot_picture_104 : decode i_Dot_picture.2.1 104 = .ok (.putfield 117, 3) := by decide +kernel
theorem d_Dot_picture_107 : decode i_Dot_picture.2.1 107 = .ok (.aload_n 0, 1) := by decide +kernel
theorem d_Dot_picture_108 : decode i_Dot_picture.2.1 108 = .ok (.getfield 26, 3) := by decide +kernel
theorem d_Dot_picture_111 : decode i_Dot_picture.2.1 111 = .ok (.invokevirtual 120, 3) := by decide +kernel
theorem d_Dot_picture_114 : decode i_Dot_picture.2.1 114 = .ok (.ireturn, 1) := by decide +kernel
theorem d_Dot_fault_0 : decode i_Dot_fault.2.1 0 = .ok (.aload_n 0, 1) := by decide +kernel
theorem d_Dot_fault_1 : decode i_Dot_fault.2.1 1 = .ok (.getfield 91, 3) := by decide +kernel
theorem d_Dot_fault_4 : decode i_Dot_fault.2.1 4 = .ok (.ireturn, 1) := by decide +kernel
theorem d_Dot_undo_0 : decode i_Dot_undo.2.1 0 = .ok (.aload_n 0, 1) := by decide +kernel
theorem d_Dot_undo_1 : decode i_Dot_undo.2.1 1 = .ok (.getfield 39, 3) := by decide +kernel
theorem d_Dot_undo_4 : decode i_Dot_undo.2.1 4 = .ok (.aload_n 0, 1) := by decide +kernel
theorem d_Dot_undo_5 : decode i_Dot_undo.2.1 5 = .ok (.getfield 26, 3) := by decide +kernel
theorem d_Dot_undo_8 : decode i_Dot_undo.2.1 8 = .ok (.invokevirtual 124, 3) := by decide +kernel
theorem d_Dot_undo_11 : decode i_Dot_undo.2.1 11 = .ok (.ifCond .eq 13, 3) := by decide +kernel
theorem d_Dot_undo_14 : decode i_Dot_undo.2.1 14 = .ok (.aload_n 0, 1) := by decide +kernel
theorem d_Dot_undo_15 : decode i_Dot_undo.2.1 15 = .ok (.getfield 39, 3) := by decide +kernel
theorem d_Dot_undo_18 : decode i_Dot_undo.2.1 18 = .ok (.getfield 117, 3) := by decide +kernel
theorem d_Dot_undo_21 : decode i_Dot_undo.2.1 21 = .ok (.goto 5, 3) := by decide +kernel
theorem d_Dot_undo_24 : decode i_Dot_undo.2.1 24 = .ok (.ldc 128, 2) := by decide +kernel
theorem d_Dot_undo_26 : decode i_Dot_undo.2.1 26 = .ok (.ireturn, 1) := by decide +kernel
theorem d_Dot_flip_0 : decode i_Dot_flip.2.1 0 = .ok (.aload_n 0, 1) := by decide +kernel
theorem d_Dot_flip_1 : decode i_Dot_flip.2.1 1 = .ok (.getfield 26, 3) := by decide +kernel
theorem d_Dot_flip_4 : decode i_Dot_flip.2.1 4 = .ok (.iload_n 1, 1) := by decide +kernel
theorem d_Dot_flip_5 : decode i_Dot_flip.2.1 5 = .ok (.iload_n 2, 1) := by decide +kernel
theorem d_Dot_flip_6 : decode i_Dot_flip.2.1 6 = .ok (.invokevirtual 129, 3) := by decide +kernel
theorem d_Dot_flip_9 : decode i_Dot_flip.2.1 9 = .ok (.ifCond .ne 6, 3) := by decide +kernel
theorem d_Dot_flip_12 : decode i_Dot_flip.2.1 12 = .ok (.ldc 77, 2) := by decide +kernel
theorem d_Dot_flip_14 : decode i_Dot_flip.2.1 14 = .ok (.ireturn, 1) := by decide +kernel
theorem d_Dot_flip_15 : decode i_Dot_flip.2.1 15 = .ok (.aload_n 0, 1) := by decide +kernel
theorem d_Dot_flip_16 : decode i_Dot_flip.2.1 16 = .ok (.getfield 39, 3) := by decide +kernel
theorem d_Dot_flip_19 : decode i_Dot_flip.2.1 19 = .ok (.aload_n 0, 1) := by decide +kernel
theorem d_Dot_flip_20 : decode i_Dot_flip.2.1 20 = .ok (.getfield 26, 3) := by decide +kernel
theorem d_Dot_flip_23 : decode i_Dot_flip.2.1 23 = .ok (.invokevirtual 133, 3) := by decide +kernel
theorem d_Dot_flip_26 : decode i_Dot_flip.2.1 26 = .ok (.aload_n 0, 1) := by decide +kernel
theorem d_Dot_flip_27 : decode i_Dot_flip.2.1 27 = .ok (.getfield 26, 3) := by decide +kernel
theorem d_Dot_flip_30 : decode i_Dot_flip.2.1 30 = .ok (.dup, 1) := by decide +kernel
theorem d_Dot_flip_31 : decode i_Dot_flip.2.1 31 = .ok (.getfield 110, 3) := by decide +kernel
theorem d_Dot_flip_34 : decode i_Dot_flip.2.1 34 = .ok (.iload_n 1, 1) := by decide +kernel
theorem d_Dot_flip_35 : decode i_Dot_flip.2.1 35 = .ok (.iload_n 2, 1) := by decide +kernel
theorem d_Dot_flip_36 : decode i_Dot_flip.2.1 36 = .ok (.invokestatic 137, 3) := by decide +kernel
theorem d_Dot_flip_39 : decode i_Dot_flip.2.1 39 = .ok (.lxor, 1) := by decide +kernel
theorem d_Dot_flip_40 : decode i_Dot_flip.2.1 40 = .ok (.putfield 110, 3) := by decide +kernel
theorem d_Dot_flip_43 : decode i_Dot_flip.2.1 43 = .ok (.aload_n 0, 1) := by decide +kernel
theorem d_Dot_flip_44 : decode i_Dot_flip.2.1 44 = .ok (.getfield 26, 3) := by decide +kernel
theorem d_Dot_flip_47 : decode i_Dot_flip.2.1 47 = .ok (.iload_n 1, 1) := by decide +kernel
theorem d_Dot_flip_48 : decode i_Dot_flip.2.1 48 = .ok (.iload_n 2, 1) := by decide +kernel
theorem d_Dot_flip_49 : decode i_Dot_flip.2.1 49 = .ok (.invokevirtual 143, 3) := by decide +kernel
theorem d_Dot_flip_52 : decode i_Dot_flip.2.1 52 = .ok (.ifCond .eq 7, 3) := by decide +kernel
theorem d_Dot_flip_55 : decode i_Dot_flip.2.1 55 = .ok (.iconst 1, 1) := by decide +kernel
theorem d_Dot_flip_56 : decode i_Dot_flip.2.1 56 = .ok (.goto 4, 3) := by decide +kernel
theorem d_Dot_flip_59 : decode i_Dot_flip.2.1 59 = .ok (.iconst 0, 1) := by decide +kernel
end
section
theorem d_Dot_flip_60 : decode i_Dot_flip.2.1 60 = .ok (.ireturn, 1) := by decide +kernel
theorem d_Dot_frame_0 : decode i_Dot_frame.2.1 0 = .ok (.aload_n 0, 1) := by decide +kernel
theorem d_Dot_frame_1 : decode i_Dot_frame.2.1 1 = .ok (.getfield 26, 3) := by decide +kernel
theorem d_Dot_frame_4 : decode i_Dot_frame.2.1 4 = .ok (.iload_n 1, 1) := by decide +kernel
theorem d_Dot_frame_5 : decode i_Dot_frame.2.1 5 = .ok (.iload_n 2, 1) := by decide +kernel
theorem d_Dot_frame_6 : decode i_Dot_frame.2.1 6 = .ok (.invokevirtual 129, 3) := by decide +kernel
theorem d_Dot_frame_9 : decode i_Dot_frame.2.1 9 = .ok (.ifCond .eq 38, 3) := by decide +kernel
theorem d_Dot_frame_12 : decode i_Dot_frame.2.1 12 = .ok (.aload_n 0, 1) := by decide +kernel
theorem d_Dot_frame_13 : decode i_Dot_frame.2.1 13 = .ok (.getfield 26, 3) := by decide +kernel
theorem d_Dot_frame_16 : decode i_Dot_frame.2.1 16 = .ok (.iload_n 3, 1) := by decide +kernel
theorem d_Dot_frame_17 : decode i_Dot_frame.2.1 17 = .ok (.iload 4, 2) := by decide +kernel
theorem d_Dot_frame_19 : decode i_Dot_frame.2.1 19 = .ok (.invokevirtual 129, 3) := by decide +kernel
theorem d_Dot_frame_22 : decode i_Dot_frame.2.1 22 = .ok (.ifCond .eq 25, 3) := by decide +kernel
theorem d_Dot_frame_25 : decode i_Dot_frame.2.1 25 = .ok (.iload_n 3, 1) := by decide +kernel
theorem d_Dot_frame_26 : decode i_Dot_frame.2.1 26 = .ok (.iload_n 1, 1) := by decide +kernel
theorem d_Dot_frame_27 : decode i_Dot_frame.2.1 27 = .ok (.if_icmp .lt 20, 3) := by decide +kernel
theorem d_Dot_frame_30 : decode i_Dot_frame.2.1 30 = .ok (.iload 4, 2) := by decide +kernel
theorem d_Dot_frame_32 : decode i_Dot_frame.2.1 32 = .ok (.iload_n 2, 1) := by decide +kernel
theorem d_Dot_frame_33 : decode i_Dot_frame.2.1 33 = .ok (.if_icmp .lt 14, 3) := by decide +kernel
theorem d_Dot_frame_36 : decode i_Dot_frame.2.1 36 = .ok (.iload 5, 2) := by decide +kernel
theorem d_Dot_frame_38 : decode i_Dot_frame.2.1 38 = .ok (.ifCond .lt 9, 3) := by decide +kernel
theorem d_Dot_frame_41 : decode i_Dot_frame.2.1 41 = .ok (.iload 5, 2) := by decide +kernel
theorem d_Dot_frame_43 : decode i_Dot_frame.2.1 43 = .ok (.iconst 2, 1) := by decide +kernel
theorem d_Dot_frame_44 : decode i_Dot_frame.2.1 44 = .ok (.if_icmp .le 6, 3) := by decide +kernel
theorem d_Dot_frame_47 : decode i_Dot_frame.2.1 47 = .ok (.ldc 77, 2) := by decide +kernel
theorem d_Dot_frame_49 : decode i_Dot_frame.2.1 49 = .ok (.ireturn, 1) := by decide +kernel
theorem d_Dot_frame_50 : decode i_Dot_frame.2.1 50 = .ok (.aload_n 0, 1) := by decide +kernel
theorem d_Dot_frame_51 : decode i_Dot_frame.2.1 51 = .ok (.getfield 39, 3) := by decide +kernel
theorem d_Dot_frame_54 : decode i_Dot_frame.2.1 54 = .ok (.aload_n 0, 1) := by decide +kernel
theorem d_Dot_frame_55 : decode i_Dot_frame.2.1 55 = .ok (.getfield 26, 3) := by decide +kernel
theorem d_Dot_frame_58 : decode i_Dot_frame.2.1 58 = .ok (.invokevirtual 133, 3) := by decide +kernel
theorem d_Dot_frame_61 : decode i_Dot_frame.2.1 61 = .ok (.aload_n 0, 1) := by decide +kernel
theorem d_Dot_frame_62 : decode i_Dot_frame.2.1 62 = .ok (.getfield 26, 3) := by decide +kernel
theorem d_Dot_frame_65 : decode i_Dot_frame.2.1 65 = .ok (.iload_n 1, 1) := by decide +kernel
theorem d_Dot_frame_66 : decode i_Dot_frame.2.1 66 = .ok (.iload_n 2, 1) := by decide +kernel
theorem d_Dot_frame_67 : decode i_Dot_frame.2.1 67 = .ok (.iload_n 3, 1) := by decide +kernel
theorem d_Dot_frame_68 : decode i_Dot_frame.2.1 68 = .ok (.iload 4, 2) := by decide +kernel
theorem d_Dot_frame_70 : decode i_Dot_frame.2.1 70 = .ok (.invokestatic 146, 3) := by decide +kernel
theorem d_Dot_frame_73 : decode i_Dot_frame.2.1 73 = .ok (.iload 5, 2) := by decide +kernel
theorem d_Dot_frame_75 : decode i_Dot_frame.2.1 75 = .ok (.invokevirtual 150, 3) := by decide +kernel
theorem d_Dot_frame_78 : decode i_Dot_frame.2.1 78 = .ok (.aload_n 0, 1) := by decide +kernel
theorem d_Dot_frame_79 : decode i_Dot_frame.2.1 79 = .ok (.getfield 26, 3) := by decide +kernel
theorem d_Dot_frame_82 : decode i_Dot_frame.2.1 82 = .ok (.invokevirtual 120, 3) := by decide +kernel
theorem d_Dot_frame_85 : decode i_Dot_frame.2.1 85 = .ok (.ireturn, 1) := by decide +kernel
theorem d_Dot_joined_0 : decode i_Dot_joined.2.1 0 = .ok (.aload_n 0, 1) := by decide +kernel
theorem d_Dot_joined_1 : decode i_Dot_joined.2.1 1 = .ok (.getfield 26, 3) := by decide +kernel
theorem d_Dot_joined_4 : decode i_Dot_joined.2.1 4 = .ok (.invokevirtual 154, 3) := by decide +kernel
theorem d_Dot_joined_7 : decode i_Dot_joined.2.1 7 = .ok (.ifCond .ne 6, 3) := by decide +kernel
theorem d_Dot_joined_10 : decode i_Dot_joined.2.1 10 = .ok (.ldc 128, 2) := by decide +kernel
theorem d_Dot_joined_12 : decode i_Dot_joined.2.1 12 = .ok (.ireturn, 1) := by decide +kernel
theorem d_Dot_joined_13 : decode i_Dot_joined.2.1 13 = .ok (.iload_n 1, 1) := by decide +kernel
theorem d_Dot_joined_14 : decode i_Dot_joined.2.1 14 = .ok (.ifCond .lt 8, 3) := by decide +kernel
theorem d_Dot_joined_17 : decode i_Dot_joined.2.1 17 = .ok (.iload_n 1, 1) := by decide +kernel
theorem d_Dot_joined_18 : decode i_Dot_joined.2.1 18 = .ok (.iconst 1, 1) := by decide +kernel
theorem d_Dot_joined_19 : decode i_Dot_joined.2.1 19 = .ok (.if_icmp .le 6, 3) := by decide +kernel
theorem d_Dot_joined_22 : decode i_Dot_joined.2.1 22 = .ok (.ldc 77, 2) := by decide +kernel
theorem d_Dot_joined_24 : decode i_Dot_joined.2.1 24 = .ok (.ireturn, 1) := by decide +kernel
theorem d_Dot_joined_25 : decode i_Dot_joined.2.1 25 = .ok (.aload_n 0, 1) := by decide +kernel
theorem d_Dot_joined_26 : decode i_Dot_joined.2.1 26 = .ok (.getfield 39, 3) := by decide +kernel
theorem d_Dot_joined_29 : decode i_Dot_joined.2.1 29 = .ok (.aload_n 0, 1) := by decide +kernel
theorem d_Dot_joined_30 : decode i_Dot_joined.2.1 30 = .ok (.getfield 26, 3) := by decide +kernel
theorem d_Dot_joined_33 : decode i_Dot_joined.2.1 33 = .ok (.invokevirtual 133, 3) := by decide +kernel
theorem d_Dot_joined_36 : decode i_Dot_joined.2.1 36 = .ok (.aload_n 0, 1) := by decide +kernel
theorem d_Dot_joined_37 : decode i_Dot_joined.2.1 37 = .ok (.getfield 26, 3) := by decide +kernel
theorem d_Dot_joined_40 : decode i_Dot_joined.2.1 40 = .ok (.getfield 111, 3) := by decide +kernel
theorem d_Dot_joined_43 : decode i_Dot_joined.2.1 43 = .ok (.istore_n 2, 1) := by decide +kernel
theorem d_Dot_joined_44 : decode i_Dot_joined.2.1 44 = .ok (.aload_n 0, 1) := by decide +kernel
theorem d_Dot_joined_45 : decode i_Dot_joined.2.1 45 = .ok (.getfield 26, 3) := by decide +kernel
theorem d_Dot_joined_48 : decode i_Dot_joined.2.1 48 = .ok (.iload_n 1, 1) := by decide +kernel
theorem d_Dot_joined_49 : decode i_Dot_joined.2.1 49 = .ok (.putfield 111, 3) := by decide +kernel
theorem d_Dot_joined_52 : decode i_Dot_joined.2.1 52 = .ok (.iload_n 2, 1) := by decide +kernel
theorem d_Dot_joined_53 : decode i_Dot_joined.2.1 53 = .ok (.ireturn, 1) := by decide +kernel
theorem d_Dot_sharp_0 : decode i_Dot_sharp.2.1 0 = .ok (.aload_n 0, 1) := by decide +kernel
theorem d_Dot_sharp_1 : decode i_Dot_sharp.2.1 1 = .ok (.getfield 26, 3) := by decide +kernel
theorem d_Dot_sharp_4 : decode i_Dot_sharp.2.1 4 = .ok (.invokevirtual 154, 3) := by decide +kernel
theorem d_Dot_sharp_7 : decode i_Dot_sharp.2.1 7 = .ok (.ifCond .ne 6, 3) := by decide +kernel
theorem d_Dot_sharp_10 : decode i_Dot_sharp.2.1 10 = .ok (.ldc 128, 2) := by decide +kernel
theorem d_Dot_sharp_12 : decode i_Dot_sharp.2.1 12 = .ok (.ireturn, 1) := by decide +kernel
theorem d_Dot_sharp_13 : decode i_Dot_sharp.2.1 13 = .ok (.iload_n 1, 1) := by decide +kernel
theorem d_Dot_sharp_14 : decode i_Dot_sharp.2.1 14 = .ok (.iconst 1, 1) := by decide +kernel
theorem d_Dot_sharp_15 : decode i_Dot_sharp.2.1 15 = .ok (.if_icmp .lt 9, 3) := by decide +kernel
theorem d_Dot_sharp_18 : decode i_Dot_sharp.2.1 18 = .ok (.iload_n 1, 1) := by decide +kernel
theorem d_Dot_sharp_19 : decode i_Dot_sharp.2.1 19 = .ok (.bipush 32, 2) := by decide +kernel
theorem d_Dot_sharp_21 : decode i_Dot_sharp.2.1 21 = .ok (.if_icmp .le 6, 3) := by decide +kernel
theorem d_Dot_sharp_24 : decode i_Dot_sharp.2.1 24 = .ok (.ldc 77, 2) := by decide +kernel
theorem d_Dot_sharp_26 : decode i_Dot_sharp.2.1 26 = .ok (.ireturn, 1) := by decide +kernel
theorem d_Dot_sharp_27 : decode i_Dot_sharp.2.1 27 = .ok (.aload_n 0, 1) := by decide +kernel
theorem d_Dot_sharp_28 : decode i_Dot_sharp.2.1 28 = .ok (.getfield 39, 3) := by decide +kernel
theorem d_Dot_sharp_31 : decode i_Dot_sharp.2.1 31 = .ok (.aload_n 0, 1) := by decide +kernel
theorem d_Dot_sharp_32 : decode i_Dot_sharp.2.1 32 = .ok (.getfield 26, 3) := by decide +kernel
theorem d_Dot_sharp_35 : decode i_Dot_sharp.2.1 35 = .ok (.invokevirtual 133, 3) := by decide +kernel
theorem d_Dot_sharp_38 : decode i_Dot_sharp.2.1 38 = .ok (.aload_n 0, 1) := by decide +kernel
theorem d_Dot_sharp_39 : decode i_Dot_sharp.2.1 39 = .ok (.getfield 26, 3) := by decide +kernel
theorem d_Dot_sharp_42 : decode i_Dot_sharp.2.1 42 = .ok (.getfield 114, 3) := by decide +kernel
theorem d_Dot_sharp_45 : decode i_Dot_sharp.2.1 45 = .ok (.istore_n 2, 1) := by decide +kernel
theorem d_Dot_sharp_46 : decode i_Dot_sharp.2.1 46 = .ok (.aload_n 0, 1) := by decide +kernel
theorem d_Dot_sharp_47 : decode i_Dot_sharp.2.1 47 = .ok (.getfield 26, 3) := by decide +kernel
theorem d_Dot_sharp_50 : decode i_Dot_sharp.2.1 50 = .ok (.iload_n 1, 1) := by decide +kernel
theorem d_Dot_sharp_51 : decode i_Dot_sharp.2.1 51 = .ok (.putfield 114, 3) := by decide +kernel
theorem d_Dot_sharp_54 : decode i_Dot_sharp.2.1 54 = .ok (.iload_n 2, 1) := by decide +kernel
theorem d_Dot_sharp_55 : decode i_Dot_sharp.2.1 55 = .ok (.ireturn, 1) := by decide +kernel
theorem d_Dot_dot_0 : decode i_Dot_dot.2.1 0 = .ok (.aload_n 0, 1) := by decide +kernel
theorem d_Dot_dot_1 : decode i_Dot_dot.2.1 1 = .ok (.getfield 26, 3) := by decide +kernel
theorem d_Dot_dot_4 : decode i_Dot_dot.2.1 4 = .ok (.iload_n 1, 1) := by decide +kernel
theorem d_Dot_dot_5 : decode i_Dot_dot.2.1 5 = .ok (.iload_n 2, 1) := by decide +kernel
theorem d_Dot_dot_6 : decode i_Dot_dot.2.1 6 = .ok (.invokevirtual 129, 3) := by decide +kernel
theorem d_Dot_dot_9 : decode i_Dot_dot.2.1 9 = .ok (.ifCond .ne 6, 3) := by decide +kernel
theorem d_Dot_dot_12 : decode i_Dot_dot.2.1 12 = .ok (.ldc 77, 2) := by decide +kernel
theorem d_Dot_dot_14 : decode i_Dot_dot.2.1 14 = .ok (.ireturn, 1) := by decide +kernel
theorem d_Dot_dot_15 : decode i_Dot_dot.2.1 15 = .ok (.aload_n 0, 1) := by decide +kernel
theorem d_Dot_dot_16 : decode i_Dot_dot.2.1 16 = .ok (.getfield 26, 3) := by decide +kernel
theorem d_Dot_dot_19 : decode i_Dot_dot.2.1 19 = .ok (.iload_n 1, 1) := by decide +kernel
theorem d_Dot_dot_20 : decode i_Dot_dot.2.1 20 = .ok (.iload_n 2, 1) := by decide +kernel
theorem d_Dot_dot_21 : decode i_Dot_dot.2.1 21 = .ok (.invokevirtual 143, 3) := by decide +kernel
theorem d_Dot_dot_24 : decode i_Dot_dot.2.1 24 = .ok (.ifCond .eq 7, 3) := by decide +kernel
theorem d_Dot_dot_27 : decode i_Dot_dot.2.1 27 = .ok (.iconst 1, 1) := by decide +kernel
theorem d_Dot_dot_28 : decode i_Dot_dot.2.1 28 = .ok (.goto 4, 3) := by decide +kernel
theorem d_Dot_dot_31 : decode i_Dot_dot.2.1 31 = .ok (.iconst 0, 1) := by decide +kernel
theorem d_Dot_dot_32 : decode i_Dot_dot.2.1 32 = .ok (.ireturn, 1) := by decide +kernel
theorem d_Dot_borders_0 : decode i_Dot_borders.2.1 0 = .ok (.aload_n 0, 1) := by decide +kernel
theorem d_Dot_borders_1 : decode i_Dot_borders.2.1 1 = .ok (.getfield 26, 3) := by decide +kernel
theorem d_Dot_borders_4 : decode i_Dot_borders.2.1 4 = .ok (.invokevirtual 154, 3) := by decide +kernel
theorem d_Dot_borders_7 : decode i_Dot_borders.2.1 7 = .ok (.ifCond .eq 10, 3) := by decide +kernel
theorem d_Dot_borders_10 : decode i_Dot_borders.2.1 10 = .ok (.aload_n 0, 1) := by decide +kernel
theorem d_Dot_borders_11 : decode i_Dot_borders.2.1 11 = .ok (.invokevirtual 158, 3) := by decide +kernel
theorem d_Dot_borders_14 : decode i_Dot_borders.2.1 14 = .ok (.goto 5, 3) := by decide +kernel
theorem d_Dot_borders_17 : decode i_Dot_borders.2.1 17 = .ok (.ldc 128, 2) := by decide +kernel
theorem d_Dot_borders_19 : decode i_Dot_borders.2.1 19 = .ok (.ireturn, 1) := by decide +kernel
theorem d_Dot_border_0 : decode i_Dot_border.2.1 0 = .ok (.aload_n 0, 1) := by decide +kernel
theorem d_Dot_border_1 : decode i_Dot_border.2.1 1 = .ok (.iload_n 1, 1) := by decide +kernel
theorem d_Dot_border_2 : decode i_Dot_border.2.1 2 = .ok (.invokevirtual 161, 3) := by decide +kernel
theorem d_Dot_border_5 : decode i_Dot_border.2.1 5 = .ok (.astore_n 3, 1) := by decide +kernel
theorem d_Dot_border_6 : decode i_Dot_border.2.1 6 = .ok (.aload_n 3, 1) := by decide +kernel
theorem d_Dot_border_7 : decode i_Dot_border.2.1 7 = .ok (.ifnonnull 6, 3) := by decide +kernel
theorem d_Dot_border_10 : decode i_Dot_border.2.1 10 = .ok (.ldc 77, 2) := by decide +kernel
theorem d_Dot_border_12 : decode i_Dot_border.2.1 12 = .ok (.ireturn, 1) := by decide +kernel
theorem d_Dot_border_13 : decode i_Dot_border.2.1 13 = .ok (.iload_n 2, 1) := by decide +kernel
theorem d_Dot_border_14 : decode i_Dot_border.2.1 14 = .ok (.tableswitch 101 0 5 #[38, 43, 68, 76, 84, 92], 38) := by decide +kernel
theorem d_Dot_border_52 : decode i_Dot_border.2.1 52 = .ok (.aload_n 3, 1) := by decide +kernel
theorem d_Dot_border_53 : decode i_Dot_border.2.1 53 = .ok (.getfield 165, 3) := by decide +kernel
theorem d_Dot_border_56 : decode i_Dot_border.2.1 56 = .ok (.ireturn, 1) := by decide +kernel
theorem d_Dot_border_57 : decode i_Dot_border.2.1 57 = .ok (.aload_n 0, 1) := by decide +kernel
theorem d_Dot_border_58 : decode i_Dot_border.2.1 58 = .ok (.getfield 26, 3) := by decide +kernel
theorem d_Dot_border_61 : decode i_Dot_border.2.1 61 = .ok (.getfield 110, 3) := by decide +kernel
theorem d_Dot_border_64 : decode i_Dot_border.2.1 64 = .ok (.aload_n 3, 1) := by decide +kernel
theorem d_Dot_border_65 : decode i_Dot_border.2.1 65 = .ok (.getfield 168, 3) := by decide +kernel
theorem d_Dot_border_68 : decode i_Dot_border.2.1 68 = .ok (.lushr, 1) := by decide +kernel
theorem d_Dot_border_69 : decode i_Dot_border.2.1 69 = .ok (.lconst 1, 1) := by decide +kernel
theorem d_Dot_border_70 : decode i_Dot_border.2.1 70 = .ok (.land, 1) := by decide +kernel
theorem d_Dot_border_71 : decode i_Dot_border.2.1 71 = .ok (.lconst 1, 1) := by decide +kernel
theorem d_Dot_border_72 : decode i_Dot_border.2.1 72 = .ok (.lcmp, 1) := by decide +kernel
theorem d_Dot_border_73 : decode i_Dot_border.2.1 73 = .ok (.ifCond .ne 7, 3) := by decide +kernel
theorem d_Dot_border_76 : decode i_Dot_border.2.1 76 = .ok (.iconst 1, 1) := by decide +kernel
theorem d_Dot_border_77 : decode i_Dot_border.2.1 77 = .ok (.goto 4, 3) := by decide +kernel
theorem d_Dot_border_80 : decode i_Dot_border.2.1 80 = .ok (.iconst 0, 1) := by decide +kernel
theorem d_Dot_border_81 : decode i_Dot_border.2.1 81 = .ok (.ireturn, 1) := by decide +kernel
theorem d_Dot_border_82 : decode i_Dot_border.2.1 82 = .ok (.aload_n 3, 1) := by decide +kernel
theorem d_Dot_border_83 : decode i_Dot_border.2.1 83 = .ok (.getfield 171, 3) := by decide +kernel
theorem d_Dot_border_86 : decode i_Dot_border.2.1 86 = .ok (.invokestatic 174, 3) := by decide +kernel
theorem d_Dot_border_89 : decode i_Dot_border.2.1 89 = .ok (.ireturn, 1) := by decide +kernel
theorem d_Dot_border_90 : decode i_Dot_border.2.1 90 = .ok (.aload_n 3, 1) := by decide +kernel
theorem d_Dot_border_91 : decode i_Dot_border.2.1 91 = .ok (.getfield 168, 3) := by decide +kernel
theorem d_Dot_border_94 : decode i_Dot_border.2.1 94 = .ok (.invokestatic 180, 3) := by decide +kernel
theorem d_Dot_border_97 : decode i_Dot_border.2.1 97 = .ok (.ireturn, 1) := by decide +kernel
theorem d_Dot_border_98 : decode i_Dot_border.2.1 98 = .ok (.aload_n 3, 1) := by decide +kernel
theorem d_Dot_border_99 : decode i_Dot_border.2.1 99 = .ok (.getfield 168, 3) := by decide +kernel
theorem d_Dot_border_102 : decode i_Dot_border.2.1 102 = .ok (.invokestatic 184, 3) := by decide +kernel
theorem d_Dot_border_105 : decode i_Dot_border.2.1 105 = .ok (.ireturn, 1) := by decide +kernel
theorem d_Dot_border_106 : decode i_Dot_border.2.1 106 = .ok (.aload_n 0, 1) := by decide +kernel
theorem d_Dot_border_107 : decode i_Dot_border.2.1 107 = .ok (.getfield 56, 3) := by decide +kernel
theorem d_Dot_border_110 : decode i_Dot_border.2.1 110 = .ok (.aload_n 3, 1) := by decide +kernel
theorem d_Dot_border_111 : decode i_Dot_border.2.1 111 = .ok (.invokevirtual 187, 3) := by decide +kernel
theorem d_Dot_border_114 : decode i_Dot_border.2.1 114 = .ok (.ireturn, 1) := by decide +kernel
theorem d_Dot_border_115 : decode i_Dot_border.2.1 115 = .ok (.ldc 77, 2) := by decide +kernel
theorem d_Dot_border_117 : decode i_Dot_border.2.1 117 = .ok (.ireturn, 1) := by decide +kernel
theorem d_Dot_corner_0 : decode i_Dot_corner.2.1 0 = .ok (.aload_n 0, 1) := by decide +kernel
theorem d_Dot_corner_1 : decode i_Dot_corner.2.1 1 = .ok (.iload_n 1, 1) := by decide +kernel
theorem d_Dot_corner_2 : decode i_Dot_corner.2.1 2 = .ok (.invokevirtual 161, 3) := by decide +kernel
theorem d_Dot_corner_5 : decode i_Dot_corner.2.1 5 = .ok (.astore 4, 2) := by decide +kernel
theorem d_Dot_corner_7 : decode i_Dot_corner.2.1 7 = .ok (.aload 4, 2) := by decide +kernel
theorem d_Dot_corner_9 : decode i_Dot_corner.2.1 9 = .ok (.ifnull 7, 3) := by decide +kernel
theorem d_Dot_corner_12 : decode i_Dot_corner.2.1 12 = .ok (.iload_n 2, 1) := by decide +kernel
theorem d_Dot_corner_13 : decode i_Dot_corner.2.1 13 = .ok (.ifCond .ge 6, 3) := by decide +kernel
theorem d_Dot_corner_16 : decode i_Dot_corner.2.1 16 = .ok (.ldc 77, 2) := by decide +kernel
theorem d_Dot_corner_18 : decode i_Dot_corner.2.1 18 = .ok (.ireturn, 1) := by decide +kernel
theorem d_Dot_corner_19 : decode i_Dot_corner.2.1 19 = .ok (.iload_n 3, 1) := by decide +kernel
theorem d_Dot_corner_20 : decode i_Dot_corner.2.1 20 = .ok (.tableswitch 61 0 2 #[28, 39, 50], 28) := by decide +kernel
theorem d_Dot_corner_48 : decode i_Dot_corner.2.1 48 = .ok (.aload_n 0, 1) := by decide +kernel
theorem d_Dot_corner_49 : decode i_Dot_corner.2.1 49 = .ok (.getfield 56, 3) := by decide +kernel
theorem d_Dot_corner_52 : decode i_Dot_corner.2.1 52 = .ok (.aload 4, 2) := by decide +kernel
theorem d_Dot_corner_54 : decode i_Dot_corner.2.1 54 = .ok (.iload_n 2, 1) := by decide +kernel
theorem d_Dot_corner_55 : decode i_Dot_corner.2.1 55 = .ok (.invokevirtual 191, 3) := by decide +kernel
theorem d_Dot_corner_58 : decode i_Dot_corner.2.1 58 = .ok (.ireturn, 1) := by decide +kernel
theorem d_Dot_corner_59 : decode i_Dot_corner.2.1 59 = .ok (.aload_n 0, 1) := by decide +kernel
theorem d_Dot_corner_60 : decode i_Dot_corner.2.1 60 = .ok (.getfield 56, 3) := by decide +kernel
theorem d_Dot_corner_63 : decode i_Dot_corner.2.1 63 = .ok (.aload 4, 2) := by decide +kernel
theorem d_Dot_corner_65 : decode i_Dot_corner.2.1 65 = .ok (.iload_n 2, 1) := by decide +kernel
theorem d_Dot_corner_66 : decode i_Dot_corner.2.1 66 = .ok (.invokevirtual 195, 3) := by decide +kernel
theorem d_Dot_corner_69 : decode i_Dot_corner.2.1 69 = .ok (.ireturn, 1) := by decide +kernel
theorem d_Dot_corner_70 : decode i_Dot_corner.2.1 70 = .ok (.aload_n 0, 1) := by decide +kernel
theorem d_Dot_corner_71 : decode i_Dot_corner.2.1 71 = .ok (.getfield 56, 3) := by decide +kernel
theorem d_Dot_corner_74 : decode i_Dot_corner.2.1 74 = .ok (.aload 4, 2) := by decide +kernel
theorem d_Dot_corner_76 : decode i_Dot_corner.2.1 76 = .ok (.iload_n 2, 1) := by decide +kernel
theorem d_Dot_corner_77 : decode i_Dot_corner.2.1 77 = .ok (.invokevirtual 198, 3) := by decide +kernel
theorem d_Dot_corner_80 : decode i_Dot_corner.2.1 80 = .ok (.ireturn, 1) := by decide +kernel
theorem d_Dot_corner_81 : decode i_Dot_corner.2.1 81 = .ok (.ldc 77, 2) := by decide +kernel
theorem d_Dot_corner_83 : decode i_Dot_corner.2.1 83 = .ok (.ireturn, 1) := by decide +kernel
theorem d_Dot_inside_0 : decode i_Dot_inside.2.1 0 = .ok (.aload_n 0, 1) := by decide +kernel
theorem d_Dot_inside_1 : decode i_Dot_inside.2.1 1 = .ok (.iload_n 1, 1) := by decide +kernel
theorem d_Dot_inside_2 : decode i_Dot_inside.2.1 2 = .ok (.invokevirtual 161, 3) := by decide +kernel
theorem d_Dot_inside_5 : decode i_Dot_inside.2.1 5 = .ok (.astore 4, 2) := by decide +kernel
theorem d_Dot_inside_7 : decode i_Dot_inside.2.1 7 = .ok (.aload 4, 2) := by decide +kernel
theorem d_Dot_inside_9 : decode i_Dot_inside.2.1 9 = .ok (.ifnull 15, 3) := by decide +kernel
theorem d_Dot_inside_12 : decode i_Dot_inside.2.1 12 = .ok (.aload_n 0, 1) := by decide +kernel
theorem d_Dot_inside_13 : decode i_Dot_inside.2.1 13 = .ok (.getfield 26, 3) := by decide +kernel
theorem d_Dot_inside_16 : decode i_Dot_inside.2.1 16 = .ok (.iload_n 2, 1) := by decide +kernel
theorem d_Dot_inside_17 : decode i_Dot_inside.2.1 17 = .ok (.iload_n 3, 1) := by decide +kernel
theorem d_Dot_inside_18 : decode i_Dot_inside.2.1 18 = .ok (.invokevirtual 129, 3) := by decide +kernel
theorem d_Dot_inside_21 : decode i_Dot_inside.2.1 21 = .ok (.ifCond .ne 6, 3) := by decide +kernel
theorem d_Dot_inside_24 : decode i_Dot_inside.2.1 24 = .ok (.ldc 77, 2) := by decide +kernel
theorem d_Dot_inside_26 : decode i_Dot_inside.2.1 26 = .ok (.ireturn, 1) := by decide +kernel
theorem d_Dot_inside_27 : decode i_Dot_inside.2.1 27 = .ok (.aload 4, 2) := by decide +kernel
theorem d_Dot_inside_29 : decode i_Dot_inside.2.1 29 = .ok (.getfield 171, 3) := by decide +kernel
theorem d_Dot_inside_32 : decode i_Dot_inside.2.1 32 = .ok (.iload_n 2, 1) := by decide +kernel
theorem d_Dot_inside_33 : decode i_Dot_inside.2.1 33 = .ok (.iload_n 3, 1) := by decide +kernel
theorem d_Dot_inside_34 : decode i_Dot_inside.2.1 34 = .ok (.invokestatic 137, 3) := by decide +kernel
theorem d_Dot_inside_37 : decode i_Dot_inside.2.1 37 = .ok (.land, 1) := by decide +kernel
theorem d_Dot_inside_38 : decode i_Dot_inside.2.1 38 = .ok (.lconst 0, 1) := by decide +kernel
theorem d_Dot_inside_39 : decode i_Dot_inside.2.1 39 = .ok (.lcmp, 1) := by decide +kernel
theorem d_Dot_inside_40 : decode i_Dot_inside.2.1 40 = .ok (.ifCond .eq 7, 3) := by decide +kernel
theorem d_Dot_inside_43 : decode i_Dot_inside.2.1 43 = .ok (.iconst 1, 1) := by decide +kernel
theorem d_Dot_inside_44 : decode i_Dot_inside.2.1 44 = .ok (.goto 4, 3) := by decide +kernel
theorem d_Dot_inside_47 : decode i_Dot_inside.2.1 47 = .ok (.iconst 0, 1) := by decide +kernel
theorem d_Dot_inside_48 : decode i_Dot_inside.2.1 48 = .ok (.ireturn, 1) := by decide +kernel
theorem d_Dot_straight_0 : decode i_Dot_straight.2.1 0 = .ok (.aload_n 0, 1) := by decide +kernel
theorem d_Dot_straight_1 : decode i_Dot_straight.2.1 1 = .ok (.iload_n 1, 1) := by decide +kernel
theorem d_Dot_straight_2 : decode i_Dot_straight.2.1 2 = .ok (.invokevirtual 161, 3) := by decide +kernel
theorem d_Dot_straight_5 : decode i_Dot_straight.2.1 5 = .ok (.astore 4, 2) := by decide +kernel
theorem d_Dot_straight_7 : decode i_Dot_straight.2.1 7 = .ok (.aload 4, 2) := by decide +kernel
theorem d_Dot_straight_9 : decode i_Dot_straight.2.1 9 = .ok (.ifnull 13, 3) := by decide +kernel
theorem d_Dot_straight_12 : decode i_Dot_straight.2.1 12 = .ok (.aload 4, 2) := by decide +kernel
theorem d_Dot_straight_14 : decode i_Dot_straight.2.1 14 = .ok (.iload_n 2, 1) := by decide +kernel
theorem d_Dot_straight_15 : decode i_Dot_straight.2.1 15 = .ok (.iload_n 3, 1) := by decide +kernel
theorem d_Dot_straight_16 : decode i_Dot_straight.2.1 16 = .ok (.invokevirtual 201, 3) := by decide +kernel
theorem d_Dot_straight_19 : decode i_Dot_straight.2.1 19 = .ok (.ifCond .ne 6, 3) := by decide +kernel
theorem d_Dot_straight_22 : decode i_Dot_straight.2.1 22 = .ok (.ldc 77, 2) := by decide +kernel
theorem d_Dot_straight_24 : decode i_Dot_straight.2.1 24 = .ok (.ireturn, 1) := by decide +kernel
theorem d_Dot_straight_25 : decode i_Dot_straight.2.1 25 = .ok (.aload_n 0, 1) := by decide +kernel
theorem d_Dot_straight_26 : decode i_Dot_straight.2.1 26 = .ok (.getfield 60, 3) := by decide +kernel
theorem d_Dot_straight_29 : decode i_Dot_straight.2.1 29 = .ok (.aload 4, 2) := by decide +kernel
theorem d_Dot_straight_31 : decode i_Dot_straight.2.1 31 = .ok (.iload_n 2, 1) := by decide +kernel
theorem d_Dot_straight_32 : decode i_Dot_straight.2.1 32 = .ok (.iload_n 3, 1) := by decide +kernel
theorem d_Dot_straight_33 : decode i_Dot_straight.2.1 33 = .ok (.invokevirtual 204, 3) := by decide +kernel
theorem d_Dot_straight_36 : decode i_Dot_straight.2.1 36 = .ok (.iconst (-1), 1) := by decide +kernel
theorem d_Dot_straight_37 : decode i_Dot_straight.2.1 37 = .ok (.if_icmp .ne 7, 3) := by decide +kernel
theorem d_Dot_straight_40 : decode i_Dot_straight.2.1 40 = .ok (.iconst 0, 1) := by decide +kernel
theorem d_Dot_straight_41 : decode i_Dot_straight.2.1 41 = .ok (.goto 4, 3) := by decide +kernel
theorem d_Dot_straight_44 : decode i_Dot_straight.2.1 44 = .ok (.iconst 1, 1) := by decide +kernel
theorem d_Dot_straight_45 : decode i_Dot_straight.2.1 45 = .ok (.ireturn, 1) := by decide +kernel
theorem d_Dot_off_0 : decode i_Dot_off.2.1 0 = .ok (.aload_n 0, 1) := by decide +kernel
theorem d_Dot_off_1 : decode i_Dot_off.2.1 1 = .ok (.iload_n 1, 1) := by decide +kernel
theorem d_Dot_off_2 : decode i_Dot_off.2.1 2 = .ok (.invokevirtual 161, 3) := by decide +kernel
theorem d_Dot_off_5 : decode i_Dot_off.2.1 5 = .ok (.astore 4, 2) := by decide +kernel
theorem d_Dot_off_7 : decode i_Dot_off.2.1 7 = .ok (.aload 4, 2) := by decide +kernel
theorem d_Dot_off_9 : decode i_Dot_off.2.1 9 = .ok (.ifnull 13, 3) := by decide +kernel
theorem d_Dot_off_12 : decode i_Dot_off.2.1 12 = .ok (.aload 4, 2) := by decide +kernel
theorem d_Dot_off_14 : decode i_Dot_off.2.1 14 = .ok (.iload_n 2, 1) := by decide +kernel
theorem d_Dot_off_15 : decode i_Dot_off.2.1 15 = .ok (.iload_n 3, 1) := by decide +kernel
theorem d_Dot_off_16 : decode i_Dot_off.2.1 16 = .ok (.invokevirtual 201, 3) := by decide +kernel
theorem d_Dot_off_19 : decode i_Dot_off.2.1 19 = .ok (.ifCond .ne 6, 3) := by decide +kernel
theorem d_Dot_off_22 : decode i_Dot_off.2.1 22 = .ok (.ldc 77, 2) := by decide +kernel
theorem d_Dot_off_24 : decode i_Dot_off.2.1 24 = .ok (.ireturn, 1) := by decide +kernel
theorem d_Dot_off_25 : decode i_Dot_off.2.1 25 = .ok (.aload_n 0, 1) := by decide +kernel
theorem d_Dot_off_26 : decode i_Dot_off.2.1 26 = .ok (.getfield 60, 3) := by decide +kernel
theorem d_Dot_off_29 : decode i_Dot_off.2.1 29 = .ok (.aload 4, 2) := by decide +kernel
theorem d_Dot_off_31 : decode i_Dot_off.2.1 31 = .ok (.iload_n 2, 1) := by decide +kernel
theorem d_Dot_off_32 : decode i_Dot_off.2.1 32 = .ok (.iload_n 3, 1) := by decide +kernel
theorem d_Dot_off_33 : decode i_Dot_off.2.1 33 = .ok (.invokevirtual 204, 3) := by decide +kernel
theorem d_Dot_off_36 : decode i_Dot_off.2.1 36 = .ok (.istore 5, 2) := by decide +kernel
theorem d_Dot_off_38 : decode i_Dot_off.2.1 38 = .ok (.iload 5, 2) := by decide +kernel
theorem d_Dot_off_40 : decode i_Dot_off.2.1 40 = .ok (.iconst (-1), 1) := by decide +kernel
theorem d_Dot_off_41 : decode i_Dot_off.2.1 41 = .ok (.if_icmp .ne 8, 3) := by decide +kernel
theorem d_Dot_off_44 : decode i_Dot_off.2.1 44 = .ok (.ldc 208, 2) := by decide +kernel
theorem d_Dot_off_46 : decode i_Dot_off.2.1 46 = .ok (.goto 5, 3) := by decide +kernel
theorem d_Dot_off_49 : decode i_Dot_off.2.1 49 = .ok (.iload 5, 2) := by decide +kernel
theorem d_Dot_off_51 : decode i_Dot_off.2.1 51 = .ok (.ireturn, 1) := by decide +kernel
theorem d_Dot_longest_0 : decode i_Dot_longest.2.1 0 = .ok (.aload_n 0, 1) := by decide +kernel
theorem d_Dot_longest_1 : decode i_Dot_longest.2.1 1 = .ok (.iload_n 1, 1) := by decide +kernel
theorem d_Dot_longest_2 : decode i_Dot_longest.2.1 2 = .ok (.invokevirtual 161, 3) := by decide +kernel
theorem d_Dot_longest_5 : decode i_Dot_longest.2.1 5 = .ok (.astore_n 3, 1) := by decide +kernel
theorem d_Dot_longest_6 : decode i_Dot_longest.2.1 6 = .ok (.aload_n 3, 1) := by decide +kernel
theorem d_Dot_longest_7 : decode i_Dot_longest.2.1 7 = .ok (.ifnull 11, 3) := by decide +kernel
theorem d_Dot_longest_10 : decode i_Dot_longest.2.1 10 = .ok (.aload_n 3, 1) := by decide +kernel
theorem d_Dot_longest_11 : decode i_Dot_longest.2.1 11 = .ok (.iload_n 2, 1) := by decide +kernel
theorem d_Dot_longest_12 : decode i_Dot_longest.2.1 12 = .ok (.invokevirtual 209, 3) := by decide +kernel
theorem d_Dot_longest_15 : decode i_Dot_longest.2.1 15 = .ok (.ifCond .ne 6, 3) := by decide +kernel
theorem d_Dot_longest_18 : decode i_Dot_longest.2.1 18 = .ok (.ldc 77, 2) := by decide +kernel
theorem d_Dot_longest_20 : decode i_Dot_longest.2.1 20 = .ok (.ireturn, 1) := by decide +kernel
theorem d_Dot_longest_21 : decode i_Dot_longest.2.1 21 = .ok (.aload_n 0, 1) := by decide +kernel
theorem d_Dot_longest_22 : decode i_Dot_longest.2.1 22 = .ok (.getfield 60, 3) := by decide +kernel
theorem d_Dot_longest_25 : decode i_Dot_longest.2.1 25 = .ok (.aload_n 3, 1) := by decide +kernel
theorem d_Dot_longest_26 : decode i_Dot_longest.2.1 26 = .ok (.iload_n 2, 1) := by decide +kernel
theorem d_Dot_longest_27 : decode i_Dot_longest.2.1 27 = .ok (.invokevirtual 212, 3) := by decide +kernel
theorem d_Dot_longest_30 : decode i_Dot_longest.2.1 30 = .ok (.ireturn, 1) := by decide +kernel
theorem d_Dot_best_0 : decode i_Dot_best.2.1 0 = .ok (.aload_n 0, 1) := by decide +kernel
theorem d_Dot_best_1 : decode i_Dot_best.2.1 1 = .ok (.iload_n 1, 1) := by decide +kernel
theorem d_Dot_best_2 : decode i_Dot_best.2.1 2 = .ok (.invokevirtual 215, 3) := by decide +kernel
theorem d_Dot_best_5 : decode i_Dot_best.2.1 5 = .ok (.astore_n 3, 1) := by decide +kernel
theorem d_Dot_best_6 : decode i_Dot_best.2.1 6 = .ok (.aload_n 3, 1) := by decide +kernel
theorem d_Dot_best_7 : decode i_Dot_best.2.1 7 = .ok (.ifnonnull 6, 3) := by decide +kernel
theorem d_Dot_best_10 : decode i_Dot_best.2.1 10 = .ok (.ldc 77, 2) := by decide +kernel
theorem d_Dot_best_12 : decode i_Dot_best.2.1 12 = .ok (.ireturn, 1) := by decide +kernel
theorem d_Dot_best_13 : decode i_Dot_best.2.1 13 = .ok (.iload_n 2, 1) := by decide +kernel
theorem d_Dot_best_14 : decode i_Dot_best.2.1 14 = .ok (.tableswitch 65 0 3 #[30, 35, 40, 56], 30) := by decide +kernel
theorem d_Dot_best_44 : decode i_Dot_best.2.1 44 = .ok (.aload_n 3, 1) := by decide +kernel
theorem d_Dot_best_45 : decode i_Dot_best.2.1 45 = .ok (.getfield 218, 3) := by decide +kernel
theorem d_Dot_best_48 : decode i_Dot_best.2.1 48 = .ok (.ireturn, 1) := by decide +kernel
theorem d_Dot_best_49 : decode i_Dot_best.2.1 49 = .ok (.aload_n 3, 1) := by decide +kernel
theorem d_Dot_best_50 : decode i_Dot_best.2.1 50 = .ok (.getfield 221, 3) := by decide +kernel
theorem d_Dot_best_53 : decode i_Dot_best.2.1 53 = .ok (.ireturn, 1) := by decide +kernel
theorem d_Dot_best_54 : decode i_Dot_best.2.1 54 = .ok (.aload_n 0, 1) := by decide +kernel
theorem d_Dot_best_55 : decode i_Dot_best.2.1 55 = .ok (.getfield 64, 3) := by decide +kernel
theorem d_Dot_best_58 : decode i_Dot_best.2.1 58 = .ok (.aload_n 3, 1) := by decide +kernel
theorem d_Dot_best_59 : decode i_Dot_best.2.1 59 = .ok (.aload_n 0, 1) := by decide +kernel
theorem d_Dot_best_60 : decode i_Dot_best.2.1 60 = .ok (.getfield 26, 3) := by decide +kernel
theorem d_Dot_best_63 : decode i_Dot_best.2.1 63 = .ok (.getfield 114, 3) := by decide +kernel
theorem d_Dot_best_66 : decode i_Dot_best.2.1 66 = .ok (.invokevirtual 224, 3) := by decide +kernel
theorem d_Dot_best_69 : decode i_Dot_best.2.1 69 = .ok (.ireturn, 1) := by decide +kernel
theorem d_Dot_best_70 : decode i_Dot_best.2.1 70 = .ok (.aload_n 0, 1) := by decide +kernel
theorem d_Dot_best_71 : decode i_Dot_best.2.1 71 = .ok (.getfield 64, 3) := by decide +kernel
theorem d_Dot_best_74 : decode i_Dot_best.2.1 74 = .ok (.aload_n 3, 1) := by decide +kernel
theorem d_Dot_best_75 : decode i_Dot_best.2.1 75 = .ok (.invokevirtual 227, 3) := by decide +kernel
theorem d_Dot_best_78 : decode i_Dot_best.2.1 78 = .ok (.ireturn, 1) := by decide +kernel
theorem d_Dot_best_79 : decode i_Dot_best.2.1 79 = .ok (.ldc 77, 2) := by decide +kernel
theorem d_Dot_best_81 : decode i_Dot_best.2.1 81 = .ok (.ireturn, 1) := by decide +kernel
theorem d_Dot_vertex_0 : decode i_Dot_vertex.2.1 0 = .ok (.aload_n 0, 1) := by decide +kernel
theorem d_Dot_vertex_1 : decode i_Dot_vertex.2.1 1 = .ok (.iload_n 1, 1) := by decide +kernel
theorem d_Dot_vertex_2 : decode i_Dot_vertex.2.1 2 = .ok (.invokevirtual 215, 3) := by decide +kernel
theorem d_Dot_vertex_5 : decode i_Dot_vertex.2.1 5 = .ok (.astore 4, 2) := by decide +kernel
theorem d_Dot_vertex_7 : decode i_Dot_vertex.2.1 7 = .ok (.aload 4, 2) := by decide +kernel
theorem d_Dot_vertex_9 : decode i_Dot_vertex.2.1 9 = .ok (.ifnull 12, 3) := by decide +kernel
theorem d_Dot_vertex_12 : decode i_Dot_vertex.2.1 12 = .ok (.aload 4, 2) := by decide +kernel
theorem d_Dot_vertex_14 : decode i_Dot_vertex.2.1 14 = .ok (.iload_n 2, 1) := by decide +kernel
theorem d_Dot_vertex_15 : decode i_Dot_vertex.2.1 15 = .ok (.invokevirtual 230, 3) := by decide +kernel
theorem d_Dot_vertex_18 : decode i_Dot_vertex.2.1 18 = .ok (.ifCond .ne 6, 3) := by decide +kernel
theorem d_Dot_vertex_21 : decode i_Dot_vertex.2.1 21 = .ok (.ldc 77, 2) := by decide +kernel
theorem d_Dot_vertex_23 : decode i_Dot_vertex.2.1 23 = .ok (.ireturn, 1) := by decide +kernel
theorem d_Dot_vertex_24 : decode i_Dot_vertex.2.1 24 = .ok (.iload_n 3, 1) := by decide +kernel
theorem d_Dot_vertex_25 : decode i_Dot_vertex.2.1 25 = .ok (.tableswitch 81 0 2 #[27, 38, 52], 27) := by decide +kernel
theorem d_Dot_vertex_52 : decode i_Dot_vertex.2.1 52 = .ok (.aload_n 0, 1) := by decide +kernel
theorem d_Dot_vertex_53 : decode i_Dot_vertex.2.1 53 = .ok (.getfield 64, 3) := by decide +kernel
theorem d_Dot_vertex_56 : decode i_Dot_vertex.2.1 56 = .ok (.aload 4, 2) := by decide +kernel
theorem d_Dot_vertex_58 : decode i_Dot_vertex.2.1 58 = .ok (.iload_n 2, 1) := by decide +kernel
theorem d_Dot_vertex_59 : decode i_Dot_vertex.2.1 59 = .ok (.invokevirtual 233, 3) := by decide +kernel
theorem d_Dot_vertex_62 : decode i_Dot_vertex.2.1 62 = .ok (.ireturn, 1) := by decide +kernel
theorem d_Dot_vertex_63 : decode i_Dot_vertex.2.1 63 = .ok (.aload_n 0, 1) := by decide +kernel
theorem d_Dot_vertex_64 : decode i_Dot_vertex.2.1 64 = .ok (.getfield 64, 3) := by decide +kernel
theorem d_Dot_vertex_67 : decode i_Dot_vertex.2.1 67 = .ok (.aload 4, 2) := by decide +kernel
theorem d_Dot_vertex_69 : decode i_Dot_vertex.2.1 69 = .ok (.iload_n 2, 1) := by decide +kernel
theorem d_Dot_vertex_70 : decode i_Dot_vertex.2.1 70 = .ok (.invokevirtual 236, 3) := by decide +kernel
theorem d_Dot_vertex_73 : decode i_Dot_vertex.2.1 73 = .ok (.invokevirtual 240, 3) := by decide +kernel
theorem d_Dot_vertex_76 : decode i_Dot_vertex.2.1 76 = .ok (.ireturn, 1) := by decide +kernel
theorem d_Dot_vertex_77 : decode i_Dot_vertex.2.1 77 = .ok (.aload_n 0, 1) := by decide +kernel
theorem d_Dot_vertex_78 : decode i_Dot_vertex.2.1 78 = .ok (.getfield 64, 3) := by decide +kernel
theorem d_Dot_vertex_81 : decode i_Dot_vertex.2.1 81 = .ok (.aload 4, 2) := by decide +kernel
theorem d_Dot_vertex_83 : decode i_Dot_vertex.2.1 83 = .ok (.iload_n 2, 1) := by decide +kernel
theorem d_Dot_vertex_84 : decode i_Dot_vertex.2.1 84 = .ok (.invokevirtual 236, 3) := by decide +kernel
theorem d_Dot_vertex_87 : decode i_Dot_vertex.2.1 87 = .ok (.aload_n 0, 1) := by decide +kernel
theorem d_Dot_vertex_88 : decode i_Dot_vertex.2.1 88 = .ok (.getfield 26, 3) := by decide +kernel
theorem d_Dot_vertex_91 : decode i_Dot_vertex.2.1 91 = .ok (.getfield 114, 3) := by decide +kernel
theorem d_Dot_vertex_94 : decode i_Dot_vertex.2.1 94 = .ok (.invokevirtual 245, 3) := by decide +kernel
theorem d_Dot_vertex_97 : decode i_Dot_vertex.2.1 97 = .ok (.ifCond .eq 7, 3) := by decide +kernel
theorem d_Dot_vertex_100 : decode i_Dot_vertex.2.1 100 = .ok (.iconst 1, 1) := by decide +kernel
theorem d_Dot_vertex_101 : decode i_Dot_vertex.2.1 101 = .ok (.goto 4, 3) := by decide +kernel
theorem d_Dot_vertex_104 : decode i_Dot_vertex.2.1 104 = .ok (.iconst 0, 1) := by decide +kernel
theorem d_Dot_vertex_105 : decode i_Dot_vertex.2.1 105 = .ok (.ireturn, 1) := by decide +kernel
theorem d_Dot_vertex_106 : decode i_Dot_vertex.2.1 106 = .ok (.ldc 77, 2) := by decide +kernel
theorem d_Dot_vertex_108 : decode i_Dot_vertex.2.1 108 = .ok (.ireturn, 1) := by decide +kernel
theorem d_Dot_past_0 : decode i_Dot_past.2.1 0 = .ok (.aload_n 0, 1) := by decide +kernel
theorem d_Dot_past_1 : decode i_Dot_past.2.1 1 = .ok (.iload_n 1, 1) := by decide +kernel
theorem d_Dot_past_2 : decode i_Dot_past.2.1 2 = .ok (.invokevirtual 161, 3) := by decide +kernel
theorem d_Dot_past_5 : decode i_Dot_past.2.1 5 = .ok (.astore_n 3, 1) := by decide +kernel
theorem d_Dot_past_6 : decode i_Dot_past.2.1 6 = .ok (.aload_n 3, 1) := by decide +kernel
theorem d_Dot_past_7 : decode i_Dot_past.2.1 7 = .ok (.ifnull 11, 3) := by decide +kernel
theorem d_Dot_past_10 : decode i_Dot_past.2.1 10 = .ok (.aload_n 3, 1) := by decide +kernel
theorem d_Dot_past_11 : decode i_Dot_past.2.1 11 = .ok (.iload_n 2, 1) := by decide +kernel
theorem d_Dot_past_12 : decode i_Dot_past.2.1 12 = .ok (.invokevirtual 209, 3) := by decide +kernel
theorem d_Dot_past_15 : decode i_Dot_past.2.1 15 = .ok (.ifCond .ne 6, 3) := by decide +kernel
theorem d_Dot_past_18 : decode i_Dot_past.2.1 18 = .ok (.ldc 77, 2) := by decide +kernel
theorem d_Dot_past_20 : decode i_Dot_past.2.1 20 = .ok (.ireturn, 1) := by decide +kernel
theorem d_Dot_past_21 : decode i_Dot_past.2.1 21 = .ok (.aload_n 0, 1) := by decide +kernel
theorem d_Dot_past_22 : decode i_Dot_past.2.1 22 = .ok (.getfield 64, 3) := by decide +kernel
theorem d_Dot_past_25 : decode i_Dot_past.2.1 25 = .ok (.aload_n 3, 1) := by decide +kernel
theorem d_Dot_past_26 : decode i_Dot_past.2.1 26 = .ok (.iload_n 2, 1) := by decide +kernel
theorem d_Dot_past_27 : decode i_Dot_past.2.1 27 = .ok (.invokevirtual 248, 3) := by decide +kernel
theorem d_Dot_past_30 : decode i_Dot_past.2.1 30 = .ok (.ireturn, 1) := by decide +kernel
theorem d_Dot_point_0 : decode i_Dot_point.2.1 0 = .ok (.aload_n 0, 1) := by decide +kernel
theorem d_Dot_point_1 : decode i_Dot_point.2.1 1 = .ok (.iload_n 1, 1) := by decide +kernel
theorem d_Dot_point_2 : decode i_Dot_point.2.1 2 = .ok (.invokevirtual 215, 3) := by decide +kernel
theorem d_Dot_point_5 : decode i_Dot_point.2.1 5 = .ok (.astore 5, 2) := by decide +kernel
theorem d_Dot_point_7 : decode i_Dot_point.2.1 7 = .ok (.aload 5, 2) := by decide +kernel
theorem d_Dot_point_9 : decode i_Dot_point.2.1 9 = .ok (.ifnull 33, 3) := by decide +kernel
theorem d_Dot_point_12 : decode i_Dot_point.2.1 12 = .ok (.aload 5, 2) := by decide +kernel
theorem d_Dot_point_14 : decode i_Dot_point.2.1 14 = .ok (.iload_n 2, 1) := by decide +kernel
theorem d_Dot_point_15 : decode i_Dot_point.2.1 15 = .ok (.invokevirtual 230, 3) := by decide +kernel
theorem d_Dot_point_18 : decode i_Dot_point.2.1 18 = .ok (.ifCond .eq 24, 3) := by decide +kernel
theorem d_Dot_point_21 : decode i_Dot_point.2.1 21 = .ok (.iload_n 3, 1) := by decide +kernel
theorem d_Dot_point_22 : decode i_Dot_point.2.1 22 = .ok (.iconst 1, 1) := by decide +kernel
theorem d_Dot_point_23 : decode i_Dot_point.2.1 23 = .ok (.if_icmp .lt 19, 3) := by decide +kernel
theorem d_Dot_point_26 : decode i_Dot_point.2.1 26 = .ok (.iload_n 3, 1) := by decide +kernel
theorem d_Dot_point_27 : decode i_Dot_point.2.1 27 = .ok (.iconst 3, 1) := by decide +kernel
theorem d_Dot_point_28 : decode i_Dot_point.2.1 28 = .ok (.if_icmp .gt 14, 3) := by decide +kernel
theorem d_Dot_point_31 : decode i_Dot_point.2.1 31 = .ok (.iload 4, 2) := by decide +kernel
theorem d_Dot_point_33 : decode i_Dot_point.2.1 33 = .ok (.ifCond .lt 9, 3) := by decide +kernel
theorem d_Dot_point_36 : decode i_Dot_point.2.1 36 = .ok (.iload 4, 2) := by decide +kernel
theorem d_Dot_point_38 : decode i_Dot_point.2.1 38 = .ok (.iconst 1, 1) := by decide +kernel
theorem d_Dot_point_39 : decode i_Dot_point.2.1 39 = .ok (.if_icmp .le 6, 3) := by decide +kernel
theorem d_Dot_point_42 : decode i_Dot_point.2.1 42 = .ok (.ldc 77, 2) := by decide +kernel
theorem d_Dot_point_44 : decode i_Dot_point.2.1 44 = .ok (.ireturn, 1) := by decide +kernel
theorem d_Dot_point_45 : decode i_Dot_point.2.1 45 = .ok (.aload_n 0, 1) := by decide +kernel
theorem d_Dot_point_46 : decode i_Dot_point.2.1 46 = .ok (.getfield 64, 3) := by decide +kernel
theorem d_Dot_point_49 : decode i_Dot_point.2.1 49 = .ok (.aload 5, 2) := by decide +kernel
theorem d_Dot_point_51 : decode i_Dot_point.2.1 51 = .ok (.iload_n 2, 1) := by decide +kernel
theorem d_Dot_point_52 : decode i_Dot_point.2.1 52 = .ok (.invokevirtual 236, 3) := by decide +kernel
theorem d_Dot_point_55 : decode i_Dot_point.2.1 55 = .ok (.astore 6, 2) := by decide +kernel
theorem d_Dot_point_57 : decode i_Dot_point.2.1 57 = .ok (.aload 6, 2) := by decide +kernel
theorem d_Dot_point_59 : decode i_Dot_point.2.1 59 = .ok (.aload_n 0, 1) := by decide +kernel
theorem d_Dot_point_60 : decode i_Dot_point.2.1 60 = .ok (.getfield 26, 3) := by decide +kernel
theorem d_Dot_point_63 : decode i_Dot_point.2.1 63 = .ok (.getfield 114, 3) := by decide +kernel
theorem d_Dot_point_66 : decode i_Dot_point.2.1 66 = .ok (.invokevirtual 245, 3) := by decide +kernel
theorem d_Dot_point_69 : decode i_Dot_point.2.1 69 = .ok (.ifCond .eq 6, 3) := by decide +kernel
theorem d_Dot_point_72 : decode i_Dot_point.2.1 72 = .ok (.ldc 208, 2) := by decide +kernel
theorem d_Dot_point_74 : decode i_Dot_point.2.1 74 = .ok (.ireturn, 1) := by decide +kernel
theorem d_Dot_point_75 : decode i_Dot_point.2.1 75 = .ok (.iload 4, 2) := by decide +kernel
theorem d_Dot_point_77 : decode i_Dot_point.2.1 77 = .ok (.ifCond .ne 12, 3) := by decide +kernel
theorem d_Dot_point_80 : decode i_Dot_point.2.1 80 = .ok (.aload 6, 2) := by decide +kernel
theorem d_Dot_point_82 : decode i_Dot_point.2.1 82 = .ok (.iload_n 3, 1) := by decide +kernel
theorem d_Dot_point_83 : decode i_Dot_point.2.1 83 = .ok (.invokevirtual 251, 3) := by decide +kernel
theorem d_Dot_point_86 : decode i_Dot_point.2.1 86 = .ok (.goto 9, 3) := by decide +kernel
theorem d_Dot_point_89 : decode i_Dot_point.2.1 89 = .ok (.aload 6, 2) := by decide +kernel
theorem d_Dot_point_91 : decode i_Dot_point.2.1 91 = .ok (.iload_n 3, 1) := by decide +kernel
theorem d_Dot_point_92 : decode i_Dot_point.2.1 92 = .ok (.invokevirtual 254, 3) := by decide +kernel
theorem d_Dot_point_95 : decode i_Dot_point.2.1 95 = .ok (.ireturn, 1) := by decide +kernel
theorem d_Dot_filled_0 : decode i_Dot_filled.2.1 0 = .ok (.aload_n 0, 1) := by decide +kernel
theorem d_Dot_filled_1 : decode i_Dot_filled.2.1 1 = .ok (.iload_n 1, 1) := by decide +kernel
theorem d_Dot_filled_2 : decode i_Dot_filled.2.1 2 = .ok (.invokevirtual 215, 3) := by decide +kernel
theorem d_Dot_filled_5 : decode i_Dot_filled.2.1 5 = .ok (.astore 5, 2) := by decide +kernel
theorem d_Dot_filled_7 : decode i_Dot_filled.2.1 7 = .ok (.aload 5, 2) := by decide +kernel
theorem d_Dot_filled_9 : decode i_Dot_filled.2.1 9 = .ok (.ifnull 25, 3) := by decide +kernel
theorem d_Dot_filled_12 : decode i_Dot_filled.2.1 12 = .ok (.iload_n 2, 1) := by decide +kernel
theorem d_Dot_filled_13 : decode i_Dot_filled.2.1 13 = .ok (.ifCond .lt 21, 3) := by decide +kernel
theorem d_Dot_filled_16 : decode i_Dot_filled.2.1 16 = .ok (.iload_n 2, 1) := by decide +kernel
theorem d_Dot_filled_17 : decode i_Dot_filled.2.1 17 = .ok (.iconst 1, 1) := by decide +kernel
theorem d_Dot_filled_18 : decode i_Dot_filled.2.1 18 = .ok (.if_icmp .gt 16, 3) := by decide +kernel
theorem d_Dot_filled_21 : decode i_Dot_filled.2.1 21 = .ok (.aload_n 0, 1) := by decide +kernel
theorem d_Dot_filled_22 : decode i_Dot_filled.2.1 22 = .ok (.getfield 26, 3) := by decide +kernel
theorem d_Dot_filled_25 : decode i_Dot_filled.2.1 25 = .ok (.iload_n 3, 1) := by decide +kernel
theorem d_Dot_filled_26 : decode i_Dot_filled.2.1 26 = .ok (.iload 4, 2) := by decide +kernel
theorem d_Dot_filled_28 : decode i_Dot_filled.2.1 28 = .ok (.invokevirtual 129, 3) := by decide +kernel
theorem d_Dot_filled_31 : decode i_Dot_filled.2.1 31 = .ok (.ifCond .ne 6, 3) := by decide +kernel
theorem d_Dot_filled_34 : decode i_Dot_filled.2.1 34 = .ok (.ldc 77, 2) := by decide +kernel
theorem d_Dot_filled_36 : decode i_Dot_filled.2.1 36 = .ok (.ireturn, 1) := by decide +kernel
theorem d_Dot_filled_37 : decode i_Dot_filled.2.1 37 = .ok (.aload_n 0, 1) := by decide +kernel
theorem d_Dot_filled_38 : decode i_Dot_filled.2.1 38 = .ok (.getfield 73, 3) := by decide +kernel
theorem d_Dot_filled_41 : decode i_Dot_filled.2.1 41 = .ok (.aload 5, 2) := by decide +kernel
theorem d_Dot_filled_43 : decode i_Dot_filled.2.1 43 = .ok (.iload_n 2, 1) := by decide +kernel
theorem d_Dot_filled_44 : decode i_Dot_filled.2.1 44 = .ok (.aload_n 0, 1) := by decide +kernel
theorem d_Dot_filled_45 : decode i_Dot_filled.2.1 45 = .ok (.getfield 26, 3) := by decide +kernel
theorem d_Dot_filled_48 : decode i_Dot_filled.2.1 48 = .ok (.getfield 114, 3) := by decide +kernel
theorem d_Dot_filled_51 : decode i_Dot_filled.2.1 51 = .ok (.invokevirtual 257, 3) := by decide +kernel
theorem d_Dot_filled_54 : decode i_Dot_filled.2.1 54 = .ok (.iload_n 3, 1) := by decide +kernel
theorem d_Dot_filled_55 : decode i_Dot_filled.2.1 55 = .ok (.iload 4, 2) := by decide +kernel
theorem d_Dot_filled_57 : decode i_Dot_filled.2.1 57 = .ok (.invokestatic 137, 3) := by decide +kernel
theorem d_Dot_filled_60 : decode i_Dot_filled.2.1 60 = .ok (.land, 1) := by decide +kernel
theorem d_Dot_filled_61 : decode i_Dot_filled.2.1 61 = .ok (.lconst 0, 1) := by decide +kernel
theorem d_Dot_filled_62 : decode i_Dot_filled.2.1 62 = .ok (.lcmp, 1) := by decide +kernel
theorem d_Dot_filled_63 : decode i_Dot_filled.2.1 63 = .ok (.ifCond .eq 7, 3) := by decide +kernel
theorem d_Dot_filled_66 : decode i_Dot_filled.2.1 66 = .ok (.iconst 1, 1) := by decide +kernel
theorem d_Dot_filled_67 : decode i_Dot_filled.2.1 67 = .ok (.goto 4, 3) := by decide +kernel
theorem d_Dot_filled_70 : decode i_Dot_filled.2.1 70 = .ok (.iconst 0, 1) := by decide +kernel
theorem d_Dot_filled_71 : decode i_Dot_filled.2.1 71 = .ok (.ireturn, 1) := by decide +kernel
theorem d_Dot_differ_0 : decode i_Dot_differ.2.1 0 = .ok (.aload_n 0, 1) := by decide +kernel
theorem d_Dot_differ_1 : decode i_Dot_differ.2.1 1 = .ok (.iload_n 1, 1) := by decide +kernel
theorem d_Dot_differ_2 : decode i_Dot_differ.2.1 2 = .ok (.invokevirtual 215, 3) := by decide +kernel
theorem d_Dot_differ_5 : decode i_Dot_differ.2.1 5 = .ok (.astore_n 3, 1) := by decide +kernel
theorem d_Dot_differ_6 : decode i_Dot_differ.2.1 6 = .ok (.aload_n 3, 1) := by decide +kernel
theorem d_Dot_differ_7 : decode i_Dot_differ.2.1 7 = .ok (.ifnull 12, 3) := by decide +kernel
theorem d_Dot_differ_10 : decode i_Dot_differ.2.1 10 = .ok (.iload_n 2, 1) := by decide +kernel
theorem d_Dot_differ_11 : decode i_Dot_differ.2.1 11 = .ok (.ifCond .lt 8, 3) := by decide +kernel
theorem d_Dot_differ_14 : decode i_Dot_differ.2.1 14 = .ok (.iload_n 2, 1) := by decide +kernel
theorem d_Dot_differ_15 : decode i_Dot_differ.2.1 15 = .ok (.iconst 1, 1) := by decide +kernel
theorem d_Dot_differ_16 : decode i_Dot_differ.2.1 16 = .ok (.if_icmp .le 6, 3) := by decide +kernel
theorem d_Dot_differ_19 : decode i_Dot_differ.2.1 19 = .ok (.ldc 77, 2) := by decide +kernel
theorem d_Dot_differ_21 : decode i_Dot_differ.2.1 21 = .ok (.ireturn, 1) := by decide +kernel
theorem d_Dot_differ_22 : decode i_Dot_differ.2.1 22 = .ok (.aload_n 0, 1) := by decide +kernel
theorem d_Dot_differ_23 : decode i_Dot_differ.2.1 23 = .ok (.getfield 73, 3) := by decide +kernel
theorem d_Dot_differ_26 : decode i_Dot_differ.2.1 26 = .ok (.aload_n 3, 1) := by decide +kernel
theorem d_Dot_differ_27 : decode i_Dot_differ.2.1 27 = .ok (.iload_n 2, 1) := by decide +kernel
theorem d_Dot_differ_28 : decode i_Dot_differ.2.1 28 = .ok (.aload_n 0, 1) := by decide +kernel
theorem d_Dot_differ_29 : decode i_Dot_differ.2.1 29 = .ok (.getfield 26, 3) := by decide +kernel
theorem d_Dot_differ_32 : decode i_Dot_differ.2.1 32 = .ok (.getfield 114, 3) := by decide +kernel
theorem d_Dot_differ_35 : decode i_Dot_differ.2.1 35 = .ok (.invokevirtual 257, 3) := by decide +kernel
theorem d_Dot_differ_38 : decode i_Dot_differ.2.1 38 = .ok (.aload_n 3, 1) := by decide +kernel
theorem d_Dot_differ_39 : decode i_Dot_differ.2.1 39 = .ok (.getfield 171, 3) := by decide +kernel
theorem d_Dot_differ_42 : decode i_Dot_differ.2.1 42 = .ok (.lxor, 1) := by decide +kernel
theorem d_Dot_differ_43 : decode i_Dot_differ.2.1 43 = .ok (.invokestatic 174, 3) := by decide +kernel
theorem d_Dot_differ_46 : decode i_Dot_differ.2.1 46 = .ok (.ireturn, 1) := by decide +kernel
theorem d_Dot_wrong_0 : decode i_Dot_wrong.2.1 0 = .ok (.aload_n 0, 1) := by decide +kernel
theorem d_Dot_wrong_1 : decode i_Dot_wrong.2.1 1 = .ok (.getfield 26, 3) := by decide +kernel
theorem d_Dot_wrong_4 : decode i_Dot_wrong.2.1 4 = .ok (.invokevirtual 154, 3) := by decide +kernel
theorem d_Dot_wrong_7 : decode i_Dot_wrong.2.1 7 = .ok (.ifCond .ne 6, 3) := by decide +kernel
theorem d_Dot_wrong_10 : decode i_Dot_wrong.2.1 10 = .ok (.ldc 128, 2) := by decide +kernel
theorem d_Dot_wrong_12 : decode i_Dot_wrong.2.1 12 = .ok (.ireturn, 1) := by decide +kernel
theorem d_Dot_wrong_13 : decode i_Dot_wrong.2.1 13 = .ok (.iload_n 1, 1) := by decide +kernel
theorem d_Dot_wrong_14 : decode i_Dot_wrong.2.1 14 = .ok (.ifCond .lt 8, 3) := by decide +kernel
theorem d_Dot_wrong_17 : decode i_Dot_wrong.2.1 17 = .ok (.iload_n 1, 1) := by decide +kernel
theorem d_Dot_wrong_18 : decode i_Dot_wrong.2.1 18 = .ok (.iconst 1, 1) := by decide +kernel
theorem d_Dot_wrong_19 : decode i_Dot_wrong.2.1 19 = .ok (.if_icmp .le 6, 3) := by decide +kernel
theorem d_Dot_wrong_22 : decode i_Dot_wrong.2.1 22 = .ok (.ldc 77, 2) := by decide +kernel
theorem d_Dot_wrong_24 : decode i_Dot_wrong.2.1 24 = .ok (.ireturn, 1) := by decide +kernel
theorem d_Dot_wrong_25 : decode i_Dot_wrong.2.1 25 = .ok (.aload_n 0, 1) := by decide +kernel
theorem d_Dot_wrong_26 : decode i_Dot_wrong.2.1 26 = .ok (.getfield 26, 3) := by decide +kernel
theorem d_Dot_wrong_29 : decode i_Dot_wrong.2.1 29 = .ok (.getfield 110, 3) := by decide +kernel
theorem d_Dot_wrong_32 : decode i_Dot_wrong.2.1 32 = .ok (.lstore_n 2, 1) := by decide +kernel
theorem d_Dot_wrong_33 : decode i_Dot_wrong.2.1 33 = .ok (.aload_n 0, 1) := by decide +kernel
theorem d_Dot_wrong_34 : decode i_Dot_wrong.2.1 34 = .ok (.invokevirtual 158, 3) := by decide +kernel
theorem d_Dot_wrong_37 : decode i_Dot_wrong.2.1 37 = .ok (.istore 4, 2) := by decide +kernel
theorem d_Dot_wrong_39 : decode i_Dot_wrong.2.1 39 = .ok (.iconst 0, 1) := by decide +kernel
theorem d_Dot_wrong_40 : decode i_Dot_wrong.2.1 40 = .ok (.istore 5, 2) := by decide +kernel
theorem d_Dot_wrong_42 : decode i_Dot_wrong.2.1 42 = .ok (.iload 5, 2) := by decide +kernel
theorem d_Dot_wrong_44 : decode i_Dot_wrong.2.1 44 = .ok (.iload 4, 2) := by decide +kernel
theorem d_Dot_wrong_46 : decode i_Dot_wrong.2.1 46 = .ok (.if_icmp .ge 42, 3) := by decide +kernel
theorem d_Dot_wrong_49 : decode i_Dot_wrong.2.1 49 = .ok (.aload_n 0, 1) := by decide +kernel
theorem d_Dot_wrong_50 : decode i_Dot_wrong.2.1 50 = .ok (.iload 5, 2) := by decide +kernel
theorem d_Dot_wrong_52 : decode i_Dot_wrong.2.1 52 = .ok (.invokevirtual 215, 3) := by decide +kernel
theorem d_Dot_wrong_55 : decode i_Dot_wrong.2.1 55 = .ok (.astore 6, 2) := by decide +kernel
theorem d_Dot_wrong_57 : decode i_Dot_wrong.2.1 57 = .ok (.aload 6, 2) := by decide +kernel
theorem d_Dot_wrong_59 : decode i_Dot_wrong.2.1 59 = .ok (.ifnull 23, 3) := by decide +kernel
theorem d_Dot_wrong_62 : decode i_Dot_wrong.2.1 62 = .ok (.lload_n 2, 1) := by decide +kernel
theorem d_Dot_wrong_63 : decode i_Dot_wrong.2.1 63 = .ok (.aload_n 0, 1) := by decide +kernel
theorem d_Dot_wrong_64 : decode i_Dot_wrong.2.1 64 = .ok (.getfield 73, 3) := by decide +kernel
theorem d_Dot_wrong_67 : decode i_Dot_wrong.2.1 67 = .ok (.aload 6, 2) := by decide +kernel
theorem d_Dot_wrong_69 : decode i_Dot_wrong.2.1 69 = .ok (.iload_n 1, 1) := by decide +kernel
theorem d_Dot_wrong_70 : decode i_Dot_wrong.2.1 70 = .ok (.aload_n 0, 1) := by decide +kernel
theorem d_Dot_wrong_71 : decode i_Dot_wrong.2.1 71 = .ok (.getfield 26, 3) := by decide +kernel
theorem d_Dot_wrong_74 : decode i_Dot_wrong.2.1 74 = .ok (.getfield 114, 3) := by decide +kernel
theorem d_Dot_wrong_77 : decode i_Dot_wrong.2.1 77 = .ok (.invokevirtual 257, 3) := by decide +kernel
theorem d_Dot_wrong_80 : decode i_Dot_wrong.2.1 80 = .ok (.lxor, 1) := by decide +kernel
theorem d_Dot_wrong_81 : decode i_Dot_wrong.2.1 81 = .ok (.lstore_n 2, 1) := by decide +kernel
theorem d_Dot_wrong_82 : decode i_Dot_wrong.2.1 82 = .ok (.iinc 5 1, 3) := by decide +kernel
theorem d_Dot_wrong_85 : decode i_Dot_wrong.2.1 85 = .ok (.goto (-43), 3) := by decide +kernel
theorem d_Dot_wrong_88 : decode i_Dot_wrong.2.1 88 = .ok (.lload_n 2, 1) := by decide +kernel
theorem d_Dot_wrong_89 : decode i_Dot_wrong.2.1 89 = .ok (.invokestatic 174, 3) := by decide +kernel
theorem d_Dot_wrong_92 : decode i_Dot_wrong.2.1 92 = .ok (.ireturn, 1) := by decide +kernel
theorem d_Dot_all_0 : decode i_Dot_all.2.1 0 = .ok (.aload_n 0, 1) := by decide +kernel
theorem d_Dot_all_1 : decode i_Dot_all.2.1 1 = .ok (.getfield 26, 3) := by decide +kernel
theorem d_Dot_all_4 : decode i_Dot_all.2.1 4 = .ok (.invokevirtual 154, 3) := by decide +kernel
theorem d_Dot_all_7 : decode i_Dot_all.2.1 7 = .ok (.ifCond .ne 6, 3) := by decide +kernel
theorem d_Dot_all_10 : decode i_Dot_all.2.1 10 = .ok (.ldc 128, 2) := by decide +kernel
theorem d_Dot_all_12 : decode i_Dot_all.2.1 12 = .ok (.ireturn, 1) := by decide +kernel
theorem d_Dot_all_13 : decode i_Dot_all.2.1 13 = .ok (.iload_n 1, 1) := by decide +kernel
theorem d_Dot_all_14 : decode i_Dot_all.2.1 14 = .ok (.ifCond .lt 8, 3) := by decide +kernel
theorem d_Dot_all_17 : decode i_Dot_all.2.1 17 = .ok (.iload_n 1, 1) := by decide +kernel
theorem d_Dot_all_18 : decode i_Dot_all.2.1 18 = .ok (.iconst 2, 1) := by decide +kernel
theorem d_Dot_all_19 : decode i_Dot_all.2.1 19 = .ok (.if_icmp .le 6, 3) := by decide +kernel
theorem d_Dot_all_22 : decode i_Dot_all.2.1 22 = .ok (.ldc 77, 2) := by decide +kernel
theorem d_Dot_all_24 : decode i_Dot_all.2.1 24 = .ok (.ireturn, 1) := by decide +kernel
theorem d_Dot_all_25 : decode i_Dot_all.2.1 25 = .ok (.iconst 0, 1) := by decide +kernel
theorem d_Dot_all_26 : decode i_Dot_all.2.1 26 = .ok (.istore_n 2, 1) := by decide +kernel
theorem d_Dot_all_27 : decode i_Dot_all.2.1 27 = .ok (.aload_n 0, 1) := by decide +kernel
theorem d_Dot_all_28 : decode i_Dot_all.2.1 28 = .ok (.invokevirtual 158, 3) := by decide +kernel
theorem d_Dot_all_31 : decode i_Dot_all.2.1 31 = .ok (.istore_n 3, 1) := by decide +kernel
theorem d_Dot_all_32 : decode i_Dot_all.2.1 32 = .ok (.iconst 0, 1) := by decide +kernel
theorem d_Dot_all_33 : decode i_Dot_all.2.1 33 = .ok (.istore 4, 2) := by decide +kernel
theorem d_Dot_all_35 : decode i_Dot_all.2.1 35 = .ok (.iload 4, 2) := by decide +kernel
theorem d_Dot_all_37 : decode i_Dot_all.2.1 37 = .ok (.iload_n 3, 1) := by decide +kernel
theorem d_Dot_all_38 : decode i_Dot_all.2.1 38 = .ok (.if_icmp .ge 32, 3) := by decide +kernel
theorem d_Dot_all_41 : decode i_Dot_all.2.1 41 = .ok (.aload_n 0, 1) := by decide +kernel
theorem d_Dot_all_42 : decode i_Dot_all.2.1 42 = .ok (.iload 4, 2) := by decide +kernel
theorem d_Dot_all_44 : decode i_Dot_all.2.1 44 = .ok (.invokevirtual 215, 3) := by decide +kernel
theorem d_Dot_all_47 : decode i_Dot_all.2.1 47 = .ok (.astore 5, 2) := by decide +kernel
theorem d_Dot_all_49 : decode i_Dot_all.2.1 49 = .ok (.aload 5, 2) := by decide +kernel
theorem d_Dot_all_51 : decode i_Dot_all.2.1 51 = .ok (.ifnull 13, 3) := by decide +kernel
theorem d_Dot_all_54 : decode i_Dot_all.2.1 54 = .ok (.iload_n 2, 1) := by decide +kernel
theorem d_Dot_all_55 : decode i_Dot_all.2.1 55 = .ok (.aload_n 0, 1) := by decide +kernel
theorem d_Dot_all_56 : decode i_Dot_all.2.1 56 = .ok (.aload 5, 2) := by decide +kernel
theorem d_Dot_all_58 : decode i_Dot_all.2.1 58 = .ok (.iload_n 1, 1) := by decide +kernel
theorem d_Dot_all_59 : decode i_Dot_all.2.1 59 = .ok (.invokevirtual 261, 3) := by decide +kernel
theorem d_Dot_all_62 : decode i_Dot_all.2.1 62 = .ok (.iadd, 1) := by decide +kernel
theorem d_Dot_all_63 : decode i_Dot_all.2.1 63 = .ok (.istore_n 2, 1) := by decide +kernel
theorem d_Dot_all_64 : decode i_Dot_all.2.1 64 = .ok (.iinc 4 1, 3) := by decide +kernel
theorem d_Dot_all_67 : decode i_Dot_all.2.1 67 = .ok (.goto (-32), 3) := by decide +kernel
theorem d_Dot_all_70 : decode i_Dot_all.2.1 70 = .ok (.iload_n 2, 1) := by decide +kernel
theorem d_Dot_all_71 : decode i_Dot_all.2.1 71 = .ok (.ireturn, 1) := by decide +kernel
theorem d_Dot_image_0 : decode i_Dot_image.2.1 0 = .ok (.aload_n 0, 1) := by decide +kernel
theorem d_Dot_image_1 : decode i_Dot_image.2.1 1 = .ok (.iload_n 1, 1) := by decide +kernel
theorem d_Dot_image_2 : decode i_Dot_image.2.1 2 = .ok (.invokevirtual 264, 3) := by decide +kernel
theorem d_Dot_image_5 : decode i_Dot_image.2.1 5 = .ok (.astore_n 2, 1) := by decide +kernel
theorem d_Dot_image_6 : decode i_Dot_image.2.1 6 = .ok (.aload_n 2, 1) := by decide +kernel
theorem d_Dot_image_7 : decode i_Dot_image.2.1 7 = .ok (.ifnonnull 6, 3) := by decide +kernel
theorem d_Dot_image_10 : decode i_Dot_image.2.1 10 = .ok (.ldc 77, 2) := by decide +kernel
theorem d_Dot_image_12 : decode i_Dot_image.2.1 12 = .ok (.ireturn, 1) := by decide +kernel
theorem d_Dot_image_13 : decode i_Dot_image.2.1 13 = .ok (.aload_n 0, 1) := by decide +kernel
theorem d_Dot_image_14 : decode i_Dot_image.2.1 14 = .ok (.getfield 26, 3) := by decide +kernel
theorem d_Dot_image_17 : decode i_Dot_image.2.1 17 = .ok (.invokevirtual 154, 3) := by decide +kernel
theorem d_Dot_image_20 : decode i_Dot_image.2.1 20 = .ok (.ifCond .ne 6, 3) := by decide +kernel
theorem d_Dot_image_23 : decode i_Dot_image.2.1 23 = .ok (.ldc 128, 2) := by decide +kernel
theorem d_Dot_image_25 : decode i_Dot_image.2.1 25 = .ok (.ireturn, 1) := by decide +kernel
theorem d_Dot_image_26 : decode i_Dot_image.2.1 26 = .ok (.aload_n 2, 1) := by decide +kernel
theorem d_Dot_image_27 : decode i_Dot_image.2.1 27 = .ok (.aload_n 0, 1) := by decide +kernel
theorem d_Dot_image_28 : decode i_Dot_image.2.1 28 = .ok (.getfield 26, 3) := by decide +kernel
theorem d_Dot_image_31 : decode i_Dot_image.2.1 31 = .ok (.invokevirtual 268, 3) := by decide +kernel
theorem d_Dot_image_34 : decode i_Dot_image.2.1 34 = .ok (.iconst 1, 1) := by decide +kernel
theorem d_Dot_image_35 : decode i_Dot_image.2.1 35 = .ok (.ireturn, 1) := by decide +kernel
theorem d_Dot_restore_0 : decode i_Dot_restore.2.1 0 = .ok (.aload_n 0, 1) := by decide +kernel
theorem d_Dot_restore_1 : decode i_Dot_restore.2.1 1 = .ok (.iload_n 1, 1) := by decide +kernel
theorem d_Dot_restore_2 : decode i_Dot_restore.2.1 2 = .ok (.invokevirtual 264, 3) := by decide +kernel
theorem d_Dot_restore_5 : decode i_Dot_restore.2.1 5 = .ok (.astore_n 2, 1) := by decide +kernel
theorem d_Dot_restore_6 : decode i_Dot_restore.2.1 6 = .ok (.aload_n 2, 1) := by decide +kernel
theorem d_Dot_restore_7 : decode i_Dot_restore.2.1 7 = .ok (.ifnonnull 6, 3) := by decide +kernel
theorem d_Dot_restore_10 : decode i_Dot_restore.2.1 10 = .ok (.ldc 77, 2) := by decide +kernel
theorem d_Dot_restore_12 : decode i_Dot_restore.2.1 12 = .ok (.ireturn, 1) := by decide +kernel
theorem d_Dot_restore_13 : decode i_Dot_restore.2.1 13 = .ok (.aload_n 2, 1) := by decide +kernel
theorem d_Dot_restore_14 : decode i_Dot_restore.2.1 14 = .ok (.invokevirtual 154, 3) := by decide +kernel
theorem d_Dot_restore_17 : decode i_Dot_restore.2.1 17 = .ok (.ifCond .ne 6, 3) := by decide +kernel
theorem d_Dot_restore_20 : decode i_Dot_restore.2.1 20 = .ok (.ldc 128, 2) := by decide +kernel
theorem d_Dot_restore_22 : decode i_Dot_restore.2.1 22 = .ok (.ireturn, 1) := by decide +kernel
theorem d_Dot_restore_23 : decode i_Dot_restore.2.1 23 = .ok (.aload_n 0, 1) := by decide +kernel
theorem d_Dot_restore_24 : decode i_Dot_restore.2.1 24 = .ok (.getfield 26, 3) := by decide +kernel
theorem d_Dot_restore_27 : decode i_Dot_restore.2.1 27 = .ok (.aload_n 2, 1) := by decide +kernel
theorem d_Dot_restore_28 : decode i_Dot_restore.2.1 28 = .ok (.invokevirtual 268, 3) := by decide +kernel
theorem d_Dot_restore_31 : decode i_Dot_restore.2.1 31 = .ok (.aload_n 0, 1) := by decide +kernel
theorem d_Dot_restore_32 : decode i_Dot_restore.2.1 32 = .ok (.getfield 39, 3) := by decide +kernel
theorem d_Dot_restore_35 : decode i_Dot_restore.2.1 35 = .ok (.iconst 0, 1) := by decide +kernel
theorem d_Dot_restore_36 : decode i_Dot_restore.2.1 36 = .ok (.putfield 117, 3) := by decide +kernel
theorem d_Dot_restore_39 : decode i_Dot_restore.2.1 39 = .ok (.iconst 1, 1) := by decide +kernel
theorem d_Dot_restore_40 : decode i_Dot_restore.2.1 40 = .ok (.ireturn, 1) := by decide +kernel
theorem d_Dot_count_0 : decode i_Dot_count.2.1 0 = .ok (.iload_n 1, 1) := by decide +kernel
theorem d_Dot_count_1 : decode i_Dot_count.2.1 1 = .ok (.tableswitch 95 0 5 #[39, 55, 63, 71, 79, 87], 39) := by decide +kernel
theorem d_Dot_count_40 : decode i_Dot_count.2.1 40 = .ok (.aload_n 0, 1) := by decide +kernel
theorem d_Dot_count_41 : decode i_Dot_count.2.1 41 = .ok (.getfield 26, 3) := by decide +kernel
theorem d_Dot_count_44 : decode i_Dot_count.2.1 44 = .ok (.getfield 101, 3) := by decide +kernel
theorem d_Dot_count_47 : decode i_Dot_count.2.1 47 = .ok (.aload_n 0, 1) := by decide +kernel
theorem d_Dot_count_48 : decode i_Dot_count.2.1 48 = .ok (.getfield 26, 3) := by decide +kernel
theorem d_Dot_count_51 : decode i_Dot_count.2.1 51 = .ok (.getfield 105, 3) := by decide +kernel
theorem d_Dot_count_54 : decode i_Dot_count.2.1 54 = .ok (.imul, 1) := by decide +kernel
theorem d_Dot_count_55 : decode i_Dot_count.2.1 55 = .ok (.ireturn, 1) := by decide +kernel
theorem d_Dot_count_56 : decode i_Dot_count.2.1 56 = .ok (.aload_n 0, 1) := by decide +kernel
theorem d_Dot_count_57 : decode i_Dot_count.2.1 57 = .ok (.getfield 26, 3) := by decide +kernel
theorem d_Dot_count_60 : decode i_Dot_count.2.1 60 = .ok (.invokevirtual 120, 3) := by decide +kernel
theorem d_Dot_count_63 : decode i_Dot_count.2.1 63 = .ok (.ireturn, 1) := by decide +kernel
theorem d_Dot_count_64 : decode i_Dot_count.2.1 64 = .ok (.aload_n 0, 1) := by decide +kernel
theorem d_Dot_count_65 : decode i_Dot_count.2.1 65 = .ok (.getfield 26, 3) := by decide +kernel
theorem d_Dot_count_68 : decode i_Dot_count.2.1 68 = .ok (.getfield 111, 3) := by decide +kernel
theorem d_Dot_count_71 : decode i_Dot_count.2.1 71 = .ok (.ireturn, 1) := by decide +kernel
theorem d_Dot_count_72 : decode i_Dot_count.2.1 72 = .ok (.aload_n 0, 1) := by decide +kernel
theorem d_Dot_count_73 : decode i_Dot_count.2.1 73 = .ok (.getfield 26, 3) := by decide +kernel
theorem d_Dot_count_76 : decode i_Dot_count.2.1 76 = .ok (.getfield 114, 3) := by decide +kernel
theorem d_Dot_count_79 : decode i_Dot_count.2.1 79 = .ok (.ireturn, 1) := by decide +kernel
theorem d_Dot_count_80 : decode i_Dot_count.2.1 80 = .ok (.aload_n 0, 1) := by decide +kernel
theorem d_Dot_count_81 : decode i_Dot_count.2.1 81 = .ok (.getfield 39, 3) := by decide +kernel
theorem d_Dot_count_84 : decode i_Dot_count.2.1 84 = .ok (.getfield 117, 3) := by decide +kernel
theorem d_Dot_count_87 : decode i_Dot_count.2.1 87 = .ok (.ireturn, 1) := by decide +kernel
theorem d_Dot_count_88 : decode i_Dot_count.2.1 88 = .ok (.aload_n 0, 1) := by decide +kernel
theorem d_Dot_count_89 : decode i_Dot_count.2.1 89 = .ok (.getfield 10, 3) := by decide +kernel
theorem d_Dot_count_92 : decode i_Dot_count.2.1 92 = .ok (.getfield 82, 3) := by decide +kernel
theorem d_Dot_count_95 : decode i_Dot_count.2.1 95 = .ok (.ireturn, 1) := by decide +kernel
theorem d_Dot_count_96 : decode i_Dot_count.2.1 96 = .ok (.ldc 77, 2) := by decide +kernel
theorem d_Dot_count_98 : decode i_Dot_count.2.1 98 = .ok (.ireturn, 1) := by decide +kernel
theorem d_Dot_walkedBorders_0 : decode i_Dot_walkedBorders.2.1 0 = .ok (.aload_n 0, 1) := by decide +kernel
theorem d_Dot_walkedBorders_1 : decode i_Dot_walkedBorders.2.1 1 = .ok (.getfield 56, 3) := by decide +kernel
theorem d_Dot_walkedBorders_4 : decode i_Dot_walkedBorders.2.1 4 = .ok (.aload_n 0, 1) := by decide +kernel
theorem d_Dot_walkedBorders_5 : decode i_Dot_walkedBorders.2.1 5 = .ok (.getfield 26, 3) := by decide +kernel
theorem d_Dot_walkedBorders_8 : decode i_Dot_walkedBorders.2.1 8 = .ok (.getfield 110, 3) := by decide +kernel
theorem d_Dot_walkedBorders_11 : decode i_Dot_walkedBorders.2.1 11 = .ok (.aload_n 0, 1) := by decide +kernel
theorem d_Dot_walkedBorders_12 : decode i_Dot_walkedBorders.2.1 12 = .ok (.getfield 26, 3) := by decide +kernel
theorem d_Dot_walkedBorders_15 : decode i_Dot_walkedBorders.2.1 15 = .ok (.getfield 111, 3) := by decide +kernel
theorem d_Dot_walkedBorders_18 : decode i_Dot_walkedBorders.2.1 18 = .ok (.invokevirtual 271, 3) := by decide +kernel
theorem d_Dot_walkedBorders_21 : decode i_Dot_walkedBorders.2.1 21 = .ok (.aload_n 0, 1) := by decide +kernel
theorem d_Dot_walkedBorders_22 : decode i_Dot_walkedBorders.2.1 22 = .ok (.getfield 56, 3) := by decide +kernel
theorem d_Dot_walkedBorders_25 : decode i_Dot_walkedBorders.2.1 25 = .ok (.getfield 274, 3) := by decide +kernel
theorem d_Dot_walkedBorders_28 : decode i_Dot_walkedBorders.2.1 28 = .ok (.ireturn, 1) := by decide +kernel
theorem d_Dot_borderNumber_0 : decode i_Dot_borderNumber.2.1 0 = .ok (.aload_n 0, 1) := by decide +kernel
theorem d_Dot_borderNumber_1 : decode i_Dot_borderNumber.2.1 1 = .ok (.getfield 26, 3) := by decide +kernel
theorem d_Dot_borderNumber_4 : decode i_Dot_borderNumber.2.1 4 = .ok (.invokevirtual 154, 3) := by decide +kernel
theorem d_Dot_borderNumber_7 : decode i_Dot_borderNumber.2.1 7 = .ok (.ifCond .ne 5, 3) := by decide +kernel
theorem d_Dot_borderNumber_10 : decode i_Dot_borderNumber.2.1 10 = .ok (.aconst_null, 1) := by decide +kernel
theorem d_Dot_borderNumber_11 : decode i_Dot_borderNumber.2.1 11 = .ok (.areturn, 1) := by decide +kernel
theorem d_Dot_borderNumber_12 : decode i_Dot_borderNumber.2.1 12 = .ok (.aload_n 0, 1) := by decide +kernel
theorem d_Dot_borderNumber_13 : decode i_Dot_borderNumber.2.1 13 = .ok (.getfield 56, 3) := by decide +kernel
theorem d_Dot_borderNumber_16 : decode i_Dot_borderNumber.2.1 16 = .ok (.aload_n 0, 1) := by decide +kernel
theorem d_Dot_borderNumber_17 : decode i_Dot_borderNumber.2.1 17 = .ok (.getfield 26, 3) := by decide +kernel
theorem d_Dot_borderNumber_20 : decode i_Dot_borderNumber.2.1 20 = .ok (.getfield 110, 3) := by decide +kernel
theorem d_Dot_borderNumber_23 : decode i_Dot_borderNumber.2.1 23 = .ok (.aload_n 0, 1) := by decide +kernel
theorem d_Dot_borderNumber_24 : decode i_Dot_borderNumber.2.1 24 = .ok (.getfield 26, 3) := by decide +kernel
theorem d_Dot_borderNumber_27 : decode i_Dot_borderNumber.2.1 27 = .ok (.getfield 111, 3) := by decide +kernel
theorem d_Dot_borderNumber_30 : decode i_Dot_borderNumber.2.1 30 = .ok (.invokevirtual 271, 3) := by decide +kernel
theorem d_Dot_borderNumber_33 : decode i_Dot_borderNumber.2.1 33 = .ok (.aload_n 0, 1) := by decide +kernel
theorem d_Dot_borderNumber_34 : decode i_Dot_borderNumber.2.1 34 = .ok (.getfield 56, 3) := by decide +kernel
theorem d_Dot_borderNumber_37 : decode i_Dot_borderNumber.2.1 37 = .ok (.iload_n 1, 1) := by decide +kernel
theorem d_Dot_borderNumber_38 : decode i_Dot_borderNumber.2.1 38 = .ok (.invokevirtual 275, 3) := by decide +kernel
theorem d_Dot_borderNumber_41 : decode i_Dot_borderNumber.2.1 41 = .ok (.areturn, 1) := by decide +kernel
theorem d_Dot_shapedBorder_0 : decode i_Dot_shapedBorder.2.1 0 = .ok (.aload_n 0, 1) := by decide +kernel
theorem d_Dot_shapedBorder_1 : decode i_Dot_shapedBorder.2.1 1 = .ok (.iload_n 1, 1) := by decide +kernel
theorem d_Dot_shapedBorder_2 : decode i_Dot_shapedBorder.2.1 2 = .ok (.invokevirtual 161, 3) := by decide +kernel
theorem d_Dot_shapedBorder_5 : decode i_Dot_shapedBorder.2.1 5 = .ok (.astore_n 2, 1) := by decide +kernel
theorem d_Dot_shapedBorder_6 : decode i_Dot_shapedBorder.2.1 6 = .ok (.aload_n 2, 1) := by decide +kernel
theorem d_Dot_shapedBorder_7 : decode i_Dot_shapedBorder.2.1 7 = .ok (.ifnull 11, 3) := by decide +kernel
theorem d_Dot_shapedBorder_10 : decode i_Dot_shapedBorder.2.1 10 = .ok (.aload_n 0, 1) := by decide +kernel
theorem d_Dot_shapedBorder_11 : decode i_Dot_shapedBorder.2.1 11 = .ok (.getfield 64, 3) := by decide +kernel
theorem d_Dot_shapedBorder_14 : decode i_Dot_shapedBorder.2.1 14 = .ok (.aload_n 2, 1) := by decide +kernel
theorem d_Dot_shapedBorder_15 : decode i_Dot_shapedBorder.2.1 15 = .ok (.invokevirtual 278, 3) := by decide +kernel
theorem d_Dot_shapedBorder_18 : decode i_Dot_shapedBorder.2.1 18 = .ok (.aload_n 2, 1) := by decide +kernel
theorem d_Dot_shapedBorder_19 : decode i_Dot_shapedBorder.2.1 19 = .ok (.areturn, 1) := by decide +kernel
theorem d_Dot_imageNumber_0 : decode i_Dot_imageNumber.2.1 0 = .ok (.iload_n 1, 1) := by decide +kernel
theorem d_Dot_imageNumber_1 : decode i_Dot_imageNumber.2.1 1 = .ok (.ifCond .lt 8, 3) := by decide +kernel
theorem d_Dot_imageNumber_4 : decode i_Dot_imageNumber.2.1 4 = .ok (.iload_n 1, 1) := by decide +kernel
theorem d_Dot_imageNumber_5 : decode i_Dot_imageNumber.2.1 5 = .ok (.iconst 2, 1) := by decide +kernel
theorem d_Dot_imageNumber_6 : decode i_Dot_imageNumber.2.1 6 = .ok (.if_icmp .lt 5, 3) := by decide +kernel
theorem d_Dot_imageNumber_9 : decode i_Dot_imageNumber.2.1 9 = .ok (.aconst_null, 1) := by decide +kernel
theorem d_Dot_imageNumber_10 : decode i_Dot_imageNumber.2.1 10 = .ok (.areturn, 1) := by decide +kernel
theorem d_Dot_imageNumber_11 : decode i_Dot_imageNumber.2.1 11 = .ok (.iload_n 1, 1) := by decide +kernel
theorem d_Dot_imageNumber_12 : decode i_Dot_imageNumber.2.1 12 = .ok (.ifCond .ne 10, 3) := by decide +kernel
theorem d_Dot_imageNumber_15 : decode i_Dot_imageNumber.2.1 15 = .ok (.aload_n 0, 1) := by decide +kernel
theorem d_Dot_imageNumber_16 : decode i_Dot_imageNumber.2.1 16 = .ok (.getfield 30, 3) := by decide +kernel
theorem d_Dot_imageNumber_19 : decode i_Dot_imageNumber.2.1 19 = .ok (.goto 7, 3) := by decide +kernel
theorem d_Dot_imageNumber_22 : decode i_Dot_imageNumber.2.1 22 = .ok (.aload_n 0, 1) := by decide +kernel
theorem d_Dot_imageNumber_23 : decode i_Dot_imageNumber.2.1 23 = .ok (.getfield 33, 3) := by decide +kernel
theorem d_Dot_imageNumber_26 : decode i_Dot_imageNumber.2.1 26 = .ok (.areturn, 1) := by decide +kernel
theorem d_Dot_sizeOf_0 : decode i_Dot_sizeOf.2.1 0 = .ok (.iload_n 2, 1) := by decide +kernel
theorem d_Dot_sizeOf_1 : decode i_Dot_sizeOf.2.1 1 = .ok (.ifCond .ne 8, 3) := by decide +kernel
theorem d_Dot_sizeOf_4 : decode i_Dot_sizeOf.2.1 4 = .ok (.aload_n 1, 1) := by decide +kernel
theorem d_Dot_sizeOf_5 : decode i_Dot_sizeOf.2.1 5 = .ok (.getfield 165, 3) := by decide +kernel
theorem d_Dot_sizeOf_8 : decode i_Dot_sizeOf.2.1 8 = .ok (.ireturn, 1) := by decide +kernel
theorem d_Dot_sizeOf_9 : decode i_Dot_sizeOf.2.1 9 = .ok (.iload_n 2, 1) := by decide +kernel
theorem d_Dot_sizeOf_10 : decode i_Dot_sizeOf.2.1 10 = .ok (.iconst 1, 1) := by decide +kernel
theorem d_Dot_sizeOf_11 : decode i_Dot_sizeOf.2.1 11 = .ok (.if_icmp .ne 10, 3) := by decide +kernel
theorem d_Dot_sizeOf_14 : decode i_Dot_sizeOf.2.1 14 = .ok (.aload_n 1, 1) := by decide +kernel
theorem d_Dot_sizeOf_15 : decode i_Dot_sizeOf.2.1 15 = .ok (.getfield 218, 3) := by decide +kernel
theorem d_Dot_sizeOf_18 : decode i_Dot_sizeOf.2.1 18 = .ok (.goto 18, 3) := by decide +kernel
theorem d_Dot_sizeOf_21 : decode i_Dot_sizeOf.2.1 21 = .ok (.aload_n 0, 1) := by decide +kernel
theorem d_Dot_sizeOf_22 : decode i_Dot_sizeOf.2.1 22 = .ok (.getfield 64, 3) := by decide +kernel
theorem d_Dot_sizeOf_25 : decode i_Dot_sizeOf.2.1 25 = .ok (.aload_n 1, 1) := by decide +kernel
theorem d_Dot_sizeOf_26 : decode i_Dot_sizeOf.2.1 26 = .ok (.aload_n 0, 1) := by decide +kernel
theorem d_Dot_sizeOf_27 : decode i_Dot_sizeOf.2.1 27 = .ok (.getfield 26, 3) := by decide +kernel
theorem d_Dot_sizeOf_30 : decode i_Dot_sizeOf.2.1 30 = .ok (.getfield 114, 3) := by decide +kernel
theorem d_Dot_sizeOf_33 : decode i_Dot_sizeOf.2.1 33 = .ok (.invokevirtual 224, 3) := by decide +kernel
theorem d_Dot_sizeOf_36 : decode i_Dot_sizeOf.2.1 36 = .ok (.ireturn, 1) := by decide +kernel
theorem d_Mod_init_0 : decode i_Mod_init.2.1 0 = .ok (.aload_n 0, 1) := by decide +kernel
theorem d_Mod_init_1 : decode i_Mod_init.2.1 1 = .ok (.invokespecial 1, 3) := by decide +kernel
theorem d_Mod_init_4 : decode i_Mod_init.2.1 4 = .ok (.aload_n 0, 1) := by decide +kernel
theorem d_Mod_init_5 : decode i_Mod_init.2.1 5 = .ok (.bipush 68, 2) := by decide +kernel
theorem d_Mod_init_7 : decode i_Mod_init.2.1 7 = .ok (.newarray .int, 2) := by decide +kernel
theorem d_Mod_init_9 : decode i_Mod_init.2.1 9 = .ok (.putfield 7, 3) := by decide +kernel
theorem d_Mod_init_12 : decode i_Mod_init.2.1 12 = .ok (.aload_n 0, 1) := by decide +kernel
theorem d_Mod_init_13 : decode i_Mod_init.2.1 13 = .ok (.sipush 544, 3) := by decide +kernel
theorem d_Mod_init_16 : decode i_Mod_init.2.1 16 = .ok (.newarray .int, 2) := by decide +kernel
theorem d_Mod_init_18 : decode i_Mod_init.2.1 18 = .ok (.putfield 13, 3) := by decide +kernel
theorem d_Mod_init_21 : decode i_Mod_init.2.1 21 = .ok (.aload_n 0, 1) := by decide +kernel
theorem d_Mod_init_22 : decode i_Mod_init.2.1 22 = .ok (.sipush 136, 3) := by decide +kernel
theorem d_Mod_init_25 : decode i_Mod_init.2.1 25 = .ok (.newarray .int, 2) := by decide +kernel
theorem d_Mod_init_27 : decode i_Mod_init.2.1 27 = .ok (.putfield 16, 3) := by decide +kernel
theorem d_Mod_init_30 : decode i_Mod_init.2.1 30 = .ok (.aload_n 0, 1) := by decide +kernel
theorem d_Mod_init_31 : decode i_Mod_init.2.1 31 = .ok (.iconst 2, 1) := by decide +kernel
theorem d_Mod_init_32 : decode i_Mod_init.2.1 32 = .ok (.newarray .int, 2) := by decide +kernel
theorem d_Mod_init_34 : decode i_Mod_init.2.1 34 = .ok (.putfield 19, 3) := by decide +kernel
theorem d_Mod_init_37 : decode i_Mod_init.2.1 37 = .ok (.aload_n 0, 1) := by decide +kernel
theorem d_Mod_init_38 : decode i_Mod_init.2.1 38 = .ok (.bipush 90, 2) := by decide +kernel
theorem d_Mod_init_40 : decode i_Mod_init.2.1 40 = .ok (.newarray .int, 2) := by decide +kernel
theorem d_Mod_init_42 : decode i_Mod_init.2.1 42 = .ok (.putfield 22, 3) := by decide +kernel
theorem d_Mod_init_45 : decode i_Mod_init.2.1 45 = .ok (.aload_n 0, 1) := by decide +kernel
theorem d_Mod_init_46 : decode i_Mod_init.2.1 46 = .ok (.bipush 68, 2) := by decide +kernel
theorem d_Mod_init_48 : decode i_Mod_init.2.1 48 = .ok (.newarray .int, 2) := by decide +kernel
theorem d_Mod_init_50 : decode i_Mod_init.2.1 50 = .ok (.putfield 25, 3) := by decide +kernel
theorem d_Mod_init_53 : decode i_Mod_init.2.1 53 = .ok (.aload_n 0, 1) := by decide +kernel
theorem d_Mod_init_54 : decode i_Mod_init.2.1 54 = .ok (.bipush 40, 2) := by decide +kernel
theorem d_Mod_init_56 : decode i_Mod_init.2.1 56 = .ok (.newarray .int, 2) := by decide +kernel
theorem d_Mod_init_58 : decode i_Mod_init.2.1 58 = .ok (.putfield 28, 3) := by decide +kernel
theorem d_Mod_init_61 : decode i_Mod_init.2.1 61 = .ok (.aload_n 0, 1) := by decide +kernel
theorem d_Mod_init_62 : decode i_Mod_init.2.1 62 = .ok (.bipush 40, 2) := by decide +kernel
theorem d_Mod_init_64 : decode i_Mod_init.2.1 64 = .ok (.newarray .int, 2) := by decide +kernel
theorem d_Mod_init_66 : decode i_Mod_init.2.1 66 = .ok (.putfield 31, 3) := by decide +kernel
theorem d_Mod_init_69 : decode i_Mod_init.2.1 69 = .ok (.aload_n 0, 1) := by decide +kernel
theorem d_Mod_init_70 : decode i_Mod_init.2.1 70 = .ok (.bipush 40, 2) := by decide +kernel
theorem d_Mod_init_72 : decode i_Mod_init.2.1 72 = .ok (.newarray .int, 2) := by decide +kernel
theorem d_Mod_init_74 : decode i_Mod_init.2.1 74 = .ok (.putfield 34, 3) := by decide +kernel
theorem d_Mod_init_77 : decode i_Mod_init.2.1 77 = .ok (.aload_n 0, 1) := by decide +kernel
theorem d_Mod_init_78 : decode i_Mod_init.2.1 78 = .ok (.bipush 40, 2) := by decide +kernel
theorem d_Mod_init_80 : decode i_Mod_init.2.1 80 = .ok (.newarray .int, 2) := by decide +kernel
theorem d_Mod_init_82 : decode i_Mod_init.2.1 82 = .ok (.putfield 37, 3) := by decide +kernel
theorem d_Mod_init_85 : decode i_Mod_init.2.1 85 = .ok (.aload_n 0, 1) := by decide +kernel
theorem d_Mod_init_86 : decode i_Mod_init.2.1 86 = .ok (.bipush 40, 2) := by decide +kernel
theorem d_Mod_init_88 : decode i_Mod_init.2.1 88 = .ok (.newarray .long, 2) := by decide +kernel
theorem d_Mod_init_90 : decode i_Mod_init.2.1 90 = .ok (.putfield 40, 3) := by decide +kernel
theorem d_Mod_init_93 : decode i_Mod_init.2.1 93 = .ok (.aload_n 0, 1) := by decide +kernel
theorem d_Mod_init_94 : decode i_Mod_init.2.1 94 = .ok (.sipush 160, 3) := by decide +kernel
theorem d_Mod_init_97 : decode i_Mod_init.2.1 97 = .ok (.newarray .int, 2) := by decide +kernel
theorem d_Mod_init_99 : decode i_Mod_init.2.1 99 = .ok (.putfield 44, 3) := by decide +kernel
theorem d_Mod_init_102 : decode i_Mod_init.2.1 102 = .ok (.aload_n 0, 1) := by decide +kernel
theorem d_Mod_init_103 : decode i_Mod_init.2.1 103 = .ok (.sipush 160, 3) := by decide +kernel
theorem d_Mod_init_106 : decode i_Mod_init.2.1 106 = .ok (.newarray .int, 2) := by decide +kernel
theorem d_Mod_init_108 : decode i_Mod_init.2.1 108 = .ok (.putfield 47, 3) := by decide +kernel
theorem d_Mod_init_111 : decode i_Mod_init.2.1 111 = .ok (.aload_n 0, 1) := by decide +kernel
theorem d_Mod_init_112 : decode i_Mod_init.2.1 112 = .ok (.sipush 160, 3) := by decide +kernel
theorem d_Mod_init_115 : decode i_Mod_init.2.1 115 = .ok (.newarray .int, 2) := by decide +kernel
theorem d_Mod_init_117 : decode i_Mod_init.2.1 117 = .ok (.putfield 50, 3) := by decide +kernel
theorem d_Mod_init_120 : decode i_Mod_init.2.1 120 = .ok (.aload_n 0, 1) := by decide +kernel
theorem d_Mod_init_121 : decode i_Mod_init.2.1 121 = .ok (.sipush 20736, 3) := by decide +kernel
theorem d_Mod_init_124 : decode i_Mod_init.2.1 124 = .ok (.newarray .int, 2) := by decide +kernel
theorem d_Mod_init_126 : decode i_Mod_init.2.1 126 = .ok (.putfield 53, 3) := by decide +kernel
theorem d_Mod_init_129 : decode i_Mod_init.2.1 129 = .ok (.aload_n 0, 1) := by decide +kernel
theorem d_Mod_init_130 : decode i_Mod_init.2.1 130 = .ok (.sipush 160, 3) := by decide +kernel
theorem d_Mod_init_133 : decode i_Mod_init.2.1 133 = .ok (.newarray .int, 2) := by decide +kernel
theorem d_Mod_init_135 : decode i_Mod_init.2.1 135 = .ok (.putfield 56, 3) := by decide +kernel
theorem d_Mod_init_138 : decode i_Mod_init.2.1 138 = .ok (.aload_n 0, 1) := by decide +kernel
theorem d_Mod_init_139 : decode i_Mod_init.2.1 139 = .ok (.sipush 144, 3) := by decide +kernel
theorem d_Mod_init_142 : decode i_Mod_init.2.1 142 = .ok (.newarray .int, 2) := by decide +kernel
theorem d_Mod_init_144 : decode i_Mod_init.2.1 144 = .ok (.putfield 59, 3) := by decide +kernel
theorem d_Mod_init_147 : decode i_Mod_init.2.1 147 = .ok (.aload_n 0, 1) := by decide +kernel
theorem d_Mod_init_148 : decode i_Mod_init.2.1 148 = .ok (.sipush 160, 3) := by decide +kernel
theorem d_Mod_init_151 : decode i_Mod_init.2.1 151 = .ok (.newarray .int, 2) := by decide +kernel
theorem d_Mod_init_153 : decode i_Mod_init.2.1 153 = .ok (.putfield 62, 3) := by decide +kernel
theorem d_Mod_init_156 : decode i_Mod_init.2.1 156 = .ok (.aload_n 0, 1) := by decide +kernel
theorem d_Mod_init_157 : decode i_Mod_init.2.1 157 = .ok (.sipush 600, 3) := by decide +kernel
theorem d_Mod_init_160 : decode i_Mod_init.2.1 160 = .ok (.newarray .int, 2) := by decide +kernel
theorem d_Mod_init_162 : decode i_Mod_init.2.1 162 = .ok (.putfield 65, 3) := by decide +kernel
theorem d_Mod_init_165 : decode i_Mod_init.2.1 165 = .ok (.aload_n 0, 1) := by decide +kernel
theorem d_Mod_init_166 : decode i_Mod_init.2.1 166 = .ok (.sipush 600, 3) := by decide +kernel
theorem d_Mod_init_169 : decode i_Mod_init.2.1 169 = .ok (.newarray .int, 2) := by decide +kernel
theorem d_Mod_init_171 : decode i_Mod_init.2.1 171 = .ok (.putfield 68, 3) := by decide +kernel
theorem d_Mod_init_174 : decode i_Mod_init.2.1 174 = .ok (.return_, 1) := by decide +kernel
theorem d_Mod_in_0 : decode i_Mod_in.2.1 0 = .ok (.iload_n 0, 1) := by decide +kernel
theorem d_Mod_in_1 : decode i_Mod_in.2.1 1 = .ok (.iload_n 1, 1) := by decide +kernel
theorem d_Mod_in_2 : decode i_Mod_in.2.1 2 = .ok (.if_icmp .lt 12, 3) := by decide +kernel
theorem d_Mod_in_5 : decode i_Mod_in.2.1 5 = .ok (.iload_n 0, 1) := by decide +kernel
theorem d_Mod_in_6 : decode i_Mod_in.2.1 6 = .ok (.iload_n 2, 1) := by decide +kernel
theorem d_Mod_in_7 : decode i_Mod_in.2.1 7 = .ok (.if_icmp .gt 7, 3) := by decide +kernel
theorem d_Mod_in_10 : decode i_Mod_in.2.1 10 = .ok (.iconst 1, 1) := by decide +kernel
theorem d_Mod_in_11 : decode i_Mod_in.2.1 11 = .ok (.goto 4, 3) := by decide +kernel
theorem d_Mod_in_14 : decode i_Mod_in.2.1 14 = .ok (.iconst 0, 1) := by decide +kernel
theorem d_Mod_in_15 : decode i_Mod_in.2.1 15 = .ok (.ireturn, 1) := by decide +kernel
theorem d_Mod_bring_0 : decode i_Mod_bring.2.1 0 = .ok (.iconst 0, 1) := by decide +kernel
theorem d_Mod_bring_1 : decode i_Mod_bring.2.1 1 = .ok (.istore 5, 2) := by decide +kernel
theorem d_Mod_bring_3 : decode i_Mod_bring.2.1 3 = .ok (.iload 5, 2) := by decide +kernel
theorem d_Mod_bring_5 : decode i_Mod_bring.2.1 5 = .ok (.iload 4, 2) := by decide +kernel
theorem d_Mod_bring_7 : decode i_Mod_bring.2.1 7 = .ok (.if_icmp .ge 21, 3) := by decide +kernel
theorem d_Mod_bring_10 : decode i_Mod_bring.2.1 10 = .ok (.aload_n 2, 1) := by decide +kernel
theorem d_Mod_bring_11 : decode i_Mod_bring.2.1 11 = .ok (.iload_n 3, 1) := by decide +kernel
theorem d_Mod_bring_12 : decode i_Mod_bring.2.1 12 = .ok (.iload 5, 2) := by decide +kernel
theorem d_Mod_bring_14 : decode i_Mod_bring.2.1 14 = .ok (.iadd, 1) := by decide +kernel
theorem d_Mod_bring_15 : decode i_Mod_bring.2.1 15 = .ok (.aload_n 0, 1) := by decide +kernel
theorem d_Mod_bring_16 : decode i_Mod_bring.2.1 16 = .ok (.iload_n 1, 1) := by decide +kernel
theorem d_Mod_bring_17 : decode i_Mod_bring.2.1 17 = .ok (.iload 5, 2) := by decide +kernel
theorem d_Mod_bring_19 : decode i_Mod_bring.2.1 19 = .ok (.iadd, 1) := by decide +kernel
theorem d_Mod_bring_20 : decode i_Mod_bring.2.1 20 = .ok (.iaload, 1) := by decide +kernel
theorem d_Mod_bring_21 : decode i_Mod_bring.2.1 21 = .ok (.iastore, 1) := by decide +kernel
theorem d_Mod_bring_22 : decode i_Mod_bring.2.1 22 = .ok (.iinc 5 1, 3) := by decide +kernel
theorem d_Mod_bring_25 : decode i_Mod_bring.2.1 25 = .ok (.goto (-22), 3) := by decide +kernel
theorem d_Mod_bring_28 : decode i_Mod_bring.2.1 28 = .ok (.return_, 1) := by decide +kernel
theorem d_Mod_isPicture_0 : decode i_Mod_isPicture.2.1 0 = .ok (.aload_n 0, 1) := by decide +kernel
theorem d_Mod_isPicture_1 : decode i_Mod_isPicture.2.1 1 = .ok (.getfield 7, 3) := by decide +kernel
theorem d_Mod_isPicture_4 : decode i_Mod_isPicture.2.1 4 = .ok (.iconst 0, 1) := by decide +kernel
theorem d_Mod_isPicture_5 : decode i_Mod_isPicture.2.1 5 = .ok (.iaload, 1) := by decide +kernel
theorem d_Mod_isPicture_6 : decode i_Mod_isPicture.2.1 6 = .ok (.ifCond .le 7, 3) := by decide +kernel
theorem d_Mod_isPicture_9 : decode i_Mod_isPicture.2.1 9 = .ok (.iconst 1, 1) := by decide +kernel
theorem d_Mod_isPicture_10 : decode i_Mod_isPicture.2.1 10 = .ok (.goto 4, 3) := by decide +kernel
theorem d_Mod_isPicture_13 : decode i_Mod_isPicture.2.1 13 = .ok (.iconst 0, 1) := by decide +kernel
theorem d_Mod_isPicture_14 : decode i_Mod_isPicture.2.1 14 = .ok (.ireturn, 1) := by decide +kernel
theorem d_Mod_isDot_0 : decode i_Mod_isDot.2.1 0 = .ok (.iload_n 1, 1) := by decide +kernel
theorem d_Mod_isDot_1 : decode i_Mod_isDot.2.1 1 = .ok (.iconst 0, 1) := by decide +kernel
theorem d_Mod_isDot_2 : decode i_Mod_isDot.2.1 2 = .ok (.aload_n 0, 1) := by decide +kernel
theorem d_Mod_isDot_3 : decode i_Mod_isDot.2.1 3 = .ok (.getfield 7, 3) := by decide +kernel
theorem d_Mod_isDot_6 : decode i_Mod_isDot.2.1 6 = .ok (.iconst 0, 1) := by decide +kernel
theorem d_Mod_isDot_7 : decode i_Mod_isDot.2.1 7 = .ok (.iaload, 1) := by decide +kernel
theorem d_Mod_isDot_8 : decode i_Mod_isDot.2.1 8 = .ok (.iconst 1, 1) := by decide +kernel
theorem d_Mod_isDot_9 : decode i_Mod_isDot.2.1 9 = .ok (.isub, 1) := by decide +kernel
theorem d_Mod_isDot_10 : decode i_Mod_isDot.2.1 10 = .ok (.invokestatic 71, 3) := by decide +kernel
theorem d_Mod_isDot_13 : decode i_Mod_isDot.2.1 13 = .ok (.ifCond .eq 23, 3) := by decide +kernel
theorem d_Mod_isDot_16 : decode i_Mod_isDot.2.1 16 = .ok (.iload_n 2, 1) := by decide +kernel
theorem d_Mod_isDot_17 : decode i_Mod_isDot.2.1 17 = .ok (.iconst 0, 1) := by decide +kernel
theorem d_Mod_isDot_18 : decode i_Mod_isDot.2.1 18 = .ok (.aload_n 0, 1) := by decide +kernel
theorem d_Mod_isDot_19 : decode i_Mod_isDot.2.1 19 = .ok (.getfield 7, 3) := by decide +kernel
theorem d_Mod_isDot_22 : decode i_Mod_isDot.2.1 22 = .ok (.iconst 1, 1) := by decide +kernel
theorem d_Mod_isDot_23 : decode i_Mod_isDot.2.1 23 = .ok (.iaload, 1) := by decide +kernel
theorem d_Mod_isDot_24 : decode i_Mod_isDot.2.1 24 = .ok (.iconst 1, 1) := by decide +kernel
theorem d_Mod_isDot_25 : decode i_Mod_isDot.2.1 25 = .ok (.isub, 1) := by decide +kernel
theorem d_Mod_isDot_26 : decode i_Mod_isDot.2.1 26 = .ok (.invokestatic 71, 3) := by decide +kernel
theorem d_Mod_isDot_29 : decode i_Mod_isDot.2.1 29 = .ok (.ifCond .eq 7, 3) := by decide +kernel
theorem d_Mod_isDot_32 : decode i_Mod_isDot.2.1 32 = .ok (.iconst 1, 1) := by decide +kernel
theorem d_Mod_isDot_33 : decode i_Mod_isDot.2.1 33 = .ok (.goto 4, 3) := by decide +kernel
theorem d_Mod_isDot_36 : decode i_Mod_isDot.2.1 36 = .ok (.iconst 0, 1) := by decide +kernel
theorem d_Mod_isDot_37 : decode i_Mod_isDot.2.1 37 = .ok (.ireturn, 1) := by decide +kernel
theorem d_Mod_feed_0 : decode i_Mod_feed.2.1 0 = .ok (.iload_n 1, 1) := by decide +kernel
theorem d_Mod_feed_1 : decode i_Mod_feed.2.1 1 = .ok (.iconst 0, 1) := by decide +kernel
theorem d_Mod_feed_2 : decode i_Mod_feed.2.1 2 = .ok (.sipush 255, 3) := by decide +kernel
theorem d_Mod_feed_5 : decode i_Mod_feed.2.1 5 = .ok (.invokestatic 71, 3) := by decide +kernel
theorem d_Mod_feed_8 : decode i_Mod_feed.2.1 8 = .ok (.ifCond .ne 6, 3) := by decide +kernel
theorem d_Mod_feed_11 : decode i_Mod_feed.2.1 11 = .ok (.ldc 75, 2) := by decide +kernel
theorem d_Mod_feed_13 : decode i_Mod_feed.2.1 13 = .ok (.ireturn, 1) := by decide +kernel
theorem d_Mod_feed_14 : decode i_Mod_feed.2.1 14 = .ok (.aload_n 0, 1) := by decide +kernel
theorem d_Mod_feed_15 : decode i_Mod_feed.2.1 15 = .ok (.getfield 76, 3) := by decide +kernel
theorem d_Mod_feed_18 : decode i_Mod_feed.2.1 18 = .ok (.bipush 90, 2) := by decide +kernel
theorem d_Mod_feed_20 : decode i_Mod_feed.2.1 20 = .ok (.if_icmp .ne 6, 3) := by decide +kernel
theorem d_Mod_feed_23 : decode i_Mod_feed.2.1 23 = .ok (.ldc 80, 2) := by decide +kernel
theorem d_Mod_feed_25 : decode i_Mod_feed.2.1 25 = .ok (.ireturn, 1) := by decide +kernel
theorem d_Mod_feed_26 : decode i_Mod_feed.2.1 26 = .ok (.aload_n 0, 1) := by decide +kernel
theorem d_Mod_feed_27 : decode i_Mod_feed.2.1 27 = .ok (.getfield 22, 3) := by decide +kernel
theorem d_Mod_feed_30 : decode i_Mod_feed.2.1 30 = .ok (.aload_n 0, 1) := by decide +kernel
theorem d_Mod_feed_31 : decode i_Mod_feed.2.1 31 = .ok (.getfield 76, 3) := by decide +kernel
theorem d_Mod_feed_34 : decode i_Mod_feed.2.1 34 = .ok (.iload_n 1, 1) := by decide +kernel
theorem d_Mod_feed_35 : decode i_Mod_feed.2.1 35 = .ok (.iastore, 1) := by decide +kernel
theorem d_Mod_feed_36 : decode i_Mod_feed.2.1 36 = .ok (.aload_n 0, 1) := by decide +kernel
theorem d_Mod_feed_37 : decode i_Mod_feed.2.1 37 = .ok (.dup, 1) := by decide +kernel
theorem d_Mod_feed_38 : decode i_Mod_feed.2.1 38 = .ok (.getfield 76, 3) := by decide +kernel
theorem d_Mod_feed_41 : decode i_Mod_feed.2.1 41 = .ok (.iconst 1, 1) := by decide +kernel
theorem d_Mod_feed_42 : decode i_Mod_feed.2.1 42 = .ok (.iadd, 1) := by decide +kernel
theorem d_Mod_feed_43 : decode i_Mod_feed.2.1 43 = .ok (.putfield 76, 3) := by decide +kernel
theorem d_Mod_feed_46 : decode i_Mod_feed.2.1 46 = .ok (.aload_n 0, 1) := by decide +kernel
theorem d_Mod_feed_47 : decode i_Mod_feed.2.1 47 = .ok (.getfield 76, 3) := by decide +kernel
theorem d_Mod_feed_50 : decode i_Mod_feed.2.1 50 = .ok (.ireturn, 1) := by decide +kernel
theorem d_Mod_due_0 : decode i_Mod_due.2.1 0 = .ok (.aload_n 0, 1) := by decide +kernel
theorem d_Mod_due_1 : decode i_Mod_due.2.1 1 = .ok (.getfield 81, 3) := by decide +kernel
theorem d_Mod_due_4 : decode i_Mod_due.2.1 4 = .ok (.aload_n 0, 1) := by decide +kernel
theorem d_Mod_due_5 : decode i_Mod_due.2.1 5 = .ok (.getfield 76, 3) := by decide +kernel
theorem d_Mod_due_8 : decode i_Mod_due.2.1 8 = .ok (.if_icmp .ge 20, 3) := by decide +kernel
theorem d_Mod_due_11 : decode i_Mod_due.2.1 11 = .ok (.aload_n 0, 1) := by decide +kernel
theorem d_Mod_due_12 : decode i_Mod_due.2.1 12 = .ok (.getfield 22, 3) := by decide +kernel
theorem d_Mod_due_15 : decode i_Mod_due.2.1 15 = .ok (.aload_n 0, 1) := by decide +kernel
theorem d_Mod_due_16 : decode i_Mod_due.2.1 16 = .ok (.getfield 81, 3) := by decide +kernel
theorem d_Mod_due_19 : decode i_Mod_due.2.1 19 = .ok (.iaload, 1) := by decide +kernel
theorem d_Mod_due_20 : decode i_Mod_due.2.1 20 = .ok (.iload_n 1, 1) := by decide +kernel
theorem d_Mod_due_21 : decode i_Mod_due.2.1 21 = .ok (.iload_n 2, 1) := by decide +kernel
theorem d_Mod_due_22 : decode i_Mod_due.2.1 22 = .ok (.invokestatic 71, 3) := by decide +kernel
theorem d_Mod_due_25 : decode i_Mod_due.2.1 25 = .ok (.ifCond .ne 5, 3) := by decide +kernel
theorem d_Mod_due_28 : decode i_Mod_due.2.1 28 = .ok (.iconst 1, 1) := by decide +kernel
theorem d_Mod_due_29 : decode i_Mod_due.2.1 29 = .ok (.ireturn, 1) := by decide +kernel
theorem d_Mod_due_30 : decode i_Mod_due.2.1 30 = .ok (.aload_n 0, 1) := by decide +kernel
theorem d_Mod_due_31 : decode i_Mod_due.2.1 31 = .ok (.getfield 22, 3) := by decide +kernel
theorem d_Mod_due_34 : decode i_Mod_due.2.1 34 = .ok (.aload_n 0, 1) := by decide +kernel
theorem d_Mod_due_35 : decode i_Mod_due.2.1 35 = .ok (.getfield 81, 3) := by decide +kernel
theorem d_Mod_due_38 : decode i_Mod_due.2.1 38 = .ok (.iaload, 1) := by decide +kernel
theorem d_Mod_due_39 : decode i_Mod_due.2.1 39 = .ok (.iload_n 3, 1) := by decide +kernel
theorem d_Mod_due_40 : decode i_Mod_due.2.1 40 = .ok (.iload 4, 2) := by decide +kernel
theorem d_Mod_due_42 : decode i_Mod_due.2.1 42 = .ok (.invokestatic 71, 3) := by decide +kernel
theorem d_Mod_due_45 : decode i_Mod_due.2.1 45 = .ok (.ifCond .ne 5, 3) := by decide +kernel
theorem d_Mod_due_48 : decode i_Mod_due.2.1 48 = .ok (.iconst 2, 1) := by decide +kernel
theorem d_Mod_due_49 : decode i_Mod_due.2.1 49 = .ok (.ireturn, 1) := by decide +kernel
theorem d_Mod_due_50 : decode i_Mod_due.2.1 50 = .ok (.aload_n 0, 1) := by decide +kernel
theorem d_Mod_due_51 : decode i_Mod_due.2.1 51 = .ok (.dup, 1) := by decide +kernel
theorem d_Mod_due_52 : decode i_Mod_due.2.1 52 = .ok (.getfield 81, 3) := by decide +kernel
theorem d_Mod_due_55 : decode i_Mod_due.2.1 55 = .ok (.iconst 1, 1) := by decide +kernel
theorem d_Mod_due_56 : decode i_Mod_due.2.1 56 = .ok (.iadd, 1) := by decide +kernel
theorem d_Mod_due_57 : decode i_Mod_due.2.1 57 = .ok (.putfield 81, 3) := by decide +kernel
theorem d_Mod_due_60 : decode i_Mod_due.2.1 60 = .ok (.iconst 0, 1) := by decide +kernel
theorem d_Mod_due_61 : decode i_Mod_due.2.1 61 = .ok (.ireturn, 1) := by decide +kernel
theorem d_Mod_sign_0 : decode i_Mod_sign.2.1 0 = .ok (.aload_n 0, 1) := by decide +kernel
theorem d_Mod_sign_1 : decode i_Mod_sign.2.1 1 = .ok (.iload_n 1, 1) := by decide +kernel
theorem d_Mod_sign_2 : decode i_Mod_sign.2.1 2 = .ok (.iload_n 1, 1) := by decide +kernel
theorem d_Mod_sign_3 : decode i_Mod_sign.2.1 3 = .ok (.iload_n 1, 1) := by decide +kernel
theorem d_Mod_sign_4 : decode i_Mod_sign.2.1 4 = .ok (.iload_n 1, 1) := by decide +kernel
theorem d_Mod_sign_5 : decode i_Mod_sign.2.1 5 = .ok (.invokevirtual 84, 3) := by decide +kernel
theorem d_Mod_sign_8 : decode i_Mod_sign.2.1 8 = .ok (.ireturn, 1) := by decide +kernel
theorem d_Mod_readsRow_0 : decode i_Mod_readsRow.2.1 0 = .ok (.iconst 0, 1) := by decide +kernel
theorem d_Mod_readsRow_1 : decode i_Mod_readsRow.2.1 1 = .ok (.istore_n 2, 1) := by decide +kernel
theorem d_Mod_readsRow_2 : decode i_Mod_readsRow.2.1 2 = .ok (.iconst 0, 1) := by decide +kernel
theorem d_Mod_readsRow_3 : decode i_Mod_readsRow.2.1 3 = .ok (.istore_n 3, 1) := by decide +kernel
theorem d_Mod_readsRow_4 : decode i_Mod_readsRow.2.1 4 = .ok (.iload_n 3, 1) := by decide +kernel
theorem d_Mod_readsRow_5 : decode i_Mod_readsRow.2.1 5 = .ok (.aload_n 0, 1) := by decide +kernel
theorem d_Mod_readsRow_6 : decode i_Mod_readsRow.2.1 6 = .ok (.getfield 25, 3) := by decide +kernel
theorem d_Mod_readsRow_9 : decode i_Mod_readsRow.2.1 9 = .ok (.iconst 0, 1) := by decide +kernel
theorem d_Mod_readsRow_10 : decode i_Mod_readsRow.2.1 10 = .ok (.iaload, 1) := by decide +kernel
theorem d_Mod_readsRow_11 : decode i_Mod_readsRow.2.1 11 = .ok (.if_icmp .ge 101, 3) := by decide +kernel
theorem d_Mod_readsRow_14 : decode i_Mod_readsRow.2.1 14 = .ok (.iload_n 2, 1) := by decide +kernel
theorem d_Mod_readsRow_15 : decode i_Mod_readsRow.2.1 15 = .ok (.ifCond .ne 97, 3) := by decide +kernel
theorem d_Mod_readsRow_18 : decode i_Mod_readsRow.2.1 18 = .ok (.aload_n 0, 1) := by decide +kernel
theorem d_Mod_readsRow_19 : decode i_Mod_readsRow.2.1 19 = .ok (.getfield 81, 3) := by decide +kernel
theorem d_Mod_readsRow_22 : decode i_Mod_readsRow.2.1 22 = .ok (.aload_n 0, 1) := by decide +kernel
theorem d_Mod_readsRow_23 : decode i_Mod_readsRow.2.1 23 = .ok (.getfield 76, 3) := by decide +kernel
theorem d_Mod_readsRow_26 : decode i_Mod_readsRow.2.1 26 = .ok (.if_icmp .ge 21, 3) := by decide +kernel
theorem d_Mod_readsRow_29 : decode i_Mod_readsRow.2.1 29 = .ok (.aload_n 0, 1) := by decide +kernel
theorem d_Mod_readsRow_30 : decode i_Mod_readsRow.2.1 30 = .ok (.getfield 22, 3) := by decide +kernel
theorem d_Mod_readsRow_33 : decode i_Mod_readsRow.2.1 33 = .ok (.aload_n 0, 1) := by decide +kernel
theorem d_Mod_readsRow_34 : decode i_Mod_readsRow.2.1 34 = .ok (.getfield 81, 3) := by decide +kernel
theorem d_Mod_readsRow_37 : decode i_Mod_readsRow.2.1 37 = .ok (.iaload, 1) := by decide +kernel
theorem d_Mod_readsRow_38 : decode i_Mod_readsRow.2.1 38 = .ok (.bipush 120, 2) := by decide +kernel
theorem d_Mod_readsRow_40 : decode i_Mod_readsRow.2.1 40 = .ok (.if_icmp .ne 7, 3) := by decide +kernel
theorem d_Mod_readsRow_43 : decode i_Mod_readsRow.2.1 43 = .ok (.iconst 1, 1) := by decide +kernel
theorem d_Mod_readsRow_44 : decode i_Mod_readsRow.2.1 44 = .ok (.goto 4, 3) := by decide +kernel
theorem d_Mod_readsRow_47 : decode i_Mod_readsRow.2.1 47 = .ok (.iconst 0, 1) := by decide +kernel
theorem d_Mod_readsRow_48 : decode i_Mod_readsRow.2.1 48 = .ok (.istore 4, 2) := by decide +kernel
theorem d_Mod_readsRow_50 : decode i_Mod_readsRow.2.1 50 = .ok (.aload_n 0, 1) := by decide +kernel
theorem d_Mod_readsRow_51 : decode i_Mod_readsRow.2.1 51 = .ok (.bipush 97, 2) := by decide +kernel
theorem d_Mod_readsRow_53 : decode i_Mod_readsRow.2.1 53 = .ok (.bipush 122, 2) := by decide +kernel
theorem d_Mod_readsRow_55 : decode i_Mod_readsRow.2.1 55 = .ok (.iload 4, 2) := by decide +kernel
theorem d_Mod_readsRow_57 : decode i_Mod_readsRow.2.1 57 = .ok (.ifCond .eq 8, 3) := by decide +kernel
theorem d_Mod_readsRow_60 : decode i_Mod_readsRow.2.1 60 = .ok (.bipush 120, 2) := by decide +kernel
theorem d_Mod_readsRow_62 : decode i_Mod_readsRow.2.1 62 = .ok (.goto 5, 3) := by decide +kernel
theorem d_Mod_readsRow_65 : decode i_Mod_readsRow.2.1 65 = .ok (.bipush 111, 2) := by decide +kernel
theorem d_Mod_readsRow_67 : decode i_Mod_readsRow.2.1 67 = .ok (.iload 4, 2) := by decide +kernel
theorem d_Mod_readsRow_69 : decode i_Mod_readsRow.2.1 69 = .ok (.ifCond .eq 8, 3) := by decide +kernel
theorem d_Mod_readsRow_72 : decode i_Mod_readsRow.2.1 72 = .ok (.bipush 120, 2) := by decide +kernel
theorem d_Mod_readsRow_74 : decode i_Mod_readsRow.2.1 74 = .ok (.goto 5, 3) := by decide +kernel
theorem d_Mod_readsRow_77 : decode i_Mod_readsRow.2.1 77 = .ok (.bipush 111, 2) := by decide +kernel
theorem d_Mod_readsRow_79 : decode i_Mod_readsRow.2.1 79 = .ok (.invokevirtual 84, 3) := by decide +kernel
theorem d_Mod_readsRow_82 : decode i_Mod_readsRow.2.1 82 = .ok (.istore_n 2, 1) := by decide +kernel
theorem d_Mod_readsRow_83 : decode i_Mod_readsRow.2.1 83 = .ok (.aload_n 0, 1) := by decide +kernel
theorem d_Mod_readsRow_84 : decode i_Mod_readsRow.2.1 84 = .ok (.getfield 25, 3) := by decide +kernel
theorem d_Mod_readsRow_87 : decode i_Mod_readsRow.2.1 87 = .ok (.iconst 4, 1) := by decide +kernel
theorem d_Mod_readsRow_88 : decode i_Mod_readsRow.2.1 88 = .ok (.bipush 8, 2) := by decide +kernel
theorem d_Mod_readsRow_90 : decode i_Mod_readsRow.2.1 90 = .ok (.iload_n 1, 1) := by decide +kernel
theorem d_Mod_readsRow_91 : decode i_Mod_readsRow.2.1 91 = .ok (.imul, 1) := by decide +kernel
theorem d_Mod_readsRow_92 : decode i_Mod_readsRow.2.1 92 = .ok (.iadd, 1) := by decide +kernel
theorem d_Mod_readsRow_93 : decode i_Mod_readsRow.2.1 93 = .ok (.iload_n 3, 1) := by decide +kernel
theorem d_Mod_readsRow_94 : decode i_Mod_readsRow.2.1 94 = .ok (.iadd, 1) := by decide +kernel
theorem d_Mod_readsRow_95 : decode i_Mod_readsRow.2.1 95 = .ok (.iload 4, 2) := by decide +kernel
theorem d_Mod_readsRow_97 : decode i_Mod_readsRow.2.1 97 = .ok (.ifCond .eq 7, 3) := by decide +kernel
theorem d_Mod_readsRow_100 : decode i_Mod_readsRow.2.1 100 = .ok (.iconst 1, 1) := by decide +kernel
theorem d_Mod_readsRow_101 : decode i_Mod_readsRow.2.1 101 = .ok (.goto 4, 3) := by decide +kernel
theorem d_Mod_readsRow_104 : decode i_Mod_readsRow.2.1 104 = .ok (.iconst 0, 1) := by decide +kernel
theorem d_Mod_readsRow_105 : decode i_Mod_readsRow.2.1 105 = .ok (.iastore, 1) := by decide +kernel
theorem d_Mod_readsRow_106 : decode i_Mod_readsRow.2.1 106 = .ok (.iinc 3 1, 3) := by decide +kernel
theorem d_Mod_readsRow_109 : decode i_Mod_readsRow.2.1 109 = .ok (.goto (-105), 3) := by decide +kernel
theorem d_Mod_readsRow_112 : decode i_Mod_readsRow.2.1 112 = .ok (.iload_n 2, 1) := by decide +kernel
theorem d_Mod_readsRow_113 : decode i_Mod_readsRow.2.1 113 = .ok (.ifCond .eq 7, 3) := by decide +kernel
theorem d_Mod_readsRow_116 : decode i_Mod_readsRow.2.1 116 = .ok (.iload_n 2, 1) := by decide +kernel
theorem d_Mod_readsRow_117 : decode i_Mod_readsRow.2.1 117 = .ok (.goto 9, 3) := by decide +kernel
theorem d_Mod_readsRow_120 : decode i_Mod_readsRow.2.1 120 = .ok (.aload_n 0, 1) := by decide +kernel
theorem d_Mod_readsRow_121 : decode i_Mod_readsRow.2.1 121 = .ok (.bipush 59, 2) := by decide +kernel
theorem d_Mod_readsRow_123 : decode i_Mod_readsRow.2.1 123 = .ok (.invokevirtual 88, 3) := by decide +kernel
theorem d_Mod_readsRow_126 : decode i_Mod_readsRow.2.1 126 = .ok (.ireturn, 1) := by decide +kernel
theorem d_Mod_reads_0 : decode i_Mod_reads.2.1 0 = .ok (.aload_n 0, 1) := by decide +kernel
theorem d_Mod_reads_1 : decode i_Mod_reads.2.1 1 = .ok (.iconst 0, 1) := by decide +kernel
theorem d_Mod_reads_2 : decode i_Mod_reads.2.1 2 = .ok (.putfield 81, 3) := by decide +kernel
theorem d_Mod_reads_5 : decode i_Mod_reads.2.1 5 = .ok (.iconst 0, 1) := by decide +kernel
theorem d_Mod_reads_6 : decode i_Mod_reads.2.1 6 = .ok (.istore_n 1, 1) := by decide +kernel
theorem d_Mod_reads_7 : decode i_Mod_reads.2.1 7 = .ok (.iload_n 1, 1) := by decide +kernel
theorem d_Mod_reads_8 : decode i_Mod_reads.2.1 8 = .ok (.bipush 68, 2) := by decide +kernel
theorem d_Mod_reads_10 : decode i_Mod_reads.2.1 10 = .ok (.if_icmp .ge 16, 3) := by decide +kernel
theorem d_Mod_reads_13 : decode i_Mod_reads.2.1 13 = .ok (.aload_n 0, 1) := by decide +kernel
theorem d_Mod_reads_14 : decode i_Mod_reads.2.1 14 = .ok (.getfield 25, 3) := by decide +kernel
theorem d_Mod_reads_17 : decode i_Mod_reads.2.1 17 = .ok (.iload_n 1, 1) := by decide +kernel
theorem d_Mod_reads_18 : decode i_Mod_reads.2.1 18 = .ok (.iconst 0, 1) := by decide +kernel
theorem d_Mod_reads_19 : decode i_Mod_reads.2.1 19 = .ok (.iastore, 1) := by decide +kernel
theorem d_Mod_reads_20 : decode i_Mod_reads.2.1 20 = .ok (.iinc 1 1, 3) := by decide +kernel
theorem d_Mod_reads_23 : decode i_Mod_reads.2.1 23 = .ok (.goto (-16), 3) := by decide +kernel
theorem d_Mod_reads_26 : decode i_Mod_reads.2.1 26 = .ok (.aload_n 0, 1) := by decide +kernel
theorem d_Mod_reads_27 : decode i_Mod_reads.2.1 27 = .ok (.bipush 100, 2) := by decide +kernel
theorem d_Mod_reads_29 : decode i_Mod_reads.2.1 29 = .ok (.invokevirtual 88, 3) := by decide +kernel
theorem d_Mod_reads_32 : decode i_Mod_reads.2.1 32 = .ok (.istore_n 1, 1) := by decide +kernel
theorem d_Mod_reads_33 : decode i_Mod_reads.2.1 33 = .ok (.iconst 0, 1) := by decide +kernel
theorem d_Mod_reads_34 : decode i_Mod_reads.2.1 34 = .ok (.istore_n 2, 1) := by decide +kernel
theorem d_Mod_reads_35 : decode i_Mod_reads.2.1 35 = .ok (.iload_n 2, 1) := by decide +kernel
theorem d_Mod_reads_36 : decode i_Mod_reads.2.1 36 = .ok (.iconst 2, 1) := by decide +kernel
theorem d_Mod_reads_37 : decode i_Mod_reads.2.1 37 = .ok (.if_icmp .ge 59, 3) := by decide +kernel
theorem d_Mod_reads_40 : decode i_Mod_reads.2.1 40 = .ok (.iload_n 1, 1) := by decide +kernel
theorem d_Mod_reads_41 : decode i_Mod_reads.2.1 41 = .ok (.ifCond .ne 55, 3) := by decide +kernel
theorem d_Mod_reads_44 : decode i_Mod_reads.2.1 44 = .ok (.aload_n 0, 1) := by decide +kernel
theorem d_Mod_reads_45 : decode i_Mod_reads.2.1 45 = .ok (.getfield 25, 3) := by decide +kernel
theorem d_Mod_reads_48 : decode i_Mod_reads.2.1 48 = .ok (.iload_n 2, 1) := by decide +kernel
theorem d_Mod_reads_49 : decode i_Mod_reads.2.1 49 = .ok (.aload_n 0, 1) := by decide +kernel
theorem d_Mod_reads_50 : decode i_Mod_reads.2.1 50 = .ok (.getfield 81, 3) := by decide +kernel
theorem d_Mod_reads_53 : decode i_Mod_reads.2.1 53 = .ok (.aload_n 0, 1) := by decide +kernel
theorem d_Mod_reads_54 : decode i_Mod_reads.2.1 54 = .ok (.getfield 76, 3) := by decide +kernel
theorem d_Mod_reads_57 : decode i_Mod_reads.2.1 57 = .ok (.if_icmp .ge 18, 3) := by decide +kernel
theorem d_Mod_reads_60 : decode i_Mod_reads.2.1 60 = .ok (.aload_n 0, 1) := by decide +kernel
theorem d_Mod_reads_61 : decode i_Mod_reads.2.1 61 = .ok (.getfield 22, 3) := by decide +kernel
theorem d_Mod_reads_64 : decode i_Mod_reads.2.1 64 = .ok (.aload_n 0, 1) := by decide +kernel
theorem d_Mod_reads_65 : decode i_Mod_reads.2.1 65 = .ok (.getfield 81, 3) := by decide +kernel
theorem d_Mod_reads_68 : decode i_Mod_reads.2.1 68 = .ok (.iaload, 1) := by decide +kernel
theorem d_Mod_reads_69 : decode i_Mod_reads.2.1 69 = .ok (.bipush 48, 2) := by decide +kernel
theorem d_Mod_reads_71 : decode i_Mod_reads.2.1 71 = .ok (.isub, 1) := by decide +kernel
theorem d_Mod_reads_72 : decode i_Mod_reads.2.1 72 = .ok (.goto 4, 3) := by decide +kernel
theorem d_Mod_reads_75 : decode i_Mod_reads.2.1 75 = .ok (.iconst 0, 1) := by decide +kernel
theorem d_Mod_reads_76 : decode i_Mod_reads.2.1 76 = .ok (.iastore, 1) := by decide +kernel
theorem d_Mod_reads_77 : decode i_Mod_reads.2.1 77 = .ok (.aload_n 0, 1) := by decide +kernel
theorem d_Mod_reads_78 : decode i_Mod_reads.2.1 78 = .ok (.bipush 48, 2) := by decide +kernel
theorem d_Mod_reads_80 : decode i_Mod_reads.2.1 80 = .ok (.bipush 57, 2) := by decide +kernel
theorem d_Mod_reads_82 : decode i_Mod_reads.2.1 82 = .ok (.bipush 49, 2) := by decide +kernel
theorem d_Mod_reads_84 : decode i_Mod_reads.2.1 84 = .ok (.bipush 56, 2) := by decide +kernel
theorem d_Mod_reads_86 : decode i_Mod_reads.2.1 86 = .ok (.invokevirtual 84, 3) := by decide +kernel
theorem d_Mod_reads_89 : decode i_Mod_reads.2.1 89 = .ok (.istore_n 1, 1) := by decide +kernel
theorem d_Mod_reads_90 : decode i_Mod_reads.2.1 90 = .ok (.iinc 2 1, 3) := by decide +kernel
theorem d_Mod_reads_93 : decode i_Mod_reads.2.1 93 = .ok (.goto (-58), 3) := by decide +kernel
theorem d_Mod_reads_96 : decode i_Mod_reads.2.1 96 = .ok (.iload_n 1, 1) := by decide +kernel
theorem d_Mod_reads_97 : decode i_Mod_reads.2.1 97 = .ok (.ifCond .eq 7, 3) := by decide +kernel
theorem d_Mod_reads_100 : decode i_Mod_reads.2.1 100 = .ok (.iload_n 1, 1) := by decide +kernel
theorem d_Mod_reads_101 : decode i_Mod_reads.2.1 101 = .ok (.goto 9, 3) := by decide +kernel
theorem d_Mod_reads_104 : decode i_Mod_reads.2.1 104 = .ok (.aload_n 0, 1) := by decide +kernel
theorem d_Mod_reads_105 : decode i_Mod_reads.2.1 105 = .ok (.bipush 59, 2) := by decide +kernel
theorem d_Mod_reads_107 : decode i_Mod_reads.2.1 107 = .ok (.invokevirtual 88, 3) := by decide +kernel
theorem d_Mod_reads_110 : decode i_Mod_reads.2.1 110 = .ok (.istore_n 1, 1) := by decide +kernel
theorem d_Mod_reads_111 : decode i_Mod_reads.2.1 111 = .ok (.iconst 0, 1) := by decide +kernel
theorem d_Mod_reads_112 : decode i_Mod_reads.2.1 112 = .ok (.istore_n 2, 1) := by decide +kernel
theorem d_Mod_reads_113 : decode i_Mod_reads.2.1 113 = .ok (.iload_n 1, 1) := by decide +kernel
theorem d_Mod_reads_114 : decode i_Mod_reads.2.1 114 = .ok (.ifCond .ne 25, 3) := by decide +kernel
theorem d_Mod_reads_117 : decode i_Mod_reads.2.1 117 = .ok (.iload_n 2, 1) := by decide +kernel
theorem d_Mod_reads_118 : decode i_Mod_reads.2.1 118 = .ok (.aload_n 0, 1) := by decide +kernel
theorem d_Mod_reads_119 : decode i_Mod_reads.2.1 119 = .ok (.getfield 25, 3) := by decide +kernel
theorem d_Mod_reads_122 : decode i_Mod_reads.2.1 122 = .ok (.iconst 1, 1) := by decide +kernel
theorem d_Mod_reads_123 : decode i_Mod_reads.2.1 123 = .ok (.iaload, 1) := by decide +kernel
theorem d_Mod_reads_124 : decode i_Mod_reads.2.1 124 = .ok (.if_icmp .ge 15, 3) := by decide +kernel
theorem d_Mod_reads_127 : decode i_Mod_reads.2.1 127 = .ok (.aload_n 0, 1) := by decide +kernel
theorem d_Mod_reads_128 : decode i_Mod_reads.2.1 128 = .ok (.iload_n 2, 1) := by decide +kernel
theorem d_Mod_reads_129 : decode i_Mod_reads.2.1 129 = .ok (.invokevirtual 92, 3) := by decide +kernel
theorem d_Mod_reads_132 : decode i_Mod_reads.2.1 132 = .ok (.istore_n 1, 1) := by decide +kernel
theorem d_Mod_reads_133 : decode i_Mod_reads.2.1 133 = .ok (.iinc 2 1, 3) := by decide +kernel
theorem d_Mod_reads_136 : decode i_Mod_reads.2.1 136 = .ok (.goto (-23), 3) := by decide +kernel
theorem d_Mod_reads_139 : decode i_Mod_reads.2.1 139 = .ok (.iload_n 1, 1) := by decide +kernel
theorem d_Mod_reads_140 : decode i_Mod_reads.2.1 140 = .ok (.ifCond .eq 7, 3) := by decide +kernel
theorem d_Mod_reads_143 : decode i_Mod_reads.2.1 143 = .ok (.iload_n 1, 1) := by decide +kernel
theorem d_Mod_reads_144 : decode i_Mod_reads.2.1 144 = .ok (.goto 19, 3) := by decide +kernel
theorem d_Mod_reads_147 : decode i_Mod_reads.2.1 147 = .ok (.aload_n 0, 1) := by decide +kernel
theorem d_Mod_reads_148 : decode i_Mod_reads.2.1 148 = .ok (.getfield 81, 3) := by decide +kernel
theorem d_Mod_reads_151 : decode i_Mod_reads.2.1 151 = .ok (.aload_n 0, 1) := by decide +kernel
theorem d_Mod_reads_152 : decode i_Mod_reads.2.1 152 = .ok (.getfield 76, 3) := by decide +kernel
theorem d_Mod_reads_155 : decode i_Mod_reads.2.1 155 = .ok (.if_icmp .ge 7, 3) := by decide +kernel
theorem d_Mod_reads_158 : decode i_Mod_reads.2.1 158 = .ok (.iconst 1, 1) := by decide +kernel
theorem d_Mod_reads_159 : decode i_Mod_reads.2.1 159 = .ok (.goto 4, 3) := by decide +kernel
theorem d_Mod_reads_162 : decode i_Mod_reads.2.1 162 = .ok (.iconst 0, 1) := by decide +kernel
theorem d_Mod_reads_163 : decode i_Mod_reads.2.1 163 = .ok (.ireturn, 1) := by decide +kernel
end
section
theorem d_Mod_picture_0 : decode i_Mod_picture.2.1 0 = .ok (.aload_n 0, 1) := by decide +kernel
theorem d_Mod_picture_1 : decode i_Mod_picture.2.1 1 = .ok (.invokevirtual 95, 3) := by decide +kernel
theorem d_Mod_picture_4 : decode i_Mod_picture.2.1 4 = .ok (.istore_n 1, 1) := by decide +kernel
theorem d_Mod_picture_5 : decode i_Mod_picture.2.1 5 = .ok (.aload_n 0, 1) := by decide +kernel
theorem d_Mod_picture_6 : decode i_Mod_picture.2.1 6 = .ok (.iconst 0, 1) := by decide +kernel
theorem d_Mod_picture_7 : decode i_Mod_picture.2.1 7 = .ok (.putfield 76, 3) := by decide +kernel
theorem d_Mod_picture_10 : decode i_Mod_picture.2.1 10 = .ok (.iload_n 1, 1) := by decide +kernel
theorem d_Mod_picture_11 : decode i_Mod_picture.2.1 11 = .ok (.ifCond .eq 16, 3) := by decide +kernel
theorem d_Mod_picture_14 : decode i_Mod_picture.2.1 14 = .ok (.aload_n 0, 1) := by decide +kernel
theorem d_Mod_picture_15 : decode i_Mod_picture.2.1 15 = .ok (.iload_n 1, 1) := by decide +kernel
theorem d_Mod_picture_16 : decode i_Mod_picture.2.1 16 = .ok (.putfield 99, 3) := by decide +kernel
theorem d_Mod_picture_19 : decode i_Mod_picture.2.1 19 = .ok (.ldc 102, 2) := by decide +kernel
theorem d_Mod_picture_21 : decode i_Mod_picture.2.1 21 = .ok (.aload_n 0, 1) := by decide +kernel
theorem d_Mod_picture_22 : decode i_Mod_picture.2.1 22 = .ok (.getfield 81, 3) := by decide +kernel
theorem d_Mod_picture_25 : decode i_Mod_picture.2.1 25 = .ok (.isub, 1) := by decide +kernel
theorem d_Mod_picture_26 : decode i_Mod_picture.2.1 26 = .ok (.ireturn, 1) := by decide +kernel
theorem d_Mod_picture_27 : decode i_Mod_picture.2.1 27 = .ok (.aload_n 0, 1) := by decide +kernel
theorem d_Mod_picture_28 : decode i_Mod_picture.2.1 28 = .ok (.getfield 25, 3) := by decide +kernel
theorem d_Mod_picture_31 : decode i_Mod_picture.2.1 31 = .ok (.iconst 3, 1) := by decide +kernel
theorem d_Mod_picture_32 : decode i_Mod_picture.2.1 32 = .ok (.bipush 8, 2) := by decide +kernel
theorem d_Mod_picture_34 : decode i_Mod_picture.2.1 34 = .ok (.iastore, 1) := by decide +kernel
theorem d_Mod_picture_35 : decode i_Mod_picture.2.1 35 = .ok (.aload_n 0, 1) := by decide +kernel
theorem d_Mod_picture_36 : decode i_Mod_picture.2.1 36 = .ok (.getfield 25, 3) := by decide +kernel
theorem d_Mod_picture_39 : decode i_Mod_picture.2.1 39 = .ok (.iconst 0, 1) := by decide +kernel
theorem d_Mod_picture_40 : decode i_Mod_picture.2.1 40 = .ok (.aload_n 0, 1) := by decide +kernel
theorem d_Mod_picture_41 : decode i_Mod_picture.2.1 41 = .ok (.getfield 7, 3) := by decide +kernel
theorem d_Mod_picture_44 : decode i_Mod_picture.2.1 44 = .ok (.iconst 0, 1) := by decide +kernel
theorem d_Mod_picture_45 : decode i_Mod_picture.2.1 45 = .ok (.bipush 68, 2) := by decide +kernel
theorem d_Mod_picture_47 : decode i_Mod_picture.2.1 47 = .ok (.invokestatic 103, 3) := by decide +kernel
theorem d_Mod_picture_50 : decode i_Mod_picture.2.1 50 = .ok (.aload_n 0, 1) := by decide +kernel
theorem d_Mod_picture_51 : decode i_Mod_picture.2.1 51 = .ok (.iconst 0, 1) := by decide +kernel
theorem d_Mod_picture_52 : decode i_Mod_picture.2.1 52 = .ok (.putfield 107, 3) := by decide +kernel
theorem d_Mod_picture_55 : decode i_Mod_picture.2.1 55 = .ok (.aload_n 0, 1) := by decide +kernel
theorem d_Mod_picture_56 : decode i_Mod_picture.2.1 56 = .ok (.iconst 0, 1) := by decide +kernel
theorem d_Mod_picture_57 : decode i_Mod_picture.2.1 57 = .ok (.putfield 110, 3) := by decide +kernel
theorem d_Mod_picture_60 : decode i_Mod_picture.2.1 60 = .ok (.aload_n 0, 1) := by decide +kernel
theorem d_Mod_picture_61 : decode i_Mod_picture.2.1 61 = .ok (.invokevirtual 114, 3) := by decide +kernel
theorem d_Mod_picture_64 : decode i_Mod_picture.2.1 64 = .ok (.ireturn, 1) := by decide +kernel
theorem d_Mod_fault_0 : decode i_Mod_fault.2.1 0 = .ok (.aload_n 0, 1) := by decide +kernel
theorem d_Mod_fault_1 : decode i_Mod_fault.2.1 1 = .ok (.getfield 99, 3) := by decide +kernel
theorem d_Mod_fault_4 : decode i_Mod_fault.2.1 4 = .ok (.ireturn, 1) := by decide +kernel
theorem d_Mod_dark_0 : decode i_Mod_dark.2.1 0 = .ok (.iconst 0, 1) := by decide +kernel
theorem d_Mod_dark_1 : decode i_Mod_dark.2.1 1 = .ok (.istore_n 1, 1) := by decide +kernel
theorem d_Mod_dark_2 : decode i_Mod_dark.2.1 2 = .ok (.iconst 4, 1) := by decide +kernel
theorem d_Mod_dark_3 : decode i_Mod_dark.2.1 3 = .ok (.istore_n 2, 1) := by decide +kernel
theorem d_Mod_dark_4 : decode i_Mod_dark.2.1 4 = .ok (.iload_n 2, 1) := by decide +kernel
theorem d_Mod_dark_5 : decode i_Mod_dark.2.1 5 = .ok (.bipush 68, 2) := by decide +kernel
theorem d_Mod_dark_7 : decode i_Mod_dark.2.1 7 = .ok (.if_icmp .ge 18, 3) := by decide +kernel
theorem d_Mod_dark_10 : decode i_Mod_dark.2.1 10 = .ok (.iload_n 1, 1) := by decide +kernel
theorem d_Mod_dark_11 : decode i_Mod_dark.2.1 11 = .ok (.aload_n 0, 1) := by decide +kernel
theorem d_Mod_dark_12 : decode i_Mod_dark.2.1 12 = .ok (.getfield 7, 3) := by decide +kernel
theorem d_Mod_dark_15 : decode i_Mod_dark.2.1 15 = .ok (.iload_n 2, 1) := by decide +kernel
theorem d_Mod_dark_16 : decode i_Mod_dark.2.1 16 = .ok (.iaload, 1) := by decide +kernel
theorem d_Mod_dark_17 : decode i_Mod_dark.2.1 17 = .ok (.iadd, 1) := by decide +kernel
theorem d_Mod_dark_18 : decode i_Mod_dark.2.1 18 = .ok (.istore_n 1, 1) := by decide +kernel
theorem d_Mod_dark_19 : decode i_Mod_dark.2.1 19 = .ok (.iinc 2 1, 3) := by decide +kernel
theorem d_Mod_dark_22 : decode i_Mod_dark.2.1 22 = .ok (.goto (-18), 3) := by decide +kernel
theorem d_Mod_dark_25 : decode i_Mod_dark.2.1 25 = .ok (.iload_n 1, 1) := by decide +kernel
theorem d_Mod_dark_26 : decode i_Mod_dark.2.1 26 = .ok (.ireturn, 1) := by decide +kernel
theorem d_Mod_notes_0 : decode i_Mod_notes.2.1 0 = .ok (.aload_n 0, 1) := by decide +kernel
theorem d_Mod_notes_1 : decode i_Mod_notes.2.1 1 = .ok (.getfield 107, 3) := by decide +kernel
theorem d_Mod_notes_4 : decode i_Mod_notes.2.1 4 = .ok (.bipush 8, 2) := by decide +kernel
theorem d_Mod_notes_6 : decode i_Mod_notes.2.1 6 = .ok (.if_icmp .ne 30, 3) := by decide +kernel
theorem d_Mod_notes_9 : decode i_Mod_notes.2.1 9 = .ok (.aload_n 0, 1) := by decide +kernel
theorem d_Mod_notes_10 : decode i_Mod_notes.2.1 10 = .ok (.getfield 13, 3) := by decide +kernel
theorem d_Mod_notes_13 : decode i_Mod_notes.2.1 13 = .ok (.bipush 68, 2) := by decide +kernel
theorem d_Mod_notes_15 : decode i_Mod_notes.2.1 15 = .ok (.aload_n 0, 1) := by decide +kernel
theorem d_Mod_notes_16 : decode i_Mod_notes.2.1 16 = .ok (.getfield 13, 3) := by decide +kernel
theorem d_Mod_notes_19 : decode i_Mod_notes.2.1 19 = .ok (.iconst 0, 1) := by decide +kernel
theorem d_Mod_notes_20 : decode i_Mod_notes.2.1 20 = .ok (.sipush 476, 3) := by decide +kernel
theorem d_Mod_notes_23 : decode i_Mod_notes.2.1 23 = .ok (.invokestatic 103, 3) := by decide +kernel
theorem d_Mod_notes_26 : decode i_Mod_notes.2.1 26 = .ok (.aload_n 0, 1) := by decide +kernel
theorem d_Mod_notes_27 : decode i_Mod_notes.2.1 27 = .ok (.dup, 1) := by decide +kernel
theorem d_Mod_notes_28 : decode i_Mod_notes.2.1 28 = .ok (.getfield 107, 3) := by decide +kernel
theorem d_Mod_notes_31 : decode i_Mod_notes.2.1 31 = .ok (.iconst 1, 1) := by decide +kernel
theorem d_Mod_notes_32 : decode i_Mod_notes.2.1 32 = .ok (.isub, 1) := by decide +kernel
theorem d_Mod_notes_33 : decode i_Mod_notes.2.1 33 = .ok (.putfield 107, 3) := by decide +kernel
theorem d_Mod_notes_36 : decode i_Mod_notes.2.1 36 = .ok (.aload_n 0, 1) := by decide +kernel
theorem d_Mod_notes_37 : decode i_Mod_notes.2.1 37 = .ok (.getfield 7, 3) := by decide +kernel
theorem d_Mod_notes_40 : decode i_Mod_notes.2.1 40 = .ok (.iconst 0, 1) := by decide +kernel
theorem d_Mod_notes_41 : decode i_Mod_notes.2.1 41 = .ok (.aload_n 0, 1) := by decide +kernel
theorem d_Mod_notes_42 : decode i_Mod_notes.2.1 42 = .ok (.getfield 13, 3) := by decide +kernel
theorem d_Mod_notes_45 : decode i_Mod_notes.2.1 45 = .ok (.bipush 68, 2) := by decide +kernel
theorem d_Mod_notes_47 : decode i_Mod_notes.2.1 47 = .ok (.aload_n 0, 1) := by decide +kernel
theorem d_Mod_notes_48 : decode i_Mod_notes.2.1 48 = .ok (.getfield 107, 3) := by decide +kernel
theorem d_Mod_notes_51 : decode i_Mod_notes.2.1 51 = .ok (.imul, 1) := by decide +kernel
theorem d_Mod_notes_52 : decode i_Mod_notes.2.1 52 = .ok (.bipush 68, 2) := by decide +kernel
theorem d_Mod_notes_54 : decode i_Mod_notes.2.1 54 = .ok (.invokestatic 103, 3) := by decide +kernel
theorem d_Mod_notes_57 : decode i_Mod_notes.2.1 57 = .ok (.aload_n 0, 1) := by decide +kernel
theorem d_Mod_notes_58 : decode i_Mod_notes.2.1 58 = .ok (.dup, 1) := by decide +kernel
theorem d_Mod_notes_59 : decode i_Mod_notes.2.1 59 = .ok (.getfield 107, 3) := by decide +kernel
theorem d_Mod_notes_62 : decode i_Mod_notes.2.1 62 = .ok (.iconst 1, 1) := by decide +kernel
theorem d_Mod_notes_63 : decode i_Mod_notes.2.1 63 = .ok (.iadd, 1) := by decide +kernel
theorem d_Mod_notes_64 : decode i_Mod_notes.2.1 64 = .ok (.putfield 107, 3) := by decide +kernel
theorem d_Mod_notes_67 : decode i_Mod_notes.2.1 67 = .ok (.aload_n 0, 1) := by decide +kernel
theorem d_Mod_notes_68 : decode i_Mod_notes.2.1 68 = .ok (.iconst 0, 1) := by decide +kernel
theorem d_Mod_notes_69 : decode i_Mod_notes.2.1 69 = .ok (.putfield 110, 3) := by decide +kernel
theorem d_Mod_notes_72 : decode i_Mod_notes.2.1 72 = .ok (.return_, 1) := by decide +kernel
theorem d_Mod_undo_0 : decode i_Mod_undo.2.1 0 = .ok (.aload_n 0, 1) := by decide +kernel
theorem d_Mod_undo_1 : decode i_Mod_undo.2.1 1 = .ok (.getfield 107, 3) := by decide +kernel
theorem d_Mod_undo_4 : decode i_Mod_undo.2.1 4 = .ok (.ifCond .ne 6, 3) := by decide +kernel
theorem d_Mod_undo_7 : decode i_Mod_undo.2.1 7 = .ok (.ldc 117, 2) := by decide +kernel
theorem d_Mod_undo_9 : decode i_Mod_undo.2.1 9 = .ok (.ireturn, 1) := by decide +kernel
theorem d_Mod_undo_10 : decode i_Mod_undo.2.1 10 = .ok (.aload_n 0, 1) := by decide +kernel
theorem d_Mod_undo_11 : decode i_Mod_undo.2.1 11 = .ok (.dup, 1) := by decide +kernel
theorem d_Mod_undo_12 : decode i_Mod_undo.2.1 12 = .ok (.getfield 107, 3) := by decide +kernel
theorem d_Mod_undo_15 : decode i_Mod_undo.2.1 15 = .ok (.iconst 1, 1) := by decide +kernel
theorem d_Mod_undo_16 : decode i_Mod_undo.2.1 16 = .ok (.isub, 1) := by decide +kernel
theorem d_Mod_undo_17 : decode i_Mod_undo.2.1 17 = .ok (.putfield 107, 3) := by decide +kernel
theorem d_Mod_undo_20 : decode i_Mod_undo.2.1 20 = .ok (.aload_n 0, 1) := by decide +kernel
theorem d_Mod_undo_21 : decode i_Mod_undo.2.1 21 = .ok (.getfield 13, 3) := by decide +kernel
theorem d_Mod_undo_24 : decode i_Mod_undo.2.1 24 = .ok (.bipush 68, 2) := by decide +kernel
theorem d_Mod_undo_26 : decode i_Mod_undo.2.1 26 = .ok (.aload_n 0, 1) := by decide +kernel
theorem d_Mod_undo_27 : decode i_Mod_undo.2.1 27 = .ok (.getfield 107, 3) := by decide +kernel
theorem d_Mod_undo_30 : decode i_Mod_undo.2.1 30 = .ok (.imul, 1) := by decide +kernel
theorem d_Mod_undo_31 : decode i_Mod_undo.2.1 31 = .ok (.aload_n 0, 1) := by decide +kernel
theorem d_Mod_undo_32 : decode i_Mod_undo.2.1 32 = .ok (.getfield 7, 3) := by decide +kernel
theorem d_Mod_undo_35 : decode i_Mod_undo.2.1 35 = .ok (.iconst 0, 1) := by decide +kernel
theorem d_Mod_undo_36 : decode i_Mod_undo.2.1 36 = .ok (.bipush 68, 2) := by decide +kernel
theorem d_Mod_undo_38 : decode i_Mod_undo.2.1 38 = .ok (.invokestatic 103, 3) := by decide +kernel
theorem d_Mod_undo_41 : decode i_Mod_undo.2.1 41 = .ok (.aload_n 0, 1) := by decide +kernel
theorem d_Mod_undo_42 : decode i_Mod_undo.2.1 42 = .ok (.iconst 0, 1) := by decide +kernel
theorem d_Mod_undo_43 : decode i_Mod_undo.2.1 43 = .ok (.putfield 110, 3) := by decide +kernel
theorem d_Mod_undo_46 : decode i_Mod_undo.2.1 46 = .ok (.aload_n 0, 1) := by decide +kernel
theorem d_Mod_undo_47 : decode i_Mod_undo.2.1 47 = .ok (.getfield 107, 3) := by decide +kernel
theorem d_Mod_undo_50 : decode i_Mod_undo.2.1 50 = .ok (.ireturn, 1) := by decide +kernel
theorem d_Mod_flip_0 : decode i_Mod_flip.2.1 0 = .ok (.aload_n 0, 1) := by decide +kernel
theorem d_Mod_flip_1 : decode i_Mod_flip.2.1 1 = .ok (.iload_n 1, 1) := by decide +kernel
theorem d_Mod_flip_2 : decode i_Mod_flip.2.1 2 = .ok (.iload_n 2, 1) := by decide +kernel
theorem d_Mod_flip_3 : decode i_Mod_flip.2.1 3 = .ok (.invokevirtual 118, 3) := by decide +kernel
theorem d_Mod_flip_6 : decode i_Mod_flip.2.1 6 = .ok (.ifCond .ne 6, 3) := by decide +kernel
theorem d_Mod_flip_9 : decode i_Mod_flip.2.1 9 = .ok (.ldc 75, 2) := by decide +kernel
theorem d_Mod_flip_11 : decode i_Mod_flip.2.1 11 = .ok (.ireturn, 1) := by decide +kernel
theorem d_Mod_flip_12 : decode i_Mod_flip.2.1 12 = .ok (.aload_n 0, 1) := by decide +kernel
theorem d_Mod_flip_13 : decode i_Mod_flip.2.1 13 = .ok (.invokevirtual 122, 3) := by decide +kernel
theorem d_Mod_flip_16 : decode i_Mod_flip.2.1 16 = .ok (.aload_n 0, 1) := by decide +kernel
theorem d_Mod_flip_17 : decode i_Mod_flip.2.1 17 = .ok (.getfield 7, 3) := by decide +kernel
theorem d_Mod_flip_20 : decode i_Mod_flip.2.1 20 = .ok (.iconst 4, 1) := by decide +kernel
theorem d_Mod_flip_21 : decode i_Mod_flip.2.1 21 = .ok (.bipush 8, 2) := by decide +kernel
theorem d_Mod_flip_23 : decode i_Mod_flip.2.1 23 = .ok (.iload_n 2, 1) := by decide +kernel
theorem d_Mod_flip_24 : decode i_Mod_flip.2.1 24 = .ok (.imul, 1) := by decide +kernel
theorem d_Mod_flip_25 : decode i_Mod_flip.2.1 25 = .ok (.iadd, 1) := by decide +kernel
theorem d_Mod_flip_26 : decode i_Mod_flip.2.1 26 = .ok (.iload_n 1, 1) := by decide +kernel
theorem d_Mod_flip_27 : decode i_Mod_flip.2.1 27 = .ok (.iadd, 1) := by decide +kernel
theorem d_Mod_flip_28 : decode i_Mod_flip.2.1 28 = .ok (.iconst 1, 1) := by decide +kernel
theorem d_Mod_flip_29 : decode i_Mod_flip.2.1 29 = .ok (.aload_n 0, 1) := by decide +kernel
theorem d_Mod_flip_30 : decode i_Mod_flip.2.1 30 = .ok (.getfield 7, 3) := by decide +kernel
theorem d_Mod_flip_33 : decode i_Mod_flip.2.1 33 = .ok (.iconst 4, 1) := by decide +kernel
theorem d_Mod_flip_34 : decode i_Mod_flip.2.1 34 = .ok (.bipush 8, 2) := by decide +kernel
theorem d_Mod_flip_36 : decode i_Mod_flip.2.1 36 = .ok (.iload_n 2, 1) := by decide +kernel
theorem d_Mod_flip_37 : decode i_Mod_flip.2.1 37 = .ok (.imul, 1) := by decide +kernel
theorem d_Mod_flip_38 : decode i_Mod_flip.2.1 38 = .ok (.iadd, 1) := by decide +kernel
theorem d_Mod_flip_39 : decode i_Mod_flip.2.1 39 = .ok (.iload_n 1, 1) := by decide +kernel
theorem d_Mod_flip_40 : decode i_Mod_flip.2.1 40 = .ok (.iadd, 1) := by decide +kernel
theorem d_Mod_flip_41 : decode i_Mod_flip.2.1 41 = .ok (.iaload, 1) := by decide +kernel
theorem d_Mod_flip_42 : decode i_Mod_flip.2.1 42 = .ok (.isub, 1) := by decide +kernel
theorem d_Mod_flip_43 : decode i_Mod_flip.2.1 43 = .ok (.iastore, 1) := by decide +kernel
theorem d_Mod_flip_44 : decode i_Mod_flip.2.1 44 = .ok (.aload_n 0, 1) := by decide +kernel
theorem d_Mod_flip_45 : decode i_Mod_flip.2.1 45 = .ok (.getfield 7, 3) := by decide +kernel
theorem d_Mod_flip_48 : decode i_Mod_flip.2.1 48 = .ok (.iconst 4, 1) := by decide +kernel
theorem d_Mod_flip_49 : decode i_Mod_flip.2.1 49 = .ok (.bipush 8, 2) := by decide +kernel
theorem d_Mod_flip_51 : decode i_Mod_flip.2.1 51 = .ok (.iload_n 2, 1) := by decide +kernel
theorem d_Mod_flip_52 : decode i_Mod_flip.2.1 52 = .ok (.imul, 1) := by decide +kernel
theorem d_Mod_flip_53 : decode i_Mod_flip.2.1 53 = .ok (.iadd, 1) := by decide +kernel
theorem d_Mod_flip_54 : decode i_Mod_flip.2.1 54 = .ok (.iload_n 1, 1) := by decide +kernel
theorem d_Mod_flip_55 : decode i_Mod_flip.2.1 55 = .ok (.iadd, 1) := by decide +kernel
theorem d_Mod_flip_56 : decode i_Mod_flip.2.1 56 = .ok (.iaload, 1) := by decide +kernel
theorem d_Mod_flip_57 : decode i_Mod_flip.2.1 57 = .ok (.ireturn, 1) := by decide +kernel
theorem d_Mod_frame_0 : decode i_Mod_frame.2.1 0 = .ok (.aload_n 0, 1) := by decide +kernel
theorem d_Mod_frame_1 : decode i_Mod_frame.2.1 1 = .ok (.iload_n 1, 1) := by decide +kernel
theorem d_Mod_frame_2 : decode i_Mod_frame.2.1 2 = .ok (.iload_n 2, 1) := by decide +kernel
theorem d_Mod_frame_3 : decode i_Mod_frame.2.1 3 = .ok (.invokevirtual 118, 3) := by decide +kernel
theorem d_Mod_frame_6 : decode i_Mod_frame.2.1 6 = .ok (.ifCond .eq 34, 3) := by decide +kernel
theorem d_Mod_frame_9 : decode i_Mod_frame.2.1 9 = .ok (.aload_n 0, 1) := by decide +kernel
theorem d_Mod_frame_10 : decode i_Mod_frame.2.1 10 = .ok (.iload_n 3, 1) := by decide +kernel
theorem d_Mod_frame_11 : decode i_Mod_frame.2.1 11 = .ok (.iload 4, 2) := by decide +kernel
theorem d_Mod_frame_13 : decode i_Mod_frame.2.1 13 = .ok (.invokevirtual 118, 3) := by decide +kernel
theorem d_Mod_frame_16 : decode i_Mod_frame.2.1 16 = .ok (.ifCond .eq 24, 3) := by decide +kernel
theorem d_Mod_frame_19 : decode i_Mod_frame.2.1 19 = .ok (.iload_n 3, 1) := by decide +kernel
theorem d_Mod_frame_20 : decode i_Mod_frame.2.1 20 = .ok (.iload_n 1, 1) := by decide +kernel
theorem d_Mod_frame_21 : decode i_Mod_frame.2.1 21 = .ok (.if_icmp .lt 19, 3) := by decide +kernel
theorem d_Mod_frame_24 : decode i_Mod_frame.2.1 24 = .ok (.iload 4, 2) := by decide +kernel
theorem d_Mod_frame_26 : decode i_Mod_frame.2.1 26 = .ok (.iload_n 2, 1) := by decide +kernel
theorem d_Mod_frame_27 : decode i_Mod_frame.2.1 27 = .ok (.if_icmp .lt 13, 3) := by decide +kernel
theorem d_Mod_frame_30 : decode i_Mod_frame.2.1 30 = .ok (.iload 5, 2) := by decide +kernel
theorem d_Mod_frame_32 : decode i_Mod_frame.2.1 32 = .ok (.iconst 0, 1) := by decide +kernel
theorem d_Mod_frame_33 : decode i_Mod_frame.2.1 33 = .ok (.iconst 2, 1) := by decide +kernel
theorem d_Mod_frame_34 : decode i_Mod_frame.2.1 34 = .ok (.invokestatic 71, 3) := by decide +kernel
theorem d_Mod_frame_37 : decode i_Mod_frame.2.1 37 = .ok (.ifCond .ne 6, 3) := by decide +kernel
theorem d_Mod_frame_40 : decode i_Mod_frame.2.1 40 = .ok (.ldc 75, 2) := by decide +kernel
theorem d_Mod_frame_42 : decode i_Mod_frame.2.1 42 = .ok (.ireturn, 1) := by decide +kernel
theorem d_Mod_frame_43 : decode i_Mod_frame.2.1 43 = .ok (.aload_n 0, 1) := by decide +kernel
theorem d_Mod_frame_44 : decode i_Mod_frame.2.1 44 = .ok (.invokevirtual 122, 3) := by decide +kernel
theorem d_Mod_frame_47 : decode i_Mod_frame.2.1 47 = .ok (.iload_n 1, 1) := by decide +kernel
theorem d_Mod_frame_48 : decode i_Mod_frame.2.1 48 = .ok (.istore 6, 2) := by decide +kernel
theorem d_Mod_frame_50 : decode i_Mod_frame.2.1 50 = .ok (.iload 6, 2) := by decide +kernel
theorem d_Mod_frame_52 : decode i_Mod_frame.2.1 52 = .ok (.iload_n 3, 1) := by decide +kernel
theorem d_Mod_frame_53 : decode i_Mod_frame.2.1 53 = .ok (.if_icmp .gt 64, 3) := by decide +kernel
theorem d_Mod_frame_56 : decode i_Mod_frame.2.1 56 = .ok (.iload_n 2, 1) := by decide +kernel
theorem d_Mod_frame_57 : decode i_Mod_frame.2.1 57 = .ok (.istore 7, 2) := by decide +kernel
theorem d_Mod_frame_59 : decode i_Mod_frame.2.1 59 = .ok (.iload 7, 2) := by decide +kernel
theorem d_Mod_frame_61 : decode i_Mod_frame.2.1 61 = .ok (.iload 4, 2) := by decide +kernel
theorem d_Mod_frame_63 : decode i_Mod_frame.2.1 63 = .ok (.if_icmp .gt 48, 3) := by decide +kernel
theorem d_Mod_frame_66 : decode i_Mod_frame.2.1 66 = .ok (.iconst 4, 1) := by decide +kernel
theorem d_Mod_frame_67 : decode i_Mod_frame.2.1 67 = .ok (.bipush 8, 2) := by decide +kernel
theorem d_Mod_frame_69 : decode i_Mod_frame.2.1 69 = .ok (.iload 7, 2) := by decide +kernel
theorem d_Mod_frame_71 : decode i_Mod_frame.2.1 71 = .ok (.imul, 1) := by decide +kernel
theorem d_Mod_frame_72 : decode i_Mod_frame.2.1 72 = .ok (.iadd, 1) := by decide +kernel
theorem d_Mod_frame_73 : decode i_Mod_frame.2.1 73 = .ok (.iload 6, 2) := by decide +kernel
theorem d_Mod_frame_75 : decode i_Mod_frame.2.1 75 = .ok (.iadd, 1) := by decide +kernel
theorem d_Mod_frame_76 : decode i_Mod_frame.2.1 76 = .ok (.istore 8, 2) := by decide +kernel
theorem d_Mod_frame_78 : decode i_Mod_frame.2.1 78 = .ok (.aload_n 0, 1) := by decide +kernel
theorem d_Mod_frame_79 : decode i_Mod_frame.2.1 79 = .ok (.getfield 7, 3) := by decide +kernel
theorem d_Mod_frame_82 : decode i_Mod_frame.2.1 82 = .ok (.iload 8, 2) := by decide +kernel
theorem d_Mod_frame_84 : decode i_Mod_frame.2.1 84 = .ok (.iload 5, 2) := by decide +kernel
theorem d_Mod_frame_86 : decode i_Mod_frame.2.1 86 = .ok (.iconst 2, 1) := by decide +kernel
theorem d_Mod_frame_87 : decode i_Mod_frame.2.1 87 = .ok (.if_icmp .ge 8, 3) := by decide +kernel
theorem d_Mod_frame_90 : decode i_Mod_frame.2.1 90 = .ok (.iload 5, 2) := by decide +kernel
theorem d_Mod_frame_92 : decode i_Mod_frame.2.1 92 = .ok (.goto 12, 3) := by decide +kernel
theorem d_Mod_frame_95 : decode i_Mod_frame.2.1 95 = .ok (.iconst 1, 1) := by decide +kernel
theorem d_Mod_frame_96 : decode i_Mod_frame.2.1 96 = .ok (.aload_n 0, 1) := by decide +kernel
theorem d_Mod_frame_97 : decode i_Mod_frame.2.1 97 = .ok (.getfield 7, 3) := by decide +kernel
theorem d_Mod_frame_100 : decode i_Mod_frame.2.1 100 = .ok (.iload 8, 2) := by decide +kernel
theorem d_Mod_frame_102 : decode i_Mod_frame.2.1 102 = .ok (.iaload, 1) := by decide +kernel
theorem d_Mod_frame_103 : decode i_Mod_frame.2.1 103 = .ok (.isub, 1) := by decide +kernel
theorem d_Mod_frame_104 : decode i_Mod_frame.2.1 104 = .ok (.iastore, 1) := by decide +kernel
theorem d_Mod_frame_105 : decode i_Mod_frame.2.1 105 = .ok (.iinc 7 1, 3) := by decide +kernel
theorem d_Mod_frame_108 : decode i_Mod_frame.2.1 108 = .ok (.goto (-49), 3) := by decide +kernel
theorem d_Mod_frame_111 : decode i_Mod_frame.2.1 111 = .ok (.iinc 6 1, 3) := by decide +kernel
theorem d_Mod_frame_114 : decode i_Mod_frame.2.1 114 = .ok (.goto (-64), 3) := by decide +kernel
theorem d_Mod_frame_117 : decode i_Mod_frame.2.1 117 = .ok (.aload_n 0, 1) := by decide +kernel
theorem d_Mod_frame_118 : decode i_Mod_frame.2.1 118 = .ok (.invokevirtual 114, 3) := by decide +kernel
theorem d_Mod_frame_121 : decode i_Mod_frame.2.1 121 = .ok (.ireturn, 1) := by decide +kernel
theorem d_Mod_tells_0 : decode i_Mod_tells.2.1 0 = .ok (.aload_n 0, 1) := by decide +kernel
theorem d_Mod_tells_1 : decode i_Mod_tells.2.1 1 = .ok (.invokevirtual 125, 3) := by decide +kernel
theorem d_Mod_tells_4 : decode i_Mod_tells.2.1 4 = .ok (.ifCond .ne 6, 3) := by decide +kernel
theorem d_Mod_tells_7 : decode i_Mod_tells.2.1 7 = .ok (.ldc 117, 2) := by decide +kernel
theorem d_Mod_tells_9 : decode i_Mod_tells.2.1 9 = .ok (.ireturn, 1) := by decide +kernel
theorem d_Mod_tells_10 : decode i_Mod_tells.2.1 10 = .ok (.iload_n 2, 1) := by decide +kernel
theorem d_Mod_tells_11 : decode i_Mod_tells.2.1 11 = .ok (.iload_n 3, 1) := by decide +kernel
theorem d_Mod_tells_12 : decode i_Mod_tells.2.1 12 = .ok (.iload 4, 2) := by decide +kernel
theorem d_Mod_tells_14 : decode i_Mod_tells.2.1 14 = .ok (.invokestatic 71, 3) := by decide +kernel
theorem d_Mod_tells_17 : decode i_Mod_tells.2.1 17 = .ok (.ifCond .ne 6, 3) := by decide +kernel
theorem d_Mod_tells_20 : decode i_Mod_tells.2.1 20 = .ok (.ldc 75, 2) := by decide +kernel
theorem d_Mod_tells_22 : decode i_Mod_tells.2.1 22 = .ok (.ireturn, 1) := by decide +kernel
theorem d_Mod_tells_23 : decode i_Mod_tells.2.1 23 = .ok (.aload_n 0, 1) := by decide +kernel
theorem d_Mod_tells_24 : decode i_Mod_tells.2.1 24 = .ok (.invokevirtual 122, 3) := by decide +kernel
theorem d_Mod_tells_27 : decode i_Mod_tells.2.1 27 = .ok (.aload_n 0, 1) := by decide +kernel
theorem d_Mod_tells_28 : decode i_Mod_tells.2.1 28 = .ok (.getfield 7, 3) := by decide +kernel
theorem d_Mod_tells_31 : decode i_Mod_tells.2.1 31 = .ok (.iload_n 1, 1) := by decide +kernel
theorem d_Mod_tells_32 : decode i_Mod_tells.2.1 32 = .ok (.iaload, 1) := by decide +kernel
theorem d_Mod_tells_33 : decode i_Mod_tells.2.1 33 = .ok (.istore 5, 2) := by decide +kernel
theorem d_Mod_tells_35 : decode i_Mod_tells.2.1 35 = .ok (.aload_n 0, 1) := by decide +kernel
theorem d_Mod_tells_36 : decode i_Mod_tells.2.1 36 = .ok (.getfield 7, 3) := by decide +kernel
theorem d_Mod_tells_39 : decode i_Mod_tells.2.1 39 = .ok (.iload_n 1, 1) := by decide +kernel
theorem d_Mod_tells_40 : decode i_Mod_tells.2.1 40 = .ok (.iload_n 2, 1) := by decide +kernel
theorem d_Mod_tells_41 : decode i_Mod_tells.2.1 41 = .ok (.iastore, 1) := by decide +kernel
theorem d_Mod_tells_42 : decode i_Mod_tells.2.1 42 = .ok (.iload 5, 2) := by decide +kernel
theorem d_Mod_tells_44 : decode i_Mod_tells.2.1 44 = .ok (.ireturn, 1) := by decide +kernel
theorem d_Mod_joined_0 : decode i_Mod_joined.2.1 0 = .ok (.aload_n 0, 1) := by decide +kernel
theorem d_Mod_joined_1 : decode i_Mod_joined.2.1 1 = .ok (.iconst 2, 1) := by decide +kernel
theorem d_Mod_joined_2 : decode i_Mod_joined.2.1 2 = .ok (.iload_n 1, 1) := by decide +kernel
theorem d_Mod_joined_3 : decode i_Mod_joined.2.1 3 = .ok (.iconst 0, 1) := by decide +kernel
theorem d_Mod_joined_4 : decode i_Mod_joined.2.1 4 = .ok (.iconst 1, 1) := by decide +kernel
theorem d_Mod_joined_5 : decode i_Mod_joined.2.1 5 = .ok (.invokevirtual 129, 3) := by decide +kernel
theorem d_Mod_joined_8 : decode i_Mod_joined.2.1 8 = .ok (.ireturn, 1) := by decide +kernel
theorem d_Mod_sharp_0 : decode i_Mod_sharp.2.1 0 = .ok (.aload_n 0, 1) := by decide +kernel
theorem d_Mod_sharp_1 : decode i_Mod_sharp.2.1 1 = .ok (.iconst 3, 1) := by decide +kernel
theorem d_Mod_sharp_2 : decode i_Mod_sharp.2.1 2 = .ok (.iload_n 1, 1) := by decide +kernel
theorem d_Mod_sharp_3 : decode i_Mod_sharp.2.1 3 = .ok (.iconst 1, 1) := by decide +kernel
theorem d_Mod_sharp_4 : decode i_Mod_sharp.2.1 4 = .ok (.bipush 32, 2) := by decide +kernel
theorem d_Mod_sharp_6 : decode i_Mod_sharp.2.1 6 = .ok (.invokevirtual 129, 3) := by decide +kernel
theorem d_Mod_sharp_9 : decode i_Mod_sharp.2.1 9 = .ok (.ireturn, 1) := by decide +kernel
theorem d_Mod_isRest_0 : decode i_Mod_isRest.2.1 0 = .ok (.aload_n 0, 1) := by decide +kernel
theorem d_Mod_isRest_1 : decode i_Mod_isRest.2.1 1 = .ok (.iload_n 1, 1) := by decide +kernel
theorem d_Mod_isRest_2 : decode i_Mod_isRest.2.1 2 = .ok (.iload_n 2, 1) := by decide +kernel
theorem d_Mod_isRest_3 : decode i_Mod_isRest.2.1 3 = .ok (.invokevirtual 118, 3) := by decide +kernel
theorem d_Mod_isRest_6 : decode i_Mod_isRest.2.1 6 = .ok (.ifCond .eq 25, 3) := by decide +kernel
theorem d_Mod_isRest_9 : decode i_Mod_isRest.2.1 9 = .ok (.aload_n 0, 1) := by decide +kernel
theorem d_Mod_isRest_10 : decode i_Mod_isRest.2.1 10 = .ok (.getfield 132, 3) := by decide +kernel
theorem d_Mod_isRest_13 : decode i_Mod_isRest.2.1 13 = .ok (.bipush 8, 2) := by decide +kernel
theorem d_Mod_isRest_15 : decode i_Mod_isRest.2.1 15 = .ok (.iload_n 2, 1) := by decide +kernel
theorem d_Mod_isRest_16 : decode i_Mod_isRest.2.1 16 = .ok (.imul, 1) := by decide +kernel
theorem d_Mod_isRest_17 : decode i_Mod_isRest.2.1 17 = .ok (.iload_n 1, 1) := by decide +kernel
theorem d_Mod_isRest_18 : decode i_Mod_isRest.2.1 18 = .ok (.iadd, 1) := by decide +kernel
theorem d_Mod_isRest_19 : decode i_Mod_isRest.2.1 19 = .ok (.lshr, 1) := by decide +kernel
theorem d_Mod_isRest_20 : decode i_Mod_isRest.2.1 20 = .ok (.lconst 1, 1) := by decide +kernel
theorem d_Mod_isRest_21 : decode i_Mod_isRest.2.1 21 = .ok (.land, 1) := by decide +kernel
theorem d_Mod_isRest_22 : decode i_Mod_isRest.2.1 22 = .ok (.lconst 1, 1) := by decide +kernel
theorem d_Mod_isRest_23 : decode i_Mod_isRest.2.1 23 = .ok (.lcmp, 1) := by decide +kernel
theorem d_Mod_isRest_24 : decode i_Mod_isRest.2.1 24 = .ok (.ifCond .ne 7, 3) := by decide +kernel
theorem d_Mod_isRest_27 : decode i_Mod_isRest.2.1 27 = .ok (.iconst 1, 1) := by decide +kernel
theorem d_Mod_isRest_28 : decode i_Mod_isRest.2.1 28 = .ok (.goto 4, 3) := by decide +kernel
theorem d_Mod_isRest_31 : decode i_Mod_isRest.2.1 31 = .ok (.iconst 0, 1) := by decide +kernel
theorem d_Mod_isRest_32 : decode i_Mod_isRest.2.1 32 = .ok (.ireturn, 1) := by decide +kernel
theorem d_Mod_stepX_0 : decode i_Mod_stepX.2.1 0 = .ok (.iload_n 0, 1) := by decide +kernel
theorem d_Mod_stepX_1 : decode i_Mod_stepX.2.1 1 = .ok (.ifCond .ne 7, 3) := by decide +kernel
theorem d_Mod_stepX_4 : decode i_Mod_stepX.2.1 4 = .ok (.iconst 1, 1) := by decide +kernel
theorem d_Mod_stepX_5 : decode i_Mod_stepX.2.1 5 = .ok (.goto 13, 3) := by decide +kernel
theorem d_Mod_stepX_8 : decode i_Mod_stepX.2.1 8 = .ok (.iload_n 0, 1) := by decide +kernel
theorem d_Mod_stepX_9 : decode i_Mod_stepX.2.1 9 = .ok (.iconst 2, 1) := by decide +kernel
theorem d_Mod_stepX_10 : decode i_Mod_stepX.2.1 10 = .ok (.if_icmp .ne 7, 3) := by decide +kernel
theorem d_Mod_stepX_13 : decode i_Mod_stepX.2.1 13 = .ok (.iconst (-1), 1) := by decide +kernel
theorem d_Mod_stepX_14 : decode i_Mod_stepX.2.1 14 = .ok (.goto 4, 3) := by decide +kernel
theorem d_Mod_stepX_17 : decode i_Mod_stepX.2.1 17 = .ok (.iconst 0, 1) := by decide +kernel
theorem d_Mod_stepX_18 : decode i_Mod_stepX.2.1 18 = .ok (.ireturn, 1) := by decide +kernel
theorem d_Mod_stepY_0 : decode i_Mod_stepY.2.1 0 = .ok (.iload_n 0, 1) := by decide +kernel
theorem d_Mod_stepY_1 : decode i_Mod_stepY.2.1 1 = .ok (.iconst 1, 1) := by decide +kernel
theorem d_Mod_stepY_2 : decode i_Mod_stepY.2.1 2 = .ok (.if_icmp .ne 7, 3) := by decide +kernel
theorem d_Mod_stepY_5 : decode i_Mod_stepY.2.1 5 = .ok (.iconst 1, 1) := by decide +kernel
theorem d_Mod_stepY_6 : decode i_Mod_stepY.2.1 6 = .ok (.goto 13, 3) := by decide +kernel
theorem d_Mod_stepY_9 : decode i_Mod_stepY.2.1 9 = .ok (.iload_n 0, 1) := by decide +kernel
theorem d_Mod_stepY_10 : decode i_Mod_stepY.2.1 10 = .ok (.iconst 3, 1) := by decide +kernel
theorem d_Mod_stepY_11 : decode i_Mod_stepY.2.1 11 = .ok (.if_icmp .ne 7, 3) := by decide +kernel
theorem d_Mod_stepY_14 : decode i_Mod_stepY.2.1 14 = .ok (.iconst (-1), 1) := by decide +kernel
theorem d_Mod_stepY_15 : decode i_Mod_stepY.2.1 15 = .ok (.goto 4, 3) := by decide +kernel
theorem d_Mod_stepY_18 : decode i_Mod_stepY.2.1 18 = .ok (.iconst 0, 1) := by decide +kernel
theorem d_Mod_stepY_19 : decode i_Mod_stepY.2.1 19 = .ok (.ireturn, 1) := by decide +kernel
theorem d_Mod_isBeside_0 : decode i_Mod_isBeside.2.1 0 = .ok (.iload_n 3, 1) := by decide +kernel
theorem d_Mod_isBeside_1 : decode i_Mod_isBeside.2.1 1 = .ok (.invokestatic 136, 3) := by decide +kernel
theorem d_Mod_isBeside_4 : decode i_Mod_isBeside.2.1 4 = .ok (.iload 4, 2) := by decide +kernel
theorem d_Mod_isBeside_6 : decode i_Mod_isBeside.2.1 6 = .ok (.iload_n 3, 1) := by decide +kernel
theorem d_Mod_isBeside_7 : decode i_Mod_isBeside.2.1 7 = .ok (.iconst 1, 1) := by decide +kernel
theorem d_Mod_isBeside_8 : decode i_Mod_isBeside.2.1 8 = .ok (.iadd, 1) := by decide +kernel
theorem d_Mod_isBeside_9 : decode i_Mod_isBeside.2.1 9 = .ok (.iconst 4, 1) := by decide +kernel
theorem d_Mod_isBeside_10 : decode i_Mod_isBeside.2.1 10 = .ok (.irem, 1) := by decide +kernel
theorem d_Mod_isBeside_11 : decode i_Mod_isBeside.2.1 11 = .ok (.invokestatic 136, 3) := by decide +kernel
theorem d_Mod_isBeside_14 : decode i_Mod_isBeside.2.1 14 = .ok (.imul, 1) := by decide +kernel
theorem d_Mod_isBeside_15 : decode i_Mod_isBeside.2.1 15 = .ok (.iadd, 1) := by decide +kernel
theorem d_Mod_isBeside_16 : decode i_Mod_isBeside.2.1 16 = .ok (.istore 5, 2) := by decide +kernel
theorem d_Mod_isBeside_18 : decode i_Mod_isBeside.2.1 18 = .ok (.iload_n 3, 1) := by decide +kernel
theorem d_Mod_isBeside_19 : decode i_Mod_isBeside.2.1 19 = .ok (.invokestatic 139, 3) := by decide +kernel
theorem d_Mod_isBeside_22 : decode i_Mod_isBeside.2.1 22 = .ok (.iload 4, 2) := by decide +kernel
theorem d_Mod_isBeside_24 : decode i_Mod_isBeside.2.1 24 = .ok (.iload_n 3, 1) := by decide +kernel
theorem d_Mod_isBeside_25 : decode i_Mod_isBeside.2.1 25 = .ok (.iconst 1, 1) := by decide +kernel
theorem d_Mod_isBeside_26 : decode i_Mod_isBeside.2.1 26 = .ok (.iadd, 1) := by decide +kernel
theorem d_Mod_isBeside_27 : decode i_Mod_isBeside.2.1 27 = .ok (.iconst 4, 1) := by decide +kernel
theorem d_Mod_isBeside_28 : decode i_Mod_isBeside.2.1 28 = .ok (.irem, 1) := by decide +kernel
theorem d_Mod_isBeside_29 : decode i_Mod_isBeside.2.1 29 = .ok (.invokestatic 139, 3) := by decide +kernel
theorem d_Mod_isBeside_32 : decode i_Mod_isBeside.2.1 32 = .ok (.imul, 1) := by decide +kernel
theorem d_Mod_isBeside_33 : decode i_Mod_isBeside.2.1 33 = .ok (.iadd, 1) := by decide +kernel
theorem d_Mod_isBeside_34 : decode i_Mod_isBeside.2.1 34 = .ok (.istore 6, 2) := by decide +kernel
theorem d_Mod_isBeside_36 : decode i_Mod_isBeside.2.1 36 = .ok (.aload_n 0, 1) := by decide +kernel
theorem d_Mod_isBeside_37 : decode i_Mod_isBeside.2.1 37 = .ok (.iload 5, 2) := by decide +kernel
theorem d_Mod_isBeside_39 : decode i_Mod_isBeside.2.1 39 = .ok (.ifCond .le 7, 3) := by decide +kernel
theorem d_Mod_isBeside_42 : decode i_Mod_isBeside.2.1 42 = .ok (.iload_n 1, 1) := by decide +kernel
theorem d_Mod_isBeside_43 : decode i_Mod_isBeside.2.1 43 = .ok (.goto 6, 3) := by decide +kernel
theorem d_Mod_isBeside_46 : decode i_Mod_isBeside.2.1 46 = .ok (.iload_n 1, 1) := by decide +kernel
theorem d_Mod_isBeside_47 : decode i_Mod_isBeside.2.1 47 = .ok (.iconst 1, 1) := by decide +kernel
theorem d_Mod_isBeside_48 : decode i_Mod_isBeside.2.1 48 = .ok (.isub, 1) := by decide +kernel
theorem d_Mod_isBeside_49 : decode i_Mod_isBeside.2.1 49 = .ok (.iload 6, 2) := by decide +kernel
theorem d_Mod_isBeside_51 : decode i_Mod_isBeside.2.1 51 = .ok (.ifCond .le 7, 3) := by decide +kernel
theorem d_Mod_isBeside_54 : decode i_Mod_isBeside.2.1 54 = .ok (.iload_n 2, 1) := by decide +kernel
theorem d_Mod_isBeside_55 : decode i_Mod_isBeside.2.1 55 = .ok (.goto 6, 3) := by decide +kernel
theorem d_Mod_isBeside_58 : decode i_Mod_isBeside.2.1 58 = .ok (.iload_n 2, 1) := by decide +kernel
theorem d_Mod_isBeside_59 : decode i_Mod_isBeside.2.1 59 = .ok (.iconst 1, 1) := by decide +kernel
theorem d_Mod_isBeside_60 : decode i_Mod_isBeside.2.1 60 = .ok (.isub, 1) := by decide +kernel
theorem d_Mod_isBeside_61 : decode i_Mod_isBeside.2.1 61 = .ok (.invokevirtual 142, 3) := by decide +kernel
theorem d_Mod_isBeside_64 : decode i_Mod_isBeside.2.1 64 = .ok (.ireturn, 1) := by decide +kernel
theorem d_Mod_turns_0 : decode i_Mod_turns.2.1 0 = .ok (.aload_n 0, 1) := by decide +kernel
theorem d_Mod_turns_1 : decode i_Mod_turns.2.1 1 = .ok (.iload_n 1, 1) := by decide +kernel
theorem d_Mod_turns_2 : decode i_Mod_turns.2.1 2 = .ok (.iload_n 2, 1) := by decide +kernel
theorem d_Mod_turns_3 : decode i_Mod_turns.2.1 3 = .ok (.iload_n 3, 1) := by decide +kernel
theorem d_Mod_turns_4 : decode i_Mod_turns.2.1 4 = .ok (.iconst (-1), 1) := by decide +kernel
theorem d_Mod_turns_5 : decode i_Mod_turns.2.1 5 = .ok (.invokevirtual 145, 3) := by decide +kernel
theorem d_Mod_turns_8 : decode i_Mod_turns.2.1 8 = .ok (.istore 4, 2) := by decide +kernel
theorem d_Mod_turns_10 : decode i_Mod_turns.2.1 10 = .ok (.aload_n 0, 1) := by decide +kernel
theorem d_Mod_turns_11 : decode i_Mod_turns.2.1 11 = .ok (.iload_n 1, 1) := by decide +kernel
theorem d_Mod_turns_12 : decode i_Mod_turns.2.1 12 = .ok (.iload_n 2, 1) := by decide +kernel
theorem d_Mod_turns_13 : decode i_Mod_turns.2.1 13 = .ok (.iload_n 3, 1) := by decide +kernel
theorem d_Mod_turns_14 : decode i_Mod_turns.2.1 14 = .ok (.iconst 1, 1) := by decide +kernel
theorem d_Mod_turns_15 : decode i_Mod_turns.2.1 15 = .ok (.invokevirtual 145, 3) := by decide +kernel
theorem d_Mod_turns_18 : decode i_Mod_turns.2.1 18 = .ok (.istore 5, 2) := by decide +kernel
theorem d_Mod_turns_20 : decode i_Mod_turns.2.1 20 = .ok (.iload 4, 2) := by decide +kernel
theorem d_Mod_turns_22 : decode i_Mod_turns.2.1 22 = .ok (.iload 5, 2) := by decide +kernel
theorem d_Mod_turns_24 : decode i_Mod_turns.2.1 24 = .ok (.if_icmp .ne 22, 3) := by decide +kernel
theorem d_Mod_turns_27 : decode i_Mod_turns.2.1 27 = .ok (.iload 4, 2) := by decide +kernel
theorem d_Mod_turns_29 : decode i_Mod_turns.2.1 29 = .ok (.ifCond .eq 11, 3) := by decide +kernel
theorem d_Mod_turns_32 : decode i_Mod_turns.2.1 32 = .ok (.iload_n 3, 1) := by decide +kernel
theorem d_Mod_turns_33 : decode i_Mod_turns.2.1 33 = .ok (.iconst 3, 1) := by decide +kernel
theorem d_Mod_turns_34 : decode i_Mod_turns.2.1 34 = .ok (.iadd, 1) := by decide +kernel
theorem d_Mod_turns_35 : decode i_Mod_turns.2.1 35 = .ok (.iconst 4, 1) := by decide +kernel
theorem d_Mod_turns_36 : decode i_Mod_turns.2.1 36 = .ok (.irem, 1) := by decide +kernel
theorem d_Mod_turns_37 : decode i_Mod_turns.2.1 37 = .ok (.goto 8, 3) := by decide +kernel
theorem d_Mod_turns_40 : decode i_Mod_turns.2.1 40 = .ok (.iload_n 3, 1) := by decide +kernel
theorem d_Mod_turns_41 : decode i_Mod_turns.2.1 41 = .ok (.iconst 1, 1) := by decide +kernel
theorem d_Mod_turns_42 : decode i_Mod_turns.2.1 42 = .ok (.iadd, 1) := by decide +kernel
theorem d_Mod_turns_43 : decode i_Mod_turns.2.1 43 = .ok (.iconst 4, 1) := by decide +kernel
theorem d_Mod_turns_44 : decode i_Mod_turns.2.1 44 = .ok (.irem, 1) := by decide +kernel
theorem d_Mod_turns_45 : decode i_Mod_turns.2.1 45 = .ok (.ireturn, 1) := by decide +kernel
theorem d_Mod_turns_46 : decode i_Mod_turns.2.1 46 = .ok (.iload 5, 2) := by decide +kernel
theorem d_Mod_turns_48 : decode i_Mod_turns.2.1 48 = .ok (.ifCond .eq 5, 3) := by decide +kernel
theorem d_Mod_turns_51 : decode i_Mod_turns.2.1 51 = .ok (.iload_n 3, 1) := by decide +kernel
theorem d_Mod_turns_52 : decode i_Mod_turns.2.1 52 = .ok (.ireturn, 1) := by decide +kernel
theorem d_Mod_turns_53 : decode i_Mod_turns.2.1 53 = .ok (.aload_n 0, 1) := by decide +kernel
theorem d_Mod_turns_54 : decode i_Mod_turns.2.1 54 = .ok (.getfield 7, 3) := by decide +kernel
theorem d_Mod_turns_57 : decode i_Mod_turns.2.1 57 = .ok (.iconst 2, 1) := by decide +kernel
theorem d_Mod_turns_58 : decode i_Mod_turns.2.1 58 = .ok (.iaload, 1) := by decide +kernel
theorem d_Mod_turns_59 : decode i_Mod_turns.2.1 59 = .ok (.ifCond .ne 11, 3) := by decide +kernel
theorem d_Mod_turns_62 : decode i_Mod_turns.2.1 62 = .ok (.iload_n 3, 1) := by decide +kernel
theorem d_Mod_turns_63 : decode i_Mod_turns.2.1 63 = .ok (.iconst 1, 1) := by decide +kernel
theorem d_Mod_turns_64 : decode i_Mod_turns.2.1 64 = .ok (.iadd, 1) := by decide +kernel
theorem d_Mod_turns_65 : decode i_Mod_turns.2.1 65 = .ok (.iconst 4, 1) := by decide +kernel
theorem d_Mod_turns_66 : decode i_Mod_turns.2.1 66 = .ok (.irem, 1) := by decide +kernel
theorem d_Mod_turns_67 : decode i_Mod_turns.2.1 67 = .ok (.goto 8, 3) := by decide +kernel
theorem d_Mod_turns_70 : decode i_Mod_turns.2.1 70 = .ok (.iload_n 3, 1) := by decide +kernel
theorem d_Mod_turns_71 : decode i_Mod_turns.2.1 71 = .ok (.iconst 3, 1) := by decide +kernel
theorem d_Mod_turns_72 : decode i_Mod_turns.2.1 72 = .ok (.iadd, 1) := by decide +kernel
theorem d_Mod_turns_73 : decode i_Mod_turns.2.1 73 = .ok (.iconst 4, 1) := by decide +kernel
theorem d_Mod_turns_74 : decode i_Mod_turns.2.1 74 = .ok (.irem, 1) := by decide +kernel
theorem d_Mod_turns_75 : decode i_Mod_turns.2.1 75 = .ok (.ireturn, 1) := by decide +kernel
theorem d_Mod_walks_0 : decode i_Mod_walks.2.1 0 = .ok (.aload_n 0, 1) := by decide +kernel
theorem d_Mod_walks_1 : decode i_Mod_walks.2.1 1 = .ok (.getfield 34, 3) := by decide +kernel
theorem d_Mod_walks_4 : decode i_Mod_walks.2.1 4 = .ok (.iload_n 2, 1) := by decide +kernel
theorem d_Mod_walks_5 : decode i_Mod_walks.2.1 5 = .ok (.iaload, 1) := by decide +kernel
theorem d_Mod_walks_6 : decode i_Mod_walks.2.1 6 = .ok (.istore_n 3, 1) := by decide +kernel
theorem d_Mod_walks_7 : decode i_Mod_walks.2.1 7 = .ok (.aload_n 0, 1) := by decide +kernel
theorem d_Mod_walks_8 : decode i_Mod_walks.2.1 8 = .ok (.getfield 37, 3) := by decide +kernel
theorem d_Mod_walks_11 : decode i_Mod_walks.2.1 11 = .ok (.iload_n 2, 1) := by decide +kernel
theorem d_Mod_walks_12 : decode i_Mod_walks.2.1 12 = .ok (.iaload, 1) := by decide +kernel
theorem d_Mod_walks_13 : decode i_Mod_walks.2.1 13 = .ok (.istore 4, 2) := by decide +kernel
theorem d_Mod_walks_15 : decode i_Mod_walks.2.1 15 = .ok (.iconst 0, 1) := by decide +kernel
theorem d_Mod_walks_16 : decode i_Mod_walks.2.1 16 = .ok (.istore 5, 2) := by decide +kernel
theorem d_Mod_walks_18 : decode i_Mod_walks.2.1 18 = .ok (.iconst 0, 1) := by decide +kernel
theorem d_Mod_walks_19 : decode i_Mod_walks.2.1 19 = .ok (.istore 6, 2) := by decide +kernel
theorem d_Mod_walks_21 : decode i_Mod_walks.2.1 21 = .ok (.iconst 1, 1) := by decide +kernel
theorem d_Mod_walks_22 : decode i_Mod_walks.2.1 22 = .ok (.istore 7, 2) := by decide +kernel
theorem d_Mod_walks_24 : decode i_Mod_walks.2.1 24 = .ok (.iload 7, 2) := by decide +kernel
theorem d_Mod_walks_26 : decode i_Mod_walks.2.1 26 = .ok (.ifCond .eq 103, 3) := by decide +kernel
theorem d_Mod_walks_29 : decode i_Mod_walks.2.1 29 = .ok (.aload_n 0, 1) := by decide +kernel
theorem d_Mod_walks_30 : decode i_Mod_walks.2.1 30 = .ok (.getfield 44, 3) := by decide +kernel
theorem d_Mod_walks_33 : decode i_Mod_walks.2.1 33 = .ok (.iload_n 1, 1) := by decide +kernel
theorem d_Mod_walks_34 : decode i_Mod_walks.2.1 34 = .ok (.iload 6, 2) := by decide +kernel
theorem d_Mod_walks_36 : decode i_Mod_walks.2.1 36 = .ok (.iadd, 1) := by decide +kernel
theorem d_Mod_walks_37 : decode i_Mod_walks.2.1 37 = .ok (.iload_n 3, 1) := by decide +kernel
theorem d_Mod_walks_38 : decode i_Mod_walks.2.1 38 = .ok (.iastore, 1) := by decide +kernel
theorem d_Mod_walks_39 : decode i_Mod_walks.2.1 39 = .ok (.aload_n 0, 1) := by decide +kernel
theorem d_Mod_walks_40 : decode i_Mod_walks.2.1 40 = .ok (.getfield 47, 3) := by decide +kernel
theorem d_Mod_walks_43 : decode i_Mod_walks.2.1 43 = .ok (.iload_n 1, 1) := by decide +kernel
theorem d_Mod_walks_44 : decode i_Mod_walks.2.1 44 = .ok (.iload 6, 2) := by decide +kernel
theorem d_Mod_walks_46 : decode i_Mod_walks.2.1 46 = .ok (.iadd, 1) := by decide +kernel
theorem d_Mod_walks_47 : decode i_Mod_walks.2.1 47 = .ok (.iload 4, 2) := by decide +kernel
theorem d_Mod_walks_49 : decode i_Mod_walks.2.1 49 = .ok (.iastore, 1) := by decide +kernel
theorem d_Mod_walks_50 : decode i_Mod_walks.2.1 50 = .ok (.aload_n 0, 1) := by decide +kernel
theorem d_Mod_walks_51 : decode i_Mod_walks.2.1 51 = .ok (.getfield 50, 3) := by decide +kernel
theorem d_Mod_walks_54 : decode i_Mod_walks.2.1 54 = .ok (.iload_n 1, 1) := by decide +kernel
theorem d_Mod_walks_55 : decode i_Mod_walks.2.1 55 = .ok (.iload 6, 2) := by decide +kernel
theorem d_Mod_walks_57 : decode i_Mod_walks.2.1 57 = .ok (.iadd, 1) := by decide +kernel
theorem d_Mod_walks_58 : decode i_Mod_walks.2.1 58 = .ok (.iload 5, 2) := by decide +kernel
theorem d_Mod_walks_60 : decode i_Mod_walks.2.1 60 = .ok (.iastore, 1) := by decide +kernel
theorem d_Mod_walks_61 : decode i_Mod_walks.2.1 61 = .ok (.iinc 6 1, 3) := by decide +kernel
theorem d_Mod_walks_64 : decode i_Mod_walks.2.1 64 = .ok (.iload_n 3, 1) := by decide +kernel
theorem d_Mod_walks_65 : decode i_Mod_walks.2.1 65 = .ok (.iload 5, 2) := by decide +kernel
theorem d_Mod_walks_67 : decode i_Mod_walks.2.1 67 = .ok (.invokestatic 136, 3) := by decide +kernel
theorem d_Mod_walks_70 : decode i_Mod_walks.2.1 70 = .ok (.iadd, 1) := by decide +kernel
theorem d_Mod_walks_71 : decode i_Mod_walks.2.1 71 = .ok (.istore_n 3, 1) := by decide +kernel
theorem d_Mod_walks_72 : decode i_Mod_walks.2.1 72 = .ok (.iload 4, 2) := by decide +kernel
theorem d_Mod_walks_74 : decode i_Mod_walks.2.1 74 = .ok (.iload 5, 2) := by decide +kernel
theorem d_Mod_walks_76 : decode i_Mod_walks.2.1 76 = .ok (.invokestatic 139, 3) := by decide +kernel
theorem d_Mod_walks_79 : decode i_Mod_walks.2.1 79 = .ok (.iadd, 1) := by decide +kernel
theorem d_Mod_walks_80 : decode i_Mod_walks.2.1 80 = .ok (.istore 4, 2) := by decide +kernel
theorem d_Mod_walks_82 : decode i_Mod_walks.2.1 82 = .ok (.aload_n 0, 1) := by decide +kernel
theorem d_Mod_walks_83 : decode i_Mod_walks.2.1 83 = .ok (.iload_n 3, 1) := by decide +kernel
theorem d_Mod_walks_84 : decode i_Mod_walks.2.1 84 = .ok (.iload 4, 2) := by decide +kernel
theorem d_Mod_walks_86 : decode i_Mod_walks.2.1 86 = .ok (.iload 5, 2) := by decide +kernel
theorem d_Mod_walks_88 : decode i_Mod_walks.2.1 88 = .ok (.invokevirtual 149, 3) := by decide +kernel
theorem d_Mod_walks_91 : decode i_Mod_walks.2.1 91 = .ok (.istore 5, 2) := by decide +kernel
theorem d_Mod_walks_93 : decode i_Mod_walks.2.1 93 = .ok (.iload_n 3, 1) := by decide +kernel
theorem d_Mod_walks_94 : decode i_Mod_walks.2.1 94 = .ok (.aload_n 0, 1) := by decide +kernel
theorem d_Mod_walks_95 : decode i_Mod_walks.2.1 95 = .ok (.getfield 34, 3) := by decide +kernel
theorem d_Mod_walks_98 : decode i_Mod_walks.2.1 98 = .ok (.iload_n 2, 1) := by decide +kernel
theorem d_Mod_walks_99 : decode i_Mod_walks.2.1 99 = .ok (.iaload, 1) := by decide +kernel
theorem d_Mod_walks_100 : decode i_Mod_walks.2.1 100 = .ok (.if_icmp .ne 19, 3) := by decide +kernel
theorem d_Mod_walks_103 : decode i_Mod_walks.2.1 103 = .ok (.iload 4, 2) := by decide +kernel
theorem d_Mod_walks_105 : decode i_Mod_walks.2.1 105 = .ok (.aload_n 0, 1) := by decide +kernel
theorem d_Mod_walks_106 : decode i_Mod_walks.2.1 106 = .ok (.getfield 37, 3) := by decide +kernel
theorem d_Mod_walks_109 : decode i_Mod_walks.2.1 109 = .ok (.iload_n 2, 1) := by decide +kernel
theorem d_Mod_walks_110 : decode i_Mod_walks.2.1 110 = .ok (.iaload, 1) := by decide +kernel
theorem d_Mod_walks_111 : decode i_Mod_walks.2.1 111 = .ok (.if_icmp .ne 8, 3) := by decide +kernel
theorem d_Mod_walks_114 : decode i_Mod_walks.2.1 114 = .ok (.iload 5, 2) := by decide +kernel
theorem d_Mod_walks_116 : decode i_Mod_walks.2.1 116 = .ok (.ifCond .eq 7, 3) := by decide +kernel
theorem d_Mod_walks_119 : decode i_Mod_walks.2.1 119 = .ok (.iconst 1, 1) := by decide +kernel
theorem d_Mod_walks_120 : decode i_Mod_walks.2.1 120 = .ok (.goto 4, 3) := by decide +kernel
theorem d_Mod_walks_123 : decode i_Mod_walks.2.1 123 = .ok (.iconst 0, 1) := by decide +kernel
theorem d_Mod_walks_124 : decode i_Mod_walks.2.1 124 = .ok (.istore 7, 2) := by decide +kernel
theorem d_Mod_walks_126 : decode i_Mod_walks.2.1 126 = .ok (.goto (-102), 3) := by decide +kernel
theorem d_Mod_walks_129 : decode i_Mod_walks.2.1 129 = .ok (.aload_n 0, 1) := by decide +kernel
theorem d_Mod_walks_130 : decode i_Mod_walks.2.1 130 = .ok (.getfield 28, 3) := by decide +kernel
theorem d_Mod_walks_133 : decode i_Mod_walks.2.1 133 = .ok (.iload_n 2, 1) := by decide +kernel
theorem d_Mod_walks_134 : decode i_Mod_walks.2.1 134 = .ok (.iload_n 1, 1) := by decide +kernel
theorem d_Mod_walks_135 : decode i_Mod_walks.2.1 135 = .ok (.iastore, 1) := by decide +kernel
theorem d_Mod_walks_136 : decode i_Mod_walks.2.1 136 = .ok (.aload_n 0, 1) := by decide +kernel
theorem d_Mod_walks_137 : decode i_Mod_walks.2.1 137 = .ok (.getfield 31, 3) := by decide +kernel
theorem d_Mod_walks_140 : decode i_Mod_walks.2.1 140 = .ok (.iload_n 2, 1) := by decide +kernel
theorem d_Mod_walks_141 : decode i_Mod_walks.2.1 141 = .ok (.iload 6, 2) := by decide +kernel
theorem d_Mod_walks_143 : decode i_Mod_walks.2.1 143 = .ok (.iastore, 1) := by decide +kernel
theorem d_Mod_walks_144 : decode i_Mod_walks.2.1 144 = .ok (.return_, 1) := by decide +kernel
theorem d_Mod_isWithin_0 : decode i_Mod_isWithin.2.1 0 = .ok (.iconst 0, 1) := by decide +kernel
theorem d_Mod_isWithin_1 : decode i_Mod_isWithin.2.1 1 = .ok (.istore 4, 2) := by decide +kernel
theorem d_Mod_isWithin_3 : decode i_Mod_isWithin.2.1 3 = .ok (.aload_n 0, 1) := by decide +kernel
theorem d_Mod_isWithin_4 : decode i_Mod_isWithin.2.1 4 = .ok (.getfield 28, 3) := by decide +kernel
theorem d_Mod_isWithin_7 : decode i_Mod_isWithin.2.1 7 = .ok (.iload_n 1, 1) := by decide +kernel
theorem d_Mod_isWithin_8 : decode i_Mod_isWithin.2.1 8 = .ok (.iaload, 1) := by decide +kernel
theorem d_Mod_isWithin_9 : decode i_Mod_isWithin.2.1 9 = .ok (.istore 5, 2) := by decide +kernel
theorem d_Mod_isWithin_11 : decode i_Mod_isWithin.2.1 11 = .ok (.iload 5, 2) := by decide +kernel
theorem d_Mod_isWithin_13 : decode i_Mod_isWithin.2.1 13 = .ok (.aload_n 0, 1) := by decide +kernel
theorem d_Mod_isWithin_14 : decode i_Mod_isWithin.2.1 14 = .ok (.getfield 28, 3) := by decide +kernel
theorem d_Mod_isWithin_17 : decode i_Mod_isWithin.2.1 17 = .ok (.iload_n 1, 1) := by decide +kernel
theorem d_Mod_isWithin_18 : decode i_Mod_isWithin.2.1 18 = .ok (.iaload, 1) := by decide +kernel
theorem d_Mod_isWithin_19 : decode i_Mod_isWithin.2.1 19 = .ok (.aload_n 0, 1) := by decide +kernel
theorem d_Mod_isWithin_20 : decode i_Mod_isWithin.2.1 20 = .ok (.getfield 31, 3) := by decide +kernel
theorem d_Mod_isWithin_23 : decode i_Mod_isWithin.2.1 23 = .ok (.iload_n 1, 1) := by decide +kernel
theorem d_Mod_isWithin_24 : decode i_Mod_isWithin.2.1 24 = .ok (.iaload, 1) := by decide +kernel
theorem d_Mod_isWithin_25 : decode i_Mod_isWithin.2.1 25 = .ok (.iadd, 1) := by decide +kernel
theorem d_Mod_isWithin_26 : decode i_Mod_isWithin.2.1 26 = .ok (.if_icmp .ge 83, 3) := by decide +kernel
theorem d_Mod_isWithin_29 : decode i_Mod_isWithin.2.1 29 = .ok (.aload_n 0, 1) := by decide +kernel
theorem d_Mod_isWithin_30 : decode i_Mod_isWithin.2.1 30 = .ok (.getfield 50, 3) := by decide +kernel
theorem d_Mod_isWithin_33 : decode i_Mod_isWithin.2.1 33 = .ok (.iload 5, 2) := by decide +kernel
theorem d_Mod_isWithin_35 : decode i_Mod_isWithin.2.1 35 = .ok (.iaload, 1) := by decide +kernel
theorem d_Mod_isWithin_36 : decode i_Mod_isWithin.2.1 36 = .ok (.iconst 1, 1) := by decide +kernel
theorem d_Mod_isWithin_37 : decode i_Mod_isWithin.2.1 37 = .ok (.if_icmp .ne 13, 3) := by decide +kernel
theorem d_Mod_isWithin_40 : decode i_Mod_isWithin.2.1 40 = .ok (.aload_n 0, 1) := by decide +kernel
theorem d_Mod_isWithin_41 : decode i_Mod_isWithin.2.1 41 = .ok (.getfield 47, 3) := by decide +kernel
theorem d_Mod_isWithin_44 : decode i_Mod_isWithin.2.1 44 = .ok (.iload 5, 2) := by decide +kernel
theorem d_Mod_isWithin_46 : decode i_Mod_isWithin.2.1 46 = .ok (.iaload, 1) := by decide +kernel
theorem d_Mod_isWithin_47 : decode i_Mod_isWithin.2.1 47 = .ok (.goto 27, 3) := by decide +kernel
theorem d_Mod_isWithin_50 : decode i_Mod_isWithin.2.1 50 = .ok (.aload_n 0, 1) := by decide +kernel
theorem d_Mod_isWithin_51 : decode i_Mod_isWithin.2.1 51 = .ok (.getfield 50, 3) := by decide +kernel
theorem d_Mod_isWithin_54 : decode i_Mod_isWithin.2.1 54 = .ok (.iload 5, 2) := by decide +kernel
theorem d_Mod_isWithin_56 : decode i_Mod_isWithin.2.1 56 = .ok (.iaload, 1) := by decide +kernel
theorem d_Mod_isWithin_57 : decode i_Mod_isWithin.2.1 57 = .ok (.iconst 3, 1) := by decide +kernel
theorem d_Mod_isWithin_58 : decode i_Mod_isWithin.2.1 58 = .ok (.if_icmp .ne 15, 3) := by decide +kernel
theorem d_Mod_isWithin_61 : decode i_Mod_isWithin.2.1 61 = .ok (.aload_n 0, 1) := by decide +kernel
theorem d_Mod_isWithin_62 : decode i_Mod_isWithin.2.1 62 = .ok (.getfield 47, 3) := by decide +kernel
theorem d_Mod_isWithin_65 : decode i_Mod_isWithin.2.1 65 = .ok (.iload 5, 2) := by decide +kernel
theorem d_Mod_isWithin_67 : decode i_Mod_isWithin.2.1 67 = .ok (.iaload, 1) := by decide +kernel
theorem d_Mod_isWithin_68 : decode i_Mod_isWithin.2.1 68 = .ok (.iconst 1, 1) := by decide +kernel
theorem d_Mod_isWithin_69 : decode i_Mod_isWithin.2.1 69 = .ok (.isub, 1) := by decide +kernel
theorem d_Mod_isWithin_70 : decode i_Mod_isWithin.2.1 70 = .ok (.goto 4, 3) := by decide +kernel
theorem d_Mod_isWithin_73 : decode i_Mod_isWithin.2.1 73 = .ok (.iconst (-1), 1) := by decide +kernel
theorem d_Mod_isWithin_74 : decode i_Mod_isWithin.2.1 74 = .ok (.istore 6, 2) := by decide +kernel
theorem d_Mod_isWithin_76 : decode i_Mod_isWithin.2.1 76 = .ok (.iload 4, 2) := by decide +kernel
theorem d_Mod_isWithin_78 : decode i_Mod_isWithin.2.1 78 = .ok (.iload 6, 2) := by decide +kernel
theorem d_Mod_isWithin_80 : decode i_Mod_isWithin.2.1 80 = .ok (.iload_n 3, 1) := by decide +kernel
theorem d_Mod_isWithin_81 : decode i_Mod_isWithin.2.1 81 = .ok (.if_icmp .ne 18, 3) := by decide +kernel
theorem d_Mod_isWithin_84 : decode i_Mod_isWithin.2.1 84 = .ok (.aload_n 0, 1) := by decide +kernel
theorem d_Mod_isWithin_85 : decode i_Mod_isWithin.2.1 85 = .ok (.getfield 44, 3) := by decide +kernel
theorem d_Mod_isWithin_88 : decode i_Mod_isWithin.2.1 88 = .ok (.iload 5, 2) := by decide +kernel
theorem d_Mod_isWithin_90 : decode i_Mod_isWithin.2.1 90 = .ok (.iaload, 1) := by decide +kernel
theorem d_Mod_isWithin_91 : decode i_Mod_isWithin.2.1 91 = .ok (.iload_n 2, 1) := by decide +kernel
theorem d_Mod_isWithin_92 : decode i_Mod_isWithin.2.1 92 = .ok (.if_icmp .gt 7, 3) := by decide +kernel
theorem d_Mod_isWithin_95 : decode i_Mod_isWithin.2.1 95 = .ok (.iconst 1, 1) := by decide +kernel
theorem d_Mod_isWithin_96 : decode i_Mod_isWithin.2.1 96 = .ok (.goto 4, 3) := by decide +kernel
theorem d_Mod_isWithin_99 : decode i_Mod_isWithin.2.1 99 = .ok (.iconst 0, 1) := by decide +kernel
theorem d_Mod_isWithin_100 : decode i_Mod_isWithin.2.1 100 = .ok (.iadd, 1) := by decide +kernel
theorem d_Mod_isWithin_101 : decode i_Mod_isWithin.2.1 101 = .ok (.istore 4, 2) := by decide +kernel
theorem d_Mod_isWithin_103 : decode i_Mod_isWithin.2.1 103 = .ok (.iinc 5 1, 3) := by decide +kernel
theorem d_Mod_isWithin_106 : decode i_Mod_isWithin.2.1 106 = .ok (.goto (-95), 3) := by decide +kernel
theorem d_Mod_isWithin_109 : decode i_Mod_isWithin.2.1 109 = .ok (.iload 4, 2) := by decide +kernel
theorem d_Mod_isWithin_111 : decode i_Mod_isWithin.2.1 111 = .ok (.iconst 2, 1) := by decide +kernel
theorem d_Mod_isWithin_112 : decode i_Mod_isWithin.2.1 112 = .ok (.irem, 1) := by decide +kernel
theorem d_Mod_isWithin_113 : decode i_Mod_isWithin.2.1 113 = .ok (.iconst 1, 1) := by decide +kernel
theorem d_Mod_isWithin_114 : decode i_Mod_isWithin.2.1 114 = .ok (.if_icmp .ne 7, 3) := by decide +kernel
theorem d_Mod_isWithin_117 : decode i_Mod_isWithin.2.1 117 = .ok (.iconst 1, 1) := by decide +kernel
theorem d_Mod_isWithin_118 : decode i_Mod_isWithin.2.1 118 = .ok (.goto 4, 3) := by decide +kernel
theorem d_Mod_isWithin_121 : decode i_Mod_isWithin.2.1 121 = .ok (.iconst 0, 1) := by decide +kernel
theorem d_Mod_isWithin_122 : decode i_Mod_isWithin.2.1 122 = .ok (.ireturn, 1) := by decide +kernel
theorem d_Mod_lays_0 : decode i_Mod_lays.2.1 0 = .ok (.aload_n 0, 1) := by decide +kernel
theorem d_Mod_lays_1 : decode i_Mod_lays.2.1 1 = .ok (.getfield 110, 3) := by decide +kernel
theorem d_Mod_lays_4 : decode i_Mod_lays.2.1 4 = .ok (.ifCond .eq 4, 3) := by decide +kernel
theorem d_Mod_lays_7 : decode i_Mod_lays.2.1 7 = .ok (.return_, 1) := by decide +kernel
theorem d_Mod_lays_8 : decode i_Mod_lays.2.1 8 = .ok (.aload_n 0, 1) := by decide +kernel
theorem d_Mod_lays_9 : decode i_Mod_lays.2.1 9 = .ok (.iconst 1, 1) := by decide +kernel
theorem d_Mod_lays_10 : decode i_Mod_lays.2.1 10 = .ok (.putfield 110, 3) := by decide +kernel
theorem d_Mod_lays_13 : decode i_Mod_lays.2.1 13 = .ok (.aload_n 0, 1) := by decide +kernel
theorem d_Mod_lays_14 : decode i_Mod_lays.2.1 14 = .ok (.iconst (-1), 1) := by decide +kernel
theorem d_Mod_lays_15 : decode i_Mod_lays.2.1 15 = .ok (.putfield 153, 3) := by decide +kernel
theorem d_Mod_lays_18 : decode i_Mod_lays.2.1 18 = .ok (.aload_n 0, 1) := by decide +kernel
theorem d_Mod_lays_19 : decode i_Mod_lays.2.1 19 = .ok (.iconst 0, 1) := by decide +kernel
theorem d_Mod_lays_20 : decode i_Mod_lays.2.1 20 = .ok (.putfield 156, 3) := by decide +kernel
theorem d_Mod_lays_23 : decode i_Mod_lays.2.1 23 = .ok (.aload_n 0, 1) := by decide +kernel
theorem d_Mod_lays_24 : decode i_Mod_lays.2.1 24 = .ok (.lconst 0, 1) := by decide +kernel
theorem d_Mod_lays_25 : decode i_Mod_lays.2.1 25 = .ok (.putfield 132, 3) := by decide +kernel
theorem d_Mod_lays_28 : decode i_Mod_lays.2.1 28 = .ok (.iconst 0, 1) := by decide +kernel
theorem d_Mod_lays_29 : decode i_Mod_lays.2.1 29 = .ok (.istore_n 1, 1) := by decide +kernel
theorem d_Mod_lays_30 : decode i_Mod_lays.2.1 30 = .ok (.iload_n 1, 1) := by decide +kernel
theorem d_Mod_lays_31 : decode i_Mod_lays.2.1 31 = .ok (.bipush 64, 2) := by decide +kernel
theorem d_Mod_lays_33 : decode i_Mod_lays.2.1 33 = .ok (.if_icmp .ge 29, 3) := by decide +kernel
theorem d_Mod_lays_36 : decode i_Mod_lays.2.1 36 = .ok (.aload_n 0, 1) := by decide +kernel
theorem d_Mod_lays_37 : decode i_Mod_lays.2.1 37 = .ok (.dup, 1) := by decide +kernel
theorem d_Mod_lays_38 : decode i_Mod_lays.2.1 38 = .ok (.getfield 132, 3) := by decide +kernel
theorem d_Mod_lays_41 : decode i_Mod_lays.2.1 41 = .ok (.aload_n 0, 1) := by decide +kernel
theorem d_Mod_lays_42 : decode i_Mod_lays.2.1 42 = .ok (.getfield 7, 3) := by decide +kernel
theorem d_Mod_lays_45 : decode i_Mod_lays.2.1 45 = .ok (.iconst 4, 1) := by decide +kernel
theorem d_Mod_lays_46 : decode i_Mod_lays.2.1 46 = .ok (.iload_n 1, 1) := by decide +kernel
theorem d_Mod_lays_47 : decode i_Mod_lays.2.1 47 = .ok (.iadd, 1) := by decide +kernel
theorem d_Mod_lays_48 : decode i_Mod_lays.2.1 48 = .ok (.iaload, 1) := by decide +kernel
theorem d_Mod_lays_49 : decode i_Mod_lays.2.1 49 = .ok (.i2l, 1) := by decide +kernel
theorem d_Mod_lays_50 : decode i_Mod_lays.2.1 50 = .ok (.iload_n 1, 1) := by decide +kernel
theorem d_Mod_lays_51 : decode i_Mod_lays.2.1 51 = .ok (.lshl, 1) := by decide +kernel
theorem d_Mod_lays_52 : decode i_Mod_lays.2.1 52 = .ok (.lor, 1) := by decide +kernel
theorem d_Mod_lays_53 : decode i_Mod_lays.2.1 53 = .ok (.putfield 132, 3) := by decide +kernel
theorem d_Mod_lays_56 : decode i_Mod_lays.2.1 56 = .ok (.iinc 1 1, 3) := by decide +kernel
theorem d_Mod_lays_59 : decode i_Mod_lays.2.1 59 = .ok (.goto (-29), 3) := by decide +kernel
theorem d_Mod_lays_62 : decode i_Mod_lays.2.1 62 = .ok (.iconst 0, 1) := by decide +kernel
theorem d_Mod_lays_63 : decode i_Mod_lays.2.1 63 = .ok (.istore_n 1, 1) := by decide +kernel
theorem d_Mod_lays_64 : decode i_Mod_lays.2.1 64 = .ok (.aload_n 0, 1) := by decide +kernel
theorem d_Mod_lays_65 : decode i_Mod_lays.2.1 65 = .ok (.getfield 132, 3) := by decide +kernel
theorem d_Mod_lays_68 : decode i_Mod_lays.2.1 68 = .ok (.lconst 0, 1) := by decide +kernel
theorem d_Mod_lays_69 : decode i_Mod_lays.2.1 69 = .ok (.lcmp, 1) := by decide +kernel
theorem d_Mod_lays_70 : decode i_Mod_lays.2.1 70 = .ok (.ifCond .eq 179, 3) := by decide +kernel
theorem d_Mod_lays_73 : decode i_Mod_lays.2.1 73 = .ok (.iconst 0, 1) := by decide +kernel
theorem d_Mod_lays_74 : decode i_Mod_lays.2.1 74 = .ok (.istore_n 2, 1) := by decide +kernel
theorem d_Mod_lays_75 : decode i_Mod_lays.2.1 75 = .ok (.aload_n 0, 1) := by decide +kernel
theorem d_Mod_lays_76 : decode i_Mod_lays.2.1 76 = .ok (.getfield 132, 3) := by decide +kernel
theorem d_Mod_lays_79 : decode i_Mod_lays.2.1 79 = .ok (.iload_n 2, 1) := by decide +kernel
theorem d_Mod_lays_80 : decode i_Mod_lays.2.1 80 = .ok (.lshr, 1) := by decide +kernel
theorem d_Mod_lays_81 : decode i_Mod_lays.2.1 81 = .ok (.lconst 1, 1) := by decide +kernel
theorem d_Mod_lays_82 : decode i_Mod_lays.2.1 82 = .ok (.land, 1) := by decide +kernel
theorem d_Mod_lays_83 : decode i_Mod_lays.2.1 83 = .ok (.lconst 0, 1) := by decide +kernel
theorem d_Mod_lays_84 : decode i_Mod_lays.2.1 84 = .ok (.lcmp, 1) := by decide +kernel
theorem d_Mod_lays_85 : decode i_Mod_lays.2.1 85 = .ok (.ifCond .ne 9, 3) := by decide +kernel
theorem d_Mod_lays_88 : decode i_Mod_lays.2.1 88 = .ok (.iinc 2 1, 3) := by decide +kernel
theorem d_Mod_lays_91 : decode i_Mod_lays.2.1 91 = .ok (.goto (-16), 3) := by decide +kernel
theorem d_Mod_lays_94 : decode i_Mod_lays.2.1 94 = .ok (.aload_n 0, 1) := by decide +kernel
theorem d_Mod_lays_95 : decode i_Mod_lays.2.1 95 = .ok (.getfield 34, 3) := by decide +kernel
theorem d_Mod_lays_98 : decode i_Mod_lays.2.1 98 = .ok (.aload_n 0, 1) := by decide +kernel
theorem d_Mod_lays_99 : decode i_Mod_lays.2.1 99 = .ok (.getfield 156, 3) := by decide +kernel
theorem d_Mod_lays_102 : decode i_Mod_lays.2.1 102 = .ok (.iload_n 2, 1) := by decide +kernel
theorem d_Mod_lays_103 : decode i_Mod_lays.2.1 103 = .ok (.bipush 8, 2) := by decide +kernel
theorem d_Mod_lays_105 : decode i_Mod_lays.2.1 105 = .ok (.irem, 1) := by decide +kernel
theorem d_Mod_lays_106 : decode i_Mod_lays.2.1 106 = .ok (.iastore, 1) := by decide +kernel
theorem d_Mod_lays_107 : decode i_Mod_lays.2.1 107 = .ok (.aload_n 0, 1) := by decide +kernel
theorem d_Mod_lays_108 : decode i_Mod_lays.2.1 108 = .ok (.getfield 37, 3) := by decide +kernel
theorem d_Mod_lays_111 : decode i_Mod_lays.2.1 111 = .ok (.aload_n 0, 1) := by decide +kernel
theorem d_Mod_lays_112 : decode i_Mod_lays.2.1 112 = .ok (.getfield 156, 3) := by decide +kernel
theorem d_Mod_lays_115 : decode i_Mod_lays.2.1 115 = .ok (.iload_n 2, 1) := by decide +kernel
theorem d_Mod_lays_116 : decode i_Mod_lays.2.1 116 = .ok (.bipush 8, 2) := by decide +kernel
theorem d_Mod_lays_118 : decode i_Mod_lays.2.1 118 = .ok (.idiv, 1) := by decide +kernel
theorem d_Mod_lays_119 : decode i_Mod_lays.2.1 119 = .ok (.iastore, 1) := by decide +kernel
theorem d_Mod_lays_120 : decode i_Mod_lays.2.1 120 = .ok (.aload_n 0, 1) := by decide +kernel
theorem d_Mod_lays_121 : decode i_Mod_lays.2.1 121 = .ok (.iload_n 1, 1) := by decide +kernel
theorem d_Mod_lays_122 : decode i_Mod_lays.2.1 122 = .ok (.aload_n 0, 1) := by decide +kernel
theorem d_Mod_lays_123 : decode i_Mod_lays.2.1 123 = .ok (.getfield 156, 3) := by decide +kernel
theorem d_Mod_lays_126 : decode i_Mod_lays.2.1 126 = .ok (.invokevirtual 159, 3) := by decide +kernel
theorem d_Mod_lays_129 : decode i_Mod_lays.2.1 129 = .ok (.iload_n 1, 1) := by decide +kernel
theorem d_Mod_lays_130 : decode i_Mod_lays.2.1 130 = .ok (.aload_n 0, 1) := by decide +kernel
theorem d_Mod_lays_131 : decode i_Mod_lays.2.1 131 = .ok (.getfield 31, 3) := by decide +kernel
theorem d_Mod_lays_134 : decode i_Mod_lays.2.1 134 = .ok (.aload_n 0, 1) := by decide +kernel
theorem d_Mod_lays_135 : decode i_Mod_lays.2.1 135 = .ok (.getfield 156, 3) := by decide +kernel
theorem d_Mod_lays_138 : decode i_Mod_lays.2.1 138 = .ok (.iaload, 1) := by decide +kernel
theorem d_Mod_lays_139 : decode i_Mod_lays.2.1 139 = .ok (.iadd, 1) := by decide +kernel
theorem d_Mod_lays_140 : decode i_Mod_lays.2.1 140 = .ok (.istore_n 1, 1) := by decide +kernel
theorem d_Mod_lays_141 : decode i_Mod_lays.2.1 141 = .ok (.aload_n 0, 1) := by decide +kernel
theorem d_Mod_lays_142 : decode i_Mod_lays.2.1 142 = .ok (.getfield 40, 3) := by decide +kernel
theorem d_Mod_lays_145 : decode i_Mod_lays.2.1 145 = .ok (.aload_n 0, 1) := by decide +kernel
theorem d_Mod_lays_146 : decode i_Mod_lays.2.1 146 = .ok (.getfield 156, 3) := by decide +kernel
theorem d_Mod_lays_149 : decode i_Mod_lays.2.1 149 = .ok (.lconst 0, 1) := by decide +kernel
theorem d_Mod_lays_150 : decode i_Mod_lays.2.1 150 = .ok (.lastore, 1) := by decide +kernel
theorem d_Mod_lays_151 : decode i_Mod_lays.2.1 151 = .ok (.iconst 0, 1) := by decide +kernel
theorem d_Mod_lays_152 : decode i_Mod_lays.2.1 152 = .ok (.istore_n 3, 1) := by decide +kernel
theorem d_Mod_lays_153 : decode i_Mod_lays.2.1 153 = .ok (.iload_n 3, 1) := by decide +kernel
theorem d_Mod_lays_154 : decode i_Mod_lays.2.1 154 = .ok (.bipush 64, 2) := by decide +kernel
theorem d_Mod_lays_156 : decode i_Mod_lays.2.1 156 = .ok (.if_icmp .ge 62, 3) := by decide +kernel
theorem d_Mod_lays_159 : decode i_Mod_lays.2.1 159 = .ok (.aload_n 0, 1) := by decide +kernel
theorem d_Mod_lays_160 : decode i_Mod_lays.2.1 160 = .ok (.getfield 40, 3) := by decide +kernel
theorem d_Mod_lays_163 : decode i_Mod_lays.2.1 163 = .ok (.aload_n 0, 1) := by decide +kernel
theorem d_Mod_lays_164 : decode i_Mod_lays.2.1 164 = .ok (.getfield 156, 3) := by decide +kernel
theorem d_Mod_lays_167 : decode i_Mod_lays.2.1 167 = .ok (.dup2, 1) := by decide +kernel
theorem d_Mod_lays_168 : decode i_Mod_lays.2.1 168 = .ok (.laload, 1) := by decide +kernel
theorem d_Mod_lays_169 : decode i_Mod_lays.2.1 169 = .ok (.aload_n 0, 1) := by decide +kernel
theorem d_Mod_lays_170 : decode i_Mod_lays.2.1 170 = .ok (.iload_n 3, 1) := by decide +kernel
theorem d_Mod_lays_171 : decode i_Mod_lays.2.1 171 = .ok (.bipush 8, 2) := by decide +kernel
theorem d_Mod_lays_173 : decode i_Mod_lays.2.1 173 = .ok (.irem, 1) := by decide +kernel
theorem d_Mod_lays_174 : decode i_Mod_lays.2.1 174 = .ok (.iload_n 3, 1) := by decide +kernel
theorem d_Mod_lays_175 : decode i_Mod_lays.2.1 175 = .ok (.bipush 8, 2) := by decide +kernel
theorem d_Mod_lays_177 : decode i_Mod_lays.2.1 177 = .ok (.idiv, 1) := by decide +kernel
theorem d_Mod_lays_178 : decode i_Mod_lays.2.1 178 = .ok (.invokevirtual 118, 3) := by decide +kernel
theorem d_Mod_lays_181 : decode i_Mod_lays.2.1 181 = .ok (.ifCond .eq 28, 3) := by decide +kernel
theorem d_Mod_lays_184 : decode i_Mod_lays.2.1 184 = .ok (.aload_n 0, 1) := by decide +kernel
theorem d_Mod_lays_185 : decode i_Mod_lays.2.1 185 = .ok (.aload_n 0, 1) := by decide +kernel
theorem d_Mod_lays_186 : decode i_Mod_lays.2.1 186 = .ok (.getfield 156, 3) := by decide +kernel
theorem d_Mod_lays_189 : decode i_Mod_lays.2.1 189 = .ok (.iload_n 3, 1) := by decide +kernel
theorem d_Mod_lays_190 : decode i_Mod_lays.2.1 190 = .ok (.bipush 8, 2) := by decide +kernel
theorem d_Mod_lays_192 : decode i_Mod_lays.2.1 192 = .ok (.irem, 1) := by decide +kernel
theorem d_Mod_lays_193 : decode i_Mod_lays.2.1 193 = .ok (.iload_n 3, 1) := by decide +kernel
theorem d_Mod_lays_194 : decode i_Mod_lays.2.1 194 = .ok (.bipush 8, 2) := by decide +kernel
theorem d_Mod_lays_196 : decode i_Mod_lays.2.1 196 = .ok (.idiv, 1) := by decide +kernel
theorem d_Mod_lays_197 : decode i_Mod_lays.2.1 197 = .ok (.invokevirtual 163, 3) := by decide +kernel
theorem d_Mod_lays_200 : decode i_Mod_lays.2.1 200 = .ok (.ifCond .eq 9, 3) := by decide +kernel
theorem d_Mod_lays_203 : decode i_Mod_lays.2.1 203 = .ok (.lconst 1, 1) := by decide +kernel
theorem d_Mod_lays_204 : decode i_Mod_lays.2.1 204 = .ok (.iload_n 3, 1) := by decide +kernel
theorem d_Mod_lays_205 : decode i_Mod_lays.2.1 205 = .ok (.lshl, 1) := by decide +kernel
theorem d_Mod_lays_206 : decode i_Mod_lays.2.1 206 = .ok (.goto 4, 3) := by decide +kernel
theorem d_Mod_lays_209 : decode i_Mod_lays.2.1 209 = .ok (.lconst 0, 1) := by decide +kernel
theorem d_Mod_lays_210 : decode i_Mod_lays.2.1 210 = .ok (.lor, 1) := by decide +kernel
theorem d_Mod_lays_211 : decode i_Mod_lays.2.1 211 = .ok (.lastore, 1) := by decide +kernel
theorem d_Mod_lays_212 : decode i_Mod_lays.2.1 212 = .ok (.iinc 3 1, 3) := by decide +kernel
theorem d_Mod_lays_215 : decode i_Mod_lays.2.1 215 = .ok (.goto (-62), 3) := by decide +kernel
theorem d_Mod_lays_218 : decode i_Mod_lays.2.1 218 = .ok (.aload_n 0, 1) := by decide +kernel
theorem d_Mod_lays_219 : decode i_Mod_lays.2.1 219 = .ok (.dup, 1) := by decide +kernel
theorem d_Mod_lays_220 : decode i_Mod_lays.2.1 220 = .ok (.getfield 132, 3) := by decide +kernel
theorem d_Mod_lays_223 : decode i_Mod_lays.2.1 223 = .ok (.aload_n 0, 1) := by decide +kernel
theorem d_Mod_lays_224 : decode i_Mod_lays.2.1 224 = .ok (.getfield 40, 3) := by decide +kernel
theorem d_Mod_lays_227 : decode i_Mod_lays.2.1 227 = .ok (.aload_n 0, 1) := by decide +kernel
theorem d_Mod_lays_228 : decode i_Mod_lays.2.1 228 = .ok (.getfield 156, 3) := by decide +kernel
theorem d_Mod_lays_231 : decode i_Mod_lays.2.1 231 = .ok (.laload, 1) := by decide +kernel
theorem d_Mod_lays_232 : decode i_Mod_lays.2.1 232 = .ok (.lxor, 1) := by decide +kernel
theorem d_Mod_lays_233 : decode i_Mod_lays.2.1 233 = .ok (.putfield 132, 3) := by decide +kernel
theorem d_Mod_lays_236 : decode i_Mod_lays.2.1 236 = .ok (.aload_n 0, 1) := by decide +kernel
theorem d_Mod_lays_237 : decode i_Mod_lays.2.1 237 = .ok (.dup, 1) := by decide +kernel
theorem d_Mod_lays_238 : decode i_Mod_lays.2.1 238 = .ok (.getfield 156, 3) := by decide +kernel
theorem d_Mod_lays_241 : decode i_Mod_lays.2.1 241 = .ok (.iconst 1, 1) := by decide +kernel
theorem d_Mod_lays_242 : decode i_Mod_lays.2.1 242 = .ok (.iadd, 1) := by decide +kernel
theorem d_Mod_lays_243 : decode i_Mod_lays.2.1 243 = .ok (.putfield 156, 3) := by decide +kernel
theorem d_Mod_lays_246 : decode i_Mod_lays.2.1 246 = .ok (.goto (-182), 3) := by decide +kernel
theorem d_Mod_lays_249 : decode i_Mod_lays.2.1 249 = .ok (.return_, 1) := by decide +kernel
theorem d_Mod_isBorder_0 : decode i_Mod_isBorder.2.1 0 = .ok (.aload_n 0, 1) := by decide +kernel
theorem d_Mod_isBorder_1 : decode i_Mod_isBorder.2.1 1 = .ok (.invokevirtual 166, 3) := by decide +kernel
theorem d_Mod_isBorder_4 : decode i_Mod_isBorder.2.1 4 = .ok (.iload_n 1, 1) := by decide +kernel
theorem d_Mod_isBorder_5 : decode i_Mod_isBorder.2.1 5 = .ok (.iconst 0, 1) := by decide +kernel
theorem d_Mod_isBorder_6 : decode i_Mod_isBorder.2.1 6 = .ok (.aload_n 0, 1) := by decide +kernel
theorem d_Mod_isBorder_7 : decode i_Mod_isBorder.2.1 7 = .ok (.getfield 156, 3) := by decide +kernel
theorem d_Mod_isBorder_10 : decode i_Mod_isBorder.2.1 10 = .ok (.iconst 1, 1) := by decide +kernel
theorem d_Mod_isBorder_11 : decode i_Mod_isBorder.2.1 11 = .ok (.isub, 1) := by decide +kernel
theorem d_Mod_isBorder_12 : decode i_Mod_isBorder.2.1 12 = .ok (.invokestatic 71, 3) := by decide +kernel
theorem d_Mod_isBorder_15 : decode i_Mod_isBorder.2.1 15 = .ok (.ireturn, 1) := by decide +kernel
theorem d_Mod_ones_0 : decode i_Mod_ones.2.1 0 = .ok (.iconst 0, 1) := by decide +kernel
theorem d_Mod_ones_1 : decode i_Mod_ones.2.1 1 = .ok (.istore_n 2, 1) := by decide +kernel
theorem d_Mod_ones_2 : decode i_Mod_ones.2.1 2 = .ok (.iconst 0, 1) := by decide +kernel
theorem d_Mod_ones_3 : decode i_Mod_ones.2.1 3 = .ok (.istore_n 3, 1) := by decide +kernel
theorem d_Mod_ones_4 : decode i_Mod_ones.2.1 4 = .ok (.iload_n 3, 1) := by decide +kernel
theorem d_Mod_ones_5 : decode i_Mod_ones.2.1 5 = .ok (.bipush 64, 2) := by decide +kernel
theorem d_Mod_ones_7 : decode i_Mod_ones.2.1 7 = .ok (.if_icmp .ge 18, 3) := by decide +kernel
theorem d_Mod_ones_10 : decode i_Mod_ones.2.1 10 = .ok (.iload_n 2, 1) := by decide +kernel
theorem d_Mod_ones_11 : decode i_Mod_ones.2.1 11 = .ok (.lload_n 0, 1) := by decide +kernel
theorem d_Mod_ones_12 : decode i_Mod_ones.2.1 12 = .ok (.iload_n 3, 1) := by decide +kernel
theorem d_Mod_ones_13 : decode i_Mod_ones.2.1 13 = .ok (.lshr, 1) := by decide +kernel
theorem d_Mod_ones_14 : decode i_Mod_ones.2.1 14 = .ok (.lconst 1, 1) := by decide +kernel
theorem d_Mod_ones_15 : decode i_Mod_ones.2.1 15 = .ok (.land, 1) := by decide +kernel
theorem d_Mod_ones_16 : decode i_Mod_ones.2.1 16 = .ok (.l2i, 1) := by decide +kernel
theorem d_Mod_ones_17 : decode i_Mod_ones.2.1 17 = .ok (.iadd, 1) := by decide +kernel
theorem d_Mod_ones_18 : decode i_Mod_ones.2.1 18 = .ok (.istore_n 2, 1) := by decide +kernel
theorem d_Mod_ones_19 : decode i_Mod_ones.2.1 19 = .ok (.iinc 3 1, 3) := by decide +kernel
theorem d_Mod_ones_22 : decode i_Mod_ones.2.1 22 = .ok (.goto (-18), 3) := by decide +kernel
theorem d_Mod_ones_25 : decode i_Mod_ones.2.1 25 = .ok (.iload_n 2, 1) := by decide +kernel
theorem d_Mod_ones_26 : decode i_Mod_ones.2.1 26 = .ok (.ireturn, 1) := by decide +kernel
theorem d_Mod_dot_0 : decode i_Mod_dot.2.1 0 = .ok (.aload_n 0, 1) := by decide +kernel
theorem d_Mod_dot_1 : decode i_Mod_dot.2.1 1 = .ok (.iload_n 1, 1) := by decide +kernel
theorem d_Mod_dot_2 : decode i_Mod_dot.2.1 2 = .ok (.iload_n 2, 1) := by decide +kernel
theorem d_Mod_dot_3 : decode i_Mod_dot.2.1 3 = .ok (.invokevirtual 118, 3) := by decide +kernel
theorem d_Mod_dot_6 : decode i_Mod_dot.2.1 6 = .ok (.ifCond .eq 19, 3) := by decide +kernel
theorem d_Mod_dot_9 : decode i_Mod_dot.2.1 9 = .ok (.aload_n 0, 1) := by decide +kernel
theorem d_Mod_dot_10 : decode i_Mod_dot.2.1 10 = .ok (.getfield 7, 3) := by decide +kernel
theorem d_Mod_dot_13 : decode i_Mod_dot.2.1 13 = .ok (.iconst 4, 1) := by decide +kernel
theorem d_Mod_dot_14 : decode i_Mod_dot.2.1 14 = .ok (.bipush 8, 2) := by decide +kernel
theorem d_Mod_dot_16 : decode i_Mod_dot.2.1 16 = .ok (.iload_n 2, 1) := by decide +kernel
theorem d_Mod_dot_17 : decode i_Mod_dot.2.1 17 = .ok (.imul, 1) := by decide +kernel
theorem d_Mod_dot_18 : decode i_Mod_dot.2.1 18 = .ok (.iadd, 1) := by decide +kernel
theorem d_Mod_dot_19 : decode i_Mod_dot.2.1 19 = .ok (.iload_n 1, 1) := by decide +kernel
theorem d_Mod_dot_20 : decode i_Mod_dot.2.1 20 = .ok (.iadd, 1) := by decide +kernel
theorem d_Mod_dot_21 : decode i_Mod_dot.2.1 21 = .ok (.iaload, 1) := by decide +kernel
theorem d_Mod_dot_22 : decode i_Mod_dot.2.1 22 = .ok (.goto 5, 3) := by decide +kernel
theorem d_Mod_dot_25 : decode i_Mod_dot.2.1 25 = .ok (.ldc 75, 2) := by decide +kernel
theorem d_Mod_dot_27 : decode i_Mod_dot.2.1 27 = .ok (.ireturn, 1) := by decide +kernel
theorem d_Mod_borders_0 : decode i_Mod_borders.2.1 0 = .ok (.aload_n 0, 1) := by decide +kernel
theorem d_Mod_borders_1 : decode i_Mod_borders.2.1 1 = .ok (.invokevirtual 125, 3) := by decide +kernel
theorem d_Mod_borders_4 : decode i_Mod_borders.2.1 4 = .ok (.ifCond .ne 6, 3) := by decide +kernel
theorem d_Mod_borders_7 : decode i_Mod_borders.2.1 7 = .ok (.ldc 117, 2) := by decide +kernel
theorem d_Mod_borders_9 : decode i_Mod_borders.2.1 9 = .ok (.ireturn, 1) := by decide +kernel
theorem d_Mod_borders_10 : decode i_Mod_borders.2.1 10 = .ok (.aload_n 0, 1) := by decide +kernel
theorem d_Mod_borders_11 : decode i_Mod_borders.2.1 11 = .ok (.invokevirtual 166, 3) := by decide +kernel
theorem d_Mod_borders_14 : decode i_Mod_borders.2.1 14 = .ok (.aload_n 0, 1) := by decide +kernel
theorem d_Mod_borders_15 : decode i_Mod_borders.2.1 15 = .ok (.getfield 156, 3) := by decide +kernel
theorem d_Mod_borders_18 : decode i_Mod_borders.2.1 18 = .ok (.ireturn, 1) := by decide +kernel
theorem d_Mod_bends_0 : decode i_Mod_bends.2.1 0 = .ok (.iconst 0, 1) := by decide +kernel
theorem d_Mod_bends_1 : decode i_Mod_bends.2.1 1 = .ok (.istore_n 2, 1) := by decide +kernel
theorem d_Mod_bends_2 : decode i_Mod_bends.2.1 2 = .ok (.iconst 0, 1) := by decide +kernel
theorem d_Mod_bends_3 : decode i_Mod_bends.2.1 3 = .ok (.istore_n 3, 1) := by decide +kernel
theorem d_Mod_bends_4 : decode i_Mod_bends.2.1 4 = .ok (.iload_n 3, 1) := by decide +kernel
theorem d_Mod_bends_5 : decode i_Mod_bends.2.1 5 = .ok (.aload_n 0, 1) := by decide +kernel
theorem d_Mod_bends_6 : decode i_Mod_bends.2.1 6 = .ok (.getfield 31, 3) := by decide +kernel
theorem d_Mod_bends_9 : decode i_Mod_bends.2.1 9 = .ok (.iload_n 1, 1) := by decide +kernel
theorem d_Mod_bends_10 : decode i_Mod_bends.2.1 10 = .ok (.iaload, 1) := by decide +kernel
theorem d_Mod_bends_11 : decode i_Mod_bends.2.1 11 = .ok (.if_icmp .ge 62, 3) := by decide +kernel
theorem d_Mod_bends_14 : decode i_Mod_bends.2.1 14 = .ok (.iload_n 2, 1) := by decide +kernel
theorem d_Mod_bends_15 : decode i_Mod_bends.2.1 15 = .ok (.aload_n 0, 1) := by decide +kernel
theorem d_Mod_bends_16 : decode i_Mod_bends.2.1 16 = .ok (.getfield 50, 3) := by decide +kernel
theorem d_Mod_bends_19 : decode i_Mod_bends.2.1 19 = .ok (.aload_n 0, 1) := by decide +kernel
theorem d_Mod_bends_20 : decode i_Mod_bends.2.1 20 = .ok (.getfield 28, 3) := by decide +kernel
theorem d_Mod_bends_23 : decode i_Mod_bends.2.1 23 = .ok (.iload_n 1, 1) := by decide +kernel
theorem d_Mod_bends_24 : decode i_Mod_bends.2.1 24 = .ok (.iaload, 1) := by decide +kernel
theorem d_Mod_bends_25 : decode i_Mod_bends.2.1 25 = .ok (.iload_n 3, 1) := by decide +kernel
theorem d_Mod_bends_26 : decode i_Mod_bends.2.1 26 = .ok (.iadd, 1) := by decide +kernel
theorem d_Mod_bends_27 : decode i_Mod_bends.2.1 27 = .ok (.iaload, 1) := by decide +kernel
theorem d_Mod_bends_28 : decode i_Mod_bends.2.1 28 = .ok (.aload_n 0, 1) := by decide +kernel
theorem d_Mod_bends_29 : decode i_Mod_bends.2.1 29 = .ok (.getfield 50, 3) := by decide +kernel
theorem d_Mod_bends_32 : decode i_Mod_bends.2.1 32 = .ok (.aload_n 0, 1) := by decide +kernel
theorem d_Mod_bends_33 : decode i_Mod_bends.2.1 33 = .ok (.getfield 28, 3) := by decide +kernel
theorem d_Mod_bends_36 : decode i_Mod_bends.2.1 36 = .ok (.iload_n 1, 1) := by decide +kernel
theorem d_Mod_bends_37 : decode i_Mod_bends.2.1 37 = .ok (.iaload, 1) := by decide +kernel
theorem d_Mod_bends_38 : decode i_Mod_bends.2.1 38 = .ok (.iload_n 3, 1) := by decide +kernel
theorem d_Mod_bends_39 : decode i_Mod_bends.2.1 39 = .ok (.aload_n 0, 1) := by decide +kernel
theorem d_Mod_bends_40 : decode i_Mod_bends.2.1 40 = .ok (.getfield 31, 3) := by decide +kernel
theorem d_Mod_bends_43 : decode i_Mod_bends.2.1 43 = .ok (.iload_n 1, 1) := by decide +kernel
theorem d_Mod_bends_44 : decode i_Mod_bends.2.1 44 = .ok (.iaload, 1) := by decide +kernel
theorem d_Mod_bends_45 : decode i_Mod_bends.2.1 45 = .ok (.iadd, 1) := by decide +kernel
theorem d_Mod_bends_46 : decode i_Mod_bends.2.1 46 = .ok (.iconst 1, 1) := by decide +kernel
theorem d_Mod_bends_47 : decode i_Mod_bends.2.1 47 = .ok (.isub, 1) := by decide +kernel
theorem d_Mod_bends_48 : decode i_Mod_bends.2.1 48 = .ok (.aload_n 0, 1) := by decide +kernel
theorem d_Mod_bends_49 : decode i_Mod_bends.2.1 49 = .ok (.getfield 31, 3) := by decide +kernel
theorem d_Mod_bends_52 : decode i_Mod_bends.2.1 52 = .ok (.iload_n 1, 1) := by decide +kernel
theorem d_Mod_bends_53 : decode i_Mod_bends.2.1 53 = .ok (.iaload, 1) := by decide +kernel
theorem d_Mod_bends_54 : decode i_Mod_bends.2.1 54 = .ok (.irem, 1) := by decide +kernel
theorem d_Mod_bends_55 : decode i_Mod_bends.2.1 55 = .ok (.iadd, 1) := by decide +kernel
theorem d_Mod_bends_56 : decode i_Mod_bends.2.1 56 = .ok (.iaload, 1) := by decide +kernel
theorem d_Mod_bends_57 : decode i_Mod_bends.2.1 57 = .ok (.if_icmp .eq 7, 3) := by decide +kernel
theorem d_Mod_bends_60 : decode i_Mod_bends.2.1 60 = .ok (.iconst 1, 1) := by decide +kernel
theorem d_Mod_bends_61 : decode i_Mod_bends.2.1 61 = .ok (.goto 4, 3) := by decide +kernel
theorem d_Mod_bends_64 : decode i_Mod_bends.2.1 64 = .ok (.iconst 0, 1) := by decide +kernel
theorem d_Mod_bends_65 : decode i_Mod_bends.2.1 65 = .ok (.iadd, 1) := by decide +kernel
theorem d_Mod_bends_66 : decode i_Mod_bends.2.1 66 = .ok (.istore_n 2, 1) := by decide +kernel
theorem d_Mod_bends_67 : decode i_Mod_bends.2.1 67 = .ok (.iinc 3 1, 3) := by decide +kernel
theorem d_Mod_bends_70 : decode i_Mod_bends.2.1 70 = .ok (.goto (-66), 3) := by decide +kernel
theorem d_Mod_bends_73 : decode i_Mod_bends.2.1 73 = .ok (.iload_n 2, 1) := by decide +kernel
theorem d_Mod_bends_74 : decode i_Mod_bends.2.1 74 = .ok (.ireturn, 1) := by decide +kernel
theorem d_Mod_border_0 : decode i_Mod_border.2.1 0 = .ok (.aload_n 0, 1) := by decide +kernel
theorem d_Mod_border_1 : decode i_Mod_border.2.1 1 = .ok (.iload_n 1, 1) := by decide +kernel
theorem d_Mod_border_2 : decode i_Mod_border.2.1 2 = .ok (.invokevirtual 169, 3) := by decide +kernel
theorem d_Mod_border_5 : decode i_Mod_border.2.1 5 = .ok (.ifCond .ne 6, 3) := by decide +kernel
theorem d_Mod_border_8 : decode i_Mod_border.2.1 8 = .ok (.ldc 75, 2) := by decide +kernel
theorem d_Mod_border_10 : decode i_Mod_border.2.1 10 = .ok (.ireturn, 1) := by decide +kernel
theorem d_Mod_border_11 : decode i_Mod_border.2.1 11 = .ok (.iload_n 2, 1) := by decide +kernel
theorem d_Mod_border_12 : decode i_Mod_border.2.1 12 = .ok (.tableswitch 101 0 5 #[40, 47, 71, 81, 88, 95], 40) := by decide +kernel
theorem d_Mod_border_52 : decode i_Mod_border.2.1 52 = .ok (.aload_n 0, 1) := by decide +kernel
theorem d_Mod_border_53 : decode i_Mod_border.2.1 53 = .ok (.getfield 31, 3) := by decide +kernel
theorem d_Mod_border_56 : decode i_Mod_border.2.1 56 = .ok (.iload_n 1, 1) := by decide +kernel
theorem d_Mod_border_57 : decode i_Mod_border.2.1 57 = .ok (.iaload, 1) := by decide +kernel
theorem d_Mod_border_58 : decode i_Mod_border.2.1 58 = .ok (.ireturn, 1) := by decide +kernel
theorem d_Mod_border_59 : decode i_Mod_border.2.1 59 = .ok (.aload_n 0, 1) := by decide +kernel
theorem d_Mod_border_60 : decode i_Mod_border.2.1 60 = .ok (.getfield 7, 3) := by decide +kernel
theorem d_Mod_border_63 : decode i_Mod_border.2.1 63 = .ok (.iconst 4, 1) := by decide +kernel
theorem d_Mod_border_64 : decode i_Mod_border.2.1 64 = .ok (.bipush 8, 2) := by decide +kernel
theorem d_Mod_border_66 : decode i_Mod_border.2.1 66 = .ok (.aload_n 0, 1) := by decide +kernel
theorem d_Mod_border_67 : decode i_Mod_border.2.1 67 = .ok (.getfield 37, 3) := by decide +kernel
theorem d_Mod_border_70 : decode i_Mod_border.2.1 70 = .ok (.iload_n 1, 1) := by decide +kernel
theorem d_Mod_border_71 : decode i_Mod_border.2.1 71 = .ok (.iaload, 1) := by decide +kernel
theorem d_Mod_border_72 : decode i_Mod_border.2.1 72 = .ok (.imul, 1) := by decide +kernel
theorem d_Mod_border_73 : decode i_Mod_border.2.1 73 = .ok (.iadd, 1) := by decide +kernel
theorem d_Mod_border_74 : decode i_Mod_border.2.1 74 = .ok (.aload_n 0, 1) := by decide +kernel
theorem d_Mod_border_75 : decode i_Mod_border.2.1 75 = .ok (.getfield 34, 3) := by decide +kernel
theorem d_Mod_border_78 : decode i_Mod_border.2.1 78 = .ok (.iload_n 1, 1) := by decide +kernel
theorem d_Mod_border_79 : decode i_Mod_border.2.1 79 = .ok (.iaload, 1) := by decide +kernel
theorem d_Mod_border_80 : decode i_Mod_border.2.1 80 = .ok (.iadd, 1) := by decide +kernel
theorem d_Mod_border_81 : decode i_Mod_border.2.1 81 = .ok (.iaload, 1) := by decide +kernel
theorem d_Mod_border_82 : decode i_Mod_border.2.1 82 = .ok (.ireturn, 1) := by decide +kernel
theorem d_Mod_border_83 : decode i_Mod_border.2.1 83 = .ok (.aload_n 0, 1) := by decide +kernel
theorem d_Mod_border_84 : decode i_Mod_border.2.1 84 = .ok (.getfield 40, 3) := by decide +kernel
theorem d_Mod_border_87 : decode i_Mod_border.2.1 87 = .ok (.iload_n 1, 1) := by decide +kernel
theorem d_Mod_border_88 : decode i_Mod_border.2.1 88 = .ok (.laload, 1) := by decide +kernel
theorem d_Mod_border_89 : decode i_Mod_border.2.1 89 = .ok (.invokestatic 173, 3) := by decide +kernel
theorem d_Mod_border_92 : decode i_Mod_border.2.1 92 = .ok (.ireturn, 1) := by decide +kernel
theorem d_Mod_border_93 : decode i_Mod_border.2.1 93 = .ok (.aload_n 0, 1) := by decide +kernel
theorem d_Mod_border_94 : decode i_Mod_border.2.1 94 = .ok (.getfield 34, 3) := by decide +kernel
theorem d_Mod_border_97 : decode i_Mod_border.2.1 97 = .ok (.iload_n 1, 1) := by decide +kernel
theorem d_Mod_border_98 : decode i_Mod_border.2.1 98 = .ok (.iaload, 1) := by decide +kernel
theorem d_Mod_border_99 : decode i_Mod_border.2.1 99 = .ok (.ireturn, 1) := by decide +kernel
theorem d_Mod_border_100 : decode i_Mod_border.2.1 100 = .ok (.aload_n 0, 1) := by decide +kernel
theorem d_Mod_border_101 : decode i_Mod_border.2.1 101 = .ok (.getfield 37, 3) := by decide +kernel
theorem d_Mod_border_104 : decode i_Mod_border.2.1 104 = .ok (.iload_n 1, 1) := by decide +kernel
theorem d_Mod_border_105 : decode i_Mod_border.2.1 105 = .ok (.iaload, 1) := by decide +kernel
theorem d_Mod_border_106 : decode i_Mod_border.2.1 106 = .ok (.ireturn, 1) := by decide +kernel
theorem d_Mod_border_107 : decode i_Mod_border.2.1 107 = .ok (.aload_n 0, 1) := by decide +kernel
theorem d_Mod_border_108 : decode i_Mod_border.2.1 108 = .ok (.iload_n 1, 1) := by decide +kernel
theorem d_Mod_border_109 : decode i_Mod_border.2.1 109 = .ok (.invokevirtual 177, 3) := by decide +kernel
theorem d_Mod_border_112 : decode i_Mod_border.2.1 112 = .ok (.ireturn, 1) := by decide +kernel
theorem d_Mod_border_113 : decode i_Mod_border.2.1 113 = .ok (.ldc 75, 2) := by decide +kernel
theorem d_Mod_border_115 : decode i_Mod_border.2.1 115 = .ok (.ireturn, 1) := by decide +kernel
theorem d_Mod_corner_0 : decode i_Mod_corner.2.1 0 = .ok (.aload_n 0, 1) := by decide +kernel
theorem d_Mod_corner_1 : decode i_Mod_corner.2.1 1 = .ok (.iload_n 1, 1) := by decide +kernel
theorem d_Mod_corner_2 : decode i_Mod_corner.2.1 2 = .ok (.invokevirtual 169, 3) := by decide +kernel
theorem d_Mod_corner_5 : decode i_Mod_corner.2.1 5 = .ok (.ifCond .eq 16, 3) := by decide +kernel
theorem d_Mod_corner_8 : decode i_Mod_corner.2.1 8 = .ok (.iload_n 2, 1) := by decide +kernel
theorem d_Mod_corner_9 : decode i_Mod_corner.2.1 9 = .ok (.ifCond .lt 12, 3) := by decide +kernel
theorem d_Mod_corner_12 : decode i_Mod_corner.2.1 12 = .ok (.iload_n 3, 1) := by decide +kernel
theorem d_Mod_corner_13 : decode i_Mod_corner.2.1 13 = .ok (.iconst 0, 1) := by decide +kernel
theorem d_Mod_corner_14 : decode i_Mod_corner.2.1 14 = .ok (.iconst 2, 1) := by decide +kernel
theorem d_Mod_corner_15 : decode i_Mod_corner.2.1 15 = .ok (.invokestatic 71, 3) := by decide +kernel
theorem d_Mod_corner_18 : decode i_Mod_corner.2.1 18 = .ok (.ifCond .ne 6, 3) := by decide +kernel
theorem d_Mod_corner_21 : decode i_Mod_corner.2.1 21 = .ok (.ldc 75, 2) := by decide +kernel
theorem d_Mod_corner_23 : decode i_Mod_corner.2.1 23 = .ok (.ireturn, 1) := by decide +kernel
theorem d_Mod_corner_24 : decode i_Mod_corner.2.1 24 = .ok (.aload_n 0, 1) := by decide +kernel
theorem d_Mod_corner_25 : decode i_Mod_corner.2.1 25 = .ok (.getfield 28, 3) := by decide +kernel
theorem d_Mod_corner_28 : decode i_Mod_corner.2.1 28 = .ok (.iload_n 1, 1) := by decide +kernel
theorem d_Mod_corner_29 : decode i_Mod_corner.2.1 29 = .ok (.iaload, 1) := by decide +kernel
theorem d_Mod_corner_30 : decode i_Mod_corner.2.1 30 = .ok (.iload_n 2, 1) := by decide +kernel
theorem d_Mod_corner_31 : decode i_Mod_corner.2.1 31 = .ok (.aload_n 0, 1) := by decide +kernel
theorem d_Mod_corner_32 : decode i_Mod_corner.2.1 32 = .ok (.getfield 31, 3) := by decide +kernel
theorem d_Mod_corner_35 : decode i_Mod_corner.2.1 35 = .ok (.iload_n 1, 1) := by decide +kernel
theorem d_Mod_corner_36 : decode i_Mod_corner.2.1 36 = .ok (.iaload, 1) := by decide +kernel
theorem d_Mod_corner_37 : decode i_Mod_corner.2.1 37 = .ok (.irem, 1) := by decide +kernel
theorem d_Mod_corner_38 : decode i_Mod_corner.2.1 38 = .ok (.iadd, 1) := by decide +kernel
theorem d_Mod_corner_39 : decode i_Mod_corner.2.1 39 = .ok (.istore 4, 2) := by decide +kernel
theorem d_Mod_corner_41 : decode i_Mod_corner.2.1 41 = .ok (.iload_n 3, 1) := by decide +kernel
theorem d_Mod_corner_42 : decode i_Mod_corner.2.1 42 = .ok (.ifCond .ne 13, 3) := by decide +kernel
theorem d_Mod_corner_45 : decode i_Mod_corner.2.1 45 = .ok (.aload_n 0, 1) := by decide +kernel
theorem d_Mod_corner_46 : decode i_Mod_corner.2.1 46 = .ok (.getfield 44, 3) := by decide +kernel
theorem d_Mod_corner_49 : decode i_Mod_corner.2.1 49 = .ok (.iload 4, 2) := by decide +kernel
theorem d_Mod_corner_51 : decode i_Mod_corner.2.1 51 = .ok (.iaload, 1) := by decide +kernel
theorem d_Mod_corner_52 : decode i_Mod_corner.2.1 52 = .ok (.goto 25, 3) := by decide +kernel
theorem d_Mod_corner_55 : decode i_Mod_corner.2.1 55 = .ok (.iload_n 3, 1) := by decide +kernel
theorem d_Mod_corner_56 : decode i_Mod_corner.2.1 56 = .ok (.iconst 1, 1) := by decide +kernel
theorem d_Mod_corner_57 : decode i_Mod_corner.2.1 57 = .ok (.if_icmp .ne 13, 3) := by decide +kernel
theorem d_Mod_corner_60 : decode i_Mod_corner.2.1 60 = .ok (.aload_n 0, 1) := by decide +kernel
theorem d_Mod_corner_61 : decode i_Mod_corner.2.1 61 = .ok (.getfield 47, 3) := by decide +kernel
theorem d_Mod_corner_64 : decode i_Mod_corner.2.1 64 = .ok (.iload 4, 2) := by decide +kernel
theorem d_Mod_corner_66 : decode i_Mod_corner.2.1 66 = .ok (.iaload, 1) := by decide +kernel
theorem d_Mod_corner_67 : decode i_Mod_corner.2.1 67 = .ok (.goto 10, 3) := by decide +kernel
theorem d_Mod_corner_70 : decode i_Mod_corner.2.1 70 = .ok (.aload_n 0, 1) := by decide +kernel
theorem d_Mod_corner_71 : decode i_Mod_corner.2.1 71 = .ok (.getfield 50, 3) := by decide +kernel
theorem d_Mod_corner_74 : decode i_Mod_corner.2.1 74 = .ok (.iload 4, 2) := by decide +kernel
theorem d_Mod_corner_76 : decode i_Mod_corner.2.1 76 = .ok (.iaload, 1) := by decide +kernel
theorem d_Mod_corner_77 : decode i_Mod_corner.2.1 77 = .ok (.ireturn, 1) := by decide +kernel
theorem d_Mod_isIn_0 : decode i_Mod_isIn.2.1 0 = .ok (.aload_n 0, 1) := by decide +kernel
theorem d_Mod_isIn_1 : decode i_Mod_isIn.2.1 1 = .ok (.getfield 40, 3) := by decide +kernel
theorem d_Mod_isIn_4 : decode i_Mod_isIn.2.1 4 = .ok (.iload_n 1, 1) := by decide +kernel
theorem d_Mod_isIn_5 : decode i_Mod_isIn.2.1 5 = .ok (.laload, 1) := by decide +kernel
theorem d_Mod_isIn_6 : decode i_Mod_isIn.2.1 6 = .ok (.bipush 8, 2) := by decide +kernel
theorem d_Mod_isIn_8 : decode i_Mod_isIn.2.1 8 = .ok (.iload_n 3, 1) := by decide +kernel
theorem d_Mod_isIn_9 : decode i_Mod_isIn.2.1 9 = .ok (.imul, 1) := by decide +kernel
theorem d_Mod_isIn_10 : decode i_Mod_isIn.2.1 10 = .ok (.iload_n 2, 1) := by decide +kernel
theorem d_Mod_isIn_11 : decode i_Mod_isIn.2.1 11 = .ok (.iadd, 1) := by decide +kernel
theorem d_Mod_isIn_12 : decode i_Mod_isIn.2.1 12 = .ok (.lshr, 1) := by decide +kernel
theorem d_Mod_isIn_13 : decode i_Mod_isIn.2.1 13 = .ok (.lconst 1, 1) := by decide +kernel
theorem d_Mod_isIn_14 : decode i_Mod_isIn.2.1 14 = .ok (.land, 1) := by decide +kernel
theorem d_Mod_isIn_15 : decode i_Mod_isIn.2.1 15 = .ok (.lconst 1, 1) := by decide +kernel
theorem d_Mod_isIn_16 : decode i_Mod_isIn.2.1 16 = .ok (.lcmp, 1) := by decide +kernel
theorem d_Mod_isIn_17 : decode i_Mod_isIn.2.1 17 = .ok (.ifCond .ne 7, 3) := by decide +kernel
theorem d_Mod_isIn_20 : decode i_Mod_isIn.2.1 20 = .ok (.iconst 1, 1) := by decide +kernel
theorem d_Mod_isIn_21 : decode i_Mod_isIn.2.1 21 = .ok (.goto 4, 3) := by decide +kernel
theorem d_Mod_isIn_24 : decode i_Mod_isIn.2.1 24 = .ok (.iconst 0, 1) := by decide +kernel
theorem d_Mod_isIn_25 : decode i_Mod_isIn.2.1 25 = .ok (.ireturn, 1) := by decide +kernel
theorem d_Mod_inside_0 : decode i_Mod_inside.2.1 0 = .ok (.aload_n 0, 1) := by decide +kernel
theorem d_Mod_inside_1 : decode i_Mod_inside.2.1 1 = .ok (.iload_n 1, 1) := by decide +kernel
theorem d_Mod_inside_2 : decode i_Mod_inside.2.1 2 = .ok (.invokevirtual 169, 3) := by decide +kernel
theorem d_Mod_inside_5 : decode i_Mod_inside.2.1 5 = .ok (.ifCond .eq 30, 3) := by decide +kernel
theorem d_Mod_inside_8 : decode i_Mod_inside.2.1 8 = .ok (.aload_n 0, 1) := by decide +kernel
theorem d_Mod_inside_9 : decode i_Mod_inside.2.1 9 = .ok (.iload_n 2, 1) := by decide +kernel
theorem d_Mod_inside_10 : decode i_Mod_inside.2.1 10 = .ok (.iload_n 3, 1) := by decide +kernel
theorem d_Mod_inside_11 : decode i_Mod_inside.2.1 11 = .ok (.invokevirtual 118, 3) := by decide +kernel
theorem d_Mod_inside_14 : decode i_Mod_inside.2.1 14 = .ok (.ifCond .eq 21, 3) := by decide +kernel
theorem d_Mod_inside_17 : decode i_Mod_inside.2.1 17 = .ok (.aload_n 0, 1) := by decide +kernel
theorem d_Mod_inside_18 : decode i_Mod_inside.2.1 18 = .ok (.iload_n 1, 1) := by decide +kernel
theorem d_Mod_inside_19 : decode i_Mod_inside.2.1 19 = .ok (.iload_n 2, 1) := by decide +kernel
theorem d_Mod_inside_20 : decode i_Mod_inside.2.1 20 = .ok (.iload_n 3, 1) := by decide +kernel
theorem d_Mod_inside_21 : decode i_Mod_inside.2.1 21 = .ok (.invokevirtual 180, 3) := by decide +kernel
theorem d_Mod_inside_24 : decode i_Mod_inside.2.1 24 = .ok (.ifCond .eq 7, 3) := by decide +kernel
theorem d_Mod_inside_27 : decode i_Mod_inside.2.1 27 = .ok (.iconst 1, 1) := by decide +kernel
theorem d_Mod_inside_28 : decode i_Mod_inside.2.1 28 = .ok (.goto 9, 3) := by decide +kernel
theorem d_Mod_inside_31 : decode i_Mod_inside.2.1 31 = .ok (.iconst 0, 1) := by decide +kernel
theorem d_Mod_inside_32 : decode i_Mod_inside.2.1 32 = .ok (.goto 5, 3) := by decide +kernel
theorem d_Mod_inside_35 : decode i_Mod_inside.2.1 35 = .ok (.ldc 75, 2) := by decide +kernel
theorem d_Mod_inside_37 : decode i_Mod_inside.2.1 37 = .ok (.ireturn, 1) := by decide +kernel
theorem d_Mod_size_0 : decode i_Mod_size.2.1 0 = .ok (.iload_n 0, 1) := by decide +kernel
theorem d_Mod_size_1 : decode i_Mod_size.2.1 1 = .ok (.ifCond .ge 8, 3) := by decide +kernel
theorem d_Mod_size_4 : decode i_Mod_size.2.1 4 = .ok (.iload_n 0, 1) := by decide +kernel
theorem d_Mod_size_5 : decode i_Mod_size.2.1 5 = .ok (.ineg, 1) := by decide +kernel
theorem d_Mod_size_6 : decode i_Mod_size.2.1 6 = .ok (.goto 4, 3) := by decide +kernel
theorem d_Mod_size_9 : decode i_Mod_size.2.1 9 = .ok (.iload_n 0, 1) := by decide +kernel
theorem d_Mod_size_10 : decode i_Mod_size.2.1 10 = .ok (.ireturn, 1) := by decide +kernel
theorem d_Mod_offOf_0 : decode i_Mod_offOf.2.1 0 = .ok (.aload_n 0, 1) := by decide +kernel
theorem d_Mod_offOf_1 : decode i_Mod_offOf.2.1 1 = .ok (.getfield 31, 3) := by decide +kernel
theorem d_Mod_offOf_4 : decode i_Mod_offOf.2.1 4 = .ok (.iload_n 1, 1) := by decide +kernel
theorem d_Mod_offOf_5 : decode i_Mod_offOf.2.1 5 = .ok (.iaload, 1) := by decide +kernel
theorem d_Mod_offOf_6 : decode i_Mod_offOf.2.1 6 = .ok (.istore 4, 2) := by decide +kernel
theorem d_Mod_offOf_8 : decode i_Mod_offOf.2.1 8 = .ok (.aload_n 0, 1) := by decide +kernel
theorem d_Mod_offOf_9 : decode i_Mod_offOf.2.1 9 = .ok (.getfield 44, 3) := by decide +kernel
theorem d_Mod_offOf_12 : decode i_Mod_offOf.2.1 12 = .ok (.aload_n 0, 1) := by decide +kernel
theorem d_Mod_offOf_13 : decode i_Mod_offOf.2.1 13 = .ok (.getfield 28, 3) := by decide +kernel
theorem d_Mod_offOf_16 : decode i_Mod_offOf.2.1 16 = .ok (.iload_n 1, 1) := by decide +kernel
theorem d_Mod_offOf_17 : decode i_Mod_offOf.2.1 17 = .ok (.iaload, 1) := by decide +kernel
theorem d_Mod_offOf_18 : decode i_Mod_offOf.2.1 18 = .ok (.iload_n 2, 1) := by decide +kernel
theorem d_Mod_offOf_19 : decode i_Mod_offOf.2.1 19 = .ok (.iadd, 1) := by decide +kernel
theorem d_Mod_offOf_20 : decode i_Mod_offOf.2.1 20 = .ok (.iaload, 1) := by decide +kernel
theorem d_Mod_offOf_21 : decode i_Mod_offOf.2.1 21 = .ok (.istore 5, 2) := by decide +kernel
theorem d_Mod_offOf_23 : decode i_Mod_offOf.2.1 23 = .ok (.aload_n 0, 1) := by decide +kernel
theorem d_Mod_offOf_24 : decode i_Mod_offOf.2.1 24 = .ok (.getfield 47, 3) := by decide +kernel
theorem d_Mod_offOf_27 : decode i_Mod_offOf.2.1 27 = .ok (.aload_n 0, 1) := by decide +kernel
theorem d_Mod_offOf_28 : decode i_Mod_offOf.2.1 28 = .ok (.getfield 28, 3) := by decide +kernel
theorem d_Mod_offOf_31 : decode i_Mod_offOf.2.1 31 = .ok (.iload_n 1, 1) := by decide +kernel
theorem d_Mod_offOf_32 : decode i_Mod_offOf.2.1 32 = .ok (.iaload, 1) := by decide +kernel
theorem d_Mod_offOf_33 : decode i_Mod_offOf.2.1 33 = .ok (.iload_n 2, 1) := by decide +kernel
theorem d_Mod_offOf_34 : decode i_Mod_offOf.2.1 34 = .ok (.iadd, 1) := by decide +kernel
theorem d_Mod_offOf_35 : decode i_Mod_offOf.2.1 35 = .ok (.iaload, 1) := by decide +kernel
theorem d_Mod_offOf_36 : decode i_Mod_offOf.2.1 36 = .ok (.istore 6, 2) := by decide +kernel
theorem d_Mod_offOf_38 : decode i_Mod_offOf.2.1 38 = .ok (.aload_n 0, 1) := by decide +kernel
theorem d_Mod_offOf_39 : decode i_Mod_offOf.2.1 39 = .ok (.getfield 44, 3) := by decide +kernel
theorem d_Mod_offOf_42 : decode i_Mod_offOf.2.1 42 = .ok (.aload_n 0, 1) := by decide +kernel
theorem d_Mod_offOf_43 : decode i_Mod_offOf.2.1 43 = .ok (.getfield 28, 3) := by decide +kernel
theorem d_Mod_offOf_46 : decode i_Mod_offOf.2.1 46 = .ok (.iload_n 1, 1) := by decide +kernel
theorem d_Mod_offOf_47 : decode i_Mod_offOf.2.1 47 = .ok (.iaload, 1) := by decide +kernel
theorem d_Mod_offOf_48 : decode i_Mod_offOf.2.1 48 = .ok (.iload_n 2, 1) := by decide +kernel
theorem d_Mod_offOf_49 : decode i_Mod_offOf.2.1 49 = .ok (.iload_n 3, 1) := by decide +kernel
theorem d_Mod_offOf_50 : decode i_Mod_offOf.2.1 50 = .ok (.iadd, 1) := by decide +kernel
theorem d_Mod_offOf_51 : decode i_Mod_offOf.2.1 51 = .ok (.iload 4, 2) := by decide +kernel
theorem d_Mod_offOf_53 : decode i_Mod_offOf.2.1 53 = .ok (.irem, 1) := by decide +kernel
theorem d_Mod_offOf_54 : decode i_Mod_offOf.2.1 54 = .ok (.iadd, 1) := by decide +kernel
theorem d_Mod_offOf_55 : decode i_Mod_offOf.2.1 55 = .ok (.iaload, 1) := by decide +kernel
theorem d_Mod_offOf_56 : decode i_Mod_offOf.2.1 56 = .ok (.iload 5, 2) := by decide +kernel
theorem d_Mod_offOf_58 : decode i_Mod_offOf.2.1 58 = .ok (.isub, 1) := by decide +kernel
theorem d_Mod_offOf_59 : decode i_Mod_offOf.2.1 59 = .ok (.istore 7, 2) := by decide +kernel
theorem d_Mod_offOf_61 : decode i_Mod_offOf.2.1 61 = .ok (.aload_n 0, 1) := by decide +kernel
theorem d_Mod_offOf_62 : decode i_Mod_offOf.2.1 62 = .ok (.getfield 47, 3) := by decide +kernel
theorem d_Mod_offOf_65 : decode i_Mod_offOf.2.1 65 = .ok (.aload_n 0, 1) := by decide +kernel
theorem d_Mod_offOf_66 : decode i_Mod_offOf.2.1 66 = .ok (.getfield 28, 3) := by decide +kernel
theorem d_Mod_offOf_69 : decode i_Mod_offOf.2.1 69 = .ok (.iload_n 1, 1) := by decide +kernel
theorem d_Mod_offOf_70 : decode i_Mod_offOf.2.1 70 = .ok (.iaload, 1) := by decide +kernel
theorem d_Mod_offOf_71 : decode i_Mod_offOf.2.1 71 = .ok (.iload_n 2, 1) := by decide +kernel
theorem d_Mod_offOf_72 : decode i_Mod_offOf.2.1 72 = .ok (.iload_n 3, 1) := by decide +kernel
theorem d_Mod_offOf_73 : decode i_Mod_offOf.2.1 73 = .ok (.iadd, 1) := by decide +kernel
theorem d_Mod_offOf_74 : decode i_Mod_offOf.2.1 74 = .ok (.iload 4, 2) := by decide +kernel
theorem d_Mod_offOf_76 : decode i_Mod_offOf.2.1 76 = .ok (.irem, 1) := by decide +kernel
theorem d_Mod_offOf_77 : decode i_Mod_offOf.2.1 77 = .ok (.iadd, 1) := by decide +kernel
theorem d_Mod_offOf_78 : decode i_Mod_offOf.2.1 78 = .ok (.iaload, 1) := by decide +kernel
theorem d_Mod_offOf_79 : decode i_Mod_offOf.2.1 79 = .ok (.iload 6, 2) := by decide +kernel
theorem d_Mod_offOf_81 : decode i_Mod_offOf.2.1 81 = .ok (.isub, 1) := by decide +kernel
theorem d_Mod_offOf_82 : decode i_Mod_offOf.2.1 82 = .ok (.istore 8, 2) := by decide +kernel
theorem d_Mod_offOf_84 : decode i_Mod_offOf.2.1 84 = .ok (.iload 7, 2) := by decide +kernel
theorem d_Mod_offOf_86 : decode i_Mod_offOf.2.1 86 = .ok (.invokestatic 183, 3) := by decide +kernel
theorem d_Mod_offOf_89 : decode i_Mod_offOf.2.1 89 = .ok (.iload 8, 2) := by decide +kernel
theorem d_Mod_offOf_91 : decode i_Mod_offOf.2.1 91 = .ok (.invokestatic 183, 3) := by decide +kernel
theorem d_Mod_offOf_94 : decode i_Mod_offOf.2.1 94 = .ok (.if_icmp .le 11, 3) := by decide +kernel
theorem d_Mod_offOf_97 : decode i_Mod_offOf.2.1 97 = .ok (.iload 7, 2) := by decide +kernel
theorem d_Mod_offOf_99 : decode i_Mod_offOf.2.1 99 = .ok (.invokestatic 183, 3) := by decide +kernel
theorem d_Mod_offOf_102 : decode i_Mod_offOf.2.1 102 = .ok (.goto 8, 3) := by decide +kernel
theorem d_Mod_offOf_105 : decode i_Mod_offOf.2.1 105 = .ok (.iload 8, 2) := by decide +kernel
theorem d_Mod_offOf_107 : decode i_Mod_offOf.2.1 107 = .ok (.invokestatic 183, 3) := by decide +kernel
theorem d_Mod_offOf_110 : decode i_Mod_offOf.2.1 110 = .ok (.istore 9, 2) := by decide +kernel
theorem d_Mod_offOf_112 : decode i_Mod_offOf.2.1 112 = .ok (.iload 9, 2) := by decide +kernel
theorem d_Mod_offOf_114 : decode i_Mod_offOf.2.1 114 = .ok (.ifCond .ne 8, 3) := by decide +kernel
theorem d_Mod_offOf_117 : decode i_Mod_offOf.2.1 117 = .ok (.ldc 185, 2) := by decide +kernel
theorem d_Mod_offOf_119 : decode i_Mod_offOf.2.1 119 = .ok (.goto 4, 3) := by decide +kernel
theorem d_Mod_offOf_122 : decode i_Mod_offOf.2.1 122 = .ok (.iconst 0, 1) := by decide +kernel
theorem d_Mod_offOf_123 : decode i_Mod_offOf.2.1 123 = .ok (.istore 10, 2) := by decide +kernel
theorem d_Mod_offOf_125 : decode i_Mod_offOf.2.1 125 = .ok (.iconst 1, 1) := by decide +kernel
theorem d_Mod_offOf_126 : decode i_Mod_offOf.2.1 126 = .ok (.istore 11, 2) := by decide +kernel
theorem d_Mod_offOf_128 : decode i_Mod_offOf.2.1 128 = .ok (.iload 11, 2) := by decide +kernel
theorem d_Mod_offOf_130 : decode i_Mod_offOf.2.1 130 = .ok (.iload_n 3, 1) := by decide +kernel
theorem d_Mod_offOf_131 : decode i_Mod_offOf.2.1 131 = .ok (.if_icmp .ge 88, 3) := by decide +kernel
theorem d_Mod_offOf_134 : decode i_Mod_offOf.2.1 134 = .ok (.iload 10, 2) := by decide +kernel
theorem d_Mod_offOf_136 : decode i_Mod_offOf.2.1 136 = .ok (.ldc 185, 2) := by decide +kernel
theorem d_Mod_offOf_138 : decode i_Mod_offOf.2.1 138 = .ok (.if_icmp .eq 81, 3) := by decide +kernel
theorem d_Mod_offOf_141 : decode i_Mod_offOf.2.1 141 = .ok (.aload_n 0, 1) := by decide +kernel
theorem d_Mod_offOf_142 : decode i_Mod_offOf.2.1 142 = .ok (.getfield 28, 3) := by decide +kernel
theorem d_Mod_offOf_145 : decode i_Mod_offOf.2.1 145 = .ok (.iload_n 1, 1) := by decide +kernel
theorem d_Mod_offOf_146 : decode i_Mod_offOf.2.1 146 = .ok (.iaload, 1) := by decide +kernel
theorem d_Mod_offOf_147 : decode i_Mod_offOf.2.1 147 = .ok (.iload_n 2, 1) := by decide +kernel
theorem d_Mod_offOf_148 : decode i_Mod_offOf.2.1 148 = .ok (.iload 11, 2) := by decide +kernel
theorem d_Mod_offOf_150 : decode i_Mod_offOf.2.1 150 = .ok (.iadd, 1) := by decide +kernel
theorem d_Mod_offOf_151 : decode i_Mod_offOf.2.1 151 = .ok (.iload 4, 2) := by decide +kernel
theorem d_Mod_offOf_153 : decode i_Mod_offOf.2.1 153 = .ok (.irem, 1) := by decide +kernel
theorem d_Mod_offOf_154 : decode i_Mod_offOf.2.1 154 = .ok (.iadd, 1) := by decide +kernel
theorem d_Mod_offOf_155 : decode i_Mod_offOf.2.1 155 = .ok (.istore 12, 2) := by decide +kernel
theorem d_Mod_offOf_157 : decode i_Mod_offOf.2.1 157 = .ok (.iload 7, 2) := by decide +kernel
theorem d_Mod_offOf_159 : decode i_Mod_offOf.2.1 159 = .ok (.aload_n 0, 1) := by decide +kernel
theorem d_Mod_offOf_160 : decode i_Mod_offOf.2.1 160 = .ok (.getfield 47, 3) := by decide +kernel
theorem d_Mod_offOf_163 : decode i_Mod_offOf.2.1 163 = .ok (.iload 12, 2) := by decide +kernel
theorem d_Mod_offOf_165 : decode i_Mod_offOf.2.1 165 = .ok (.iaload, 1) := by decide +kernel
theorem d_Mod_offOf_166 : decode i_Mod_offOf.2.1 166 = .ok (.iload 6, 2) := by decide +kernel
theorem d_Mod_offOf_168 : decode i_Mod_offOf.2.1 168 = .ok (.isub, 1) := by decide +kernel
theorem d_Mod_offOf_169 : decode i_Mod_offOf.2.1 169 = .ok (.imul, 1) := by decide +kernel
theorem d_Mod_offOf_170 : decode i_Mod_offOf.2.1 170 = .ok (.iload 8, 2) := by decide +kernel
theorem d_Mod_offOf_172 : decode i_Mod_offOf.2.1 172 = .ok (.aload_n 0, 1) := by decide +kernel
theorem d_Mod_offOf_173 : decode i_Mod_offOf.2.1 173 = .ok (.getfield 44, 3) := by decide +kernel
theorem d_Mod_offOf_176 : decode i_Mod_offOf.2.1 176 = .ok (.iload 12, 2) := by decide +kernel
theorem d_Mod_offOf_178 : decode i_Mod_offOf.2.1 178 = .ok (.iaload, 1) := by decide +kernel
theorem d_Mod_offOf_179 : decode i_Mod_offOf.2.1 179 = .ok (.iload 5, 2) := by decide +kernel
theorem d_Mod_offOf_181 : decode i_Mod_offOf.2.1 181 = .ok (.isub, 1) := by decide +kernel
theorem d_Mod_offOf_182 : decode i_Mod_offOf.2.1 182 = .ok (.imul, 1) := by decide +kernel
theorem d_Mod_offOf_183 : decode i_Mod_offOf.2.1 183 = .ok (.isub, 1) := by decide +kernel
theorem d_Mod_offOf_184 : decode i_Mod_offOf.2.1 184 = .ok (.invokestatic 183, 3) := by decide +kernel
theorem d_Mod_offOf_187 : decode i_Mod_offOf.2.1 187 = .ok (.istore 13, 2) := by decide +kernel
theorem d_Mod_offOf_189 : decode i_Mod_offOf.2.1 189 = .ok (.iconst 2, 1) := by decide +kernel
theorem d_Mod_offOf_190 : decode i_Mod_offOf.2.1 190 = .ok (.iload 13, 2) := by decide +kernel
theorem d_Mod_offOf_192 : decode i_Mod_offOf.2.1 192 = .ok (.imul, 1) := by decide +kernel
theorem d_Mod_offOf_193 : decode i_Mod_offOf.2.1 193 = .ok (.iload 9, 2) := by decide +kernel
theorem d_Mod_offOf_195 : decode i_Mod_offOf.2.1 195 = .ok (.if_icmp .le 8, 3) := by decide +kernel
theorem d_Mod_offOf_198 : decode i_Mod_offOf.2.1 198 = .ok (.ldc 185, 2) := by decide +kernel
theorem d_Mod_offOf_200 : decode i_Mod_offOf.2.1 200 = .ok (.goto 11, 3) := by decide +kernel
theorem d_Mod_offOf_203 : decode i_Mod_offOf.2.1 203 = .ok (.iload 10, 2) := by decide +kernel
theorem d_Mod_offOf_205 : decode i_Mod_offOf.2.1 205 = .ok (.iload 13, 2) := by decide +kernel
theorem d_Mod_offOf_207 : decode i_Mod_offOf.2.1 207 = .ok (.iload 13, 2) := by decide +kernel
theorem d_Mod_offOf_209 : decode i_Mod_offOf.2.1 209 = .ok (.imul, 1) := by decide +kernel
theorem d_Mod_offOf_210 : decode i_Mod_offOf.2.1 210 = .ok (.iadd, 1) := by decide +kernel
theorem d_Mod_offOf_211 : decode i_Mod_offOf.2.1 211 = .ok (.istore 10, 2) := by decide +kernel
theorem d_Mod_offOf_213 : decode i_Mod_offOf.2.1 213 = .ok (.iinc 11 1, 3) := by decide +kernel
theorem d_Mod_offOf_216 : decode i_Mod_offOf.2.1 216 = .ok (.goto (-88), 3) := by decide +kernel
theorem d_Mod_offOf_219 : decode i_Mod_offOf.2.1 219 = .ok (.iload 10, 2) := by decide +kernel
theorem d_Mod_offOf_221 : decode i_Mod_offOf.2.1 221 = .ok (.ireturn, 1) := by decide +kernel
theorem d_Mod_laysTable_0 : decode i_Mod_laysTable.2.1 0 = .ok (.aload_n 0, 1) := by decide +kernel
theorem d_Mod_laysTable_1 : decode i_Mod_laysTable.2.1 1 = .ok (.getfield 153, 3) := by decide +kernel
theorem d_Mod_laysTable_4 : decode i_Mod_laysTable.2.1 4 = .ok (.iload_n 1, 1) := by decide +kernel
theorem d_Mod_laysTable_5 : decode i_Mod_laysTable.2.1 5 = .ok (.if_icmp .ne 4, 3) := by decide +kernel
theorem d_Mod_laysTable_8 : decode i_Mod_laysTable.2.1 8 = .ok (.return_, 1) := by decide +kernel
theorem d_Mod_laysTable_9 : decode i_Mod_laysTable.2.1 9 = .ok (.aload_n 0, 1) := by decide +kernel
theorem d_Mod_laysTable_10 : decode i_Mod_laysTable.2.1 10 = .ok (.iload_n 1, 1) := by decide +kernel
theorem d_Mod_laysTable_11 : decode i_Mod_laysTable.2.1 11 = .ok (.putfield 153, 3) := by decide +kernel
theorem d_Mod_laysTable_14 : decode i_Mod_laysTable.2.1 14 = .ok (.iconst 0, 1) := by decide +kernel
theorem d_Mod_laysTable_15 : decode i_Mod_laysTable.2.1 15 = .ok (.istore_n 2, 1) := by decide +kernel
theorem d_Mod_laysTable_16 : decode i_Mod_laysTable.2.1 16 = .ok (.iload_n 2, 1) := by decide +kernel
theorem d_Mod_laysTable_17 : decode i_Mod_laysTable.2.1 17 = .ok (.aload_n 0, 1) := by decide +kernel
theorem d_Mod_laysTable_18 : decode i_Mod_laysTable.2.1 18 = .ok (.getfield 31, 3) := by decide +kernel
theorem d_Mod_laysTable_21 : decode i_Mod_laysTable.2.1 21 = .ok (.iload_n 1, 1) := by decide +kernel
theorem d_Mod_laysTable_22 : decode i_Mod_laysTable.2.1 22 = .ok (.iaload, 1) := by decide +kernel
theorem d_Mod_laysTable_23 : decode i_Mod_laysTable.2.1 23 = .ok (.if_icmp .ge 46, 3) := by decide +kernel
theorem d_Mod_laysTable_26 : decode i_Mod_laysTable.2.1 26 = .ok (.iconst 1, 1) := by decide +kernel
theorem d_Mod_laysTable_27 : decode i_Mod_laysTable.2.1 27 = .ok (.istore_n 3, 1) := by decide +kernel
theorem d_Mod_laysTable_28 : decode i_Mod_laysTable.2.1 28 = .ok (.iload_n 3, 1) := by decide +kernel
theorem d_Mod_laysTable_29 : decode i_Mod_laysTable.2.1 29 = .ok (.aload_n 0, 1) := by decide +kernel
theorem d_Mod_laysTable_30 : decode i_Mod_laysTable.2.1 30 = .ok (.getfield 31, 3) := by decide +kernel
end
section
theorem d_Mod_laysTable_33 : decode i_Mod_laysTable.2.1 33 = .ok (.iload_n 1, 1) := by decide +kernel
theorem d_Mod_laysTable_34 : decode i_Mod_laysTable.2.1 34 = .ok (.iaload, 1) := by decide +kernel
theorem d_Mod_laysTable_35 : decode i_Mod_laysTable.2.1 35 = .ok (.if_icmp .ge 28, 3) := by decide +kernel
theorem d_Mod_laysTable_38 : decode i_Mod_laysTable.2.1 38 = .ok (.aload_n 0, 1) := by decide +kernel
theorem d_Mod_laysTable_39 : decode i_Mod_laysTable.2.1 39 = .ok (.getfield 53, 3) := by decide +kernel
theorem d_Mod_laysTable_42 : decode i_Mod_laysTable.2.1 42 = .ok (.sipush 144, 3) := by decide +kernel
theorem d_Mod_laysTable_45 : decode i_Mod_laysTable.2.1 45 = .ok (.iload_n 2, 1) := by decide +kernel
theorem d_Mod_laysTable_46 : decode i_Mod_laysTable.2.1 46 = .ok (.imul, 1) := by decide +kernel
theorem d_Mod_laysTable_47 : decode i_Mod_laysTable.2.1 47 = .ok (.iload_n 3, 1) := by decide +kernel
theorem d_Mod_laysTable_48 : decode i_Mod_laysTable.2.1 48 = .ok (.iadd, 1) := by decide +kernel
theorem d_Mod_laysTable_49 : decode i_Mod_laysTable.2.1 49 = .ok (.aload_n 0, 1) := by decide +kernel
theorem d_Mod_laysTable_50 : decode i_Mod_laysTable.2.1 50 = .ok (.iload_n 1, 1) := by decide +kernel
theorem d_Mod_laysTable_51 : decode i_Mod_laysTable.2.1 51 = .ok (.iload_n 2, 1) := by decide +kernel
theorem d_Mod_laysTable_52 : decode i_Mod_laysTable.2.1 52 = .ok (.iload_n 3, 1) := by decide +kernel
theorem d_Mod_laysTable_53 : decode i_Mod_laysTable.2.1 53 = .ok (.invokevirtual 186, 3) := by decide +kernel
theorem d_Mod_laysTable_56 : decode i_Mod_laysTable.2.1 56 = .ok (.iastore, 1) := by decide +kernel
theorem d_Mod_laysTable_57 : decode i_Mod_laysTable.2.1 57 = .ok (.iinc 3 1, 3) := by decide +kernel
theorem d_Mod_laysTable_60 : decode i_Mod_laysTable.2.1 60 = .ok (.goto (-32), 3) := by decide +kernel
theorem d_Mod_laysTable_63 : decode i_Mod_laysTable.2.1 63 = .ok (.iinc 2 1, 3) := by decide +kernel
theorem d_Mod_laysTable_66 : decode i_Mod_laysTable.2.1 66 = .ok (.goto (-50), 3) := by decide +kernel
theorem d_Mod_laysTable_69 : decode i_Mod_laysTable.2.1 69 = .ok (.aload_n 0, 1) := by decide +kernel
theorem d_Mod_laysTable_70 : decode i_Mod_laysTable.2.1 70 = .ok (.iload_n 1, 1) := by decide +kernel
theorem d_Mod_laysTable_71 : decode i_Mod_laysTable.2.1 71 = .ok (.invokevirtual 189, 3) := by decide +kernel
theorem d_Mod_laysTable_74 : decode i_Mod_laysTable.2.1 74 = .ok (.return_, 1) := by decide +kernel
theorem d_Mod_isStretch_0 : decode i_Mod_isStretch.2.1 0 = .ok (.aload_n 0, 1) := by decide +kernel
theorem d_Mod_isStretch_1 : decode i_Mod_isStretch.2.1 1 = .ok (.iload_n 1, 1) := by decide +kernel
theorem d_Mod_isStretch_2 : decode i_Mod_isStretch.2.1 2 = .ok (.invokevirtual 169, 3) := by decide +kernel
theorem d_Mod_isStretch_5 : decode i_Mod_isStretch.2.1 5 = .ok (.ifCond .eq 39, 3) := by decide +kernel
theorem d_Mod_isStretch_8 : decode i_Mod_isStretch.2.1 8 = .ok (.iload_n 2, 1) := by decide +kernel
theorem d_Mod_isStretch_9 : decode i_Mod_isStretch.2.1 9 = .ok (.iconst 0, 1) := by decide +kernel
theorem d_Mod_isStretch_10 : decode i_Mod_isStretch.2.1 10 = .ok (.aload_n 0, 1) := by decide +kernel
theorem d_Mod_isStretch_11 : decode i_Mod_isStretch.2.1 11 = .ok (.getfield 31, 3) := by decide +kernel
theorem d_Mod_isStretch_14 : decode i_Mod_isStretch.2.1 14 = .ok (.iload_n 1, 1) := by decide +kernel
theorem d_Mod_isStretch_15 : decode i_Mod_isStretch.2.1 15 = .ok (.iaload, 1) := by decide +kernel
theorem d_Mod_isStretch_16 : decode i_Mod_isStretch.2.1 16 = .ok (.iconst 1, 1) := by decide +kernel
theorem d_Mod_isStretch_17 : decode i_Mod_isStretch.2.1 17 = .ok (.isub, 1) := by decide +kernel
theorem d_Mod_isStretch_18 : decode i_Mod_isStretch.2.1 18 = .ok (.invokestatic 71, 3) := by decide +kernel
theorem d_Mod_isStretch_21 : decode i_Mod_isStretch.2.1 21 = .ok (.ifCond .eq 23, 3) := by decide +kernel
theorem d_Mod_isStretch_24 : decode i_Mod_isStretch.2.1 24 = .ok (.iload_n 3, 1) := by decide +kernel
theorem d_Mod_isStretch_25 : decode i_Mod_isStretch.2.1 25 = .ok (.iconst 1, 1) := by decide +kernel
theorem d_Mod_isStretch_26 : decode i_Mod_isStretch.2.1 26 = .ok (.aload_n 0, 1) := by decide +kernel
theorem d_Mod_isStretch_27 : decode i_Mod_isStretch.2.1 27 = .ok (.getfield 31, 3) := by decide +kernel
theorem d_Mod_isStretch_30 : decode i_Mod_isStretch.2.1 30 = .ok (.iload_n 1, 1) := by decide +kernel
theorem d_Mod_isStretch_31 : decode i_Mod_isStretch.2.1 31 = .ok (.iaload, 1) := by decide +kernel
theorem d_Mod_isStretch_32 : decode i_Mod_isStretch.2.1 32 = .ok (.iconst 1, 1) := by decide +kernel
theorem d_Mod_isStretch_33 : decode i_Mod_isStretch.2.1 33 = .ok (.isub, 1) := by decide +kernel
theorem d_Mod_isStretch_34 : decode i_Mod_isStretch.2.1 34 = .ok (.invokestatic 71, 3) := by decide +kernel
theorem d_Mod_isStretch_37 : decode i_Mod_isStretch.2.1 37 = .ok (.ifCond .eq 7, 3) := by decide +kernel
theorem d_Mod_isStretch_40 : decode i_Mod_isStretch.2.1 40 = .ok (.iconst 1, 1) := by decide +kernel
theorem d_Mod_isStretch_41 : decode i_Mod_isStretch.2.1 41 = .ok (.goto 4, 3) := by decide +kernel
theorem d_Mod_isStretch_44 : decode i_Mod_isStretch.2.1 44 = .ok (.iconst 0, 1) := by decide +kernel
theorem d_Mod_isStretch_45 : decode i_Mod_isStretch.2.1 45 = .ok (.ireturn, 1) := by decide +kernel
theorem d_Mod_straight_0 : decode i_Mod_straight.2.1 0 = .ok (.aload_n 0, 1) := by decide +kernel
theorem d_Mod_straight_1 : decode i_Mod_straight.2.1 1 = .ok (.iload_n 1, 1) := by decide +kernel
theorem d_Mod_straight_2 : decode i_Mod_straight.2.1 2 = .ok (.iload_n 2, 1) := by decide +kernel
theorem d_Mod_straight_3 : decode i_Mod_straight.2.1 3 = .ok (.iload_n 3, 1) := by decide +kernel
theorem d_Mod_straight_4 : decode i_Mod_straight.2.1 4 = .ok (.invokevirtual 193, 3) := by decide +kernel
theorem d_Mod_straight_7 : decode i_Mod_straight.2.1 7 = .ok (.ifCond .eq 23, 3) := by decide +kernel
theorem d_Mod_straight_10 : decode i_Mod_straight.2.1 10 = .ok (.aload_n 0, 1) := by decide +kernel
theorem d_Mod_straight_11 : decode i_Mod_straight.2.1 11 = .ok (.iload_n 1, 1) := by decide +kernel
theorem d_Mod_straight_12 : decode i_Mod_straight.2.1 12 = .ok (.iload_n 2, 1) := by decide +kernel
theorem d_Mod_straight_13 : decode i_Mod_straight.2.1 13 = .ok (.iload_n 3, 1) := by decide +kernel
theorem d_Mod_straight_14 : decode i_Mod_straight.2.1 14 = .ok (.invokevirtual 186, 3) := by decide +kernel
theorem d_Mod_straight_17 : decode i_Mod_straight.2.1 17 = .ok (.ldc 185, 2) := by decide +kernel
theorem d_Mod_straight_19 : decode i_Mod_straight.2.1 19 = .ok (.if_icmp .ne 7, 3) := by decide +kernel
theorem d_Mod_straight_22 : decode i_Mod_straight.2.1 22 = .ok (.iconst 0, 1) := by decide +kernel
theorem d_Mod_straight_23 : decode i_Mod_straight.2.1 23 = .ok (.goto 9, 3) := by decide +kernel
theorem d_Mod_straight_26 : decode i_Mod_straight.2.1 26 = .ok (.iconst 1, 1) := by decide +kernel
theorem d_Mod_straight_27 : decode i_Mod_straight.2.1 27 = .ok (.goto 5, 3) := by decide +kernel
theorem d_Mod_straight_30 : decode i_Mod_straight.2.1 30 = .ok (.ldc 75, 2) := by decide +kernel
theorem d_Mod_straight_32 : decode i_Mod_straight.2.1 32 = .ok (.ireturn, 1) := by decide +kernel
theorem d_Mod_off_0 : decode i_Mod_off.2.1 0 = .ok (.aload_n 0, 1) := by decide +kernel
theorem d_Mod_off_1 : decode i_Mod_off.2.1 1 = .ok (.iload_n 1, 1) := by decide +kernel
theorem d_Mod_off_2 : decode i_Mod_off.2.1 2 = .ok (.iload_n 2, 1) := by decide +kernel
theorem d_Mod_off_3 : decode i_Mod_off.2.1 3 = .ok (.iload_n 3, 1) := by decide +kernel
theorem d_Mod_off_4 : decode i_Mod_off.2.1 4 = .ok (.invokevirtual 193, 3) := by decide +kernel
theorem d_Mod_off_7 : decode i_Mod_off.2.1 7 = .ok (.ifCond .eq 13, 3) := by decide +kernel
theorem d_Mod_off_10 : decode i_Mod_off.2.1 10 = .ok (.aload_n 0, 1) := by decide +kernel
theorem d_Mod_off_11 : decode i_Mod_off.2.1 11 = .ok (.iload_n 1, 1) := by decide +kernel
theorem d_Mod_off_12 : decode i_Mod_off.2.1 12 = .ok (.iload_n 2, 1) := by decide +kernel
theorem d_Mod_off_13 : decode i_Mod_off.2.1 13 = .ok (.iload_n 3, 1) := by decide +kernel
theorem d_Mod_off_14 : decode i_Mod_off.2.1 14 = .ok (.invokevirtual 186, 3) := by decide +kernel
theorem d_Mod_off_17 : decode i_Mod_off.2.1 17 = .ok (.goto 5, 3) := by decide +kernel
theorem d_Mod_off_20 : decode i_Mod_off.2.1 20 = .ok (.ldc 75, 2) := by decide +kernel
theorem d_Mod_off_22 : decode i_Mod_off.2.1 22 = .ok (.ireturn, 1) := by decide +kernel
theorem d_Mod_longest_0 : decode i_Mod_longest.2.1 0 = .ok (.aload_n 0, 1) := by decide +kernel
theorem d_Mod_longest_1 : decode i_Mod_longest.2.1 1 = .ok (.iload_n 1, 1) := by decide +kernel
theorem d_Mod_longest_2 : decode i_Mod_longest.2.1 2 = .ok (.iload_n 2, 1) := by decide +kernel
theorem d_Mod_longest_3 : decode i_Mod_longest.2.1 3 = .ok (.iconst 1, 1) := by decide +kernel
theorem d_Mod_longest_4 : decode i_Mod_longest.2.1 4 = .ok (.invokevirtual 193, 3) := by decide +kernel
theorem d_Mod_longest_7 : decode i_Mod_longest.2.1 7 = .ok (.ifCond .ne 6, 3) := by decide +kernel
theorem d_Mod_longest_10 : decode i_Mod_longest.2.1 10 = .ok (.ldc 75, 2) := by decide +kernel
theorem d_Mod_longest_12 : decode i_Mod_longest.2.1 12 = .ok (.ireturn, 1) := by decide +kernel
theorem d_Mod_longest_13 : decode i_Mod_longest.2.1 13 = .ok (.aload_n 0, 1) := by decide +kernel
theorem d_Mod_longest_14 : decode i_Mod_longest.2.1 14 = .ok (.getfield 31, 3) := by decide +kernel
theorem d_Mod_longest_17 : decode i_Mod_longest.2.1 17 = .ok (.iload_n 1, 1) := by decide +kernel
theorem d_Mod_longest_18 : decode i_Mod_longest.2.1 18 = .ok (.iaload, 1) := by decide +kernel
theorem d_Mod_longest_19 : decode i_Mod_longest.2.1 19 = .ok (.iconst 1, 1) := by decide +kernel
theorem d_Mod_longest_20 : decode i_Mod_longest.2.1 20 = .ok (.isub, 1) := by decide +kernel
theorem d_Mod_longest_21 : decode i_Mod_longest.2.1 21 = .ok (.istore_n 3, 1) := by decide +kernel
theorem d_Mod_longest_22 : decode i_Mod_longest.2.1 22 = .ok (.aload_n 0, 1) := by decide +kernel
theorem d_Mod_longest_23 : decode i_Mod_longest.2.1 23 = .ok (.iload_n 1, 1) := by decide +kernel
theorem d_Mod_longest_24 : decode i_Mod_longest.2.1 24 = .ok (.iload_n 2, 1) := by decide +kernel
theorem d_Mod_longest_25 : decode i_Mod_longest.2.1 25 = .ok (.iload_n 3, 1) := by decide +kernel
theorem d_Mod_longest_26 : decode i_Mod_longest.2.1 26 = .ok (.invokevirtual 186, 3) := by decide +kernel
theorem d_Mod_longest_29 : decode i_Mod_longest.2.1 29 = .ok (.ldc 185, 2) := by decide +kernel
theorem d_Mod_longest_31 : decode i_Mod_longest.2.1 31 = .ok (.if_icmp .ne 9, 3) := by decide +kernel
theorem d_Mod_longest_34 : decode i_Mod_longest.2.1 34 = .ok (.iinc 3 (-1), 3) := by decide +kernel
theorem d_Mod_longest_37 : decode i_Mod_longest.2.1 37 = .ok (.goto (-15), 3) := by decide +kernel
theorem d_Mod_longest_40 : decode i_Mod_longest.2.1 40 = .ok (.iload_n 3, 1) := by decide +kernel
theorem d_Mod_longest_41 : decode i_Mod_longest.2.1 41 = .ok (.ireturn, 1) := by decide +kernel
theorem d_Mod_stretch_0 : decode i_Mod_stretch.2.1 0 = .ok (.aload_n 0, 1) := by decide +kernel
theorem d_Mod_stretch_1 : decode i_Mod_stretch.2.1 1 = .ok (.getfield 53, 3) := by decide +kernel
theorem d_Mod_stretch_4 : decode i_Mod_stretch.2.1 4 = .ok (.sipush 144, 3) := by decide +kernel
theorem d_Mod_stretch_7 : decode i_Mod_stretch.2.1 7 = .ok (.iload_n 1, 1) := by decide +kernel
theorem d_Mod_stretch_8 : decode i_Mod_stretch.2.1 8 = .ok (.imul, 1) := by decide +kernel
theorem d_Mod_stretch_9 : decode i_Mod_stretch.2.1 9 = .ok (.iload_n 2, 1) := by decide +kernel
theorem d_Mod_stretch_10 : decode i_Mod_stretch.2.1 10 = .ok (.iadd, 1) := by decide +kernel
theorem d_Mod_stretch_11 : decode i_Mod_stretch.2.1 11 = .ok (.iaload, 1) := by decide +kernel
theorem d_Mod_stretch_12 : decode i_Mod_stretch.2.1 12 = .ok (.ldc 185, 2) := by decide +kernel
theorem d_Mod_stretch_14 : decode i_Mod_stretch.2.1 14 = .ok (.if_icmp .eq 9, 3) := by decide +kernel
theorem d_Mod_stretch_17 : decode i_Mod_stretch.2.1 17 = .ok (.iload_n 3, 1) := by decide +kernel
theorem d_Mod_stretch_18 : decode i_Mod_stretch.2.1 18 = .ok (.ldc 196, 2) := by decide +kernel
theorem d_Mod_stretch_20 : decode i_Mod_stretch.2.1 20 = .ok (.if_icmp .lt 8, 3) := by decide +kernel
theorem d_Mod_stretch_23 : decode i_Mod_stretch.2.1 23 = .ok (.ldc 196, 2) := by decide +kernel
theorem d_Mod_stretch_25 : decode i_Mod_stretch.2.1 25 = .ok (.goto 20, 3) := by decide +kernel
theorem d_Mod_stretch_28 : decode i_Mod_stretch.2.1 28 = .ok (.ldc 197, 2) := by decide +kernel
theorem d_Mod_stretch_30 : decode i_Mod_stretch.2.1 30 = .ok (.aload_n 0, 1) := by decide +kernel
theorem d_Mod_stretch_31 : decode i_Mod_stretch.2.1 31 = .ok (.getfield 53, 3) := by decide +kernel
theorem d_Mod_stretch_34 : decode i_Mod_stretch.2.1 34 = .ok (.sipush 144, 3) := by decide +kernel
theorem d_Mod_stretch_37 : decode i_Mod_stretch.2.1 37 = .ok (.iload_n 1, 1) := by decide +kernel
theorem d_Mod_stretch_38 : decode i_Mod_stretch.2.1 38 = .ok (.imul, 1) := by decide +kernel
theorem d_Mod_stretch_39 : decode i_Mod_stretch.2.1 39 = .ok (.iload_n 2, 1) := by decide +kernel
theorem d_Mod_stretch_40 : decode i_Mod_stretch.2.1 40 = .ok (.iadd, 1) := by decide +kernel
theorem d_Mod_stretch_41 : decode i_Mod_stretch.2.1 41 = .ok (.iaload, 1) := by decide +kernel
theorem d_Mod_stretch_42 : decode i_Mod_stretch.2.1 42 = .ok (.iadd, 1) := by decide +kernel
theorem d_Mod_stretch_43 : decode i_Mod_stretch.2.1 43 = .ok (.iload_n 3, 1) := by decide +kernel
theorem d_Mod_stretch_44 : decode i_Mod_stretch.2.1 44 = .ok (.iadd, 1) := by decide +kernel
theorem d_Mod_stretch_45 : decode i_Mod_stretch.2.1 45 = .ok (.ireturn, 1) := by decide +kernel
theorem d_Mod_laysLeast_0 : decode i_Mod_laysLeast.2.1 0 = .ok (.iload_n 1, 1) := by decide +kernel
theorem d_Mod_laysLeast_1 : decode i_Mod_laysLeast.2.1 1 = .ok (.iconst 1, 1) := by decide +kernel
theorem d_Mod_laysLeast_2 : decode i_Mod_laysLeast.2.1 2 = .ok (.isub, 1) := by decide +kernel
theorem d_Mod_laysLeast_3 : decode i_Mod_laysLeast.2.1 3 = .ok (.istore_n 3, 1) := by decide +kernel
theorem d_Mod_laysLeast_4 : decode i_Mod_laysLeast.2.1 4 = .ok (.iload_n 3, 1) := by decide +kernel
theorem d_Mod_laysLeast_5 : decode i_Mod_laysLeast.2.1 5 = .ok (.iload_n 2, 1) := by decide +kernel
theorem d_Mod_laysLeast_6 : decode i_Mod_laysLeast.2.1 6 = .ok (.if_icmp .lt 104, 3) := by decide +kernel
theorem d_Mod_laysLeast_9 : decode i_Mod_laysLeast.2.1 9 = .ok (.iload_n 2, 1) := by decide +kernel
theorem d_Mod_laysLeast_10 : decode i_Mod_laysLeast.2.1 10 = .ok (.iload_n 1, 1) := by decide +kernel
theorem d_Mod_laysLeast_11 : decode i_Mod_laysLeast.2.1 11 = .ok (.iadd, 1) := by decide +kernel
theorem d_Mod_laysLeast_12 : decode i_Mod_laysLeast.2.1 12 = .ok (.iload_n 3, 1) := by decide +kernel
theorem d_Mod_laysLeast_13 : decode i_Mod_laysLeast.2.1 13 = .ok (.isub, 1) := by decide +kernel
theorem d_Mod_laysLeast_14 : decode i_Mod_laysLeast.2.1 14 = .ok (.istore 4, 2) := by decide +kernel
theorem d_Mod_laysLeast_16 : decode i_Mod_laysLeast.2.1 16 = .ok (.aload_n 0, 1) := by decide +kernel
theorem d_Mod_laysLeast_17 : decode i_Mod_laysLeast.2.1 17 = .ok (.getfield 56, 3) := by decide +kernel
theorem d_Mod_laysLeast_20 : decode i_Mod_laysLeast.2.1 20 = .ok (.iload_n 3, 1) := by decide +kernel
theorem d_Mod_laysLeast_21 : decode i_Mod_laysLeast.2.1 21 = .ok (.iload 4, 2) := by decide +kernel
theorem d_Mod_laysLeast_23 : decode i_Mod_laysLeast.2.1 23 = .ok (.iload_n 1, 1) := by decide +kernel
theorem d_Mod_laysLeast_24 : decode i_Mod_laysLeast.2.1 24 = .ok (.if_icmp .ge 14, 3) := by decide +kernel
theorem d_Mod_laysLeast_27 : decode i_Mod_laysLeast.2.1 27 = .ok (.aload_n 0, 1) := by decide +kernel
theorem d_Mod_laysLeast_28 : decode i_Mod_laysLeast.2.1 28 = .ok (.iload_n 3, 1) := by decide +kernel
theorem d_Mod_laysLeast_29 : decode i_Mod_laysLeast.2.1 29 = .ok (.iload 4, 2) := by decide +kernel
theorem d_Mod_laysLeast_31 : decode i_Mod_laysLeast.2.1 31 = .ok (.iconst 0, 1) := by decide +kernel
theorem d_Mod_laysLeast_32 : decode i_Mod_laysLeast.2.1 32 = .ok (.invokevirtual 198, 3) := by decide +kernel
theorem d_Mod_laysLeast_35 : decode i_Mod_laysLeast.2.1 35 = .ok (.goto 5, 3) := by decide +kernel
theorem d_Mod_laysLeast_38 : decode i_Mod_laysLeast.2.1 38 = .ok (.ldc 196, 2) := by decide +kernel
theorem d_Mod_laysLeast_40 : decode i_Mod_laysLeast.2.1 40 = .ok (.iastore, 1) := by decide +kernel
theorem d_Mod_laysLeast_41 : decode i_Mod_laysLeast.2.1 41 = .ok (.iload_n 3, 1) := by decide +kernel
theorem d_Mod_laysLeast_42 : decode i_Mod_laysLeast.2.1 42 = .ok (.iconst 1, 1) := by decide +kernel
theorem d_Mod_laysLeast_43 : decode i_Mod_laysLeast.2.1 43 = .ok (.iadd, 1) := by decide +kernel
theorem d_Mod_laysLeast_44 : decode i_Mod_laysLeast.2.1 44 = .ok (.istore 5, 2) := by decide +kernel
theorem d_Mod_laysLeast_46 : decode i_Mod_laysLeast.2.1 46 = .ok (.iload 5, 2) := by decide +kernel
theorem d_Mod_laysLeast_48 : decode i_Mod_laysLeast.2.1 48 = .ok (.iload_n 1, 1) := by decide +kernel
theorem d_Mod_laysLeast_49 : decode i_Mod_laysLeast.2.1 49 = .ok (.if_icmp .ge 55, 3) := by decide +kernel
theorem d_Mod_laysLeast_52 : decode i_Mod_laysLeast.2.1 52 = .ok (.aload_n 0, 1) := by decide +kernel
theorem d_Mod_laysLeast_53 : decode i_Mod_laysLeast.2.1 53 = .ok (.iload_n 3, 1) := by decide +kernel
theorem d_Mod_laysLeast_54 : decode i_Mod_laysLeast.2.1 54 = .ok (.iload 5, 2) := by decide +kernel
theorem d_Mod_laysLeast_56 : decode i_Mod_laysLeast.2.1 56 = .ok (.iload_n 3, 1) := by decide +kernel
theorem d_Mod_laysLeast_57 : decode i_Mod_laysLeast.2.1 57 = .ok (.isub, 1) := by decide +kernel
theorem d_Mod_laysLeast_58 : decode i_Mod_laysLeast.2.1 58 = .ok (.aload_n 0, 1) := by decide +kernel
theorem d_Mod_laysLeast_59 : decode i_Mod_laysLeast.2.1 59 = .ok (.getfield 56, 3) := by decide +kernel
theorem d_Mod_laysLeast_62 : decode i_Mod_laysLeast.2.1 62 = .ok (.iload 5, 2) := by decide +kernel
theorem d_Mod_laysLeast_64 : decode i_Mod_laysLeast.2.1 64 = .ok (.iaload, 1) := by decide +kernel
theorem d_Mod_laysLeast_65 : decode i_Mod_laysLeast.2.1 65 = .ok (.invokevirtual 198, 3) := by decide +kernel
theorem d_Mod_laysLeast_68 : decode i_Mod_laysLeast.2.1 68 = .ok (.istore 6, 2) := by decide +kernel
theorem d_Mod_laysLeast_70 : decode i_Mod_laysLeast.2.1 70 = .ok (.aload_n 0, 1) := by decide +kernel
theorem d_Mod_laysLeast_71 : decode i_Mod_laysLeast.2.1 71 = .ok (.getfield 56, 3) := by decide +kernel
theorem d_Mod_laysLeast_74 : decode i_Mod_laysLeast.2.1 74 = .ok (.iload_n 3, 1) := by decide +kernel
theorem d_Mod_laysLeast_75 : decode i_Mod_laysLeast.2.1 75 = .ok (.iload 6, 2) := by decide +kernel
theorem d_Mod_laysLeast_77 : decode i_Mod_laysLeast.2.1 77 = .ok (.aload_n 0, 1) := by decide +kernel
theorem d_Mod_laysLeast_78 : decode i_Mod_laysLeast.2.1 78 = .ok (.getfield 56, 3) := by decide +kernel
theorem d_Mod_laysLeast_81 : decode i_Mod_laysLeast.2.1 81 = .ok (.iload_n 3, 1) := by decide +kernel
theorem d_Mod_laysLeast_82 : decode i_Mod_laysLeast.2.1 82 = .ok (.iaload, 1) := by decide +kernel
theorem d_Mod_laysLeast_83 : decode i_Mod_laysLeast.2.1 83 = .ok (.if_icmp .ge 8, 3) := by decide +kernel
theorem d_Mod_laysLeast_86 : decode i_Mod_laysLeast.2.1 86 = .ok (.iload 6, 2) := by decide +kernel
theorem d_Mod_laysLeast_88 : decode i_Mod_laysLeast.2.1 88 = .ok (.goto 9, 3) := by decide +kernel
theorem d_Mod_laysLeast_91 : decode i_Mod_laysLeast.2.1 91 = .ok (.aload_n 0, 1) := by decide +kernel
theorem d_Mod_laysLeast_92 : decode i_Mod_laysLeast.2.1 92 = .ok (.getfield 56, 3) := by decide +kernel
theorem d_Mod_laysLeast_95 : decode i_Mod_laysLeast.2.1 95 = .ok (.iload_n 3, 1) := by decide +kernel
theorem d_Mod_laysLeast_96 : decode i_Mod_laysLeast.2.1 96 = .ok (.iaload, 1) := by decide +kernel
theorem d_Mod_laysLeast_97 : decode i_Mod_laysLeast.2.1 97 = .ok (.iastore, 1) := by decide +kernel
theorem d_Mod_laysLeast_98 : decode i_Mod_laysLeast.2.1 98 = .ok (.iinc 5 1, 3) := by decide +kernel
theorem d_Mod_laysLeast_101 : decode i_Mod_laysLeast.2.1 101 = .ok (.goto (-55), 3) := by decide +kernel
theorem d_Mod_laysLeast_104 : decode i_Mod_laysLeast.2.1 104 = .ok (.iinc 3 (-1), 3) := by decide +kernel
theorem d_Mod_laysLeast_107 : decode i_Mod_laysLeast.2.1 107 = .ok (.goto (-103), 3) := by decide +kernel
theorem d_Mod_laysLeast_110 : decode i_Mod_laysLeast.2.1 110 = .ok (.aload_n 0, 1) := by decide +kernel
theorem d_Mod_laysLeast_111 : decode i_Mod_laysLeast.2.1 111 = .ok (.getfield 56, 3) := by decide +kernel
theorem d_Mod_laysLeast_114 : decode i_Mod_laysLeast.2.1 114 = .ok (.iload_n 2, 1) := by decide +kernel
theorem d_Mod_laysLeast_115 : decode i_Mod_laysLeast.2.1 115 = .ok (.iaload, 1) := by decide +kernel
theorem d_Mod_laysLeast_116 : decode i_Mod_laysLeast.2.1 116 = .ok (.ireturn, 1) := by decide +kernel
theorem d_Mod_laysBest_0 : decode i_Mod_laysBest.2.1 0 = .ok (.aload_n 0, 1) := by decide +kernel
theorem d_Mod_laysBest_1 : decode i_Mod_laysBest.2.1 1 = .ok (.getfield 31, 3) := by decide +kernel
theorem d_Mod_laysBest_4 : decode i_Mod_laysBest.2.1 4 = .ok (.iload_n 1, 1) := by decide +kernel
theorem d_Mod_laysBest_5 : decode i_Mod_laysBest.2.1 5 = .ok (.iaload, 1) := by decide +kernel
theorem d_Mod_laysBest_6 : decode i_Mod_laysBest.2.1 6 = .ok (.istore_n 2, 1) := by decide +kernel
theorem d_Mod_laysBest_7 : decode i_Mod_laysBest.2.1 7 = .ok (.ldc 196, 2) := by decide +kernel
theorem d_Mod_laysBest_9 : decode i_Mod_laysBest.2.1 9 = .ok (.istore_n 3, 1) := by decide +kernel
theorem d_Mod_laysBest_10 : decode i_Mod_laysBest.2.1 10 = .ok (.iconst 0, 1) := by decide +kernel
theorem d_Mod_laysBest_11 : decode i_Mod_laysBest.2.1 11 = .ok (.istore 4, 2) := by decide +kernel
theorem d_Mod_laysBest_13 : decode i_Mod_laysBest.2.1 13 = .ok (.iconst 0, 1) := by decide +kernel
theorem d_Mod_laysBest_14 : decode i_Mod_laysBest.2.1 14 = .ok (.istore 5, 2) := by decide +kernel
theorem d_Mod_laysBest_16 : decode i_Mod_laysBest.2.1 16 = .ok (.iload 5, 2) := by decide +kernel
theorem d_Mod_laysBest_18 : decode i_Mod_laysBest.2.1 18 = .ok (.iload_n 2, 1) := by decide +kernel
theorem d_Mod_laysBest_19 : decode i_Mod_laysBest.2.1 19 = .ok (.if_icmp .ge 46, 3) := by decide +kernel
theorem d_Mod_laysBest_22 : decode i_Mod_laysBest.2.1 22 = .ok (.aload_n 0, 1) := by decide +kernel
theorem d_Mod_laysBest_23 : decode i_Mod_laysBest.2.1 23 = .ok (.iload_n 2, 1) := by decide +kernel
theorem d_Mod_laysBest_24 : decode i_Mod_laysBest.2.1 24 = .ok (.iload 5, 2) := by decide +kernel
theorem d_Mod_laysBest_26 : decode i_Mod_laysBest.2.1 26 = .ok (.invokevirtual 201, 3) := by decide +kernel
theorem d_Mod_laysBest_29 : decode i_Mod_laysBest.2.1 29 = .ok (.istore 6, 2) := by decide +kernel
theorem d_Mod_laysBest_31 : decode i_Mod_laysBest.2.1 31 = .ok (.iload 6, 2) := by decide +kernel
theorem d_Mod_laysBest_33 : decode i_Mod_laysBest.2.1 33 = .ok (.iload_n 3, 1) := by decide +kernel
theorem d_Mod_laysBest_34 : decode i_Mod_laysBest.2.1 34 = .ok (.if_icmp .ge 8, 3) := by decide +kernel
theorem d_Mod_laysBest_37 : decode i_Mod_laysBest.2.1 37 = .ok (.iload 5, 2) := by decide +kernel
theorem d_Mod_laysBest_39 : decode i_Mod_laysBest.2.1 39 = .ok (.goto 5, 3) := by decide +kernel
theorem d_Mod_laysBest_42 : decode i_Mod_laysBest.2.1 42 = .ok (.iload 4, 2) := by decide +kernel
theorem d_Mod_laysBest_44 : decode i_Mod_laysBest.2.1 44 = .ok (.istore 4, 2) := by decide +kernel
theorem d_Mod_laysBest_46 : decode i_Mod_laysBest.2.1 46 = .ok (.iload 6, 2) := by decide +kernel
theorem d_Mod_laysBest_48 : decode i_Mod_laysBest.2.1 48 = .ok (.iload_n 3, 1) := by decide +kernel
theorem d_Mod_laysBest_49 : decode i_Mod_laysBest.2.1 49 = .ok (.if_icmp .ge 8, 3) := by decide +kernel
theorem d_Mod_laysBest_52 : decode i_Mod_laysBest.2.1 52 = .ok (.iload 6, 2) := by decide +kernel
theorem d_Mod_laysBest_54 : decode i_Mod_laysBest.2.1 54 = .ok (.goto 4, 3) := by decide +kernel
theorem d_Mod_laysBest_57 : decode i_Mod_laysBest.2.1 57 = .ok (.iload_n 3, 1) := by decide +kernel
theorem d_Mod_laysBest_58 : decode i_Mod_laysBest.2.1 58 = .ok (.istore_n 3, 1) := by decide +kernel
theorem d_Mod_laysBest_59 : decode i_Mod_laysBest.2.1 59 = .ok (.iinc 5 1, 3) := by decide +kernel
theorem d_Mod_laysBest_62 : decode i_Mod_laysBest.2.1 62 = .ok (.goto (-46), 3) := by decide +kernel
theorem d_Mod_laysBest_65 : decode i_Mod_laysBest.2.1 65 = .ok (.aload_n 0, 1) := by decide +kernel
theorem d_Mod_laysBest_66 : decode i_Mod_laysBest.2.1 66 = .ok (.iload_n 2, 1) := by decide +kernel
theorem d_Mod_laysBest_67 : decode i_Mod_laysBest.2.1 67 = .ok (.iload 4, 2) := by decide +kernel
theorem d_Mod_laysBest_69 : decode i_Mod_laysBest.2.1 69 = .ok (.invokevirtual 201, 3) := by decide +kernel
theorem d_Mod_laysBest_72 : decode i_Mod_laysBest.2.1 72 = .ok (.pop, 1) := by decide +kernel
theorem d_Mod_laysBest_73 : decode i_Mod_laysBest.2.1 73 = .ok (.aload_n 0, 1) := by decide +kernel
theorem d_Mod_laysBest_74 : decode i_Mod_laysBest.2.1 74 = .ok (.iconst 0, 1) := by decide +kernel
theorem d_Mod_laysBest_75 : decode i_Mod_laysBest.2.1 75 = .ok (.putfield 205, 3) := by decide +kernel
theorem d_Mod_laysBest_78 : decode i_Mod_laysBest.2.1 78 = .ok (.aload_n 0, 1) := by decide +kernel
theorem d_Mod_laysBest_79 : decode i_Mod_laysBest.2.1 79 = .ok (.iload_n 3, 1) := by decide +kernel
theorem d_Mod_laysBest_80 : decode i_Mod_laysBest.2.1 80 = .ok (.ldc 197, 2) := by decide +kernel
theorem d_Mod_laysBest_82 : decode i_Mod_laysBest.2.1 82 = .ok (.irem, 1) := by decide +kernel
theorem d_Mod_laysBest_83 : decode i_Mod_laysBest.2.1 83 = .ok (.putfield 208, 3) := by decide +kernel
theorem d_Mod_laysBest_86 : decode i_Mod_laysBest.2.1 86 = .ok (.iload 4, 2) := by decide +kernel
theorem d_Mod_laysBest_88 : decode i_Mod_laysBest.2.1 88 = .ok (.istore 5, 2) := by decide +kernel
theorem d_Mod_laysBest_90 : decode i_Mod_laysBest.2.1 90 = .ok (.aload_n 0, 1) := by decide +kernel
theorem d_Mod_laysBest_91 : decode i_Mod_laysBest.2.1 91 = .ok (.getfield 205, 3) := by decide +kernel
theorem d_Mod_laysBest_94 : decode i_Mod_laysBest.2.1 94 = .ok (.iload_n 3, 1) := by decide +kernel
theorem d_Mod_laysBest_95 : decode i_Mod_laysBest.2.1 95 = .ok (.ldc 197, 2) := by decide +kernel
theorem d_Mod_laysBest_97 : decode i_Mod_laysBest.2.1 97 = .ok (.idiv, 1) := by decide +kernel
theorem d_Mod_laysBest_98 : decode i_Mod_laysBest.2.1 98 = .ok (.if_icmp .ge 82, 3) := by decide +kernel
theorem d_Mod_laysBest_101 : decode i_Mod_laysBest.2.1 101 = .ok (.aload_n 0, 1) := by decide +kernel
theorem d_Mod_laysBest_102 : decode i_Mod_laysBest.2.1 102 = .ok (.getfield 59, 3) := by decide +kernel
theorem d_Mod_laysBest_105 : decode i_Mod_laysBest.2.1 105 = .ok (.aload_n 0, 1) := by decide +kernel
theorem d_Mod_laysBest_106 : decode i_Mod_laysBest.2.1 106 = .ok (.getfield 205, 3) := by decide +kernel
theorem d_Mod_laysBest_109 : decode i_Mod_laysBest.2.1 109 = .ok (.iload 5, 2) := by decide +kernel
theorem d_Mod_laysBest_111 : decode i_Mod_laysBest.2.1 111 = .ok (.iastore, 1) := by decide +kernel
theorem d_Mod_laysBest_112 : decode i_Mod_laysBest.2.1 112 = .ok (.aload_n 0, 1) := by decide +kernel
theorem d_Mod_laysBest_113 : decode i_Mod_laysBest.2.1 113 = .ok (.dup, 1) := by decide +kernel
theorem d_Mod_laysBest_114 : decode i_Mod_laysBest.2.1 114 = .ok (.getfield 205, 3) := by decide +kernel
theorem d_Mod_laysBest_117 : decode i_Mod_laysBest.2.1 117 = .ok (.iconst 1, 1) := by decide +kernel
theorem d_Mod_laysBest_118 : decode i_Mod_laysBest.2.1 118 = .ok (.iadd, 1) := by decide +kernel
theorem d_Mod_laysBest_119 : decode i_Mod_laysBest.2.1 119 = .ok (.putfield 205, 3) := by decide +kernel
theorem d_Mod_laysBest_122 : decode i_Mod_laysBest.2.1 122 = .ok (.aload_n 0, 1) := by decide +kernel
theorem d_Mod_laysBest_123 : decode i_Mod_laysBest.2.1 123 = .ok (.getfield 205, 3) := by decide +kernel
theorem d_Mod_laysBest_126 : decode i_Mod_laysBest.2.1 126 = .ok (.iload_n 3, 1) := by decide +kernel
theorem d_Mod_laysBest_127 : decode i_Mod_laysBest.2.1 127 = .ok (.ldc 197, 2) := by decide +kernel
theorem d_Mod_laysBest_129 : decode i_Mod_laysBest.2.1 129 = .ok (.idiv, 1) := by decide +kernel
theorem d_Mod_laysBest_130 : decode i_Mod_laysBest.2.1 130 = .ok (.if_icmp .ge (-40), 3) := by decide +kernel
theorem d_Mod_laysBest_133 : decode i_Mod_laysBest.2.1 133 = .ok (.iload 5, 2) := by decide +kernel
theorem d_Mod_laysBest_135 : decode i_Mod_laysBest.2.1 135 = .ok (.iconst 1, 1) := by decide +kernel
theorem d_Mod_laysBest_136 : decode i_Mod_laysBest.2.1 136 = .ok (.iadd, 1) := by decide +kernel
theorem d_Mod_laysBest_137 : decode i_Mod_laysBest.2.1 137 = .ok (.istore 6, 2) := by decide +kernel
theorem d_Mod_laysBest_139 : decode i_Mod_laysBest.2.1 139 = .ok (.aload_n 0, 1) := by decide +kernel
theorem d_Mod_laysBest_140 : decode i_Mod_laysBest.2.1 140 = .ok (.iload 5, 2) := by decide +kernel
theorem d_Mod_laysBest_142 : decode i_Mod_laysBest.2.1 142 = .ok (.iload 6, 2) := by decide +kernel
theorem d_Mod_laysBest_144 : decode i_Mod_laysBest.2.1 144 = .ok (.iload 5, 2) := by decide +kernel
theorem d_Mod_laysBest_146 : decode i_Mod_laysBest.2.1 146 = .ok (.isub, 1) := by decide +kernel
theorem d_Mod_laysBest_147 : decode i_Mod_laysBest.2.1 147 = .ok (.aload_n 0, 1) := by decide +kernel
theorem d_Mod_laysBest_148 : decode i_Mod_laysBest.2.1 148 = .ok (.getfield 56, 3) := by decide +kernel
theorem d_Mod_laysBest_151 : decode i_Mod_laysBest.2.1 151 = .ok (.iload 6, 2) := by decide +kernel
theorem d_Mod_laysBest_153 : decode i_Mod_laysBest.2.1 153 = .ok (.iaload, 1) := by decide +kernel
theorem d_Mod_laysBest_154 : decode i_Mod_laysBest.2.1 154 = .ok (.invokevirtual 198, 3) := by decide +kernel
theorem d_Mod_laysBest_157 : decode i_Mod_laysBest.2.1 157 = .ok (.aload_n 0, 1) := by decide +kernel
theorem d_Mod_laysBest_158 : decode i_Mod_laysBest.2.1 158 = .ok (.getfield 56, 3) := by decide +kernel
theorem d_Mod_laysBest_161 : decode i_Mod_laysBest.2.1 161 = .ok (.iload 5, 2) := by decide +kernel
theorem d_Mod_laysBest_163 : decode i_Mod_laysBest.2.1 163 = .ok (.iaload, 1) := by decide +kernel
theorem d_Mod_laysBest_164 : decode i_Mod_laysBest.2.1 164 = .ok (.if_icmp .eq 9, 3) := by decide +kernel
theorem d_Mod_laysBest_167 : decode i_Mod_laysBest.2.1 167 = .ok (.iinc 6 1, 3) := by decide +kernel
theorem d_Mod_laysBest_170 : decode i_Mod_laysBest.2.1 170 = .ok (.goto (-31), 3) := by decide +kernel
theorem d_Mod_laysBest_173 : decode i_Mod_laysBest.2.1 173 = .ok (.iload 6, 2) := by decide +kernel
theorem d_Mod_laysBest_175 : decode i_Mod_laysBest.2.1 175 = .ok (.istore 5, 2) := by decide +kernel
theorem d_Mod_laysBest_177 : decode i_Mod_laysBest.2.1 177 = .ok (.goto (-87), 3) := by decide +kernel
theorem d_Mod_laysBest_180 : decode i_Mod_laysBest.2.1 180 = .ok (.return_, 1) := by decide +kernel
theorem d_Mod_fewest_0 : decode i_Mod_fewest.2.1 0 = .ok (.aload_n 0, 1) := by decide +kernel
theorem d_Mod_fewest_1 : decode i_Mod_fewest.2.1 1 = .ok (.getfield 31, 3) := by decide +kernel
theorem d_Mod_fewest_4 : decode i_Mod_fewest.2.1 4 = .ok (.iload_n 1, 1) := by decide +kernel
theorem d_Mod_fewest_5 : decode i_Mod_fewest.2.1 5 = .ok (.iaload, 1) := by decide +kernel
theorem d_Mod_fewest_6 : decode i_Mod_fewest.2.1 6 = .ok (.istore_n 3, 1) := by decide +kernel
theorem d_Mod_fewest_7 : decode i_Mod_fewest.2.1 7 = .ok (.iload_n 3, 1) := by decide +kernel
theorem d_Mod_fewest_8 : decode i_Mod_fewest.2.1 8 = .ok (.iconst 1, 1) := by decide +kernel
theorem d_Mod_fewest_9 : decode i_Mod_fewest.2.1 9 = .ok (.isub, 1) := by decide +kernel
theorem d_Mod_fewest_10 : decode i_Mod_fewest.2.1 10 = .ok (.istore 4, 2) := by decide +kernel
theorem d_Mod_fewest_12 : decode i_Mod_fewest.2.1 12 = .ok (.iload 4, 2) := by decide +kernel
theorem d_Mod_fewest_14 : decode i_Mod_fewest.2.1 14 = .ok (.ifCond .lt 143, 3) := by decide +kernel
theorem d_Mod_fewest_17 : decode i_Mod_fewest.2.1 17 = .ok (.iload_n 2, 1) := by decide +kernel
theorem d_Mod_fewest_18 : decode i_Mod_fewest.2.1 18 = .ok (.iload 4, 2) := by decide +kernel
theorem d_Mod_fewest_20 : decode i_Mod_fewest.2.1 20 = .ok (.iadd, 1) := by decide +kernel
theorem d_Mod_fewest_21 : decode i_Mod_fewest.2.1 21 = .ok (.iload_n 3, 1) := by decide +kernel
theorem d_Mod_fewest_22 : decode i_Mod_fewest.2.1 22 = .ok (.irem, 1) := by decide +kernel
theorem d_Mod_fewest_23 : decode i_Mod_fewest.2.1 23 = .ok (.istore 5, 2) := by decide +kernel
theorem d_Mod_fewest_25 : decode i_Mod_fewest.2.1 25 = .ok (.aload_n 0, 1) := by decide +kernel
theorem d_Mod_fewest_26 : decode i_Mod_fewest.2.1 26 = .ok (.getfield 62, 3) := by decide +kernel
theorem d_Mod_fewest_29 : decode i_Mod_fewest.2.1 29 = .ok (.iload 4, 2) := by decide +kernel
theorem d_Mod_fewest_31 : decode i_Mod_fewest.2.1 31 = .ok (.iload 4, 2) := by decide +kernel
theorem d_Mod_fewest_33 : decode i_Mod_fewest.2.1 33 = .ok (.ifCond .le 28, 3) := by decide +kernel
theorem d_Mod_fewest_36 : decode i_Mod_fewest.2.1 36 = .ok (.aload_n 0, 1) := by decide +kernel
theorem d_Mod_fewest_37 : decode i_Mod_fewest.2.1 37 = .ok (.getfield 53, 3) := by decide +kernel
theorem d_Mod_fewest_40 : decode i_Mod_fewest.2.1 40 = .ok (.sipush 144, 3) := by decide +kernel
theorem d_Mod_fewest_43 : decode i_Mod_fewest.2.1 43 = .ok (.iload 5, 2) := by decide +kernel
theorem d_Mod_fewest_45 : decode i_Mod_fewest.2.1 45 = .ok (.imul, 1) := by decide +kernel
theorem d_Mod_fewest_46 : decode i_Mod_fewest.2.1 46 = .ok (.iload_n 3, 1) := by decide +kernel
theorem d_Mod_fewest_47 : decode i_Mod_fewest.2.1 47 = .ok (.iadd, 1) := by decide +kernel
theorem d_Mod_fewest_48 : decode i_Mod_fewest.2.1 48 = .ok (.iload 4, 2) := by decide +kernel
theorem d_Mod_fewest_50 : decode i_Mod_fewest.2.1 50 = .ok (.isub, 1) := by decide +kernel
theorem d_Mod_fewest_51 : decode i_Mod_fewest.2.1 51 = .ok (.iaload, 1) := by decide +kernel
theorem d_Mod_fewest_52 : decode i_Mod_fewest.2.1 52 = .ok (.ldc 185, 2) := by decide +kernel
theorem d_Mod_fewest_54 : decode i_Mod_fewest.2.1 54 = .ok (.if_icmp .eq 7, 3) := by decide +kernel
theorem d_Mod_fewest_57 : decode i_Mod_fewest.2.1 57 = .ok (.iconst 1, 1) := by decide +kernel
theorem d_Mod_fewest_58 : decode i_Mod_fewest.2.1 58 = .ok (.goto 5, 3) := by decide +kernel
theorem d_Mod_fewest_61 : decode i_Mod_fewest.2.1 61 = .ok (.ldc 196, 2) := by decide +kernel
theorem d_Mod_fewest_63 : decode i_Mod_fewest.2.1 63 = .ok (.iastore, 1) := by decide +kernel
theorem d_Mod_fewest_64 : decode i_Mod_fewest.2.1 64 = .ok (.iload 4, 2) := by decide +kernel
theorem d_Mod_fewest_66 : decode i_Mod_fewest.2.1 66 = .ok (.iconst 1, 1) := by decide +kernel
theorem d_Mod_fewest_67 : decode i_Mod_fewest.2.1 67 = .ok (.iadd, 1) := by decide +kernel
theorem d_Mod_fewest_68 : decode i_Mod_fewest.2.1 68 = .ok (.istore 6, 2) := by decide +kernel
theorem d_Mod_fewest_70 : decode i_Mod_fewest.2.1 70 = .ok (.iload 6, 2) := by decide +kernel
theorem d_Mod_fewest_72 : decode i_Mod_fewest.2.1 72 = .ok (.iload_n 3, 1) := by decide +kernel
theorem d_Mod_fewest_73 : decode i_Mod_fewest.2.1 73 = .ok (.if_icmp .ge 78, 3) := by decide +kernel
theorem d_Mod_fewest_76 : decode i_Mod_fewest.2.1 76 = .ok (.aload_n 0, 1) := by decide +kernel
theorem d_Mod_fewest_77 : decode i_Mod_fewest.2.1 77 = .ok (.getfield 53, 3) := by decide +kernel
theorem d_Mod_fewest_80 : decode i_Mod_fewest.2.1 80 = .ok (.sipush 144, 3) := by decide +kernel
theorem d_Mod_fewest_83 : decode i_Mod_fewest.2.1 83 = .ok (.iload 5, 2) := by decide +kernel
theorem d_Mod_fewest_85 : decode i_Mod_fewest.2.1 85 = .ok (.imul, 1) := by decide +kernel
theorem d_Mod_fewest_86 : decode i_Mod_fewest.2.1 86 = .ok (.iload 6, 2) := by decide +kernel
theorem d_Mod_fewest_88 : decode i_Mod_fewest.2.1 88 = .ok (.iadd, 1) := by decide +kernel
theorem d_Mod_fewest_89 : decode i_Mod_fewest.2.1 89 = .ok (.iload 4, 2) := by decide +kernel
theorem d_Mod_fewest_91 : decode i_Mod_fewest.2.1 91 = .ok (.isub, 1) := by decide +kernel
theorem d_Mod_fewest_92 : decode i_Mod_fewest.2.1 92 = .ok (.iaload, 1) := by decide +kernel
theorem d_Mod_fewest_93 : decode i_Mod_fewest.2.1 93 = .ok (.ldc 185, 2) := by decide +kernel
theorem d_Mod_fewest_95 : decode i_Mod_fewest.2.1 95 = .ok (.if_icmp .ne 8, 3) := by decide +kernel
theorem d_Mod_fewest_98 : decode i_Mod_fewest.2.1 98 = .ok (.ldc 196, 2) := by decide +kernel
theorem d_Mod_fewest_100 : decode i_Mod_fewest.2.1 100 = .ok (.goto 12, 3) := by decide +kernel
theorem d_Mod_fewest_103 : decode i_Mod_fewest.2.1 103 = .ok (.aload_n 0, 1) := by decide +kernel
theorem d_Mod_fewest_104 : decode i_Mod_fewest.2.1 104 = .ok (.getfield 62, 3) := by decide +kernel
theorem d_Mod_fewest_107 : decode i_Mod_fewest.2.1 107 = .ok (.iload 6, 2) := by decide +kernel
theorem d_Mod_fewest_109 : decode i_Mod_fewest.2.1 109 = .ok (.iaload, 1) := by decide +kernel
theorem d_Mod_fewest_110 : decode i_Mod_fewest.2.1 110 = .ok (.iconst 1, 1) := by decide +kernel
theorem d_Mod_fewest_111 : decode i_Mod_fewest.2.1 111 = .ok (.iadd, 1) := by decide +kernel
theorem d_Mod_fewest_112 : decode i_Mod_fewest.2.1 112 = .ok (.istore 7, 2) := by decide +kernel
theorem d_Mod_fewest_114 : decode i_Mod_fewest.2.1 114 = .ok (.aload_n 0, 1) := by decide +kernel
theorem d_Mod_fewest_115 : decode i_Mod_fewest.2.1 115 = .ok (.getfield 62, 3) := by decide +kernel
theorem d_Mod_fewest_118 : decode i_Mod_fewest.2.1 118 = .ok (.iload 4, 2) := by decide +kernel
theorem d_Mod_fewest_120 : decode i_Mod_fewest.2.1 120 = .ok (.iload 7, 2) := by decide +kernel
theorem d_Mod_fewest_122 : decode i_Mod_fewest.2.1 122 = .ok (.aload_n 0, 1) := by decide +kernel
theorem d_Mod_fewest_123 : decode i_Mod_fewest.2.1 123 = .ok (.getfield 62, 3) := by decide +kernel
theorem d_Mod_fewest_126 : decode i_Mod_fewest.2.1 126 = .ok (.iload 4, 2) := by decide +kernel
theorem d_Mod_fewest_128 : decode i_Mod_fewest.2.1 128 = .ok (.iaload, 1) := by decide +kernel
theorem d_Mod_fewest_129 : decode i_Mod_fewest.2.1 129 = .ok (.if_icmp .ge 8, 3) := by decide +kernel
theorem d_Mod_fewest_132 : decode i_Mod_fewest.2.1 132 = .ok (.iload 7, 2) := by decide +kernel
theorem d_Mod_fewest_134 : decode i_Mod_fewest.2.1 134 = .ok (.goto 10, 3) := by decide +kernel
theorem d_Mod_fewest_137 : decode i_Mod_fewest.2.1 137 = .ok (.aload_n 0, 1) := by decide +kernel
theorem d_Mod_fewest_138 : decode i_Mod_fewest.2.1 138 = .ok (.getfield 62, 3) := by decide +kernel
theorem d_Mod_fewest_141 : decode i_Mod_fewest.2.1 141 = .ok (.iload 4, 2) := by decide +kernel
theorem d_Mod_fewest_143 : decode i_Mod_fewest.2.1 143 = .ok (.iaload, 1) := by decide +kernel
theorem d_Mod_fewest_144 : decode i_Mod_fewest.2.1 144 = .ok (.iastore, 1) := by decide +kernel
theorem d_Mod_fewest_145 : decode i_Mod_fewest.2.1 145 = .ok (.iinc 6 1, 3) := by decide +kernel
theorem d_Mod_fewest_148 : decode i_Mod_fewest.2.1 148 = .ok (.goto (-78), 3) := by decide +kernel
theorem d_Mod_fewest_151 : decode i_Mod_fewest.2.1 151 = .ok (.iinc 4 (-1), 3) := by decide +kernel
theorem d_Mod_fewest_154 : decode i_Mod_fewest.2.1 154 = .ok (.goto (-142), 3) := by decide +kernel
theorem d_Mod_fewest_157 : decode i_Mod_fewest.2.1 157 = .ok (.aload_n 0, 1) := by decide +kernel
theorem d_Mod_fewest_158 : decode i_Mod_fewest.2.1 158 = .ok (.getfield 62, 3) := by decide +kernel
theorem d_Mod_fewest_161 : decode i_Mod_fewest.2.1 161 = .ok (.iconst 0, 1) := by decide +kernel
theorem d_Mod_fewest_162 : decode i_Mod_fewest.2.1 162 = .ok (.iaload, 1) := by decide +kernel
theorem d_Mod_fewest_163 : decode i_Mod_fewest.2.1 163 = .ok (.ireturn, 1) := by decide +kernel
theorem d_Mod_vx_0 : decode i_Mod_vx.2.1 0 = .ok (.aload_n 0, 1) := by decide +kernel
theorem d_Mod_vx_1 : decode i_Mod_vx.2.1 1 = .ok (.getfield 44, 3) := by decide +kernel
theorem d_Mod_vx_4 : decode i_Mod_vx.2.1 4 = .ok (.aload_n 0, 1) := by decide +kernel
theorem d_Mod_vx_5 : decode i_Mod_vx.2.1 5 = .ok (.getfield 28, 3) := by decide +kernel
theorem d_Mod_vx_8 : decode i_Mod_vx.2.1 8 = .ok (.iload_n 1, 1) := by decide +kernel
theorem d_Mod_vx_9 : decode i_Mod_vx.2.1 9 = .ok (.iaload, 1) := by decide +kernel
theorem d_Mod_vx_10 : decode i_Mod_vx.2.1 10 = .ok (.aload_n 0, 1) := by decide +kernel
theorem d_Mod_vx_11 : decode i_Mod_vx.2.1 11 = .ok (.getfield 59, 3) := by decide +kernel
theorem d_Mod_vx_14 : decode i_Mod_vx.2.1 14 = .ok (.iload_n 2, 1) := by decide +kernel
theorem d_Mod_vx_15 : decode i_Mod_vx.2.1 15 = .ok (.aload_n 0, 1) := by decide +kernel
theorem d_Mod_vx_16 : decode i_Mod_vx.2.1 16 = .ok (.getfield 205, 3) := by decide +kernel
theorem d_Mod_vx_19 : decode i_Mod_vx.2.1 19 = .ok (.iadd, 1) := by decide +kernel
theorem d_Mod_vx_20 : decode i_Mod_vx.2.1 20 = .ok (.aload_n 0, 1) := by decide +kernel
theorem d_Mod_vx_21 : decode i_Mod_vx.2.1 21 = .ok (.getfield 205, 3) := by decide +kernel
theorem d_Mod_vx_24 : decode i_Mod_vx.2.1 24 = .ok (.irem, 1) := by decide +kernel
theorem d_Mod_vx_25 : decode i_Mod_vx.2.1 25 = .ok (.iaload, 1) := by decide +kernel
theorem d_Mod_vx_26 : decode i_Mod_vx.2.1 26 = .ok (.iadd, 1) := by decide +kernel
theorem d_Mod_vx_27 : decode i_Mod_vx.2.1 27 = .ok (.iaload, 1) := by decide +kernel
theorem d_Mod_vx_28 : decode i_Mod_vx.2.1 28 = .ok (.ireturn, 1) := by decide +kernel
theorem d_Mod_vy_0 : decode i_Mod_vy.2.1 0 = .ok (.aload_n 0, 1) := by decide +kernel
theorem d_Mod_vy_1 : decode i_Mod_vy.2.1 1 = .ok (.getfield 47, 3) := by decide +kernel
theorem d_Mod_vy_4 : decode i_Mod_vy.2.1 4 = .ok (.aload_n 0, 1) := by decide +kernel
theorem d_Mod_vy_5 : decode i_Mod_vy.2.1 5 = .ok (.getfield 28, 3) := by decide +kernel
theorem d_Mod_vy_8 : decode i_Mod_vy.2.1 8 = .ok (.iload_n 1, 1) := by decide +kernel
theorem d_Mod_vy_9 : decode i_Mod_vy.2.1 9 = .ok (.iaload, 1) := by decide +kernel
theorem d_Mod_vy_10 : decode i_Mod_vy.2.1 10 = .ok (.aload_n 0, 1) := by decide +kernel
theorem d_Mod_vy_11 : decode i_Mod_vy.2.1 11 = .ok (.getfield 59, 3) := by decide +kernel
theorem d_Mod_vy_14 : decode i_Mod_vy.2.1 14 = .ok (.iload_n 2, 1) := by decide +kernel
theorem d_Mod_vy_15 : decode i_Mod_vy.2.1 15 = .ok (.aload_n 0, 1) := by decide +kernel
theorem d_Mod_vy_16 : decode i_Mod_vy.2.1 16 = .ok (.getfield 205, 3) := by decide +kernel
theorem d_Mod_vy_19 : decode i_Mod_vy.2.1 19 = .ok (.iadd, 1) := by decide +kernel
theorem d_Mod_vy_20 : decode i_Mod_vy.2.1 20 = .ok (.aload_n 0, 1) := by decide +kernel
theorem d_Mod_vy_21 : decode i_Mod_vy.2.1 21 = .ok (.getfield 205, 3) := by decide +kernel
theorem d_Mod_vy_24 : decode i_Mod_vy.2.1 24 = .ok (.irem, 1) := by decide +kernel
theorem d_Mod_vy_25 : decode i_Mod_vy.2.1 25 = .ok (.iaload, 1) := by decide +kernel
theorem d_Mod_vy_26 : decode i_Mod_vy.2.1 26 = .ok (.iadd, 1) := by decide +kernel
theorem d_Mod_vy_27 : decode i_Mod_vy.2.1 27 = .ok (.iaload, 1) := by decide +kernel
theorem d_Mod_vy_28 : decode i_Mod_vy.2.1 28 = .ok (.ireturn, 1) := by decide +kernel
theorem d_Mod_greater_0 : decode i_Mod_greater.2.1 0 = .ok (.iload_n 0, 1) := by decide +kernel
theorem d_Mod_greater_1 : decode i_Mod_greater.2.1 1 = .ok (.invokestatic 183, 3) := by decide +kernel
theorem d_Mod_greater_4 : decode i_Mod_greater.2.1 4 = .ok (.iload_n 1, 1) := by decide +kernel
theorem d_Mod_greater_5 : decode i_Mod_greater.2.1 5 = .ok (.invokestatic 183, 3) := by decide +kernel
theorem d_Mod_greater_8 : decode i_Mod_greater.2.1 8 = .ok (.if_icmp .le 10, 3) := by decide +kernel
theorem d_Mod_greater_11 : decode i_Mod_greater.2.1 11 = .ok (.iload_n 0, 1) := by decide +kernel
theorem d_Mod_greater_12 : decode i_Mod_greater.2.1 12 = .ok (.invokestatic 183, 3) := by decide +kernel
theorem d_Mod_greater_15 : decode i_Mod_greater.2.1 15 = .ok (.goto 7, 3) := by decide +kernel
theorem d_Mod_greater_18 : decode i_Mod_greater.2.1 18 = .ok (.iload_n 1, 1) := by decide +kernel
theorem d_Mod_greater_19 : decode i_Mod_greater.2.1 19 = .ok (.invokestatic 183, 3) := by decide +kernel
theorem d_Mod_greater_22 : decode i_Mod_greater.2.1 22 = .ok (.ireturn, 1) := by decide +kernel
theorem d_Mod_turnOf_0 : decode i_Mod_turnOf.2.1 0 = .ok (.aload_n 0, 1) := by decide +kernel
theorem d_Mod_turnOf_1 : decode i_Mod_turnOf.2.1 1 = .ok (.iload_n 1, 1) := by decide +kernel
theorem d_Mod_turnOf_2 : decode i_Mod_turnOf.2.1 2 = .ok (.iload_n 2, 1) := by decide +kernel
theorem d_Mod_turnOf_3 : decode i_Mod_turnOf.2.1 3 = .ok (.invokevirtual 211, 3) := by decide +kernel
theorem d_Mod_turnOf_6 : decode i_Mod_turnOf.2.1 6 = .ok (.aload_n 0, 1) := by decide +kernel
theorem d_Mod_turnOf_7 : decode i_Mod_turnOf.2.1 7 = .ok (.iload_n 1, 1) := by decide +kernel
theorem d_Mod_turnOf_8 : decode i_Mod_turnOf.2.1 8 = .ok (.iload_n 2, 1) := by decide +kernel
theorem d_Mod_turnOf_9 : decode i_Mod_turnOf.2.1 9 = .ok (.iconst 1, 1) := by decide +kernel
theorem d_Mod_turnOf_10 : decode i_Mod_turnOf.2.1 10 = .ok (.isub, 1) := by decide +kernel
theorem d_Mod_turnOf_11 : decode i_Mod_turnOf.2.1 11 = .ok (.invokevirtual 211, 3) := by decide +kernel
theorem d_Mod_turnOf_14 : decode i_Mod_turnOf.2.1 14 = .ok (.isub, 1) := by decide +kernel
theorem d_Mod_turnOf_15 : decode i_Mod_turnOf.2.1 15 = .ok (.istore_n 3, 1) := by decide +kernel
theorem d_Mod_turnOf_16 : decode i_Mod_turnOf.2.1 16 = .ok (.aload_n 0, 1) := by decide +kernel
theorem d_Mod_turnOf_17 : decode i_Mod_turnOf.2.1 17 = .ok (.iload_n 1, 1) := by decide +kernel
theorem d_Mod_turnOf_18 : decode i_Mod_turnOf.2.1 18 = .ok (.iload_n 2, 1) := by decide +kernel
theorem d_Mod_turnOf_19 : decode i_Mod_turnOf.2.1 19 = .ok (.invokevirtual 214, 3) := by decide +kernel
theorem d_Mod_turnOf_22 : decode i_Mod_turnOf.2.1 22 = .ok (.aload_n 0, 1) := by decide +kernel
theorem d_Mod_turnOf_23 : decode i_Mod_turnOf.2.1 23 = .ok (.iload_n 1, 1) := by decide +kernel
theorem d_Mod_turnOf_24 : decode i_Mod_turnOf.2.1 24 = .ok (.iload_n 2, 1) := by decide +kernel
theorem d_Mod_turnOf_25 : decode i_Mod_turnOf.2.1 25 = .ok (.iconst 1, 1) := by decide +kernel
theorem d_Mod_turnOf_26 : decode i_Mod_turnOf.2.1 26 = .ok (.isub, 1) := by decide +kernel
theorem d_Mod_turnOf_27 : decode i_Mod_turnOf.2.1 27 = .ok (.invokevirtual 214, 3) := by decide +kernel
theorem d_Mod_turnOf_30 : decode i_Mod_turnOf.2.1 30 = .ok (.isub, 1) := by decide +kernel
theorem d_Mod_turnOf_31 : decode i_Mod_turnOf.2.1 31 = .ok (.istore 4, 2) := by decide +kernel
theorem d_Mod_turnOf_33 : decode i_Mod_turnOf.2.1 33 = .ok (.aload_n 0, 1) := by decide +kernel
theorem d_Mod_turnOf_34 : decode i_Mod_turnOf.2.1 34 = .ok (.iload_n 1, 1) := by decide +kernel
theorem d_Mod_turnOf_35 : decode i_Mod_turnOf.2.1 35 = .ok (.iload_n 2, 1) := by decide +kernel
theorem d_Mod_turnOf_36 : decode i_Mod_turnOf.2.1 36 = .ok (.iconst 1, 1) := by decide +kernel
theorem d_Mod_turnOf_37 : decode i_Mod_turnOf.2.1 37 = .ok (.iadd, 1) := by decide +kernel
theorem d_Mod_turnOf_38 : decode i_Mod_turnOf.2.1 38 = .ok (.invokevirtual 211, 3) := by decide +kernel
theorem d_Mod_turnOf_41 : decode i_Mod_turnOf.2.1 41 = .ok (.aload_n 0, 1) := by decide +kernel
theorem d_Mod_turnOf_42 : decode i_Mod_turnOf.2.1 42 = .ok (.iload_n 1, 1) := by decide +kernel
theorem d_Mod_turnOf_43 : decode i_Mod_turnOf.2.1 43 = .ok (.iload_n 2, 1) := by decide +kernel
theorem d_Mod_turnOf_44 : decode i_Mod_turnOf.2.1 44 = .ok (.invokevirtual 211, 3) := by decide +kernel
theorem d_Mod_turnOf_47 : decode i_Mod_turnOf.2.1 47 = .ok (.isub, 1) := by decide +kernel
theorem d_Mod_turnOf_48 : decode i_Mod_turnOf.2.1 48 = .ok (.istore 5, 2) := by decide +kernel
theorem d_Mod_turnOf_50 : decode i_Mod_turnOf.2.1 50 = .ok (.aload_n 0, 1) := by decide +kernel
theorem d_Mod_turnOf_51 : decode i_Mod_turnOf.2.1 51 = .ok (.iload_n 1, 1) := by decide +kernel
theorem d_Mod_turnOf_52 : decode i_Mod_turnOf.2.1 52 = .ok (.iload_n 2, 1) := by decide +kernel
theorem d_Mod_turnOf_53 : decode i_Mod_turnOf.2.1 53 = .ok (.iconst 1, 1) := by decide +kernel
theorem d_Mod_turnOf_54 : decode i_Mod_turnOf.2.1 54 = .ok (.iadd, 1) := by decide +kernel
theorem d_Mod_turnOf_55 : decode i_Mod_turnOf.2.1 55 = .ok (.invokevirtual 214, 3) := by decide +kernel
theorem d_Mod_turnOf_58 : decode i_Mod_turnOf.2.1 58 = .ok (.aload_n 0, 1) := by decide +kernel
theorem d_Mod_turnOf_59 : decode i_Mod_turnOf.2.1 59 = .ok (.iload_n 1, 1) := by decide +kernel
theorem d_Mod_turnOf_60 : decode i_Mod_turnOf.2.1 60 = .ok (.iload_n 2, 1) := by decide +kernel
theorem d_Mod_turnOf_61 : decode i_Mod_turnOf.2.1 61 = .ok (.invokevirtual 214, 3) := by decide +kernel
theorem d_Mod_turnOf_64 : decode i_Mod_turnOf.2.1 64 = .ok (.isub, 1) := by decide +kernel
theorem d_Mod_turnOf_65 : decode i_Mod_turnOf.2.1 65 = .ok (.istore 6, 2) := by decide +kernel
theorem d_Mod_turnOf_67 : decode i_Mod_turnOf.2.1 67 = .ok (.bipush 8, 2) := by decide +kernel
theorem d_Mod_turnOf_69 : decode i_Mod_turnOf.2.1 69 = .ok (.iload_n 3, 1) := by decide +kernel
theorem d_Mod_turnOf_70 : decode i_Mod_turnOf.2.1 70 = .ok (.iload 6, 2) := by decide +kernel
theorem d_Mod_turnOf_72 : decode i_Mod_turnOf.2.1 72 = .ok (.imul, 1) := by decide +kernel
theorem d_Mod_turnOf_73 : decode i_Mod_turnOf.2.1 73 = .ok (.iload 4, 2) := by decide +kernel
theorem d_Mod_turnOf_75 : decode i_Mod_turnOf.2.1 75 = .ok (.iload 5, 2) := by decide +kernel
theorem d_Mod_turnOf_77 : decode i_Mod_turnOf.2.1 77 = .ok (.imul, 1) := by decide +kernel
theorem d_Mod_turnOf_78 : decode i_Mod_turnOf.2.1 78 = .ok (.isub, 1) := by decide +kernel
theorem d_Mod_turnOf_79 : decode i_Mod_turnOf.2.1 79 = .ok (.invokestatic 183, 3) := by decide +kernel
theorem d_Mod_turnOf_82 : decode i_Mod_turnOf.2.1 82 = .ok (.imul, 1) := by decide +kernel
theorem d_Mod_turnOf_83 : decode i_Mod_turnOf.2.1 83 = .ok (.iload_n 3, 1) := by decide +kernel
theorem d_Mod_turnOf_84 : decode i_Mod_turnOf.2.1 84 = .ok (.iload 4, 2) := by decide +kernel
theorem d_Mod_turnOf_86 : decode i_Mod_turnOf.2.1 86 = .ok (.invokestatic 217, 3) := by decide +kernel
theorem d_Mod_turnOf_89 : decode i_Mod_turnOf.2.1 89 = .ok (.iload 5, 2) := by decide +kernel
theorem d_Mod_turnOf_91 : decode i_Mod_turnOf.2.1 91 = .ok (.iload 6, 2) := by decide +kernel
theorem d_Mod_turnOf_93 : decode i_Mod_turnOf.2.1 93 = .ok (.invokestatic 217, 3) := by decide +kernel
theorem d_Mod_turnOf_96 : decode i_Mod_turnOf.2.1 96 = .ok (.iadd, 1) := by decide +kernel
theorem d_Mod_turnOf_97 : decode i_Mod_turnOf.2.1 97 = .ok (.idiv, 1) := by decide +kernel
theorem d_Mod_turnOf_98 : decode i_Mod_turnOf.2.1 98 = .ok (.ireturn, 1) := by decide +kernel
theorem d_Mod_isSharp_0 : decode i_Mod_isSharp.2.1 0 = .ok (.aload_n 0, 1) := by decide +kernel
theorem d_Mod_isSharp_1 : decode i_Mod_isSharp.2.1 1 = .ok (.iload_n 1, 1) := by decide +kernel
theorem d_Mod_isSharp_2 : decode i_Mod_isSharp.2.1 2 = .ok (.iload_n 2, 1) := by decide +kernel
theorem d_Mod_isSharp_3 : decode i_Mod_isSharp.2.1 3 = .ok (.invokevirtual 211, 3) := by decide +kernel
theorem d_Mod_isSharp_6 : decode i_Mod_isSharp.2.1 6 = .ok (.aload_n 0, 1) := by decide +kernel
theorem d_Mod_isSharp_7 : decode i_Mod_isSharp.2.1 7 = .ok (.iload_n 1, 1) := by decide +kernel
theorem d_Mod_isSharp_8 : decode i_Mod_isSharp.2.1 8 = .ok (.iload_n 2, 1) := by decide +kernel
theorem d_Mod_isSharp_9 : decode i_Mod_isSharp.2.1 9 = .ok (.iconst 1, 1) := by decide +kernel
theorem d_Mod_isSharp_10 : decode i_Mod_isSharp.2.1 10 = .ok (.isub, 1) := by decide +kernel
theorem d_Mod_isSharp_11 : decode i_Mod_isSharp.2.1 11 = .ok (.invokevirtual 211, 3) := by decide +kernel
theorem d_Mod_isSharp_14 : decode i_Mod_isSharp.2.1 14 = .ok (.isub, 1) := by decide +kernel
theorem d_Mod_isSharp_15 : decode i_Mod_isSharp.2.1 15 = .ok (.aload_n 0, 1) := by decide +kernel
theorem d_Mod_isSharp_16 : decode i_Mod_isSharp.2.1 16 = .ok (.iload_n 1, 1) := by decide +kernel
theorem d_Mod_isSharp_17 : decode i_Mod_isSharp.2.1 17 = .ok (.iload_n 2, 1) := by decide +kernel
theorem d_Mod_isSharp_18 : decode i_Mod_isSharp.2.1 18 = .ok (.iconst 1, 1) := by decide +kernel
theorem d_Mod_isSharp_19 : decode i_Mod_isSharp.2.1 19 = .ok (.iadd, 1) := by decide +kernel
theorem d_Mod_isSharp_20 : decode i_Mod_isSharp.2.1 20 = .ok (.invokevirtual 211, 3) := by decide +kernel
theorem d_Mod_isSharp_23 : decode i_Mod_isSharp.2.1 23 = .ok (.aload_n 0, 1) := by decide +kernel
theorem d_Mod_isSharp_24 : decode i_Mod_isSharp.2.1 24 = .ok (.iload_n 1, 1) := by decide +kernel
theorem d_Mod_isSharp_25 : decode i_Mod_isSharp.2.1 25 = .ok (.iload_n 2, 1) := by decide +kernel
theorem d_Mod_isSharp_26 : decode i_Mod_isSharp.2.1 26 = .ok (.invokevirtual 211, 3) := by decide +kernel
theorem d_Mod_isSharp_29 : decode i_Mod_isSharp.2.1 29 = .ok (.isub, 1) := by decide +kernel
theorem d_Mod_isSharp_30 : decode i_Mod_isSharp.2.1 30 = .ok (.imul, 1) := by decide +kernel
theorem d_Mod_isSharp_31 : decode i_Mod_isSharp.2.1 31 = .ok (.istore_n 3, 1) := by decide +kernel
theorem d_Mod_isSharp_32 : decode i_Mod_isSharp.2.1 32 = .ok (.iload_n 3, 1) := by decide +kernel
theorem d_Mod_isSharp_33 : decode i_Mod_isSharp.2.1 33 = .ok (.aload_n 0, 1) := by decide +kernel
theorem d_Mod_isSharp_34 : decode i_Mod_isSharp.2.1 34 = .ok (.iload_n 1, 1) := by decide +kernel
theorem d_Mod_isSharp_35 : decode i_Mod_isSharp.2.1 35 = .ok (.iload_n 2, 1) := by decide +kernel
theorem d_Mod_isSharp_36 : decode i_Mod_isSharp.2.1 36 = .ok (.invokevirtual 214, 3) := by decide +kernel
theorem d_Mod_isSharp_39 : decode i_Mod_isSharp.2.1 39 = .ok (.aload_n 0, 1) := by decide +kernel
theorem d_Mod_isSharp_40 : decode i_Mod_isSharp.2.1 40 = .ok (.iload_n 1, 1) := by decide +kernel
theorem d_Mod_isSharp_41 : decode i_Mod_isSharp.2.1 41 = .ok (.iload_n 2, 1) := by decide +kernel
theorem d_Mod_isSharp_42 : decode i_Mod_isSharp.2.1 42 = .ok (.iconst 1, 1) := by decide +kernel
theorem d_Mod_isSharp_43 : decode i_Mod_isSharp.2.1 43 = .ok (.isub, 1) := by decide +kernel
theorem d_Mod_isSharp_44 : decode i_Mod_isSharp.2.1 44 = .ok (.invokevirtual 214, 3) := by decide +kernel
theorem d_Mod_isSharp_47 : decode i_Mod_isSharp.2.1 47 = .ok (.isub, 1) := by decide +kernel
theorem d_Mod_isSharp_48 : decode i_Mod_isSharp.2.1 48 = .ok (.aload_n 0, 1) := by decide +kernel
theorem d_Mod_isSharp_49 : decode i_Mod_isSharp.2.1 49 = .ok (.iload_n 1, 1) := by decide +kernel
theorem d_Mod_isSharp_50 : decode i_Mod_isSharp.2.1 50 = .ok (.iload_n 2, 1) := by decide +kernel
theorem d_Mod_isSharp_51 : decode i_Mod_isSharp.2.1 51 = .ok (.iconst 1, 1) := by decide +kernel
theorem d_Mod_isSharp_52 : decode i_Mod_isSharp.2.1 52 = .ok (.iadd, 1) := by decide +kernel
theorem d_Mod_isSharp_53 : decode i_Mod_isSharp.2.1 53 = .ok (.invokevirtual 214, 3) := by decide +kernel
theorem d_Mod_isSharp_56 : decode i_Mod_isSharp.2.1 56 = .ok (.aload_n 0, 1) := by decide +kernel
theorem d_Mod_isSharp_57 : decode i_Mod_isSharp.2.1 57 = .ok (.iload_n 1, 1) := by decide +kernel
theorem d_Mod_isSharp_58 : decode i_Mod_isSharp.2.1 58 = .ok (.iload_n 2, 1) := by decide +kernel
theorem d_Mod_isSharp_59 : decode i_Mod_isSharp.2.1 59 = .ok (.invokevirtual 214, 3) := by decide +kernel
theorem d_Mod_isSharp_62 : decode i_Mod_isSharp.2.1 62 = .ok (.isub, 1) := by decide +kernel
theorem d_Mod_isSharp_63 : decode i_Mod_isSharp.2.1 63 = .ok (.imul, 1) := by decide +kernel
theorem d_Mod_isSharp_64 : decode i_Mod_isSharp.2.1 64 = .ok (.iadd, 1) := by decide +kernel
theorem d_Mod_isSharp_65 : decode i_Mod_isSharp.2.1 65 = .ok (.istore_n 3, 1) := by decide +kernel
theorem d_Mod_isSharp_66 : decode i_Mod_isSharp.2.1 66 = .ok (.aload_n 0, 1) := by decide +kernel
theorem d_Mod_isSharp_67 : decode i_Mod_isSharp.2.1 67 = .ok (.iload_n 1, 1) := by decide +kernel
theorem d_Mod_isSharp_68 : decode i_Mod_isSharp.2.1 68 = .ok (.iload_n 2, 1) := by decide +kernel
theorem d_Mod_isSharp_69 : decode i_Mod_isSharp.2.1 69 = .ok (.invokevirtual 220, 3) := by decide +kernel
theorem d_Mod_isSharp_72 : decode i_Mod_isSharp.2.1 72 = .ok (.aload_n 0, 1) := by decide +kernel
theorem d_Mod_isSharp_73 : decode i_Mod_isSharp.2.1 73 = .ok (.getfield 7, 3) := by decide +kernel
theorem d_Mod_isSharp_76 : decode i_Mod_isSharp.2.1 76 = .ok (.iconst 3, 1) := by decide +kernel
theorem d_Mod_isSharp_77 : decode i_Mod_isSharp.2.1 77 = .ok (.iaload, 1) := by decide +kernel
theorem d_Mod_isSharp_78 : decode i_Mod_isSharp.2.1 78 = .ok (.if_icmp .ge 7, 3) := by decide +kernel
theorem d_Mod_isSharp_81 : decode i_Mod_isSharp.2.1 81 = .ok (.iload_n 3, 1) := by decide +kernel
theorem d_Mod_isSharp_82 : decode i_Mod_isSharp.2.1 82 = .ok (.ifCond .gt 7, 3) := by decide +kernel
theorem d_Mod_isSharp_85 : decode i_Mod_isSharp.2.1 85 = .ok (.iconst 1, 1) := by decide +kernel
theorem d_Mod_isSharp_86 : decode i_Mod_isSharp.2.1 86 = .ok (.goto 4, 3) := by decide +kernel
theorem d_Mod_isSharp_89 : decode i_Mod_isSharp.2.1 89 = .ok (.iconst 0, 1) := by decide +kernel
theorem d_Mod_isSharp_90 : decode i_Mod_isSharp.2.1 90 = .ok (.ireturn, 1) := by decide +kernel
theorem d_Mod_sharpMany_0 : decode i_Mod_sharpMany.2.1 0 = .ok (.iconst 0, 1) := by decide +kernel
theorem d_Mod_sharpMany_1 : decode i_Mod_sharpMany.2.1 1 = .ok (.istore_n 2, 1) := by decide +kernel
theorem d_Mod_sharpMany_2 : decode i_Mod_sharpMany.2.1 2 = .ok (.iconst 0, 1) := by decide +kernel
theorem d_Mod_sharpMany_3 : decode i_Mod_sharpMany.2.1 3 = .ok (.istore_n 3, 1) := by decide +kernel
theorem d_Mod_sharpMany_4 : decode i_Mod_sharpMany.2.1 4 = .ok (.iload_n 3, 1) := by decide +kernel
theorem d_Mod_sharpMany_5 : decode i_Mod_sharpMany.2.1 5 = .ok (.aload_n 0, 1) := by decide +kernel
theorem d_Mod_sharpMany_6 : decode i_Mod_sharpMany.2.1 6 = .ok (.getfield 205, 3) := by decide +kernel
theorem d_Mod_sharpMany_9 : decode i_Mod_sharpMany.2.1 9 = .ok (.if_icmp .ge 26, 3) := by decide +kernel
theorem d_Mod_sharpMany_12 : decode i_Mod_sharpMany.2.1 12 = .ok (.iload_n 2, 1) := by decide +kernel
theorem d_Mod_sharpMany_13 : decode i_Mod_sharpMany.2.1 13 = .ok (.aload_n 0, 1) := by decide +kernel
theorem d_Mod_sharpMany_14 : decode i_Mod_sharpMany.2.1 14 = .ok (.iload_n 1, 1) := by decide +kernel
theorem d_Mod_sharpMany_15 : decode i_Mod_sharpMany.2.1 15 = .ok (.iload_n 3, 1) := by decide +kernel
theorem d_Mod_sharpMany_16 : decode i_Mod_sharpMany.2.1 16 = .ok (.invokevirtual 223, 3) := by decide +kernel
theorem d_Mod_sharpMany_19 : decode i_Mod_sharpMany.2.1 19 = .ok (.ifCond .eq 7, 3) := by decide +kernel
theorem d_Mod_sharpMany_22 : decode i_Mod_sharpMany.2.1 22 = .ok (.iconst 1, 1) := by decide +kernel
theorem d_Mod_sharpMany_23 : decode i_Mod_sharpMany.2.1 23 = .ok (.goto 4, 3) := by decide +kernel
theorem d_Mod_sharpMany_26 : decode i_Mod_sharpMany.2.1 26 = .ok (.iconst 0, 1) := by decide +kernel
theorem d_Mod_sharpMany_27 : decode i_Mod_sharpMany.2.1 27 = .ok (.iadd, 1) := by decide +kernel
theorem d_Mod_sharpMany_28 : decode i_Mod_sharpMany.2.1 28 = .ok (.istore_n 2, 1) := by decide +kernel
theorem d_Mod_sharpMany_29 : decode i_Mod_sharpMany.2.1 29 = .ok (.iinc 3 1, 3) := by decide +kernel
theorem d_Mod_sharpMany_32 : decode i_Mod_sharpMany.2.1 32 = .ok (.goto (-28), 3) := by decide +kernel
theorem d_Mod_sharpMany_35 : decode i_Mod_sharpMany.2.1 35 = .ok (.iload_n 2, 1) := by decide +kernel
theorem d_Mod_sharpMany_36 : decode i_Mod_sharpMany.2.1 36 = .ok (.ireturn, 1) := by decide +kernel
theorem d_Mod_twice_0 : decode i_Mod_twice.2.1 0 = .ok (.iconst 0, 1) := by decide +kernel
theorem d_Mod_twice_1 : decode i_Mod_twice.2.1 1 = .ok (.istore_n 2, 1) := by decide +kernel
theorem d_Mod_twice_2 : decode i_Mod_twice.2.1 2 = .ok (.iconst 0, 1) := by decide +kernel
theorem d_Mod_twice_3 : decode i_Mod_twice.2.1 3 = .ok (.istore_n 3, 1) := by decide +kernel
theorem d_Mod_twice_4 : decode i_Mod_twice.2.1 4 = .ok (.iload_n 3, 1) := by decide +kernel
theorem d_Mod_twice_5 : decode i_Mod_twice.2.1 5 = .ok (.aload_n 0, 1) := by decide +kernel
theorem d_Mod_twice_6 : decode i_Mod_twice.2.1 6 = .ok (.getfield 205, 3) := by decide +kernel
theorem d_Mod_twice_9 : decode i_Mod_twice.2.1 9 = .ok (.if_icmp .ge 43, 3) := by decide +kernel
theorem d_Mod_twice_12 : decode i_Mod_twice.2.1 12 = .ok (.iload_n 2, 1) := by decide +kernel
theorem d_Mod_twice_13 : decode i_Mod_twice.2.1 13 = .ok (.aload_n 0, 1) := by decide +kernel
theorem d_Mod_twice_14 : decode i_Mod_twice.2.1 14 = .ok (.iload_n 1, 1) := by decide +kernel
theorem d_Mod_twice_15 : decode i_Mod_twice.2.1 15 = .ok (.iload_n 3, 1) := by decide +kernel
theorem d_Mod_twice_16 : decode i_Mod_twice.2.1 16 = .ok (.invokevirtual 211, 3) := by decide +kernel
theorem d_Mod_twice_19 : decode i_Mod_twice.2.1 19 = .ok (.aload_n 0, 1) := by decide +kernel
theorem d_Mod_twice_20 : decode i_Mod_twice.2.1 20 = .ok (.iload_n 1, 1) := by decide +kernel
theorem d_Mod_twice_21 : decode i_Mod_twice.2.1 21 = .ok (.iload_n 3, 1) := by decide +kernel
theorem d_Mod_twice_22 : decode i_Mod_twice.2.1 22 = .ok (.iconst 1, 1) := by decide +kernel
theorem d_Mod_twice_23 : decode i_Mod_twice.2.1 23 = .ok (.iadd, 1) := by decide +kernel
theorem d_Mod_twice_24 : decode i_Mod_twice.2.1 24 = .ok (.invokevirtual 214, 3) := by decide +kernel
theorem d_Mod_twice_27 : decode i_Mod_twice.2.1 27 = .ok (.imul, 1) := by decide +kernel
theorem d_Mod_twice_28 : decode i_Mod_twice.2.1 28 = .ok (.aload_n 0, 1) := by decide +kernel
theorem d_Mod_twice_29 : decode i_Mod_twice.2.1 29 = .ok (.iload_n 1, 1) := by decide +kernel
theorem d_Mod_twice_30 : decode i_Mod_twice.2.1 30 = .ok (.iload_n 3, 1) := by decide +kernel
theorem d_Mod_twice_31 : decode i_Mod_twice.2.1 31 = .ok (.invokevirtual 214, 3) := by decide +kernel
theorem d_Mod_twice_34 : decode i_Mod_twice.2.1 34 = .ok (.aload_n 0, 1) := by decide +kernel
theorem d_Mod_twice_35 : decode i_Mod_twice.2.1 35 = .ok (.iload_n 1, 1) := by decide +kernel
theorem d_Mod_twice_36 : decode i_Mod_twice.2.1 36 = .ok (.iload_n 3, 1) := by decide +kernel
theorem d_Mod_twice_37 : decode i_Mod_twice.2.1 37 = .ok (.iconst 1, 1) := by decide +kernel
theorem d_Mod_twice_38 : decode i_Mod_twice.2.1 38 = .ok (.iadd, 1) := by decide +kernel
theorem d_Mod_twice_39 : decode i_Mod_twice.2.1 39 = .ok (.invokevirtual 211, 3) := by decide +kernel
theorem d_Mod_twice_42 : decode i_Mod_twice.2.1 42 = .ok (.imul, 1) := by decide +kernel
theorem d_Mod_twice_43 : decode i_Mod_twice.2.1 43 = .ok (.isub, 1) := by decide +kernel
theorem d_Mod_twice_44 : decode i_Mod_twice.2.1 44 = .ok (.iadd, 1) := by decide +kernel
theorem d_Mod_twice_45 : decode i_Mod_twice.2.1 45 = .ok (.istore_n 2, 1) := by decide +kernel
theorem d_Mod_twice_46 : decode i_Mod_twice.2.1 46 = .ok (.iinc 3 1, 3) := by decide +kernel
theorem d_Mod_twice_49 : decode i_Mod_twice.2.1 49 = .ok (.goto (-45), 3) := by decide +kernel
theorem d_Mod_twice_52 : decode i_Mod_twice.2.1 52 = .ok (.iload_n 2, 1) := by decide +kernel
theorem d_Mod_twice_53 : decode i_Mod_twice.2.1 53 = .ok (.invokestatic 183, 3) := by decide +kernel
theorem d_Mod_twice_56 : decode i_Mod_twice.2.1 56 = .ok (.ireturn, 1) := by decide +kernel
theorem d_Mod_best_0 : decode i_Mod_best.2.1 0 = .ok (.aload_n 0, 1) := by decide +kernel
theorem d_Mod_best_1 : decode i_Mod_best.2.1 1 = .ok (.iload_n 1, 1) := by decide +kernel
theorem d_Mod_best_2 : decode i_Mod_best.2.1 2 = .ok (.invokevirtual 169, 3) := by decide +kernel
theorem d_Mod_best_5 : decode i_Mod_best.2.1 5 = .ok (.ifCond .eq 12, 3) := by decide +kernel
theorem d_Mod_best_8 : decode i_Mod_best.2.1 8 = .ok (.iload_n 2, 1) := by decide +kernel
theorem d_Mod_best_9 : decode i_Mod_best.2.1 9 = .ok (.iconst 0, 1) := by decide +kernel
theorem d_Mod_best_10 : decode i_Mod_best.2.1 10 = .ok (.iconst 3, 1) := by decide +kernel
theorem d_Mod_best_11 : decode i_Mod_best.2.1 11 = .ok (.invokestatic 71, 3) := by decide +kernel
theorem d_Mod_best_14 : decode i_Mod_best.2.1 14 = .ok (.ifCond .ne 6, 3) := by decide +kernel
theorem d_Mod_best_17 : decode i_Mod_best.2.1 17 = .ok (.ldc 75, 2) := by decide +kernel
theorem d_Mod_best_19 : decode i_Mod_best.2.1 19 = .ok (.ireturn, 1) := by decide +kernel
theorem d_Mod_best_20 : decode i_Mod_best.2.1 20 = .ok (.aload_n 0, 1) := by decide +kernel
theorem d_Mod_best_21 : decode i_Mod_best.2.1 21 = .ok (.iload_n 1, 1) := by decide +kernel
theorem d_Mod_best_22 : decode i_Mod_best.2.1 22 = .ok (.invokevirtual 226, 3) := by decide +kernel
theorem d_Mod_best_25 : decode i_Mod_best.2.1 25 = .ok (.iload_n 2, 1) := by decide +kernel
theorem d_Mod_best_26 : decode i_Mod_best.2.1 26 = .ok (.ifCond .ne 10, 3) := by decide +kernel
theorem d_Mod_best_29 : decode i_Mod_best.2.1 29 = .ok (.aload_n 0, 1) := by decide +kernel
theorem d_Mod_best_30 : decode i_Mod_best.2.1 30 = .ok (.getfield 205, 3) := by decide +kernel
theorem d_Mod_best_33 : decode i_Mod_best.2.1 33 = .ok (.goto 33, 3) := by decide +kernel
theorem d_Mod_best_36 : decode i_Mod_best.2.1 36 = .ok (.iload_n 2, 1) := by decide +kernel
theorem d_Mod_best_37 : decode i_Mod_best.2.1 37 = .ok (.iconst 1, 1) := by decide +kernel
theorem d_Mod_best_38 : decode i_Mod_best.2.1 38 = .ok (.if_icmp .ne 10, 3) := by decide +kernel
theorem d_Mod_best_41 : decode i_Mod_best.2.1 41 = .ok (.aload_n 0, 1) := by decide +kernel
theorem d_Mod_best_42 : decode i_Mod_best.2.1 42 = .ok (.getfield 208, 3) := by decide +kernel
theorem d_Mod_best_45 : decode i_Mod_best.2.1 45 = .ok (.goto 21, 3) := by decide +kernel
theorem d_Mod_best_48 : decode i_Mod_best.2.1 48 = .ok (.iload_n 2, 1) := by decide +kernel
theorem d_Mod_best_49 : decode i_Mod_best.2.1 49 = .ok (.iconst 2, 1) := by decide +kernel
theorem d_Mod_best_50 : decode i_Mod_best.2.1 50 = .ok (.if_icmp .ne 11, 3) := by decide +kernel
theorem d_Mod_best_53 : decode i_Mod_best.2.1 53 = .ok (.aload_n 0, 1) := by decide +kernel
theorem d_Mod_best_54 : decode i_Mod_best.2.1 54 = .ok (.iload_n 1, 1) := by decide +kernel
theorem d_Mod_best_55 : decode i_Mod_best.2.1 55 = .ok (.invokevirtual 229, 3) := by decide +kernel
theorem d_Mod_best_58 : decode i_Mod_best.2.1 58 = .ok (.goto 8, 3) := by decide +kernel
theorem d_Mod_best_61 : decode i_Mod_best.2.1 61 = .ok (.aload_n 0, 1) := by decide +kernel
theorem d_Mod_best_62 : decode i_Mod_best.2.1 62 = .ok (.iload_n 1, 1) := by decide +kernel
theorem d_Mod_best_63 : decode i_Mod_best.2.1 63 = .ok (.invokevirtual 232, 3) := by decide +kernel
theorem d_Mod_best_66 : decode i_Mod_best.2.1 66 = .ok (.ireturn, 1) := by decide +kernel
theorem d_Mod_vertex_0 : decode i_Mod_vertex.2.1 0 = .ok (.aload_n 0, 1) := by decide +kernel
theorem d_Mod_vertex_1 : decode i_Mod_vertex.2.1 1 = .ok (.iload_n 1, 1) := by decide +kernel
theorem d_Mod_vertex_2 : decode i_Mod_vertex.2.1 2 = .ok (.invokevirtual 169, 3) := by decide +kernel
theorem d_Mod_vertex_5 : decode i_Mod_vertex.2.1 5 = .ok (.ifCond .eq 12, 3) := by decide +kernel
theorem d_Mod_vertex_8 : decode i_Mod_vertex.2.1 8 = .ok (.iload_n 3, 1) := by decide +kernel
theorem d_Mod_vertex_9 : decode i_Mod_vertex.2.1 9 = .ok (.iconst 0, 1) := by decide +kernel
theorem d_Mod_vertex_10 : decode i_Mod_vertex.2.1 10 = .ok (.iconst 2, 1) := by decide +kernel
theorem d_Mod_vertex_11 : decode i_Mod_vertex.2.1 11 = .ok (.invokestatic 71, 3) := by decide +kernel
theorem d_Mod_vertex_14 : decode i_Mod_vertex.2.1 14 = .ok (.ifCond .ne 6, 3) := by decide +kernel
theorem d_Mod_vertex_17 : decode i_Mod_vertex.2.1 17 = .ok (.ldc 75, 2) := by decide +kernel
theorem d_Mod_vertex_19 : decode i_Mod_vertex.2.1 19 = .ok (.ireturn, 1) := by decide +kernel
theorem d_Mod_vertex_20 : decode i_Mod_vertex.2.1 20 = .ok (.aload_n 0, 1) := by decide +kernel
theorem d_Mod_vertex_21 : decode i_Mod_vertex.2.1 21 = .ok (.iload_n 1, 1) := by decide +kernel
theorem d_Mod_vertex_22 : decode i_Mod_vertex.2.1 22 = .ok (.invokevirtual 226, 3) := by decide +kernel
theorem d_Mod_vertex_25 : decode i_Mod_vertex.2.1 25 = .ok (.iload_n 2, 1) := by decide +kernel
theorem d_Mod_vertex_26 : decode i_Mod_vertex.2.1 26 = .ok (.iconst 0, 1) := by decide +kernel
theorem d_Mod_vertex_27 : decode i_Mod_vertex.2.1 27 = .ok (.aload_n 0, 1) := by decide +kernel
theorem d_Mod_vertex_28 : decode i_Mod_vertex.2.1 28 = .ok (.getfield 205, 3) := by decide +kernel
theorem d_Mod_vertex_31 : decode i_Mod_vertex.2.1 31 = .ok (.iconst 1, 1) := by decide +kernel
theorem d_Mod_vertex_32 : decode i_Mod_vertex.2.1 32 = .ok (.isub, 1) := by decide +kernel
theorem d_Mod_vertex_33 : decode i_Mod_vertex.2.1 33 = .ok (.invokestatic 71, 3) := by decide +kernel
theorem d_Mod_vertex_36 : decode i_Mod_vertex.2.1 36 = .ok (.ifCond .ne 6, 3) := by decide +kernel
theorem d_Mod_vertex_39 : decode i_Mod_vertex.2.1 39 = .ok (.ldc 75, 2) := by decide +kernel
theorem d_Mod_vertex_41 : decode i_Mod_vertex.2.1 41 = .ok (.ireturn, 1) := by decide +kernel
theorem d_Mod_vertex_42 : decode i_Mod_vertex.2.1 42 = .ok (.iload_n 3, 1) := by decide +kernel
theorem d_Mod_vertex_43 : decode i_Mod_vertex.2.1 43 = .ok (.ifCond .ne 12, 3) := by decide +kernel
theorem d_Mod_vertex_46 : decode i_Mod_vertex.2.1 46 = .ok (.aload_n 0, 1) := by decide +kernel
theorem d_Mod_vertex_47 : decode i_Mod_vertex.2.1 47 = .ok (.getfield 59, 3) := by decide +kernel
theorem d_Mod_vertex_50 : decode i_Mod_vertex.2.1 50 = .ok (.iload_n 2, 1) := by decide +kernel
theorem d_Mod_vertex_51 : decode i_Mod_vertex.2.1 51 = .ok (.iaload, 1) := by decide +kernel
theorem d_Mod_vertex_52 : decode i_Mod_vertex.2.1 52 = .ok (.goto 31, 3) := by decide +kernel
theorem d_Mod_vertex_55 : decode i_Mod_vertex.2.1 55 = .ok (.iload_n 3, 1) := by decide +kernel
theorem d_Mod_vertex_56 : decode i_Mod_vertex.2.1 56 = .ok (.iconst 1, 1) := by decide +kernel
theorem d_Mod_vertex_57 : decode i_Mod_vertex.2.1 57 = .ok (.if_icmp .ne 12, 3) := by decide +kernel
theorem d_Mod_vertex_60 : decode i_Mod_vertex.2.1 60 = .ok (.aload_n 0, 1) := by decide +kernel
theorem d_Mod_vertex_61 : decode i_Mod_vertex.2.1 61 = .ok (.iload_n 1, 1) := by decide +kernel
theorem d_Mod_vertex_62 : decode i_Mod_vertex.2.1 62 = .ok (.iload_n 2, 1) := by decide +kernel
theorem d_Mod_vertex_63 : decode i_Mod_vertex.2.1 63 = .ok (.invokevirtual 220, 3) := by decide +kernel
theorem d_Mod_vertex_66 : decode i_Mod_vertex.2.1 66 = .ok (.goto 17, 3) := by decide +kernel
theorem d_Mod_vertex_69 : decode i_Mod_vertex.2.1 69 = .ok (.aload_n 0, 1) := by decide +kernel
theorem d_Mod_vertex_70 : decode i_Mod_vertex.2.1 70 = .ok (.iload_n 1, 1) := by decide +kernel
theorem d_Mod_vertex_71 : decode i_Mod_vertex.2.1 71 = .ok (.iload_n 2, 1) := by decide +kernel
theorem d_Mod_vertex_72 : decode i_Mod_vertex.2.1 72 = .ok (.invokevirtual 223, 3) := by decide +kernel
theorem d_Mod_vertex_75 : decode i_Mod_vertex.2.1 75 = .ok (.ifCond .eq 7, 3) := by decide +kernel
theorem d_Mod_vertex_78 : decode i_Mod_vertex.2.1 78 = .ok (.iconst 1, 1) := by decide +kernel
theorem d_Mod_vertex_79 : decode i_Mod_vertex.2.1 79 = .ok (.goto 4, 3) := by decide +kernel
theorem d_Mod_vertex_82 : decode i_Mod_vertex.2.1 82 = .ok (.iconst 0, 1) := by decide +kernel
theorem d_Mod_vertex_83 : decode i_Mod_vertex.2.1 83 = .ok (.ireturn, 1) := by decide +kernel
theorem d_Mod_past_0 : decode i_Mod_past.2.1 0 = .ok (.aload_n 0, 1) := by decide +kernel
theorem d_Mod_past_1 : decode i_Mod_past.2.1 1 = .ok (.iload_n 1, 1) := by decide +kernel
theorem d_Mod_past_2 : decode i_Mod_past.2.1 2 = .ok (.invokevirtual 169, 3) := by decide +kernel
theorem d_Mod_past_5 : decode i_Mod_past.2.1 5 = .ok (.ifCond .eq 19, 3) := by decide +kernel
theorem d_Mod_past_8 : decode i_Mod_past.2.1 8 = .ok (.iload_n 2, 1) := by decide +kernel
theorem d_Mod_past_9 : decode i_Mod_past.2.1 9 = .ok (.iconst 0, 1) := by decide +kernel
theorem d_Mod_past_10 : decode i_Mod_past.2.1 10 = .ok (.aload_n 0, 1) := by decide +kernel
theorem d_Mod_past_11 : decode i_Mod_past.2.1 11 = .ok (.getfield 31, 3) := by decide +kernel
theorem d_Mod_past_14 : decode i_Mod_past.2.1 14 = .ok (.iload_n 1, 1) := by decide +kernel
theorem d_Mod_past_15 : decode i_Mod_past.2.1 15 = .ok (.iaload, 1) := by decide +kernel
theorem d_Mod_past_16 : decode i_Mod_past.2.1 16 = .ok (.iconst 1, 1) := by decide +kernel
theorem d_Mod_past_17 : decode i_Mod_past.2.1 17 = .ok (.isub, 1) := by decide +kernel
theorem d_Mod_past_18 : decode i_Mod_past.2.1 18 = .ok (.invokestatic 71, 3) := by decide +kernel
theorem d_Mod_past_21 : decode i_Mod_past.2.1 21 = .ok (.ifCond .ne 6, 3) := by decide +kernel
theorem d_Mod_past_24 : decode i_Mod_past.2.1 24 = .ok (.ldc 75, 2) := by decide +kernel
theorem d_Mod_past_26 : decode i_Mod_past.2.1 26 = .ok (.ireturn, 1) := by decide +kernel
theorem d_Mod_past_27 : decode i_Mod_past.2.1 27 = .ok (.aload_n 0, 1) := by decide +kernel
theorem d_Mod_past_28 : decode i_Mod_past.2.1 28 = .ok (.iload_n 1, 1) := by decide +kernel
theorem d_Mod_past_29 : decode i_Mod_past.2.1 29 = .ok (.invokevirtual 226, 3) := by decide +kernel
theorem d_Mod_past_32 : decode i_Mod_past.2.1 32 = .ok (.aload_n 0, 1) := by decide +kernel
theorem d_Mod_past_33 : decode i_Mod_past.2.1 33 = .ok (.iload_n 1, 1) := by decide +kernel
theorem d_Mod_past_34 : decode i_Mod_past.2.1 34 = .ok (.iload_n 2, 1) := by decide +kernel
theorem d_Mod_past_35 : decode i_Mod_past.2.1 35 = .ok (.invokevirtual 235, 3) := by decide +kernel
theorem d_Mod_past_38 : decode i_Mod_past.2.1 38 = .ok (.ireturn, 1) := by decide +kernel
theorem d_Mod_pointOf_0 : decode i_Mod_pointOf.2.1 0 = .ok (.iload 4, 2) := by decide +kernel
theorem d_Mod_pointOf_2 : decode i_Mod_pointOf.2.1 2 = .ok (.ifCond .ne 14, 3) := by decide +kernel
theorem d_Mod_pointOf_5 : decode i_Mod_pointOf.2.1 5 = .ok (.aload_n 0, 1) := by decide +kernel
theorem d_Mod_pointOf_6 : decode i_Mod_pointOf.2.1 6 = .ok (.iload_n 1, 1) := by decide +kernel
theorem d_Mod_pointOf_7 : decode i_Mod_pointOf.2.1 7 = .ok (.iload_n 2, 1) := by decide +kernel
theorem d_Mod_pointOf_8 : decode i_Mod_pointOf.2.1 8 = .ok (.iconst 1, 1) := by decide +kernel
theorem d_Mod_pointOf_9 : decode i_Mod_pointOf.2.1 9 = .ok (.isub, 1) := by decide +kernel
theorem d_Mod_pointOf_10 : decode i_Mod_pointOf.2.1 10 = .ok (.invokevirtual 211, 3) := by decide +kernel
theorem d_Mod_pointOf_13 : decode i_Mod_pointOf.2.1 13 = .ok (.goto 11, 3) := by decide +kernel
theorem d_Mod_pointOf_16 : decode i_Mod_pointOf.2.1 16 = .ok (.aload_n 0, 1) := by decide +kernel
theorem d_Mod_pointOf_17 : decode i_Mod_pointOf.2.1 17 = .ok (.iload_n 1, 1) := by decide +kernel
theorem d_Mod_pointOf_18 : decode i_Mod_pointOf.2.1 18 = .ok (.iload_n 2, 1) := by decide +kernel
theorem d_Mod_pointOf_19 : decode i_Mod_pointOf.2.1 19 = .ok (.iconst 1, 1) := by decide +kernel
theorem d_Mod_pointOf_20 : decode i_Mod_pointOf.2.1 20 = .ok (.isub, 1) := by decide +kernel
theorem d_Mod_pointOf_21 : decode i_Mod_pointOf.2.1 21 = .ok (.invokevirtual 214, 3) := by decide +kernel
theorem d_Mod_pointOf_24 : decode i_Mod_pointOf.2.1 24 = .ok (.istore 5, 2) := by decide +kernel
theorem d_Mod_pointOf_26 : decode i_Mod_pointOf.2.1 26 = .ok (.iload 4, 2) := by decide +kernel
theorem d_Mod_pointOf_28 : decode i_Mod_pointOf.2.1 28 = .ok (.ifCond .ne 12, 3) := by decide +kernel
theorem d_Mod_pointOf_31 : decode i_Mod_pointOf.2.1 31 = .ok (.aload_n 0, 1) := by decide +kernel
theorem d_Mod_pointOf_32 : decode i_Mod_pointOf.2.1 32 = .ok (.iload_n 1, 1) := by decide +kernel
theorem d_Mod_pointOf_33 : decode i_Mod_pointOf.2.1 33 = .ok (.iload_n 2, 1) := by decide +kernel
theorem d_Mod_pointOf_34 : decode i_Mod_pointOf.2.1 34 = .ok (.invokevirtual 211, 3) := by decide +kernel
theorem d_Mod_pointOf_37 : decode i_Mod_pointOf.2.1 37 = .ok (.goto 9, 3) := by decide +kernel
theorem d_Mod_pointOf_40 : decode i_Mod_pointOf.2.1 40 = .ok (.aload_n 0, 1) := by decide +kernel
theorem d_Mod_pointOf_41 : decode i_Mod_pointOf.2.1 41 = .ok (.iload_n 1, 1) := by decide +kernel
theorem d_Mod_pointOf_42 : decode i_Mod_pointOf.2.1 42 = .ok (.iload_n 2, 1) := by decide +kernel
theorem d_Mod_pointOf_43 : decode i_Mod_pointOf.2.1 43 = .ok (.invokevirtual 214, 3) := by decide +kernel
theorem d_Mod_pointOf_46 : decode i_Mod_pointOf.2.1 46 = .ok (.istore 6, 2) := by decide +kernel
theorem d_Mod_pointOf_48 : decode i_Mod_pointOf.2.1 48 = .ok (.iload 4, 2) := by decide +kernel
theorem d_Mod_pointOf_50 : decode i_Mod_pointOf.2.1 50 = .ok (.ifCond .ne 14, 3) := by decide +kernel
theorem d_Mod_pointOf_53 : decode i_Mod_pointOf.2.1 53 = .ok (.aload_n 0, 1) := by decide +kernel
theorem d_Mod_pointOf_54 : decode i_Mod_pointOf.2.1 54 = .ok (.iload_n 1, 1) := by decide +kernel
theorem d_Mod_pointOf_55 : decode i_Mod_pointOf.2.1 55 = .ok (.iload_n 2, 1) := by decide +kernel
theorem d_Mod_pointOf_56 : decode i_Mod_pointOf.2.1 56 = .ok (.iconst 1, 1) := by decide +kernel
theorem d_Mod_pointOf_57 : decode i_Mod_pointOf.2.1 57 = .ok (.iadd, 1) := by decide +kernel
theorem d_Mod_pointOf_58 : decode i_Mod_pointOf.2.1 58 = .ok (.invokevirtual 211, 3) := by decide +kernel
theorem d_Mod_pointOf_61 : decode i_Mod_pointOf.2.1 61 = .ok (.goto 11, 3) := by decide +kernel
theorem d_Mod_pointOf_64 : decode i_Mod_pointOf.2.1 64 = .ok (.aload_n 0, 1) := by decide +kernel
theorem d_Mod_pointOf_65 : decode i_Mod_pointOf.2.1 65 = .ok (.iload_n 1, 1) := by decide +kernel
theorem d_Mod_pointOf_66 : decode i_Mod_pointOf.2.1 66 = .ok (.iload_n 2, 1) := by decide +kernel
theorem d_Mod_pointOf_67 : decode i_Mod_pointOf.2.1 67 = .ok (.iconst 1, 1) := by decide +kernel
theorem d_Mod_pointOf_68 : decode i_Mod_pointOf.2.1 68 = .ok (.iadd, 1) := by decide +kernel
theorem d_Mod_pointOf_69 : decode i_Mod_pointOf.2.1 69 = .ok (.invokevirtual 214, 3) := by decide +kernel
theorem d_Mod_pointOf_72 : decode i_Mod_pointOf.2.1 72 = .ok (.istore 7, 2) := by decide +kernel
theorem d_Mod_pointOf_74 : decode i_Mod_pointOf.2.1 74 = .ok (.iload_n 3, 1) := by decide +kernel
theorem d_Mod_pointOf_75 : decode i_Mod_pointOf.2.1 75 = .ok (.iconst 1, 1) := by decide +kernel
theorem d_Mod_pointOf_76 : decode i_Mod_pointOf.2.1 76 = .ok (.if_icmp .ne 20, 3) := by decide +kernel
theorem d_Mod_pointOf_79 : decode i_Mod_pointOf.2.1 79 = .ok (.bipush 9, 2) := by decide +kernel
theorem d_Mod_pointOf_81 : decode i_Mod_pointOf.2.1 81 = .ok (.iload 5, 2) := by decide +kernel
theorem d_Mod_pointOf_83 : decode i_Mod_pointOf.2.1 83 = .ok (.imul, 1) := by decide +kernel
theorem d_Mod_pointOf_84 : decode i_Mod_pointOf.2.1 84 = .ok (.bipush 22, 2) := by decide +kernel
theorem d_Mod_pointOf_86 : decode i_Mod_pointOf.2.1 86 = .ok (.iload 6, 2) := by decide +kernel
theorem d_Mod_pointOf_88 : decode i_Mod_pointOf.2.1 88 = .ok (.imul, 1) := by decide +kernel
theorem d_Mod_pointOf_89 : decode i_Mod_pointOf.2.1 89 = .ok (.iadd, 1) := by decide +kernel
theorem d_Mod_pointOf_90 : decode i_Mod_pointOf.2.1 90 = .ok (.iload 7, 2) := by decide +kernel
theorem d_Mod_pointOf_92 : decode i_Mod_pointOf.2.1 92 = .ok (.iadd, 1) := by decide +kernel
theorem d_Mod_pointOf_93 : decode i_Mod_pointOf.2.1 93 = .ok (.goto 40, 3) := by decide +kernel
theorem d_Mod_pointOf_96 : decode i_Mod_pointOf.2.1 96 = .ok (.iload_n 3, 1) := by decide +kernel
theorem d_Mod_pointOf_97 : decode i_Mod_pointOf.2.1 97 = .ok (.iconst 2, 1) := by decide +kernel
theorem d_Mod_pointOf_98 : decode i_Mod_pointOf.2.1 98 = .ok (.if_icmp .ne 21, 3) := by decide +kernel
theorem d_Mod_pointOf_101 : decode i_Mod_pointOf.2.1 101 = .ok (.iconst 4, 1) := by decide +kernel
theorem d_Mod_pointOf_102 : decode i_Mod_pointOf.2.1 102 = .ok (.iload 5, 2) := by decide +kernel
theorem d_Mod_pointOf_104 : decode i_Mod_pointOf.2.1 104 = .ok (.imul, 1) := by decide +kernel
theorem d_Mod_pointOf_105 : decode i_Mod_pointOf.2.1 105 = .ok (.bipush 24, 2) := by decide +kernel
theorem d_Mod_pointOf_107 : decode i_Mod_pointOf.2.1 107 = .ok (.iload 6, 2) := by decide +kernel
theorem d_Mod_pointOf_109 : decode i_Mod_pointOf.2.1 109 = .ok (.imul, 1) := by decide +kernel
theorem d_Mod_pointOf_110 : decode i_Mod_pointOf.2.1 110 = .ok (.iadd, 1) := by decide +kernel
theorem d_Mod_pointOf_111 : decode i_Mod_pointOf.2.1 111 = .ok (.iconst 4, 1) := by decide +kernel
theorem d_Mod_pointOf_112 : decode i_Mod_pointOf.2.1 112 = .ok (.iload 7, 2) := by decide +kernel
theorem d_Mod_pointOf_114 : decode i_Mod_pointOf.2.1 114 = .ok (.imul, 1) := by decide +kernel
theorem d_Mod_pointOf_115 : decode i_Mod_pointOf.2.1 115 = .ok (.iadd, 1) := by decide +kernel
theorem d_Mod_pointOf_116 : decode i_Mod_pointOf.2.1 116 = .ok (.goto 17, 3) := by decide +kernel
theorem d_Mod_pointOf_119 : decode i_Mod_pointOf.2.1 119 = .ok (.iload 5, 2) := by decide +kernel
theorem d_Mod_pointOf_121 : decode i_Mod_pointOf.2.1 121 = .ok (.bipush 22, 2) := by decide +kernel
theorem d_Mod_pointOf_123 : decode i_Mod_pointOf.2.1 123 = .ok (.iload 6, 2) := by decide +kernel
theorem d_Mod_pointOf_125 : decode i_Mod_pointOf.2.1 125 = .ok (.imul, 1) := by decide +kernel
theorem d_Mod_pointOf_126 : decode i_Mod_pointOf.2.1 126 = .ok (.iadd, 1) := by decide +kernel
theorem d_Mod_pointOf_127 : decode i_Mod_pointOf.2.1 127 = .ok (.bipush 9, 2) := by decide +kernel
theorem d_Mod_pointOf_129 : decode i_Mod_pointOf.2.1 129 = .ok (.iload 7, 2) := by decide +kernel
theorem d_Mod_pointOf_131 : decode i_Mod_pointOf.2.1 131 = .ok (.imul, 1) := by decide +kernel
theorem d_Mod_pointOf_132 : decode i_Mod_pointOf.2.1 132 = .ok (.iadd, 1) := by decide +kernel
theorem d_Mod_pointOf_133 : decode i_Mod_pointOf.2.1 133 = .ok (.ireturn, 1) := by decide +kernel
theorem d_Mod_point_0 : decode i_Mod_point.2.1 0 = .ok (.aload_n 0, 1) := by decide +kernel
theorem d_Mod_point_1 : decode i_Mod_point.2.1 1 = .ok (.iload_n 1, 1) := by decide +kernel
theorem d_Mod_point_2 : decode i_Mod_point.2.1 2 = .ok (.invokevirtual 169, 3) := by decide +kernel
theorem d_Mod_point_5 : decode i_Mod_point.2.1 5 = .ok (.ifCond .eq 22, 3) := by decide +kernel
theorem d_Mod_point_8 : decode i_Mod_point.2.1 8 = .ok (.iload_n 3, 1) := by decide +kernel
theorem d_Mod_point_9 : decode i_Mod_point.2.1 9 = .ok (.iconst 1, 1) := by decide +kernel
theorem d_Mod_point_10 : decode i_Mod_point.2.1 10 = .ok (.iconst 3, 1) := by decide +kernel
theorem d_Mod_point_11 : decode i_Mod_point.2.1 11 = .ok (.invokestatic 71, 3) := by decide +kernel
theorem d_Mod_point_14 : decode i_Mod_point.2.1 14 = .ok (.ifCond .eq 13, 3) := by decide +kernel
theorem d_Mod_point_17 : decode i_Mod_point.2.1 17 = .ok (.iload 4, 2) := by decide +kernel
theorem d_Mod_point_19 : decode i_Mod_point.2.1 19 = .ok (.iconst 0, 1) := by decide +kernel
theorem d_Mod_point_20 : decode i_Mod_point.2.1 20 = .ok (.iconst 1, 1) := by decide +kernel
theorem d_Mod_point_21 : decode i_Mod_point.2.1 21 = .ok (.invokestatic 71, 3) := by decide +kernel
theorem d_Mod_point_24 : decode i_Mod_point.2.1 24 = .ok (.ifCond .ne 6, 3) := by decide +kernel
theorem d_Mod_point_27 : decode i_Mod_point.2.1 27 = .ok (.ldc 75, 2) := by decide +kernel
theorem d_Mod_point_29 : decode i_Mod_point.2.1 29 = .ok (.ireturn, 1) := by decide +kernel
theorem d_Mod_point_30 : decode i_Mod_point.2.1 30 = .ok (.aload_n 0, 1) := by decide +kernel
theorem d_Mod_point_31 : decode i_Mod_point.2.1 31 = .ok (.iload_n 1, 1) := by decide +kernel
theorem d_Mod_point_32 : decode i_Mod_point.2.1 32 = .ok (.invokevirtual 226, 3) := by decide +kernel
theorem d_Mod_point_35 : decode i_Mod_point.2.1 35 = .ok (.iload_n 2, 1) := by decide +kernel
theorem d_Mod_point_36 : decode i_Mod_point.2.1 36 = .ok (.iconst 0, 1) := by decide +kernel
theorem d_Mod_point_37 : decode i_Mod_point.2.1 37 = .ok (.aload_n 0, 1) := by decide +kernel
theorem d_Mod_point_38 : decode i_Mod_point.2.1 38 = .ok (.getfield 205, 3) := by decide +kernel
theorem d_Mod_point_41 : decode i_Mod_point.2.1 41 = .ok (.iconst 1, 1) := by decide +kernel
theorem d_Mod_point_42 : decode i_Mod_point.2.1 42 = .ok (.isub, 1) := by decide +kernel
theorem d_Mod_point_43 : decode i_Mod_point.2.1 43 = .ok (.invokestatic 71, 3) := by decide +kernel
theorem d_Mod_point_46 : decode i_Mod_point.2.1 46 = .ok (.ifCond .ne 6, 3) := by decide +kernel
theorem d_Mod_point_49 : decode i_Mod_point.2.1 49 = .ok (.ldc 75, 2) := by decide +kernel
theorem d_Mod_point_51 : decode i_Mod_point.2.1 51 = .ok (.ireturn, 1) := by decide +kernel
theorem d_Mod_point_52 : decode i_Mod_point.2.1 52 = .ok (.aload_n 0, 1) := by decide +kernel
theorem d_Mod_point_53 : decode i_Mod_point.2.1 53 = .ok (.iload_n 1, 1) := by decide +kernel
theorem d_Mod_point_54 : decode i_Mod_point.2.1 54 = .ok (.iload_n 2, 1) := by decide +kernel
theorem d_Mod_point_55 : decode i_Mod_point.2.1 55 = .ok (.invokevirtual 223, 3) := by decide +kernel
theorem d_Mod_point_58 : decode i_Mod_point.2.1 58 = .ok (.ifCond .eq 8, 3) := by decide +kernel
theorem d_Mod_point_61 : decode i_Mod_point.2.1 61 = .ok (.ldc 185, 2) := by decide +kernel
theorem d_Mod_point_63 : decode i_Mod_point.2.1 63 = .ok (.goto 12, 3) := by decide +kernel
theorem d_Mod_point_66 : decode i_Mod_point.2.1 66 = .ok (.aload_n 0, 1) := by decide +kernel
theorem d_Mod_point_67 : decode i_Mod_point.2.1 67 = .ok (.iload_n 1, 1) := by decide +kernel
theorem d_Mod_point_68 : decode i_Mod_point.2.1 68 = .ok (.iload_n 2, 1) := by decide +kernel
theorem d_Mod_point_69 : decode i_Mod_point.2.1 69 = .ok (.iload_n 3, 1) := by decide +kernel
theorem d_Mod_point_70 : decode i_Mod_point.2.1 70 = .ok (.iload 4, 2) := by decide +kernel
theorem d_Mod_point_72 : decode i_Mod_point.2.1 72 = .ok (.invokevirtual 238, 3) := by decide +kernel
theorem d_Mod_point_75 : decode i_Mod_point.2.1 75 = .ok (.ireturn, 1) := by decide +kernel
theorem d_Mod_adds_0 : decode i_Mod_adds.2.1 0 = .ok (.aload_n 0, 1) := by decide +kernel
theorem d_Mod_adds_1 : decode i_Mod_adds.2.1 1 = .ok (.getfield 65, 3) := by decide +kernel
theorem d_Mod_adds_4 : decode i_Mod_adds.2.1 4 = .ok (.aload_n 0, 1) := by decide +kernel
theorem d_Mod_adds_5 : decode i_Mod_adds.2.1 5 = .ok (.getfield 241, 3) := by decide +kernel
theorem d_Mod_adds_8 : decode i_Mod_adds.2.1 8 = .ok (.iload_n 1, 1) := by decide +kernel
theorem d_Mod_adds_9 : decode i_Mod_adds.2.1 9 = .ok (.iastore, 1) := by decide +kernel
theorem d_Mod_adds_10 : decode i_Mod_adds.2.1 10 = .ok (.aload_n 0, 1) := by decide +kernel
theorem d_Mod_adds_11 : decode i_Mod_adds.2.1 11 = .ok (.getfield 68, 3) := by decide +kernel
theorem d_Mod_adds_14 : decode i_Mod_adds.2.1 14 = .ok (.aload_n 0, 1) := by decide +kernel
theorem d_Mod_adds_15 : decode i_Mod_adds.2.1 15 = .ok (.getfield 241, 3) := by decide +kernel
theorem d_Mod_adds_18 : decode i_Mod_adds.2.1 18 = .ok (.iload_n 2, 1) := by decide +kernel
theorem d_Mod_adds_19 : decode i_Mod_adds.2.1 19 = .ok (.iastore, 1) := by decide +kernel
theorem d_Mod_adds_20 : decode i_Mod_adds.2.1 20 = .ok (.aload_n 0, 1) := by decide +kernel
theorem d_Mod_adds_21 : decode i_Mod_adds.2.1 21 = .ok (.dup, 1) := by decide +kernel
theorem d_Mod_adds_22 : decode i_Mod_adds.2.1 22 = .ok (.getfield 241, 3) := by decide +kernel
theorem d_Mod_adds_25 : decode i_Mod_adds.2.1 25 = .ok (.iconst 1, 1) := by decide +kernel
theorem d_Mod_adds_26 : decode i_Mod_adds.2.1 26 = .ok (.iadd, 1) := by decide +kernel
theorem d_Mod_adds_27 : decode i_Mod_adds.2.1 27 = .ok (.putfield 241, 3) := by decide +kernel
theorem d_Mod_adds_30 : decode i_Mod_adds.2.1 30 = .ok (.return_, 1) := by decide +kernel
theorem d_Mod_laysLine_0 : decode i_Mod_laysLine.2.1 0 = .ok (.aload_n 0, 1) := by decide +kernel
theorem d_Mod_laysLine_1 : decode i_Mod_laysLine.2.1 1 = .ok (.iload_n 1, 1) := by decide +kernel
theorem d_Mod_laysLine_2 : decode i_Mod_laysLine.2.1 2 = .ok (.invokevirtual 226, 3) := by decide +kernel
theorem d_Mod_laysLine_5 : decode i_Mod_laysLine.2.1 5 = .ok (.aload_n 0, 1) := by decide +kernel
theorem d_Mod_laysLine_6 : decode i_Mod_laysLine.2.1 6 = .ok (.iconst 0, 1) := by decide +kernel
theorem d_Mod_laysLine_7 : decode i_Mod_laysLine.2.1 7 = .ok (.putfield 241, 3) := by decide +kernel
theorem d_Mod_laysLine_10 : decode i_Mod_laysLine.2.1 10 = .ok (.iconst 0, 1) := by decide +kernel
theorem d_Mod_laysLine_11 : decode i_Mod_laysLine.2.1 11 = .ok (.istore_n 3, 1) := by decide +kernel
theorem d_Mod_laysLine_12 : decode i_Mod_laysLine.2.1 12 = .ok (.iload_n 3, 1) := by decide +kernel
theorem d_Mod_laysLine_13 : decode i_Mod_laysLine.2.1 13 = .ok (.aload_n 0, 1) := by decide +kernel
theorem d_Mod_laysLine_14 : decode i_Mod_laysLine.2.1 14 = .ok (.getfield 205, 3) := by decide +kernel
theorem d_Mod_laysLine_17 : decode i_Mod_laysLine.2.1 17 = .ok (.if_icmp .ge 129, 3) := by decide +kernel
theorem d_Mod_laysLine_20 : decode i_Mod_laysLine.2.1 20 = .ok (.iload_n 2, 1) := by decide +kernel
theorem d_Mod_laysLine_21 : decode i_Mod_laysLine.2.1 21 = .ok (.iconst 1, 1) := by decide +kernel
theorem d_Mod_laysLine_22 : decode i_Mod_laysLine.2.1 22 = .ok (.if_icmp .ne 43, 3) := by decide +kernel
theorem d_Mod_laysLine_25 : decode i_Mod_laysLine.2.1 25 = .ok (.aload_n 0, 1) := by decide +kernel
theorem d_Mod_laysLine_26 : decode i_Mod_laysLine.2.1 26 = .ok (.bipush 16, 2) := by decide +kernel
theorem d_Mod_laysLine_28 : decode i_Mod_laysLine.2.1 28 = .ok (.aload_n 0, 1) := by decide +kernel
theorem d_Mod_laysLine_29 : decode i_Mod_laysLine.2.1 29 = .ok (.iload_n 1, 1) := by decide +kernel
theorem d_Mod_laysLine_30 : decode i_Mod_laysLine.2.1 30 = .ok (.iload_n 3, 1) := by decide +kernel
theorem d_Mod_laysLine_31 : decode i_Mod_laysLine.2.1 31 = .ok (.iconst 1, 1) := by decide +kernel
theorem d_Mod_laysLine_32 : decode i_Mod_laysLine.2.1 32 = .ok (.isub, 1) := by decide +kernel
theorem d_Mod_laysLine_33 : decode i_Mod_laysLine.2.1 33 = .ok (.invokevirtual 211, 3) := by decide +kernel
theorem d_Mod_laysLine_36 : decode i_Mod_laysLine.2.1 36 = .ok (.aload_n 0, 1) := by decide +kernel
theorem d_Mod_laysLine_37 : decode i_Mod_laysLine.2.1 37 = .ok (.iload_n 1, 1) := by decide +kernel
theorem d_Mod_laysLine_38 : decode i_Mod_laysLine.2.1 38 = .ok (.iload_n 3, 1) := by decide +kernel
theorem d_Mod_laysLine_39 : decode i_Mod_laysLine.2.1 39 = .ok (.invokevirtual 211, 3) := by decide +kernel
theorem d_Mod_laysLine_42 : decode i_Mod_laysLine.2.1 42 = .ok (.iadd, 1) := by decide +kernel
theorem d_Mod_laysLine_43 : decode i_Mod_laysLine.2.1 43 = .ok (.imul, 1) := by decide +kernel
theorem d_Mod_laysLine_44 : decode i_Mod_laysLine.2.1 44 = .ok (.bipush 16, 2) := by decide +kernel
theorem d_Mod_laysLine_46 : decode i_Mod_laysLine.2.1 46 = .ok (.aload_n 0, 1) := by decide +kernel
theorem d_Mod_laysLine_47 : decode i_Mod_laysLine.2.1 47 = .ok (.iload_n 1, 1) := by decide +kernel
theorem d_Mod_laysLine_48 : decode i_Mod_laysLine.2.1 48 = .ok (.iload_n 3, 1) := by decide +kernel
theorem d_Mod_laysLine_49 : decode i_Mod_laysLine.2.1 49 = .ok (.iconst 1, 1) := by decide +kernel
theorem d_Mod_laysLine_50 : decode i_Mod_laysLine.2.1 50 = .ok (.isub, 1) := by decide +kernel
theorem d_Mod_laysLine_51 : decode i_Mod_laysLine.2.1 51 = .ok (.invokevirtual 214, 3) := by decide +kernel
theorem d_Mod_laysLine_54 : decode i_Mod_laysLine.2.1 54 = .ok (.aload_n 0, 1) := by decide +kernel
theorem d_Mod_laysLine_55 : decode i_Mod_laysLine.2.1 55 = .ok (.iload_n 1, 1) := by decide +kernel
theorem d_Mod_laysLine_56 : decode i_Mod_laysLine.2.1 56 = .ok (.iload_n 3, 1) := by decide +kernel
theorem d_Mod_laysLine_57 : decode i_Mod_laysLine.2.1 57 = .ok (.invokevirtual 214, 3) := by decide +kernel
theorem d_Mod_laysLine_60 : decode i_Mod_laysLine.2.1 60 = .ok (.iadd, 1) := by decide +kernel
theorem d_Mod_laysLine_61 : decode i_Mod_laysLine.2.1 61 = .ok (.imul, 1) := by decide +kernel
theorem d_Mod_laysLine_62 : decode i_Mod_laysLine.2.1 62 = .ok (.invokevirtual 244, 3) := by decide +kernel
theorem d_Mod_laysLine_65 : decode i_Mod_laysLine.2.1 65 = .ok (.iload_n 2, 1) := by decide +kernel
theorem d_Mod_laysLine_66 : decode i_Mod_laysLine.2.1 66 = .ok (.ifCond .eq 12, 3) := by decide +kernel
theorem d_Mod_laysLine_69 : decode i_Mod_laysLine.2.1 69 = .ok (.aload_n 0, 1) := by decide +kernel
theorem d_Mod_laysLine_70 : decode i_Mod_laysLine.2.1 70 = .ok (.iload_n 1, 1) := by decide +kernel
theorem d_Mod_laysLine_71 : decode i_Mod_laysLine.2.1 71 = .ok (.iload_n 3, 1) := by decide +kernel
theorem d_Mod_laysLine_72 : decode i_Mod_laysLine.2.1 72 = .ok (.invokevirtual 223, 3) := by decide +kernel
theorem d_Mod_laysLine_75 : decode i_Mod_laysLine.2.1 75 = .ok (.ifCond .eq 28, 3) := by decide +kernel
theorem d_Mod_laysLine_78 : decode i_Mod_laysLine.2.1 78 = .ok (.aload_n 0, 1) := by decide +kernel
theorem d_Mod_laysLine_79 : decode i_Mod_laysLine.2.1 79 = .ok (.bipush 32, 2) := by decide +kernel
theorem d_Mod_laysLine_81 : decode i_Mod_laysLine.2.1 81 = .ok (.aload_n 0, 1) := by decide +kernel
theorem d_Mod_laysLine_82 : decode i_Mod_laysLine.2.1 82 = .ok (.iload_n 1, 1) := by decide +kernel
theorem d_Mod_laysLine_83 : decode i_Mod_laysLine.2.1 83 = .ok (.iload_n 3, 1) := by decide +kernel
theorem d_Mod_laysLine_84 : decode i_Mod_laysLine.2.1 84 = .ok (.invokevirtual 211, 3) := by decide +kernel
theorem d_Mod_laysLine_87 : decode i_Mod_laysLine.2.1 87 = .ok (.imul, 1) := by decide +kernel
theorem d_Mod_laysLine_88 : decode i_Mod_laysLine.2.1 88 = .ok (.bipush 32, 2) := by decide +kernel
theorem d_Mod_laysLine_90 : decode i_Mod_laysLine.2.1 90 = .ok (.aload_n 0, 1) := by decide +kernel
theorem d_Mod_laysLine_91 : decode i_Mod_laysLine.2.1 91 = .ok (.iload_n 1, 1) := by decide +kernel
theorem d_Mod_laysLine_92 : decode i_Mod_laysLine.2.1 92 = .ok (.iload_n 3, 1) := by decide +kernel
theorem d_Mod_laysLine_93 : decode i_Mod_laysLine.2.1 93 = .ok (.invokevirtual 214, 3) := by decide +kernel
theorem d_Mod_laysLine_96 : decode i_Mod_laysLine.2.1 96 = .ok (.imul, 1) := by decide +kernel
theorem d_Mod_laysLine_97 : decode i_Mod_laysLine.2.1 97 = .ok (.invokevirtual 244, 3) := by decide +kernel
theorem d_Mod_laysLine_100 : decode i_Mod_laysLine.2.1 100 = .ok (.goto 40, 3) := by decide +kernel
theorem d_Mod_laysLine_103 : decode i_Mod_laysLine.2.1 103 = .ok (.iconst 1, 1) := by decide +kernel
theorem d_Mod_laysLine_104 : decode i_Mod_laysLine.2.1 104 = .ok (.istore 4, 2) := by decide +kernel
theorem d_Mod_laysLine_106 : decode i_Mod_laysLine.2.1 106 = .ok (.iload 4, 2) := by decide +kernel
theorem d_Mod_laysLine_108 : decode i_Mod_laysLine.2.1 108 = .ok (.iconst 4, 1) := by decide +kernel
theorem d_Mod_laysLine_109 : decode i_Mod_laysLine.2.1 109 = .ok (.if_icmp .ge 31, 3) := by decide +kernel
theorem d_Mod_laysLine_112 : decode i_Mod_laysLine.2.1 112 = .ok (.aload_n 0, 1) := by decide +kernel
theorem d_Mod_laysLine_113 : decode i_Mod_laysLine.2.1 113 = .ok (.aload_n 0, 1) := by decide +kernel
theorem d_Mod_laysLine_114 : decode i_Mod_laysLine.2.1 114 = .ok (.iload_n 1, 1) := by decide +kernel
theorem d_Mod_laysLine_115 : decode i_Mod_laysLine.2.1 115 = .ok (.iload_n 3, 1) := by decide +kernel
theorem d_Mod_laysLine_116 : decode i_Mod_laysLine.2.1 116 = .ok (.iload 4, 2) := by decide +kernel
theorem d_Mod_laysLine_118 : decode i_Mod_laysLine.2.1 118 = .ok (.iconst 0, 1) := by decide +kernel
theorem d_Mod_laysLine_119 : decode i_Mod_laysLine.2.1 119 = .ok (.invokevirtual 238, 3) := by decide +kernel
theorem d_Mod_laysLine_122 : decode i_Mod_laysLine.2.1 122 = .ok (.aload_n 0, 1) := by decide +kernel
theorem d_Mod_laysLine_123 : decode i_Mod_laysLine.2.1 123 = .ok (.iload_n 1, 1) := by decide +kernel
theorem d_Mod_laysLine_124 : decode i_Mod_laysLine.2.1 124 = .ok (.iload_n 3, 1) := by decide +kernel
theorem d_Mod_laysLine_125 : decode i_Mod_laysLine.2.1 125 = .ok (.iload 4, 2) := by decide +kernel
theorem d_Mod_laysLine_127 : decode i_Mod_laysLine.2.1 127 = .ok (.iconst 1, 1) := by decide +kernel
theorem d_Mod_laysLine_128 : decode i_Mod_laysLine.2.1 128 = .ok (.invokevirtual 238, 3) := by decide +kernel
theorem d_Mod_laysLine_131 : decode i_Mod_laysLine.2.1 131 = .ok (.invokevirtual 244, 3) := by decide +kernel
theorem d_Mod_laysLine_134 : decode i_Mod_laysLine.2.1 134 = .ok (.iinc 4 1, 3) := by decide +kernel
theorem d_Mod_laysLine_137 : decode i_Mod_laysLine.2.1 137 = .ok (.goto (-31), 3) := by decide +kernel
theorem d_Mod_laysLine_140 : decode i_Mod_laysLine.2.1 140 = .ok (.iinc 3 1, 3) := by decide +kernel
theorem d_Mod_laysLine_143 : decode i_Mod_laysLine.2.1 143 = .ok (.goto (-131), 3) := by decide +kernel
theorem d_Mod_laysLine_146 : decode i_Mod_laysLine.2.1 146 = .ok (.return_, 1) := by decide +kernel
theorem d_Mod_isFilled_0 : decode i_Mod_isFilled.2.1 0 = .ok (.bipush 32, 2) := by decide +kernel
theorem d_Mod_isFilled_2 : decode i_Mod_isFilled.2.1 2 = .ok (.iload_n 1, 1) := by decide +kernel
theorem d_Mod_isFilled_3 : decode i_Mod_isFilled.2.1 3 = .ok (.imul, 1) := by decide +kernel
theorem d_Mod_isFilled_4 : decode i_Mod_isFilled.2.1 4 = .ok (.bipush 16, 2) := by decide +kernel
theorem d_Mod_isFilled_6 : decode i_Mod_isFilled.2.1 6 = .ok (.iadd, 1) := by decide +kernel
theorem d_Mod_isFilled_7 : decode i_Mod_isFilled.2.1 7 = .ok (.istore_n 3, 1) := by decide +kernel
theorem d_Mod_isFilled_8 : decode i_Mod_isFilled.2.1 8 = .ok (.bipush 32, 2) := by decide +kernel
theorem d_Mod_isFilled_10 : decode i_Mod_isFilled.2.1 10 = .ok (.iload_n 2, 1) := by decide +kernel
theorem d_Mod_isFilled_11 : decode i_Mod_isFilled.2.1 11 = .ok (.imul, 1) := by decide +kernel
theorem d_Mod_isFilled_12 : decode i_Mod_isFilled.2.1 12 = .ok (.bipush 16, 2) := by decide +kernel
theorem d_Mod_isFilled_14 : decode i_Mod_isFilled.2.1 14 = .ok (.iadd, 1) := by decide +kernel
theorem d_Mod_isFilled_15 : decode i_Mod_isFilled.2.1 15 = .ok (.istore 4, 2) := by decide +kernel
theorem d_Mod_isFilled_17 : decode i_Mod_isFilled.2.1 17 = .ok (.iconst 0, 1) := by decide +kernel
theorem d_Mod_isFilled_18 : decode i_Mod_isFilled.2.1 18 = .ok (.istore 5, 2) := by decide +kernel
theorem d_Mod_isFilled_20 : decode i_Mod_isFilled.2.1 20 = .ok (.iconst 0, 1) := by decide +kernel
theorem d_Mod_isFilled_21 : decode i_Mod_isFilled.2.1 21 = .ok (.istore 6, 2) := by decide +kernel
theorem d_Mod_isFilled_23 : decode i_Mod_isFilled.2.1 23 = .ok (.iload 6, 2) := by decide +kernel
theorem d_Mod_isFilled_25 : decode i_Mod_isFilled.2.1 25 = .ok (.aload_n 0, 1) := by decide +kernel
theorem d_Mod_isFilled_26 : decode i_Mod_isFilled.2.1 26 = .ok (.getfield 241, 3) := by decide +kernel
theorem d_Mod_isFilled_29 : decode i_Mod_isFilled.2.1 29 = .ok (.if_icmp .ge 152, 3) := by decide +kernel
theorem d_Mod_isFilled_32 : decode i_Mod_isFilled.2.1 32 = .ok (.iload 6, 2) := by decide +kernel
theorem d_Mod_isFilled_34 : decode i_Mod_isFilled.2.1 34 = .ok (.iconst 1, 1) := by decide +kernel
theorem d_Mod_isFilled_35 : decode i_Mod_isFilled.2.1 35 = .ok (.iadd, 1) := by decide +kernel
theorem d_Mod_isFilled_36 : decode i_Mod_isFilled.2.1 36 = .ok (.aload_n 0, 1) := by decide +kernel
theorem d_Mod_isFilled_37 : decode i_Mod_isFilled.2.1 37 = .ok (.getfield 241, 3) := by decide +kernel
theorem d_Mod_isFilled_40 : decode i_Mod_isFilled.2.1 40 = .ok (.irem, 1) := by decide +kernel
theorem d_Mod_isFilled_41 : decode i_Mod_isFilled.2.1 41 = .ok (.istore 7, 2) := by decide +kernel
theorem d_Mod_isFilled_43 : decode i_Mod_isFilled.2.1 43 = .ok (.aload_n 0, 1) := by decide +kernel
theorem d_Mod_isFilled_44 : decode i_Mod_isFilled.2.1 44 = .ok (.getfield 68, 3) := by decide +kernel
theorem d_Mod_isFilled_47 : decode i_Mod_isFilled.2.1 47 = .ok (.iload 6, 2) := by decide +kernel
theorem d_Mod_isFilled_49 : decode i_Mod_isFilled.2.1 49 = .ok (.iaload, 1) := by decide +kernel
theorem d_Mod_isFilled_50 : decode i_Mod_isFilled.2.1 50 = .ok (.iload 4, 2) := by decide +kernel
theorem d_Mod_isFilled_52 : decode i_Mod_isFilled.2.1 52 = .ok (.if_icmp .ge 7, 3) := by decide +kernel
theorem d_Mod_isFilled_55 : decode i_Mod_isFilled.2.1 55 = .ok (.iconst 1, 1) := by decide +kernel
theorem d_Mod_isFilled_56 : decode i_Mod_isFilled.2.1 56 = .ok (.goto 4, 3) := by decide +kernel
theorem d_Mod_isFilled_59 : decode i_Mod_isFilled.2.1 59 = .ok (.iconst 0, 1) := by decide +kernel
theorem d_Mod_isFilled_60 : decode i_Mod_isFilled.2.1 60 = .ok (.istore 8, 2) := by decide +kernel
theorem d_Mod_isFilled_62 : decode i_Mod_isFilled.2.1 62 = .ok (.iload 8, 2) := by decide +kernel
theorem d_Mod_isFilled_64 : decode i_Mod_isFilled.2.1 64 = .ok (.aload_n 0, 1) := by decide +kernel
theorem d_Mod_isFilled_65 : decode i_Mod_isFilled.2.1 65 = .ok (.getfield 68, 3) := by decide +kernel
theorem d_Mod_isFilled_68 : decode i_Mod_isFilled.2.1 68 = .ok (.iload 7, 2) := by decide +kernel
theorem d_Mod_isFilled_70 : decode i_Mod_isFilled.2.1 70 = .ok (.iaload, 1) := by decide +kernel
theorem d_Mod_isFilled_71 : decode i_Mod_isFilled.2.1 71 = .ok (.iload 4, 2) := by decide +kernel
theorem d_Mod_isFilled_73 : decode i_Mod_isFilled.2.1 73 = .ok (.if_icmp .ge 7, 3) := by decide +kernel
theorem d_Mod_isFilled_76 : decode i_Mod_isFilled.2.1 76 = .ok (.iconst 1, 1) := by decide +kernel
theorem d_Mod_isFilled_77 : decode i_Mod_isFilled.2.1 77 = .ok (.goto 4, 3) := by decide +kernel
theorem d_Mod_isFilled_80 : decode i_Mod_isFilled.2.1 80 = .ok (.iconst 0, 1) := by decide +kernel
theorem d_Mod_isFilled_81 : decode i_Mod_isFilled.2.1 81 = .ok (.if_icmp .eq 94, 3) := by decide +kernel
theorem d_Mod_isFilled_84 : decode i_Mod_isFilled.2.1 84 = .ok (.aload_n 0, 1) := by decide +kernel
theorem d_Mod_isFilled_85 : decode i_Mod_isFilled.2.1 85 = .ok (.getfield 68, 3) := by decide +kernel
theorem d_Mod_isFilled_88 : decode i_Mod_isFilled.2.1 88 = .ok (.iload 7, 2) := by decide +kernel
theorem d_Mod_isFilled_90 : decode i_Mod_isFilled.2.1 90 = .ok (.iaload, 1) := by decide +kernel
theorem d_Mod_isFilled_91 : decode i_Mod_isFilled.2.1 91 = .ok (.aload_n 0, 1) := by decide +kernel
theorem d_Mod_isFilled_92 : decode i_Mod_isFilled.2.1 92 = .ok (.getfield 68, 3) := by decide +kernel
theorem d_Mod_isFilled_95 : decode i_Mod_isFilled.2.1 95 = .ok (.iload 6, 2) := by decide +kernel
theorem d_Mod_isFilled_97 : decode i_Mod_isFilled.2.1 97 = .ok (.iaload, 1) := by decide +kernel
theorem d_Mod_isFilled_98 : decode i_Mod_isFilled.2.1 98 = .ok (.isub, 1) := by decide +kernel
theorem d_Mod_isFilled_99 : decode i_Mod_isFilled.2.1 99 = .ok (.istore 9, 2) := by decide +kernel
theorem d_Mod_isFilled_101 : decode i_Mod_isFilled.2.1 101 = .ok (.aload_n 0, 1) := by decide +kernel
theorem d_Mod_isFilled_102 : decode i_Mod_isFilled.2.1 102 = .ok (.getfield 65, 3) := by decide +kernel
theorem d_Mod_isFilled_105 : decode i_Mod_isFilled.2.1 105 = .ok (.iload 6, 2) := by decide +kernel
theorem d_Mod_isFilled_107 : decode i_Mod_isFilled.2.1 107 = .ok (.iaload, 1) := by decide +kernel
theorem d_Mod_isFilled_108 : decode i_Mod_isFilled.2.1 108 = .ok (.iload_n 3, 1) := by decide +kernel
theorem d_Mod_isFilled_109 : decode i_Mod_isFilled.2.1 109 = .ok (.isub, 1) := by decide +kernel
theorem d_Mod_isFilled_110 : decode i_Mod_isFilled.2.1 110 = .ok (.iload 9, 2) := by decide +kernel
theorem d_Mod_isFilled_112 : decode i_Mod_isFilled.2.1 112 = .ok (.imul, 1) := by decide +kernel
theorem d_Mod_isFilled_113 : decode i_Mod_isFilled.2.1 113 = .ok (.iload 4, 2) := by decide +kernel
theorem d_Mod_isFilled_115 : decode i_Mod_isFilled.2.1 115 = .ok (.aload_n 0, 1) := by decide +kernel
theorem d_Mod_isFilled_116 : decode i_Mod_isFilled.2.1 116 = .ok (.getfield 68, 3) := by decide +kernel
theorem d_Mod_isFilled_119 : decode i_Mod_isFilled.2.1 119 = .ok (.iload 6, 2) := by decide +kernel
theorem d_Mod_isFilled_121 : decode i_Mod_isFilled.2.1 121 = .ok (.iaload, 1) := by decide +kernel
theorem d_Mod_isFilled_122 : decode i_Mod_isFilled.2.1 122 = .ok (.isub, 1) := by decide +kernel
theorem d_Mod_isFilled_123 : decode i_Mod_isFilled.2.1 123 = .ok (.aload_n 0, 1) := by decide +kernel
theorem d_Mod_isFilled_124 : decode i_Mod_isFilled.2.1 124 = .ok (.getfield 65, 3) := by decide +kernel
theorem d_Mod_isFilled_127 : decode i_Mod_isFilled.2.1 127 = .ok (.iload 7, 2) := by decide +kernel
theorem d_Mod_isFilled_129 : decode i_Mod_isFilled.2.1 129 = .ok (.iaload, 1) := by decide +kernel
theorem d_Mod_isFilled_130 : decode i_Mod_isFilled.2.1 130 = .ok (.aload_n 0, 1) := by decide +kernel
theorem d_Mod_isFilled_131 : decode i_Mod_isFilled.2.1 131 = .ok (.getfield 65, 3) := by decide +kernel
theorem d_Mod_isFilled_134 : decode i_Mod_isFilled.2.1 134 = .ok (.iload 6, 2) := by decide +kernel
theorem d_Mod_isFilled_136 : decode i_Mod_isFilled.2.1 136 = .ok (.iaload, 1) := by decide +kernel
theorem d_Mod_isFilled_137 : decode i_Mod_isFilled.2.1 137 = .ok (.isub, 1) := by decide +kernel
theorem d_Mod_isFilled_138 : decode i_Mod_isFilled.2.1 138 = .ok (.imul, 1) := by decide +kernel
theorem d_Mod_isFilled_139 : decode i_Mod_isFilled.2.1 139 = .ok (.iadd, 1) := by decide +kernel
theorem d_Mod_isFilled_140 : decode i_Mod_isFilled.2.1 140 = .ok (.istore 10, 2) := by decide +kernel
theorem d_Mod_isFilled_142 : decode i_Mod_isFilled.2.1 142 = .ok (.iload 5, 2) := by decide +kernel
theorem d_Mod_isFilled_144 : decode i_Mod_isFilled.2.1 144 = .ok (.iload 9, 2) := by decide +kernel
theorem d_Mod_isFilled_146 : decode i_Mod_isFilled.2.1 146 = .ok (.ifCond .le 16, 3) := by decide +kernel
theorem d_Mod_isFilled_149 : decode i_Mod_isFilled.2.1 149 = .ok (.iload 10, 2) := by decide +kernel
theorem d_Mod_isFilled_151 : decode i_Mod_isFilled.2.1 151 = .ok (.ifCond .ge 7, 3) := by decide +kernel
theorem d_Mod_isFilled_154 : decode i_Mod_isFilled.2.1 154 = .ok (.iconst 1, 1) := by decide +kernel
theorem d_Mod_isFilled_155 : decode i_Mod_isFilled.2.1 155 = .ok (.goto 17, 3) := by decide +kernel
theorem d_Mod_isFilled_158 : decode i_Mod_isFilled.2.1 158 = .ok (.iconst 0, 1) := by decide +kernel
theorem d_Mod_isFilled_159 : decode i_Mod_isFilled.2.1 159 = .ok (.goto 13, 3) := by decide +kernel
theorem d_Mod_isFilled_162 : decode i_Mod_isFilled.2.1 162 = .ok (.iload 10, 2) := by decide +kernel
theorem d_Mod_isFilled_164 : decode i_Mod_isFilled.2.1 164 = .ok (.ifCond .le 7, 3) := by decide +kernel
theorem d_Mod_isFilled_167 : decode i_Mod_isFilled.2.1 167 = .ok (.iconst 1, 1) := by decide +kernel
theorem d_Mod_isFilled_168 : decode i_Mod_isFilled.2.1 168 = .ok (.goto 4, 3) := by decide +kernel
theorem d_Mod_isFilled_171 : decode i_Mod_isFilled.2.1 171 = .ok (.iconst 0, 1) := by decide +kernel
theorem d_Mod_isFilled_172 : decode i_Mod_isFilled.2.1 172 = .ok (.iadd, 1) := by decide +kernel
theorem d_Mod_isFilled_173 : decode i_Mod_isFilled.2.1 173 = .ok (.istore 5, 2) := by decide +kernel
theorem d_Mod_isFilled_175 : decode i_Mod_isFilled.2.1 175 = .ok (.iinc 6 1, 3) := by decide +kernel
theorem d_Mod_isFilled_178 : decode i_Mod_isFilled.2.1 178 = .ok (.goto (-155), 3) := by decide +kernel
theorem d_Mod_isFilled_181 : decode i_Mod_isFilled.2.1 181 = .ok (.iload 5, 2) := by decide +kernel
theorem d_Mod_isFilled_183 : decode i_Mod_isFilled.2.1 183 = .ok (.iconst 2, 1) := by decide +kernel
theorem d_Mod_isFilled_184 : decode i_Mod_isFilled.2.1 184 = .ok (.irem, 1) := by decide +kernel
theorem d_Mod_isFilled_185 : decode i_Mod_isFilled.2.1 185 = .ok (.iconst 1, 1) := by decide +kernel
theorem d_Mod_isFilled_186 : decode i_Mod_isFilled.2.1 186 = .ok (.if_icmp .ne 7, 3) := by decide +kernel
theorem d_Mod_isFilled_189 : decode i_Mod_isFilled.2.1 189 = .ok (.iconst 1, 1) := by decide +kernel
theorem d_Mod_isFilled_190 : decode i_Mod_isFilled.2.1 190 = .ok (.goto 4, 3) := by decide +kernel
theorem d_Mod_isFilled_193 : decode i_Mod_isFilled.2.1 193 = .ok (.iconst 0, 1) := by decide +kernel
theorem d_Mod_isFilled_194 : decode i_Mod_isFilled.2.1 194 = .ok (.ireturn, 1) := by decide +kernel
theorem d_Mod_filled_0 : decode i_Mod_filled.2.1 0 = .ok (.aload_n 0, 1) := by decide +kernel
theorem d_Mod_filled_1 : decode i_Mod_filled.2.1 1 = .ok (.iload_n 1, 1) := by decide +kernel
theorem d_Mod_filled_2 : decode i_Mod_filled.2.1 2 = .ok (.invokevirtual 169, 3) := by decide +kernel
theorem d_Mod_filled_5 : decode i_Mod_filled.2.1 5 = .ok (.ifCond .eq 22, 3) := by decide +kernel
theorem d_Mod_filled_8 : decode i_Mod_filled.2.1 8 = .ok (.iload_n 2, 1) := by decide +kernel
theorem d_Mod_filled_9 : decode i_Mod_filled.2.1 9 = .ok (.iconst 0, 1) := by decide +kernel
theorem d_Mod_filled_10 : decode i_Mod_filled.2.1 10 = .ok (.iconst 1, 1) := by decide +kernel
theorem d_Mod_filled_11 : decode i_Mod_filled.2.1 11 = .ok (.invokestatic 71, 3) := by decide +kernel
theorem d_Mod_filled_14 : decode i_Mod_filled.2.1 14 = .ok (.ifCond .eq 13, 3) := by decide +kernel
theorem d_Mod_filled_17 : decode i_Mod_filled.2.1 17 = .ok (.aload_n 0, 1) := by decide +kernel
theorem d_Mod_filled_18 : decode i_Mod_filled.2.1 18 = .ok (.iload_n 3, 1) := by decide +kernel
theorem d_Mod_filled_19 : decode i_Mod_filled.2.1 19 = .ok (.iload 4, 2) := by decide +kernel
theorem d_Mod_filled_21 : decode i_Mod_filled.2.1 21 = .ok (.invokevirtual 118, 3) := by decide +kernel
theorem d_Mod_filled_24 : decode i_Mod_filled.2.1 24 = .ok (.ifCond .ne 6, 3) := by decide +kernel
theorem d_Mod_filled_27 : decode i_Mod_filled.2.1 27 = .ok (.ldc 75, 2) := by decide +kernel
theorem d_Mod_filled_29 : decode i_Mod_filled.2.1 29 = .ok (.ireturn, 1) := by decide +kernel
theorem d_Mod_filled_30 : decode i_Mod_filled.2.1 30 = .ok (.aload_n 0, 1) := by decide +kernel
theorem d_Mod_filled_31 : decode i_Mod_filled.2.1 31 = .ok (.iload_n 1, 1) := by decide +kernel
theorem d_Mod_filled_32 : decode i_Mod_filled.2.1 32 = .ok (.iload_n 2, 1) := by decide +kernel
theorem d_Mod_filled_33 : decode i_Mod_filled.2.1 33 = .ok (.invokevirtual 247, 3) := by decide +kernel
theorem d_Mod_filled_36 : decode i_Mod_filled.2.1 36 = .ok (.aload_n 0, 1) := by decide +kernel
theorem d_Mod_filled_37 : decode i_Mod_filled.2.1 37 = .ok (.iload_n 3, 1) := by decide +kernel
theorem d_Mod_filled_38 : decode i_Mod_filled.2.1 38 = .ok (.iload 4, 2) := by decide +kernel
theorem d_Mod_filled_40 : decode i_Mod_filled.2.1 40 = .ok (.invokevirtual 250, 3) := by decide +kernel
theorem d_Mod_filled_43 : decode i_Mod_filled.2.1 43 = .ok (.ifCond .eq 7, 3) := by decide +kernel
theorem d_Mod_filled_46 : decode i_Mod_filled.2.1 46 = .ok (.iconst 1, 1) := by decide +kernel
end
section
theorem d_Mod_filled_47 : decode i_Mod_filled.2.1 47 = .ok (.goto 4, 3) := by decide +kernel
theorem d_Mod_filled_50 : decode i_Mod_filled.2.1 50 = .ok (.iconst 0, 1) := by decide +kernel
theorem d_Mod_filled_51 : decode i_Mod_filled.2.1 51 = .ok (.ireturn, 1) := by decide +kernel
theorem d_Mod_differ_0 : decode i_Mod_differ.2.1 0 = .ok (.aload_n 0, 1) := by decide +kernel
theorem d_Mod_differ_1 : decode i_Mod_differ.2.1 1 = .ok (.iload_n 1, 1) := by decide +kernel
theorem d_Mod_differ_2 : decode i_Mod_differ.2.1 2 = .ok (.invokevirtual 169, 3) := by decide +kernel
theorem d_Mod_differ_5 : decode i_Mod_differ.2.1 5 = .ok (.ifCond .eq 12, 3) := by decide +kernel
theorem d_Mod_differ_8 : decode i_Mod_differ.2.1 8 = .ok (.iload_n 2, 1) := by decide +kernel
theorem d_Mod_differ_9 : decode i_Mod_differ.2.1 9 = .ok (.iconst 0, 1) := by decide +kernel
theorem d_Mod_differ_10 : decode i_Mod_differ.2.1 10 = .ok (.iconst 1, 1) := by decide +kernel
theorem d_Mod_differ_11 : decode i_Mod_differ.2.1 11 = .ok (.invokestatic 71, 3) := by decide +kernel
theorem d_Mod_differ_14 : decode i_Mod_differ.2.1 14 = .ok (.ifCond .ne 6, 3) := by decide +kernel
theorem d_Mod_differ_17 : decode i_Mod_differ.2.1 17 = .ok (.ldc 75, 2) := by decide +kernel
theorem d_Mod_differ_19 : decode i_Mod_differ.2.1 19 = .ok (.ireturn, 1) := by decide +kernel
theorem d_Mod_differ_20 : decode i_Mod_differ.2.1 20 = .ok (.aload_n 0, 1) := by decide +kernel
theorem d_Mod_differ_21 : decode i_Mod_differ.2.1 21 = .ok (.iload_n 1, 1) := by decide +kernel
theorem d_Mod_differ_22 : decode i_Mod_differ.2.1 22 = .ok (.iload_n 2, 1) := by decide +kernel
theorem d_Mod_differ_23 : decode i_Mod_differ.2.1 23 = .ok (.invokevirtual 247, 3) := by decide +kernel
theorem d_Mod_differ_26 : decode i_Mod_differ.2.1 26 = .ok (.iconst 0, 1) := by decide +kernel
theorem d_Mod_differ_27 : decode i_Mod_differ.2.1 27 = .ok (.istore_n 3, 1) := by decide +kernel
theorem d_Mod_differ_28 : decode i_Mod_differ.2.1 28 = .ok (.iconst 0, 1) := by decide +kernel
theorem d_Mod_differ_29 : decode i_Mod_differ.2.1 29 = .ok (.istore 4, 2) := by decide +kernel
theorem d_Mod_differ_31 : decode i_Mod_differ.2.1 31 = .ok (.iload 4, 2) := by decide +kernel
theorem d_Mod_differ_33 : decode i_Mod_differ.2.1 33 = .ok (.bipush 64, 2) := by decide +kernel
theorem d_Mod_differ_35 : decode i_Mod_differ.2.1 35 = .ok (.if_icmp .ge 66, 3) := by decide +kernel
theorem d_Mod_differ_38 : decode i_Mod_differ.2.1 38 = .ok (.iload_n 3, 1) := by decide +kernel
theorem d_Mod_differ_39 : decode i_Mod_differ.2.1 39 = .ok (.aload_n 0, 1) := by decide +kernel
theorem d_Mod_differ_40 : decode i_Mod_differ.2.1 40 = .ok (.iload 4, 2) := by decide +kernel
theorem d_Mod_differ_42 : decode i_Mod_differ.2.1 42 = .ok (.bipush 8, 2) := by decide +kernel
theorem d_Mod_differ_44 : decode i_Mod_differ.2.1 44 = .ok (.irem, 1) := by decide +kernel
theorem d_Mod_differ_45 : decode i_Mod_differ.2.1 45 = .ok (.iload 4, 2) := by decide +kernel
theorem d_Mod_differ_47 : decode i_Mod_differ.2.1 47 = .ok (.bipush 8, 2) := by decide +kernel
theorem d_Mod_differ_49 : decode i_Mod_differ.2.1 49 = .ok (.idiv, 1) := by decide +kernel
theorem d_Mod_differ_50 : decode i_Mod_differ.2.1 50 = .ok (.invokevirtual 118, 3) := by decide +kernel
theorem d_Mod_differ_53 : decode i_Mod_differ.2.1 53 = .ok (.ifCond .eq 39, 3) := by decide +kernel
theorem d_Mod_differ_56 : decode i_Mod_differ.2.1 56 = .ok (.aload_n 0, 1) := by decide +kernel
theorem d_Mod_differ_57 : decode i_Mod_differ.2.1 57 = .ok (.iload 4, 2) := by decide +kernel
theorem d_Mod_differ_59 : decode i_Mod_differ.2.1 59 = .ok (.bipush 8, 2) := by decide +kernel
theorem d_Mod_differ_61 : decode i_Mod_differ.2.1 61 = .ok (.irem, 1) := by decide +kernel
theorem d_Mod_differ_62 : decode i_Mod_differ.2.1 62 = .ok (.iload 4, 2) := by decide +kernel
theorem d_Mod_differ_64 : decode i_Mod_differ.2.1 64 = .ok (.bipush 8, 2) := by decide +kernel
theorem d_Mod_differ_66 : decode i_Mod_differ.2.1 66 = .ok (.idiv, 1) := by decide +kernel
theorem d_Mod_differ_67 : decode i_Mod_differ.2.1 67 = .ok (.invokevirtual 250, 3) := by decide +kernel
theorem d_Mod_differ_70 : decode i_Mod_differ.2.1 70 = .ok (.aload_n 0, 1) := by decide +kernel
theorem d_Mod_differ_71 : decode i_Mod_differ.2.1 71 = .ok (.iload_n 1, 1) := by decide +kernel
theorem d_Mod_differ_72 : decode i_Mod_differ.2.1 72 = .ok (.iload 4, 2) := by decide +kernel
theorem d_Mod_differ_74 : decode i_Mod_differ.2.1 74 = .ok (.bipush 8, 2) := by decide +kernel
theorem d_Mod_differ_76 : decode i_Mod_differ.2.1 76 = .ok (.irem, 1) := by decide +kernel
theorem d_Mod_differ_77 : decode i_Mod_differ.2.1 77 = .ok (.iload 4, 2) := by decide +kernel
theorem d_Mod_differ_79 : decode i_Mod_differ.2.1 79 = .ok (.bipush 8, 2) := by decide +kernel
theorem d_Mod_differ_81 : decode i_Mod_differ.2.1 81 = .ok (.idiv, 1) := by decide +kernel
theorem d_Mod_differ_82 : decode i_Mod_differ.2.1 82 = .ok (.invokevirtual 180, 3) := by decide +kernel
theorem d_Mod_differ_85 : decode i_Mod_differ.2.1 85 = .ok (.if_icmp .eq 7, 3) := by decide +kernel
theorem d_Mod_differ_88 : decode i_Mod_differ.2.1 88 = .ok (.iconst 1, 1) := by decide +kernel
theorem d_Mod_differ_89 : decode i_Mod_differ.2.1 89 = .ok (.goto 4, 3) := by decide +kernel
theorem d_Mod_differ_92 : decode i_Mod_differ.2.1 92 = .ok (.iconst 0, 1) := by decide +kernel
theorem d_Mod_differ_93 : decode i_Mod_differ.2.1 93 = .ok (.iadd, 1) := by decide +kernel
theorem d_Mod_differ_94 : decode i_Mod_differ.2.1 94 = .ok (.istore_n 3, 1) := by decide +kernel
theorem d_Mod_differ_95 : decode i_Mod_differ.2.1 95 = .ok (.iinc 4 1, 3) := by decide +kernel
theorem d_Mod_differ_98 : decode i_Mod_differ.2.1 98 = .ok (.goto (-67), 3) := by decide +kernel
theorem d_Mod_differ_101 : decode i_Mod_differ.2.1 101 = .ok (.iload_n 3, 1) := by decide +kernel
theorem d_Mod_differ_102 : decode i_Mod_differ.2.1 102 = .ok (.ireturn, 1) := by decide +kernel
theorem d_Mod_wrong_0 : decode i_Mod_wrong.2.1 0 = .ok (.aload_n 0, 1) := by decide +kernel
theorem d_Mod_wrong_1 : decode i_Mod_wrong.2.1 1 = .ok (.invokevirtual 125, 3) := by decide +kernel
theorem d_Mod_wrong_4 : decode i_Mod_wrong.2.1 4 = .ok (.ifCond .ne 6, 3) := by decide +kernel
theorem d_Mod_wrong_7 : decode i_Mod_wrong.2.1 7 = .ok (.ldc 117, 2) := by decide +kernel
theorem d_Mod_wrong_9 : decode i_Mod_wrong.2.1 9 = .ok (.ireturn, 1) := by decide +kernel
theorem d_Mod_wrong_10 : decode i_Mod_wrong.2.1 10 = .ok (.iload_n 1, 1) := by decide +kernel
theorem d_Mod_wrong_11 : decode i_Mod_wrong.2.1 11 = .ok (.iconst 0, 1) := by decide +kernel
theorem d_Mod_wrong_12 : decode i_Mod_wrong.2.1 12 = .ok (.iconst 1, 1) := by decide +kernel
theorem d_Mod_wrong_13 : decode i_Mod_wrong.2.1 13 = .ok (.invokestatic 71, 3) := by decide +kernel
theorem d_Mod_wrong_16 : decode i_Mod_wrong.2.1 16 = .ok (.ifCond .ne 6, 3) := by decide +kernel
theorem d_Mod_wrong_19 : decode i_Mod_wrong.2.1 19 = .ok (.ldc 75, 2) := by decide +kernel
theorem d_Mod_wrong_21 : decode i_Mod_wrong.2.1 21 = .ok (.ireturn, 1) := by decide +kernel
theorem d_Mod_wrong_22 : decode i_Mod_wrong.2.1 22 = .ok (.aload_n 0, 1) := by decide +kernel
theorem d_Mod_wrong_23 : decode i_Mod_wrong.2.1 23 = .ok (.invokevirtual 166, 3) := by decide +kernel
theorem d_Mod_wrong_26 : decode i_Mod_wrong.2.1 26 = .ok (.lconst 0, 1) := by decide +kernel
theorem d_Mod_wrong_27 : decode i_Mod_wrong.2.1 27 = .ok (.lstore_n 2, 1) := by decide +kernel
theorem d_Mod_wrong_28 : decode i_Mod_wrong.2.1 28 = .ok (.iconst 0, 1) := by decide +kernel
theorem d_Mod_wrong_29 : decode i_Mod_wrong.2.1 29 = .ok (.istore 4, 2) := by decide +kernel
theorem d_Mod_wrong_31 : decode i_Mod_wrong.2.1 31 = .ok (.iload 4, 2) := by decide +kernel
theorem d_Mod_wrong_33 : decode i_Mod_wrong.2.1 33 = .ok (.aload_n 0, 1) := by decide +kernel
theorem d_Mod_wrong_34 : decode i_Mod_wrong.2.1 34 = .ok (.getfield 156, 3) := by decide +kernel
theorem d_Mod_wrong_37 : decode i_Mod_wrong.2.1 37 = .ok (.if_icmp .ge 77, 3) := by decide +kernel
theorem d_Mod_wrong_40 : decode i_Mod_wrong.2.1 40 = .ok (.aload_n 0, 1) := by decide +kernel
theorem d_Mod_wrong_41 : decode i_Mod_wrong.2.1 41 = .ok (.iload 4, 2) := by decide +kernel
theorem d_Mod_wrong_43 : decode i_Mod_wrong.2.1 43 = .ok (.iload_n 1, 1) := by decide +kernel
theorem d_Mod_wrong_44 : decode i_Mod_wrong.2.1 44 = .ok (.invokevirtual 247, 3) := by decide +kernel
theorem d_Mod_wrong_47 : decode i_Mod_wrong.2.1 47 = .ok (.iconst 0, 1) := by decide +kernel
theorem d_Mod_wrong_48 : decode i_Mod_wrong.2.1 48 = .ok (.istore 5, 2) := by decide +kernel
theorem d_Mod_wrong_50 : decode i_Mod_wrong.2.1 50 = .ok (.iload 5, 2) := by decide +kernel
theorem d_Mod_wrong_52 : decode i_Mod_wrong.2.1 52 = .ok (.bipush 64, 2) := by decide +kernel
theorem d_Mod_wrong_54 : decode i_Mod_wrong.2.1 54 = .ok (.if_icmp .ge 54, 3) := by decide +kernel
theorem d_Mod_wrong_57 : decode i_Mod_wrong.2.1 57 = .ok (.lload_n 2, 1) := by decide +kernel
theorem d_Mod_wrong_58 : decode i_Mod_wrong.2.1 58 = .ok (.aload_n 0, 1) := by decide +kernel
theorem d_Mod_wrong_59 : decode i_Mod_wrong.2.1 59 = .ok (.iload 5, 2) := by decide +kernel
theorem d_Mod_wrong_61 : decode i_Mod_wrong.2.1 61 = .ok (.bipush 8, 2) := by decide +kernel
theorem d_Mod_wrong_63 : decode i_Mod_wrong.2.1 63 = .ok (.irem, 1) := by decide +kernel
theorem d_Mod_wrong_64 : decode i_Mod_wrong.2.1 64 = .ok (.iload 5, 2) := by decide +kernel
theorem d_Mod_wrong_66 : decode i_Mod_wrong.2.1 66 = .ok (.bipush 8, 2) := by decide +kernel
theorem d_Mod_wrong_68 : decode i_Mod_wrong.2.1 68 = .ok (.idiv, 1) := by decide +kernel
theorem d_Mod_wrong_69 : decode i_Mod_wrong.2.1 69 = .ok (.invokevirtual 118, 3) := by decide +kernel
theorem d_Mod_wrong_72 : decode i_Mod_wrong.2.1 72 = .ok (.ifCond .eq 27, 3) := by decide +kernel
theorem d_Mod_wrong_75 : decode i_Mod_wrong.2.1 75 = .ok (.aload_n 0, 1) := by decide +kernel
theorem d_Mod_wrong_76 : decode i_Mod_wrong.2.1 76 = .ok (.iload 5, 2) := by decide +kernel
theorem d_Mod_wrong_78 : decode i_Mod_wrong.2.1 78 = .ok (.bipush 8, 2) := by decide +kernel
theorem d_Mod_wrong_80 : decode i_Mod_wrong.2.1 80 = .ok (.irem, 1) := by decide +kernel
theorem d_Mod_wrong_81 : decode i_Mod_wrong.2.1 81 = .ok (.iload 5, 2) := by decide +kernel
theorem d_Mod_wrong_83 : decode i_Mod_wrong.2.1 83 = .ok (.bipush 8, 2) := by decide +kernel
theorem d_Mod_wrong_85 : decode i_Mod_wrong.2.1 85 = .ok (.idiv, 1) := by decide +kernel
theorem d_Mod_wrong_86 : decode i_Mod_wrong.2.1 86 = .ok (.invokevirtual 250, 3) := by decide +kernel
theorem d_Mod_wrong_89 : decode i_Mod_wrong.2.1 89 = .ok (.ifCond .eq 10, 3) := by decide +kernel
theorem d_Mod_wrong_92 : decode i_Mod_wrong.2.1 92 = .ok (.lconst 1, 1) := by decide +kernel
theorem d_Mod_wrong_93 : decode i_Mod_wrong.2.1 93 = .ok (.iload 5, 2) := by decide +kernel
theorem d_Mod_wrong_95 : decode i_Mod_wrong.2.1 95 = .ok (.lshl, 1) := by decide +kernel
theorem d_Mod_wrong_96 : decode i_Mod_wrong.2.1 96 = .ok (.goto 4, 3) := by decide +kernel
theorem d_Mod_wrong_99 : decode i_Mod_wrong.2.1 99 = .ok (.lconst 0, 1) := by decide +kernel
theorem d_Mod_wrong_100 : decode i_Mod_wrong.2.1 100 = .ok (.lxor, 1) := by decide +kernel
theorem d_Mod_wrong_101 : decode i_Mod_wrong.2.1 101 = .ok (.lstore_n 2, 1) := by decide +kernel
theorem d_Mod_wrong_102 : decode i_Mod_wrong.2.1 102 = .ok (.iinc 5 1, 3) := by decide +kernel
theorem d_Mod_wrong_105 : decode i_Mod_wrong.2.1 105 = .ok (.goto (-55), 3) := by decide +kernel
theorem d_Mod_wrong_108 : decode i_Mod_wrong.2.1 108 = .ok (.iinc 4 1, 3) := by decide +kernel
theorem d_Mod_wrong_111 : decode i_Mod_wrong.2.1 111 = .ok (.goto (-80), 3) := by decide +kernel
theorem d_Mod_wrong_114 : decode i_Mod_wrong.2.1 114 = .ok (.iconst 0, 1) := by decide +kernel
theorem d_Mod_wrong_115 : decode i_Mod_wrong.2.1 115 = .ok (.istore 4, 2) := by decide +kernel
theorem d_Mod_wrong_117 : decode i_Mod_wrong.2.1 117 = .ok (.iload 4, 2) := by decide +kernel
theorem d_Mod_wrong_119 : decode i_Mod_wrong.2.1 119 = .ok (.bipush 64, 2) := by decide +kernel
theorem d_Mod_wrong_121 : decode i_Mod_wrong.2.1 121 = .ok (.if_icmp .ge 25, 3) := by decide +kernel
theorem d_Mod_wrong_124 : decode i_Mod_wrong.2.1 124 = .ok (.lload_n 2, 1) := by decide +kernel
theorem d_Mod_wrong_125 : decode i_Mod_wrong.2.1 125 = .ok (.aload_n 0, 1) := by decide +kernel
theorem d_Mod_wrong_126 : decode i_Mod_wrong.2.1 126 = .ok (.getfield 7, 3) := by decide +kernel
theorem d_Mod_wrong_129 : decode i_Mod_wrong.2.1 129 = .ok (.iconst 4, 1) := by decide +kernel
theorem d_Mod_wrong_130 : decode i_Mod_wrong.2.1 130 = .ok (.iload 4, 2) := by decide +kernel
theorem d_Mod_wrong_132 : decode i_Mod_wrong.2.1 132 = .ok (.iadd, 1) := by decide +kernel
theorem d_Mod_wrong_133 : decode i_Mod_wrong.2.1 133 = .ok (.iaload, 1) := by decide +kernel
theorem d_Mod_wrong_134 : decode i_Mod_wrong.2.1 134 = .ok (.i2l, 1) := by decide +kernel
theorem d_Mod_wrong_135 : decode i_Mod_wrong.2.1 135 = .ok (.iload 4, 2) := by decide +kernel
theorem d_Mod_wrong_137 : decode i_Mod_wrong.2.1 137 = .ok (.lshl, 1) := by decide +kernel
theorem d_Mod_wrong_138 : decode i_Mod_wrong.2.1 138 = .ok (.lxor, 1) := by decide +kernel
theorem d_Mod_wrong_139 : decode i_Mod_wrong.2.1 139 = .ok (.lstore_n 2, 1) := by decide +kernel
theorem d_Mod_wrong_140 : decode i_Mod_wrong.2.1 140 = .ok (.iinc 4 1, 3) := by decide +kernel
theorem d_Mod_wrong_143 : decode i_Mod_wrong.2.1 143 = .ok (.goto (-26), 3) := by decide +kernel
theorem d_Mod_wrong_146 : decode i_Mod_wrong.2.1 146 = .ok (.lload_n 2, 1) := by decide +kernel
theorem d_Mod_wrong_147 : decode i_Mod_wrong.2.1 147 = .ok (.invokestatic 173, 3) := by decide +kernel
theorem d_Mod_wrong_150 : decode i_Mod_wrong.2.1 150 = .ok (.ireturn, 1) := by decide +kernel
theorem d_Mod_all_0 : decode i_Mod_all.2.1 0 = .ok (.aload_n 0, 1) := by decide +kernel
theorem d_Mod_all_1 : decode i_Mod_all.2.1 1 = .ok (.invokevirtual 125, 3) := by decide +kernel
theorem d_Mod_all_4 : decode i_Mod_all.2.1 4 = .ok (.ifCond .ne 6, 3) := by decide +kernel
theorem d_Mod_all_7 : decode i_Mod_all.2.1 7 = .ok (.ldc 117, 2) := by decide +kernel
theorem d_Mod_all_9 : decode i_Mod_all.2.1 9 = .ok (.ireturn, 1) := by decide +kernel
theorem d_Mod_all_10 : decode i_Mod_all.2.1 10 = .ok (.iload_n 1, 1) := by decide +kernel
theorem d_Mod_all_11 : decode i_Mod_all.2.1 11 = .ok (.iconst 0, 1) := by decide +kernel
theorem d_Mod_all_12 : decode i_Mod_all.2.1 12 = .ok (.iconst 2, 1) := by decide +kernel
theorem d_Mod_all_13 : decode i_Mod_all.2.1 13 = .ok (.invokestatic 71, 3) := by decide +kernel
theorem d_Mod_all_16 : decode i_Mod_all.2.1 16 = .ok (.ifCond .ne 6, 3) := by decide +kernel
theorem d_Mod_all_19 : decode i_Mod_all.2.1 19 = .ok (.ldc 75, 2) := by decide +kernel
theorem d_Mod_all_21 : decode i_Mod_all.2.1 21 = .ok (.ireturn, 1) := by decide +kernel
theorem d_Mod_all_22 : decode i_Mod_all.2.1 22 = .ok (.aload_n 0, 1) := by decide +kernel
theorem d_Mod_all_23 : decode i_Mod_all.2.1 23 = .ok (.invokevirtual 166, 3) := by decide +kernel
theorem d_Mod_all_26 : decode i_Mod_all.2.1 26 = .ok (.iconst 0, 1) := by decide +kernel
theorem d_Mod_all_27 : decode i_Mod_all.2.1 27 = .ok (.istore_n 2, 1) := by decide +kernel
theorem d_Mod_all_28 : decode i_Mod_all.2.1 28 = .ok (.iconst 0, 1) := by decide +kernel
theorem d_Mod_all_29 : decode i_Mod_all.2.1 29 = .ok (.istore_n 3, 1) := by decide +kernel
theorem d_Mod_all_30 : decode i_Mod_all.2.1 30 = .ok (.iload_n 3, 1) := by decide +kernel
theorem d_Mod_all_31 : decode i_Mod_all.2.1 31 = .ok (.aload_n 0, 1) := by decide +kernel
theorem d_Mod_all_32 : decode i_Mod_all.2.1 32 = .ok (.getfield 156, 3) := by decide +kernel
theorem d_Mod_all_35 : decode i_Mod_all.2.1 35 = .ok (.if_icmp .ge 50, 3) := by decide +kernel
theorem d_Mod_all_38 : decode i_Mod_all.2.1 38 = .ok (.iload_n 1, 1) := by decide +kernel
theorem d_Mod_all_39 : decode i_Mod_all.2.1 39 = .ok (.ifCond .ne 15, 3) := by decide +kernel
theorem d_Mod_all_42 : decode i_Mod_all.2.1 42 = .ok (.iload_n 2, 1) := by decide +kernel
theorem d_Mod_all_43 : decode i_Mod_all.2.1 43 = .ok (.aload_n 0, 1) := by decide +kernel
theorem d_Mod_all_44 : decode i_Mod_all.2.1 44 = .ok (.getfield 31, 3) := by decide +kernel
theorem d_Mod_all_47 : decode i_Mod_all.2.1 47 = .ok (.iload_n 3, 1) := by decide +kernel
theorem d_Mod_all_48 : decode i_Mod_all.2.1 48 = .ok (.iaload, 1) := by decide +kernel
theorem d_Mod_all_49 : decode i_Mod_all.2.1 49 = .ok (.iadd, 1) := by decide +kernel
theorem d_Mod_all_50 : decode i_Mod_all.2.1 50 = .ok (.istore_n 2, 1) := by decide +kernel
theorem d_Mod_all_51 : decode i_Mod_all.2.1 51 = .ok (.goto 28, 3) := by decide +kernel
theorem d_Mod_all_54 : decode i_Mod_all.2.1 54 = .ok (.aload_n 0, 1) := by decide +kernel
theorem d_Mod_all_55 : decode i_Mod_all.2.1 55 = .ok (.iload_n 3, 1) := by decide +kernel
theorem d_Mod_all_56 : decode i_Mod_all.2.1 56 = .ok (.invokevirtual 226, 3) := by decide +kernel
theorem d_Mod_all_59 : decode i_Mod_all.2.1 59 = .ok (.iload_n 2, 1) := by decide +kernel
theorem d_Mod_all_60 : decode i_Mod_all.2.1 60 = .ok (.iload_n 1, 1) := by decide +kernel
theorem d_Mod_all_61 : decode i_Mod_all.2.1 61 = .ok (.iconst 1, 1) := by decide +kernel
theorem d_Mod_all_62 : decode i_Mod_all.2.1 62 = .ok (.if_icmp .ne 10, 3) := by decide +kernel
theorem d_Mod_all_65 : decode i_Mod_all.2.1 65 = .ok (.aload_n 0, 1) := by decide +kernel
theorem d_Mod_all_66 : decode i_Mod_all.2.1 66 = .ok (.getfield 205, 3) := by decide +kernel
theorem d_Mod_all_69 : decode i_Mod_all.2.1 69 = .ok (.goto 8, 3) := by decide +kernel
theorem d_Mod_all_72 : decode i_Mod_all.2.1 72 = .ok (.aload_n 0, 1) := by decide +kernel
theorem d_Mod_all_73 : decode i_Mod_all.2.1 73 = .ok (.iload_n 3, 1) := by decide +kernel
theorem d_Mod_all_74 : decode i_Mod_all.2.1 74 = .ok (.invokevirtual 229, 3) := by decide +kernel
theorem d_Mod_all_77 : decode i_Mod_all.2.1 77 = .ok (.iadd, 1) := by decide +kernel
theorem d_Mod_all_78 : decode i_Mod_all.2.1 78 = .ok (.istore_n 2, 1) := by decide +kernel
theorem d_Mod_all_79 : decode i_Mod_all.2.1 79 = .ok (.iinc 3 1, 3) := by decide +kernel
theorem d_Mod_all_82 : decode i_Mod_all.2.1 82 = .ok (.goto (-52), 3) := by decide +kernel
theorem d_Mod_all_85 : decode i_Mod_all.2.1 85 = .ok (.iload_n 2, 1) := by decide +kernel
theorem d_Mod_all_86 : decode i_Mod_all.2.1 86 = .ok (.ireturn, 1) := by decide +kernel
theorem d_Mod_image_0 : decode i_Mod_image.2.1 0 = .ok (.iload_n 1, 1) := by decide +kernel
theorem d_Mod_image_1 : decode i_Mod_image.2.1 1 = .ok (.iconst 0, 1) := by decide +kernel
theorem d_Mod_image_2 : decode i_Mod_image.2.1 2 = .ok (.iconst 1, 1) := by decide +kernel
theorem d_Mod_image_3 : decode i_Mod_image.2.1 3 = .ok (.invokestatic 71, 3) := by decide +kernel
theorem d_Mod_image_6 : decode i_Mod_image.2.1 6 = .ok (.ifCond .ne 6, 3) := by decide +kernel
theorem d_Mod_image_9 : decode i_Mod_image.2.1 9 = .ok (.ldc 75, 2) := by decide +kernel
theorem d_Mod_image_11 : decode i_Mod_image.2.1 11 = .ok (.ireturn, 1) := by decide +kernel
theorem d_Mod_image_12 : decode i_Mod_image.2.1 12 = .ok (.aload_n 0, 1) := by decide +kernel
theorem d_Mod_image_13 : decode i_Mod_image.2.1 13 = .ok (.invokevirtual 125, 3) := by decide +kernel
theorem d_Mod_image_16 : decode i_Mod_image.2.1 16 = .ok (.ifCond .ne 6, 3) := by decide +kernel
theorem d_Mod_image_19 : decode i_Mod_image.2.1 19 = .ok (.ldc 117, 2) := by decide +kernel
theorem d_Mod_image_21 : decode i_Mod_image.2.1 21 = .ok (.ireturn, 1) := by decide +kernel
theorem d_Mod_image_22 : decode i_Mod_image.2.1 22 = .ok (.aload_n 0, 1) := by decide +kernel
theorem d_Mod_image_23 : decode i_Mod_image.2.1 23 = .ok (.getfield 7, 3) := by decide +kernel
theorem d_Mod_image_26 : decode i_Mod_image.2.1 26 = .ok (.iconst 0, 1) := by decide +kernel
theorem d_Mod_image_27 : decode i_Mod_image.2.1 27 = .ok (.aload_n 0, 1) := by decide +kernel
theorem d_Mod_image_28 : decode i_Mod_image.2.1 28 = .ok (.getfield 16, 3) := by decide +kernel
theorem d_Mod_image_31 : decode i_Mod_image.2.1 31 = .ok (.bipush 68, 2) := by decide +kernel
theorem d_Mod_image_33 : decode i_Mod_image.2.1 33 = .ok (.iload_n 1, 1) := by decide +kernel
theorem d_Mod_image_34 : decode i_Mod_image.2.1 34 = .ok (.imul, 1) := by decide +kernel
theorem d_Mod_image_35 : decode i_Mod_image.2.1 35 = .ok (.bipush 68, 2) := by decide +kernel
theorem d_Mod_image_37 : decode i_Mod_image.2.1 37 = .ok (.invokestatic 103, 3) := by decide +kernel
theorem d_Mod_image_40 : decode i_Mod_image.2.1 40 = .ok (.aload_n 0, 1) := by decide +kernel
theorem d_Mod_image_41 : decode i_Mod_image.2.1 41 = .ok (.getfield 19, 3) := by decide +kernel
theorem d_Mod_image_44 : decode i_Mod_image.2.1 44 = .ok (.iload_n 1, 1) := by decide +kernel
theorem d_Mod_image_45 : decode i_Mod_image.2.1 45 = .ok (.iconst 1, 1) := by decide +kernel
theorem d_Mod_image_46 : decode i_Mod_image.2.1 46 = .ok (.iastore, 1) := by decide +kernel
theorem d_Mod_image_47 : decode i_Mod_image.2.1 47 = .ok (.iconst 1, 1) := by decide +kernel
theorem d_Mod_image_48 : decode i_Mod_image.2.1 48 = .ok (.ireturn, 1) := by decide +kernel
theorem d_Mod_restore_0 : decode i_Mod_restore.2.1 0 = .ok (.iload_n 1, 1) := by decide +kernel
theorem d_Mod_restore_1 : decode i_Mod_restore.2.1 1 = .ok (.iconst 0, 1) := by decide +kernel
theorem d_Mod_restore_2 : decode i_Mod_restore.2.1 2 = .ok (.iconst 1, 1) := by decide +kernel
theorem d_Mod_restore_3 : decode i_Mod_restore.2.1 3 = .ok (.invokestatic 71, 3) := by decide +kernel
theorem d_Mod_restore_6 : decode i_Mod_restore.2.1 6 = .ok (.ifCond .ne 6, 3) := by decide +kernel
theorem d_Mod_restore_9 : decode i_Mod_restore.2.1 9 = .ok (.ldc 75, 2) := by decide +kernel
theorem d_Mod_restore_11 : decode i_Mod_restore.2.1 11 = .ok (.ireturn, 1) := by decide +kernel
theorem d_Mod_restore_12 : decode i_Mod_restore.2.1 12 = .ok (.aload_n 0, 1) := by decide +kernel
theorem d_Mod_restore_13 : decode i_Mod_restore.2.1 13 = .ok (.getfield 19, 3) := by decide +kernel
theorem d_Mod_restore_16 : decode i_Mod_restore.2.1 16 = .ok (.iload_n 1, 1) := by decide +kernel
theorem d_Mod_restore_17 : decode i_Mod_restore.2.1 17 = .ok (.iaload, 1) := by decide +kernel
theorem d_Mod_restore_18 : decode i_Mod_restore.2.1 18 = .ok (.ifCond .ne 6, 3) := by decide +kernel
theorem d_Mod_restore_21 : decode i_Mod_restore.2.1 21 = .ok (.ldc 117, 2) := by decide +kernel
theorem d_Mod_restore_23 : decode i_Mod_restore.2.1 23 = .ok (.ireturn, 1) := by decide +kernel
theorem d_Mod_restore_24 : decode i_Mod_restore.2.1 24 = .ok (.aload_n 0, 1) := by decide +kernel
theorem d_Mod_restore_25 : decode i_Mod_restore.2.1 25 = .ok (.getfield 16, 3) := by decide +kernel
theorem d_Mod_restore_28 : decode i_Mod_restore.2.1 28 = .ok (.bipush 68, 2) := by decide +kernel
theorem d_Mod_restore_30 : decode i_Mod_restore.2.1 30 = .ok (.iload_n 1, 1) := by decide +kernel
theorem d_Mod_restore_31 : decode i_Mod_restore.2.1 31 = .ok (.imul, 1) := by decide +kernel
theorem d_Mod_restore_32 : decode i_Mod_restore.2.1 32 = .ok (.aload_n 0, 1) := by decide +kernel
theorem d_Mod_restore_33 : decode i_Mod_restore.2.1 33 = .ok (.getfield 7, 3) := by decide +kernel
theorem d_Mod_restore_36 : decode i_Mod_restore.2.1 36 = .ok (.iconst 0, 1) := by decide +kernel
theorem d_Mod_restore_37 : decode i_Mod_restore.2.1 37 = .ok (.bipush 68, 2) := by decide +kernel
theorem d_Mod_restore_39 : decode i_Mod_restore.2.1 39 = .ok (.invokestatic 103, 3) := by decide +kernel
theorem d_Mod_restore_42 : decode i_Mod_restore.2.1 42 = .ok (.aload_n 0, 1) := by decide +kernel
theorem d_Mod_restore_43 : decode i_Mod_restore.2.1 43 = .ok (.iconst 0, 1) := by decide +kernel
theorem d_Mod_restore_44 : decode i_Mod_restore.2.1 44 = .ok (.putfield 107, 3) := by decide +kernel
theorem d_Mod_restore_47 : decode i_Mod_restore.2.1 47 = .ok (.aload_n 0, 1) := by decide +kernel
theorem d_Mod_restore_48 : decode i_Mod_restore.2.1 48 = .ok (.iconst 0, 1) := by decide +kernel
theorem d_Mod_restore_49 : decode i_Mod_restore.2.1 49 = .ok (.putfield 110, 3) := by decide +kernel
theorem d_Mod_restore_52 : decode i_Mod_restore.2.1 52 = .ok (.iconst 1, 1) := by decide +kernel
theorem d_Mod_restore_53 : decode i_Mod_restore.2.1 53 = .ok (.ireturn, 1) := by decide +kernel
theorem d_Mod_count_0 : decode i_Mod_count.2.1 0 = .ok (.iload_n 1, 1) := by decide +kernel
theorem d_Mod_count_1 : decode i_Mod_count.2.1 1 = .ok (.tableswitch 75 0 5 #[39, 53, 58, 58, 65, 70], 39) := by decide +kernel
theorem d_Mod_count_40 : decode i_Mod_count.2.1 40 = .ok (.aload_n 0, 1) := by decide +kernel
theorem d_Mod_count_41 : decode i_Mod_count.2.1 41 = .ok (.getfield 7, 3) := by decide +kernel
theorem d_Mod_count_44 : decode i_Mod_count.2.1 44 = .ok (.iconst 0, 1) := by decide +kernel
theorem d_Mod_count_45 : decode i_Mod_count.2.1 45 = .ok (.iaload, 1) := by decide +kernel
theorem d_Mod_count_46 : decode i_Mod_count.2.1 46 = .ok (.aload_n 0, 1) := by decide +kernel
theorem d_Mod_count_47 : decode i_Mod_count.2.1 47 = .ok (.getfield 7, 3) := by decide +kernel
theorem d_Mod_count_50 : decode i_Mod_count.2.1 50 = .ok (.iconst 1, 1) := by decide +kernel
theorem d_Mod_count_51 : decode i_Mod_count.2.1 51 = .ok (.iaload, 1) := by decide +kernel
theorem d_Mod_count_52 : decode i_Mod_count.2.1 52 = .ok (.imul, 1) := by decide +kernel
theorem d_Mod_count_53 : decode i_Mod_count.2.1 53 = .ok (.ireturn, 1) := by decide +kernel
theorem d_Mod_count_54 : decode i_Mod_count.2.1 54 = .ok (.aload_n 0, 1) := by decide +kernel
theorem d_Mod_count_55 : decode i_Mod_count.2.1 55 = .ok (.invokevirtual 114, 3) := by decide +kernel
theorem d_Mod_count_58 : decode i_Mod_count.2.1 58 = .ok (.ireturn, 1) := by decide +kernel
theorem d_Mod_count_59 : decode i_Mod_count.2.1 59 = .ok (.aload_n 0, 1) := by decide +kernel
theorem d_Mod_count_60 : decode i_Mod_count.2.1 60 = .ok (.getfield 7, 3) := by decide +kernel
theorem d_Mod_count_63 : decode i_Mod_count.2.1 63 = .ok (.iload_n 1, 1) := by decide +kernel
theorem d_Mod_count_64 : decode i_Mod_count.2.1 64 = .ok (.iaload, 1) := by decide +kernel
theorem d_Mod_count_65 : decode i_Mod_count.2.1 65 = .ok (.ireturn, 1) := by decide +kernel
theorem d_Mod_count_66 : decode i_Mod_count.2.1 66 = .ok (.aload_n 0, 1) := by decide +kernel
theorem d_Mod_count_67 : decode i_Mod_count.2.1 67 = .ok (.getfield 107, 3) := by decide +kernel
theorem d_Mod_count_70 : decode i_Mod_count.2.1 70 = .ok (.ireturn, 1) := by decide +kernel
theorem d_Mod_count_71 : decode i_Mod_count.2.1 71 = .ok (.aload_n 0, 1) := by decide +kernel
theorem d_Mod_count_72 : decode i_Mod_count.2.1 72 = .ok (.getfield 76, 3) := by decide +kernel
theorem d_Mod_count_75 : decode i_Mod_count.2.1 75 = .ok (.ireturn, 1) := by decide +kernel
theorem d_Mod_count_76 : decode i_Mod_count.2.1 76 = .ok (.ldc 75, 2) := by decide +kernel
theorem d_Mod_count_78 : decode i_Mod_count.2.1 78 = .ok (.ireturn, 1) := by decide +kernel
theorem d_Lng_bitCount_0 : decode i_Lng_bitCount.2.1 0 = .ok (.lload_n 0, 1) := by decide +kernel
theorem d_Lng_bitCount_1 : decode i_Lng_bitCount.2.1 1 = .ok (.lload_n 0, 1) := by decide +kernel
theorem d_Lng_bitCount_2 : decode i_Lng_bitCount.2.1 2 = .ok (.iconst 1, 1) := by decide +kernel
theorem d_Lng_bitCount_3 : decode i_Lng_bitCount.2.1 3 = .ok (.lushr, 1) := by decide +kernel
theorem d_Lng_bitCount_4 : decode i_Lng_bitCount.2.1 4 = .ok (.ldc2_w 314, 3) := by decide +kernel
theorem d_Lng_bitCount_7 : decode i_Lng_bitCount.2.1 7 = .ok (.land, 1) := by decide +kernel
theorem d_Lng_bitCount_8 : decode i_Lng_bitCount.2.1 8 = .ok (.lsub, 1) := by decide +kernel
theorem d_Lng_bitCount_9 : decode i_Lng_bitCount.2.1 9 = .ok (.lstore_n 0, 1) := by decide +kernel
theorem d_Lng_bitCount_10 : decode i_Lng_bitCount.2.1 10 = .ok (.lload_n 0, 1) := by decide +kernel
theorem d_Lng_bitCount_11 : decode i_Lng_bitCount.2.1 11 = .ok (.ldc2_w 316, 3) := by decide +kernel
theorem d_Lng_bitCount_14 : decode i_Lng_bitCount.2.1 14 = .ok (.land, 1) := by decide +kernel
theorem d_Lng_bitCount_15 : decode i_Lng_bitCount.2.1 15 = .ok (.lload_n 0, 1) := by decide +kernel
theorem d_Lng_bitCount_16 : decode i_Lng_bitCount.2.1 16 = .ok (.iconst 2, 1) := by decide +kernel
theorem d_Lng_bitCount_17 : decode i_Lng_bitCount.2.1 17 = .ok (.lushr, 1) := by decide +kernel
theorem d_Lng_bitCount_18 : decode i_Lng_bitCount.2.1 18 = .ok (.ldc2_w 316, 3) := by decide +kernel
theorem d_Lng_bitCount_21 : decode i_Lng_bitCount.2.1 21 = .ok (.land, 1) := by decide +kernel
theorem d_Lng_bitCount_22 : decode i_Lng_bitCount.2.1 22 = .ok (.ladd, 1) := by decide +kernel
theorem d_Lng_bitCount_23 : decode i_Lng_bitCount.2.1 23 = .ok (.lstore_n 0, 1) := by decide +kernel
theorem d_Lng_bitCount_24 : decode i_Lng_bitCount.2.1 24 = .ok (.lload_n 0, 1) := by decide +kernel
theorem d_Lng_bitCount_25 : decode i_Lng_bitCount.2.1 25 = .ok (.lload_n 0, 1) := by decide +kernel
theorem d_Lng_bitCount_26 : decode i_Lng_bitCount.2.1 26 = .ok (.iconst 4, 1) := by decide +kernel
theorem d_Lng_bitCount_27 : decode i_Lng_bitCount.2.1 27 = .ok (.lushr, 1) := by decide +kernel
theorem d_Lng_bitCount_28 : decode i_Lng_bitCount.2.1 28 = .ok (.ladd, 1) := by decide +kernel
theorem d_Lng_bitCount_29 : decode i_Lng_bitCount.2.1 29 = .ok (.ldc2_w 318, 3) := by decide +kernel
theorem d_Lng_bitCount_32 : decode i_Lng_bitCount.2.1 32 = .ok (.land, 1) := by decide +kernel
theorem d_Lng_bitCount_33 : decode i_Lng_bitCount.2.1 33 = .ok (.lstore_n 0, 1) := by decide +kernel
theorem d_Lng_bitCount_34 : decode i_Lng_bitCount.2.1 34 = .ok (.lload_n 0, 1) := by decide +kernel
theorem d_Lng_bitCount_35 : decode i_Lng_bitCount.2.1 35 = .ok (.lload_n 0, 1) := by decide +kernel
theorem d_Lng_bitCount_36 : decode i_Lng_bitCount.2.1 36 = .ok (.bipush 8, 2) := by decide +kernel
theorem d_Lng_bitCount_38 : decode i_Lng_bitCount.2.1 38 = .ok (.lushr, 1) := by decide +kernel
theorem d_Lng_bitCount_39 : decode i_Lng_bitCount.2.1 39 = .ok (.ladd, 1) := by decide +kernel
theorem d_Lng_bitCount_40 : decode i_Lng_bitCount.2.1 40 = .ok (.lstore_n 0, 1) := by decide +kernel
theorem d_Lng_bitCount_41 : decode i_Lng_bitCount.2.1 41 = .ok (.lload_n 0, 1) := by decide +kernel
theorem d_Lng_bitCount_42 : decode i_Lng_bitCount.2.1 42 = .ok (.lload_n 0, 1) := by decide +kernel
theorem d_Lng_bitCount_43 : decode i_Lng_bitCount.2.1 43 = .ok (.bipush 16, 2) := by decide +kernel
theorem d_Lng_bitCount_45 : decode i_Lng_bitCount.2.1 45 = .ok (.lushr, 1) := by decide +kernel
theorem d_Lng_bitCount_46 : decode i_Lng_bitCount.2.1 46 = .ok (.ladd, 1) := by decide +kernel
theorem d_Lng_bitCount_47 : decode i_Lng_bitCount.2.1 47 = .ok (.lstore_n 0, 1) := by decide +kernel
theorem d_Lng_bitCount_48 : decode i_Lng_bitCount.2.1 48 = .ok (.lload_n 0, 1) := by decide +kernel
theorem d_Lng_bitCount_49 : decode i_Lng_bitCount.2.1 49 = .ok (.lload_n 0, 1) := by decide +kernel
theorem d_Lng_bitCount_50 : decode i_Lng_bitCount.2.1 50 = .ok (.bipush 32, 2) := by decide +kernel
theorem d_Lng_bitCount_52 : decode i_Lng_bitCount.2.1 52 = .ok (.lushr, 1) := by decide +kernel
theorem d_Lng_bitCount_53 : decode i_Lng_bitCount.2.1 53 = .ok (.ladd, 1) := by decide +kernel
theorem d_Lng_bitCount_54 : decode i_Lng_bitCount.2.1 54 = .ok (.lstore_n 0, 1) := by decide +kernel
theorem d_Lng_bitCount_55 : decode i_Lng_bitCount.2.1 55 = .ok (.lload_n 0, 1) := by decide +kernel
theorem d_Lng_bitCount_56 : decode i_Lng_bitCount.2.1 56 = .ok (.l2i, 1) := by decide +kernel
theorem d_Lng_bitCount_57 : decode i_Lng_bitCount.2.1 57 = .ok (.bipush 127, 2) := by decide +kernel
theorem d_Lng_bitCount_59 : decode i_Lng_bitCount.2.1 59 = .ok (.iand, 1) := by decide +kernel
theorem d_Lng_bitCount_60 : decode i_Lng_bitCount.2.1 60 = .ok (.ireturn, 1) := by decide +kernel
theorem d_Mth_abs_0 : decode i_Mth_abs.2.1 0 = .ok (.iload_n 0, 1) := by decide +kernel
theorem d_Mth_abs_1 : decode i_Mth_abs.2.1 1 = .ok (.ifCond .ge 8, 3) := by decide +kernel
theorem d_Mth_abs_4 : decode i_Mth_abs.2.1 4 = .ok (.iload_n 0, 1) := by decide +kernel
theorem d_Mth_abs_5 : decode i_Mth_abs.2.1 5 = .ok (.ineg, 1) := by decide +kernel
theorem d_Mth_abs_6 : decode i_Mth_abs.2.1 6 = .ok (.goto 4, 3) := by decide +kernel
theorem d_Mth_abs_9 : decode i_Mth_abs.2.1 9 = .ok (.iload_n 0, 1) := by decide +kernel
theorem d_Mth_abs_10 : decode i_Mth_abs.2.1 10 = .ok (.ireturn, 1) := by decide +kernel
theorem d_Mth_max_0 : decode i_Mth_max.2.1 0 = .ok (.iload_n 0, 1) := by decide +kernel
theorem d_Mth_max_1 : decode i_Mth_max.2.1 1 = .ok (.iload_n 1, 1) := by decide +kernel
theorem d_Mth_max_2 : decode i_Mth_max.2.1 2 = .ok (.if_icmp .lt 7, 3) := by decide +kernel
theorem d_Mth_max_5 : decode i_Mth_max.2.1 5 = .ok (.iload_n 0, 1) := by decide +kernel
theorem d_Mth_max_6 : decode i_Mth_max.2.1 6 = .ok (.goto 4, 3) := by decide +kernel
theorem d_Mth_max_9 : decode i_Mth_max.2.1 9 = .ok (.iload_n 1, 1) := by decide +kernel
theorem d_Mth_max_10 : decode i_Mth_max.2.1 10 = .ok (.ireturn, 1) := by decide +kernel
theorem d_Mth_min_0 : decode i_Mth_min.2.1 0 = .ok (.iload_n 0, 1) := by decide +kernel
theorem d_Mth_min_1 : decode i_Mth_min.2.1 1 = .ok (.iload_n 1, 1) := by decide +kernel
theorem d_Mth_min_2 : decode i_Mth_min.2.1 2 = .ok (.if_icmp .gt 7, 3) := by decide +kernel
theorem d_Mth_min_5 : decode i_Mth_min.2.1 5 = .ok (.iload_n 0, 1) := by decide +kernel
theorem d_Mth_min_6 : decode i_Mth_min.2.1 6 = .ok (.goto 4, 3) := by decide +kernel
theorem d_Mth_min_9 : decode i_Mth_min.2.1 9 = .ok (.iload_n 1, 1) := by decide +kernel
theorem d_Mth_min_10 : decode i_Mth_min.2.1 10 = .ok (.ireturn, 1) := by decide +kernel
theorem d_Law_law_0 : decode i_Law_law.2.1 0 = .ok (.new 7, 3) := by decide +kernel
theorem d_Law_law_3 : decode i_Law_law.2.1 3 = .ok (.dup, 1) := by decide +kernel
theorem d_Law_law_4 : decode i_Law_law.2.1 4 = .ok (.invokespecial 9, 3) := by decide +kernel
theorem d_Law_law_7 : decode i_Law_law.2.1 7 = .ok (.astore_n 1, 1) := by decide +kernel
theorem d_Law_law_8 : decode i_Law_law.2.1 8 = .ok (.new 10, 3) := by decide +kernel
theorem d_Law_law_11 : decode i_Law_law.2.1 11 = .ok (.dup, 1) := by decide +kernel
theorem d_Law_law_12 : decode i_Law_law.2.1 12 = .ok (.invokespecial 12, 3) := by decide +kernel
theorem d_Law_law_15 : decode i_Law_law.2.1 15 = .ok (.astore_n 2, 1) := by decide +kernel
theorem d_Law_law_16 : decode i_Law_law.2.1 16 = .ok (.iconst 0, 1) := by decide +kernel
theorem d_Law_law_17 : decode i_Law_law.2.1 17 = .ok (.istore_n 3, 1) := by decide +kernel
theorem d_Law_law_18 : decode i_Law_law.2.1 18 = .ok (.iload_n 3, 1) := by decide +kernel
theorem d_Law_law_19 : decode i_Law_law.2.1 19 = .ok (.aload_n 0, 1) := by decide +kernel
theorem d_Law_law_20 : decode i_Law_law.2.1 20 = .ok (.arraylength, 1) := by decide +kernel
theorem d_Law_law_21 : decode i_Law_law.2.1 21 = .ok (.bipush 6, 2) := by decide +kernel
theorem d_Law_law_23 : decode i_Law_law.2.1 23 = .ok (.isub, 1) := by decide +kernel
theorem d_Law_law_24 : decode i_Law_law.2.1 24 = .ok (.if_icmp .gt 989, 3) := by decide +kernel
theorem d_Law_law_27 : decode i_Law_law.2.1 27 = .ok (.aload_n 0, 1) := by decide +kernel
theorem d_Law_law_28 : decode i_Law_law.2.1 28 = .ok (.iload_n 3, 1) := by decide +kernel
theorem d_Law_law_29 : decode i_Law_law.2.1 29 = .ok (.iaload, 1) := by decide +kernel
theorem d_Law_law_30 : decode i_Law_law.2.1 30 = .ok (.bipush 31, 2) := by decide +kernel
theorem d_Law_law_32 : decode i_Law_law.2.1 32 = .ok (.iand, 1) := by decide +kernel
theorem d_Law_law_33 : decode i_Law_law.2.1 33 = .ok (.tableswitch 974 0 26 #[123, 146, 159, 172, 185, 218, 281, 304, 327, 360, 373, 406, 449, 492, 535, 578, 611, 644, 687, 720, 773, 826, 859, 882, 905, 928, 951], 123) := by decide +kernel
theorem d_Law_law_156 : decode i_Law_law.2.1 156 = .ok (.aload_n 1, 1) := by decide +kernel
theorem d_Law_law_157 : decode i_Law_law.2.1 157 = .ok (.aload_n 0, 1) := by decide +kernel
theorem d_Law_law_158 : decode i_Law_law.2.1 158 = .ok (.iload_n 3, 1) := by decide +kernel
theorem d_Law_law_159 : decode i_Law_law.2.1 159 = .ok (.iconst 1, 1) := by decide +kernel
theorem d_Law_law_160 : decode i_Law_law.2.1 160 = .ok (.iadd, 1) := by decide +kernel
theorem d_Law_law_161 : decode i_Law_law.2.1 161 = .ok (.iaload, 1) := by decide +kernel
theorem d_Law_law_162 : decode i_Law_law.2.1 162 = .ok (.invokevirtual 13, 3) := by decide +kernel
theorem d_Law_law_165 : decode i_Law_law.2.1 165 = .ok (.aload_n 2, 1) := by decide +kernel
theorem d_Law_law_166 : decode i_Law_law.2.1 166 = .ok (.aload_n 0, 1) := by decide +kernel
theorem d_Law_law_167 : decode i_Law_law.2.1 167 = .ok (.iload_n 3, 1) := by decide +kernel
theorem d_Law_law_168 : decode i_Law_law.2.1 168 = .ok (.iconst 1, 1) := by decide +kernel
theorem d_Law_law_169 : decode i_Law_law.2.1 169 = .ok (.iadd, 1) := by decide +kernel
theorem d_Law_law_170 : decode i_Law_law.2.1 170 = .ok (.iaload, 1) := by decide +kernel
theorem d_Law_law_171 : decode i_Law_law.2.1 171 = .ok (.invokevirtual 17, 3) := by decide +kernel
theorem d_Law_law_174 : decode i_Law_law.2.1 174 = .ok (.if_icmp .eq 833, 3) := by decide +kernel
theorem d_Law_law_177 : decode i_Law_law.2.1 177 = .ok (.iconst 0, 1) := by decide +kernel
theorem d_Law_law_178 : decode i_Law_law.2.1 178 = .ok (.ireturn, 1) := by decide +kernel
theorem d_Law_law_179 : decode i_Law_law.2.1 179 = .ok (.aload_n 1, 1) := by decide +kernel
theorem d_Law_law_180 : decode i_Law_law.2.1 180 = .ok (.invokevirtual 18, 3) := by decide +kernel
theorem d_Law_law_183 : decode i_Law_law.2.1 183 = .ok (.aload_n 2, 1) := by decide +kernel
theorem d_Law_law_184 : decode i_Law_law.2.1 184 = .ok (.invokevirtual 22, 3) := by decide +kernel
theorem d_Law_law_187 : decode i_Law_law.2.1 187 = .ok (.if_icmp .eq 820, 3) := by decide +kernel
theorem d_Law_law_190 : decode i_Law_law.2.1 190 = .ok (.iconst 0, 1) := by decide +kernel
theorem d_Law_law_191 : decode i_Law_law.2.1 191 = .ok (.ireturn, 1) := by decide +kernel
theorem d_Law_law_192 : decode i_Law_law.2.1 192 = .ok (.aload_n 1, 1) := by decide +kernel
theorem d_Law_law_193 : decode i_Law_law.2.1 193 = .ok (.invokevirtual 23, 3) := by decide +kernel
theorem d_Law_law_196 : decode i_Law_law.2.1 196 = .ok (.aload_n 2, 1) := by decide +kernel
theorem d_Law_law_197 : decode i_Law_law.2.1 197 = .ok (.invokevirtual 26, 3) := by decide +kernel
theorem d_Law_law_200 : decode i_Law_law.2.1 200 = .ok (.if_icmp .eq 807, 3) := by decide +kernel
theorem d_Law_law_203 : decode i_Law_law.2.1 203 = .ok (.iconst 0, 1) := by decide +kernel
theorem d_Law_law_204 : decode i_Law_law.2.1 204 = .ok (.ireturn, 1) := by decide +kernel
theorem d_Law_law_205 : decode i_Law_law.2.1 205 = .ok (.aload_n 1, 1) := by decide +kernel
theorem d_Law_law_206 : decode i_Law_law.2.1 206 = .ok (.invokevirtual 27, 3) := by decide +kernel
theorem d_Law_law_209 : decode i_Law_law.2.1 209 = .ok (.aload_n 2, 1) := by decide +kernel
theorem d_Law_law_210 : decode i_Law_law.2.1 210 = .ok (.invokevirtual 30, 3) := by decide +kernel
theorem d_Law_law_213 : decode i_Law_law.2.1 213 = .ok (.if_icmp .eq 794, 3) := by decide +kernel
theorem d_Law_law_216 : decode i_Law_law.2.1 216 = .ok (.iconst 0, 1) := by decide +kernel
theorem d_Law_law_217 : decode i_Law_law.2.1 217 = .ok (.ireturn, 1) := by decide +kernel
theorem d_Law_law_218 : decode i_Law_law.2.1 218 = .ok (.aload_n 1, 1) := by decide +kernel
theorem d_Law_law_219 : decode i_Law_law.2.1 219 = .ok (.aload_n 0, 1) := by decide +kernel
theorem d_Law_law_220 : decode i_Law_law.2.1 220 = .ok (.iload_n 3, 1) := by decide +kernel
theorem d_Law_law_221 : decode i_Law_law.2.1 221 = .ok (.iconst 1, 1) := by decide +kernel
theorem d_Law_law_222 : decode i_Law_law.2.1 222 = .ok (.iadd, 1) := by decide +kernel
theorem d_Law_law_223 : decode i_Law_law.2.1 223 = .ok (.iaload, 1) := by decide +kernel
theorem d_Law_law_224 : decode i_Law_law.2.1 224 = .ok (.aload_n 0, 1) := by decide +kernel
theorem d_Law_law_225 : decode i_Law_law.2.1 225 = .ok (.iload_n 3, 1) := by decide +kernel
theorem d_Law_law_226 : decode i_Law_law.2.1 226 = .ok (.iconst 2, 1) := by decide +kernel
theorem d_Law_law_227 : decode i_Law_law.2.1 227 = .ok (.iadd, 1) := by decide +kernel
theorem d_Law_law_228 : decode i_Law_law.2.1 228 = .ok (.iaload, 1) := by decide +kernel
theorem d_Law_law_229 : decode i_Law_law.2.1 229 = .ok (.invokevirtual 31, 3) := by decide +kernel
theorem d_Law_law_232 : decode i_Law_law.2.1 232 = .ok (.aload_n 2, 1) := by decide +kernel
theorem d_Law_law_233 : decode i_Law_law.2.1 233 = .ok (.aload_n 0, 1) := by decide +kernel
theorem d_Law_law_234 : decode i_Law_law.2.1 234 = .ok (.iload_n 3, 1) := by decide +kernel
theorem d_Law_law_235 : decode i_Law_law.2.1 235 = .ok (.iconst 1, 1) := by decide +kernel
theorem d_Law_law_236 : decode i_Law_law.2.1 236 = .ok (.iadd, 1) := by decide +kernel
theorem d_Law_law_237 : decode i_Law_law.2.1 237 = .ok (.iaload, 1) := by decide +kernel
theorem d_Law_law_238 : decode i_Law_law.2.1 238 = .ok (.aload_n 0, 1) := by decide +kernel
theorem d_Law_law_239 : decode i_Law_law.2.1 239 = .ok (.iload_n 3, 1) := by decide +kernel
theorem d_Law_law_240 : decode i_Law_law.2.1 240 = .ok (.iconst 2, 1) := by decide +kernel
theorem d_Law_law_241 : decode i_Law_law.2.1 241 = .ok (.iadd, 1) := by decide +kernel
theorem d_Law_law_242 : decode i_Law_law.2.1 242 = .ok (.iaload, 1) := by decide +kernel
theorem d_Law_law_243 : decode i_Law_law.2.1 243 = .ok (.invokevirtual 35, 3) := by decide +kernel
theorem d_Law_law_246 : decode i_Law_law.2.1 246 = .ok (.if_icmp .eq 761, 3) := by decide +kernel
theorem d_Law_law_249 : decode i_Law_law.2.1 249 = .ok (.iconst 0, 1) := by decide +kernel
theorem d_Law_law_250 : decode i_Law_law.2.1 250 = .ok (.ireturn, 1) := by decide +kernel
theorem d_Law_law_251 : decode i_Law_law.2.1 251 = .ok (.aload_n 1, 1) := by decide +kernel
theorem d_Law_law_252 : decode i_Law_law.2.1 252 = .ok (.aload_n 0, 1) := by decide +kernel
theorem d_Law_law_253 : decode i_Law_law.2.1 253 = .ok (.iload_n 3, 1) := by decide +kernel
theorem d_Law_law_254 : decode i_Law_law.2.1 254 = .ok (.iconst 1, 1) := by decide +kernel
theorem d_Law_law_255 : decode i_Law_law.2.1 255 = .ok (.iadd, 1) := by decide +kernel
theorem d_Law_law_256 : decode i_Law_law.2.1 256 = .ok (.iaload, 1) := by decide +kernel
theorem d_Law_law_257 : decode i_Law_law.2.1 257 = .ok (.aload_n 0, 1) := by decide +kernel
theorem d_Law_law_258 : decode i_Law_law.2.1 258 = .ok (.iload_n 3, 1) := by decide +kernel
theorem d_Law_law_259 : decode i_Law_law.2.1 259 = .ok (.iconst 2, 1) := by decide +kernel
theorem d_Law_law_260 : decode i_Law_law.2.1 260 = .ok (.iadd, 1) := by decide +kernel
theorem d_Law_law_261 : decode i_Law_law.2.1 261 = .ok (.iaload, 1) := by decide +kernel
theorem d_Law_law_262 : decode i_Law_law.2.1 262 = .ok (.aload_n 0, 1) := by decide +kernel
theorem d_Law_law_263 : decode i_Law_law.2.1 263 = .ok (.iload_n 3, 1) := by decide +kernel
theorem d_Law_law_264 : decode i_Law_law.2.1 264 = .ok (.iconst 3, 1) := by decide +kernel
theorem d_Law_law_265 : decode i_Law_law.2.1 265 = .ok (.iadd, 1) := by decide +kernel
theorem d_Law_law_266 : decode i_Law_law.2.1 266 = .ok (.iaload, 1) := by decide +kernel
theorem d_Law_law_267 : decode i_Law_law.2.1 267 = .ok (.aload_n 0, 1) := by decide +kernel
theorem d_Law_law_268 : decode i_Law_law.2.1 268 = .ok (.iload_n 3, 1) := by decide +kernel
theorem d_Law_law_269 : decode i_Law_law.2.1 269 = .ok (.iconst 4, 1) := by decide +kernel
theorem d_Law_law_270 : decode i_Law_law.2.1 270 = .ok (.iadd, 1) := by decide +kernel
theorem d_Law_law_271 : decode i_Law_law.2.1 271 = .ok (.iaload, 1) := by decide +kernel
theorem d_Law_law_272 : decode i_Law_law.2.1 272 = .ok (.aload_n 0, 1) := by decide +kernel
theorem d_Law_law_273 : decode i_Law_law.2.1 273 = .ok (.iload_n 3, 1) := by decide +kernel
theorem d_Law_law_274 : decode i_Law_law.2.1 274 = .ok (.iconst 5, 1) := by decide +kernel
theorem d_Law_law_275 : decode i_Law_law.2.1 275 = .ok (.iadd, 1) := by decide +kernel
theorem d_Law_law_276 : decode i_Law_law.2.1 276 = .ok (.iaload, 1) := by decide +kernel
theorem d_Law_law_277 : decode i_Law_law.2.1 277 = .ok (.invokevirtual 36, 3) := by decide +kernel
theorem d_Law_law_280 : decode i_Law_law.2.1 280 = .ok (.aload_n 2, 1) := by decide +kernel
theorem d_Law_law_281 : decode i_Law_law.2.1 281 = .ok (.aload_n 0, 1) := by decide +kernel
theorem d_Law_law_282 : decode i_Law_law.2.1 282 = .ok (.iload_n 3, 1) := by decide +kernel
theorem d_Law_law_283 : decode i_Law_law.2.1 283 = .ok (.iconst 1, 1) := by decide +kernel
theorem d_Law_law_284 : decode i_Law_law.2.1 284 = .ok (.iadd, 1) := by decide +kernel
theorem d_Law_law_285 : decode i_Law_law.2.1 285 = .ok (.iaload, 1) := by decide +kernel
theorem d_Law_law_286 : decode i_Law_law.2.1 286 = .ok (.aload_n 0, 1) := by decide +kernel
theorem d_Law_law_287 : decode i_Law_law.2.1 287 = .ok (.iload_n 3, 1) := by decide +kernel
theorem d_Law_law_288 : decode i_Law_law.2.1 288 = .ok (.iconst 2, 1) := by decide +kernel
theorem d_Law_law_289 : decode i_Law_law.2.1 289 = .ok (.iadd, 1) := by decide +kernel
theorem d_Law_law_290 : decode i_Law_law.2.1 290 = .ok (.iaload, 1) := by decide +kernel
theorem d_Law_law_291 : decode i_Law_law.2.1 291 = .ok (.aload_n 0, 1) := by decide +kernel
theorem d_Law_law_292 : decode i_Law_law.2.1 292 = .ok (.iload_n 3, 1) := by decide +kernel
theorem d_Law_law_293 : decode i_Law_law.2.1 293 = .ok (.iconst 3, 1) := by decide +kernel
theorem d_Law_law_294 : decode i_Law_law.2.1 294 = .ok (.iadd, 1) := by decide +kernel
theorem d_Law_law_295 : decode i_Law_law.2.1 295 = .ok (.iaload, 1) := by decide +kernel
theorem d_Law_law_296 : decode i_Law_law.2.1 296 = .ok (.aload_n 0, 1) := by decide +kernel
theorem d_Law_law_297 : decode i_Law_law.2.1 297 = .ok (.iload_n 3, 1) := by decide +kernel
theorem d_Law_law_298 : decode i_Law_law.2.1 298 = .ok (.iconst 4, 1) := by decide +kernel
theorem d_Law_law_299 : decode i_Law_law.2.1 299 = .ok (.iadd, 1) := by decide +kernel
theorem d_Law_law_300 : decode i_Law_law.2.1 300 = .ok (.iaload, 1) := by decide +kernel
theorem d_Law_law_301 : decode i_Law_law.2.1 301 = .ok (.aload_n 0, 1) := by decide +kernel
theorem d_Law_law_302 : decode i_Law_law.2.1 302 = .ok (.iload_n 3, 1) := by decide +kernel
theorem d_Law_law_303 : decode i_Law_law.2.1 303 = .ok (.iconst 5, 1) := by decide +kernel
theorem d_Law_law_304 : decode i_Law_law.2.1 304 = .ok (.iadd, 1) := by decide +kernel
theorem d_Law_law_305 : decode i_Law_law.2.1 305 = .ok (.iaload, 1) := by decide +kernel
theorem d_Law_law_306 : decode i_Law_law.2.1 306 = .ok (.invokevirtual 40, 3) := by decide +kernel
theorem d_Law_law_309 : decode i_Law_law.2.1 309 = .ok (.if_icmp .eq 698, 3) := by decide +kernel
theorem d_Law_law_312 : decode i_Law_law.2.1 312 = .ok (.iconst 0, 1) := by decide +kernel
theorem d_Law_law_313 : decode i_Law_law.2.1 313 = .ok (.ireturn, 1) := by decide +kernel
theorem d_Law_law_314 : decode i_Law_law.2.1 314 = .ok (.aload_n 1, 1) := by decide +kernel
theorem d_Law_law_315 : decode i_Law_law.2.1 315 = .ok (.aload_n 0, 1) := by decide +kernel
theorem d_Law_law_316 : decode i_Law_law.2.1 316 = .ok (.iload_n 3, 1) := by decide +kernel
theorem d_Law_law_317 : decode i_Law_law.2.1 317 = .ok (.iconst 1, 1) := by decide +kernel
theorem d_Law_law_318 : decode i_Law_law.2.1 318 = .ok (.iadd, 1) := by decide +kernel
theorem d_Law_law_319 : decode i_Law_law.2.1 319 = .ok (.iaload, 1) := by decide +kernel
theorem d_Law_law_320 : decode i_Law_law.2.1 320 = .ok (.invokevirtual 41, 3) := by decide +kernel
theorem d_Law_law_323 : decode i_Law_law.2.1 323 = .ok (.aload_n 2, 1) := by decide +kernel
theorem d_Law_law_324 : decode i_Law_law.2.1 324 = .ok (.aload_n 0, 1) := by decide +kernel
theorem d_Law_law_325 : decode i_Law_law.2.1 325 = .ok (.iload_n 3, 1) := by decide +kernel
theorem d_Law_law_326 : decode i_Law_law.2.1 326 = .ok (.iconst 1, 1) := by decide +kernel
theorem d_Law_law_327 : decode i_Law_law.2.1 327 = .ok (.iadd, 1) := by decide +kernel
theorem d_Law_law_328 : decode i_Law_law.2.1 328 = .ok (.iaload, 1) := by decide +kernel
theorem d_Law_law_329 : decode i_Law_law.2.1 329 = .ok (.invokevirtual 44, 3) := by decide +kernel
theorem d_Law_law_332 : decode i_Law_law.2.1 332 = .ok (.if_icmp .eq 675, 3) := by decide +kernel
theorem d_Law_law_335 : decode i_Law_law.2.1 335 = .ok (.iconst 0, 1) := by decide +kernel
theorem d_Law_law_336 : decode i_Law_law.2.1 336 = .ok (.ireturn, 1) := by decide +kernel
theorem d_Law_law_337 : decode i_Law_law.2.1 337 = .ok (.aload_n 1, 1) := by decide +kernel
theorem d_Law_law_338 : decode i_Law_law.2.1 338 = .ok (.aload_n 0, 1) := by decide +kernel
theorem d_Law_law_339 : decode i_Law_law.2.1 339 = .ok (.iload_n 3, 1) := by decide +kernel
theorem d_Law_law_340 : decode i_Law_law.2.1 340 = .ok (.iconst 1, 1) := by decide +kernel
theorem d_Law_law_341 : decode i_Law_law.2.1 341 = .ok (.iadd, 1) := by decide +kernel
theorem d_Law_law_342 : decode i_Law_law.2.1 342 = .ok (.iaload, 1) := by decide +kernel
theorem d_Law_law_343 : decode i_Law_law.2.1 343 = .ok (.invokevirtual 45, 3) := by decide +kernel
theorem d_Law_law_346 : decode i_Law_law.2.1 346 = .ok (.aload_n 2, 1) := by decide +kernel
theorem d_Law_law_347 : decode i_Law_law.2.1 347 = .ok (.aload_n 0, 1) := by decide +kernel
theorem d_Law_law_348 : decode i_Law_law.2.1 348 = .ok (.iload_n 3, 1) := by decide +kernel
theorem d_Law_law_349 : decode i_Law_law.2.1 349 = .ok (.iconst 1, 1) := by decide +kernel
theorem d_Law_law_350 : decode i_Law_law.2.1 350 = .ok (.iadd, 1) := by decide +kernel
theorem d_Law_law_351 : decode i_Law_law.2.1 351 = .ok (.iaload, 1) := by decide +kernel
theorem d_Law_law_352 : decode i_Law_law.2.1 352 = .ok (.invokevirtual 48, 3) := by decide +kernel
theorem d_Law_law_355 : decode i_Law_law.2.1 355 = .ok (.if_icmp .eq 652, 3) := by decide +kernel
theorem d_Law_law_358 : decode i_Law_law.2.1 358 = .ok (.iconst 0, 1) := by decide +kernel
theorem d_Law_law_359 : decode i_Law_law.2.1 359 = .ok (.ireturn, 1) := by decide +kernel
theorem d_Law_law_360 : decode i_Law_law.2.1 360 = .ok (.aload_n 1, 1) := by decide +kernel
theorem d_Law_law_361 : decode i_Law_law.2.1 361 = .ok (.aload_n 0, 1) := by decide +kernel
theorem d_Law_law_362 : decode i_Law_law.2.1 362 = .ok (.iload_n 3, 1) := by decide +kernel
theorem d_Law_law_363 : decode i_Law_law.2.1 363 = .ok (.iconst 1, 1) := by decide +kernel
theorem d_Law_law_364 : decode i_Law_law.2.1 364 = .ok (.iadd, 1) := by decide +kernel
theorem d_Law_law_365 : decode i_Law_law.2.1 365 = .ok (.iaload, 1) := by decide +kernel
theorem d_Law_law_366 : decode i_Law_law.2.1 366 = .ok (.aload_n 0, 1) := by decide +kernel
theorem d_Law_law_367 : decode i_Law_law.2.1 367 = .ok (.iload_n 3, 1) := by decide +kernel
theorem d_Law_law_368 : decode i_Law_law.2.1 368 = .ok (.iconst 2, 1) := by decide +kernel
theorem d_Law_law_369 : decode i_Law_law.2.1 369 = .ok (.iadd, 1) := by decide +kernel
theorem d_Law_law_370 : decode i_Law_law.2.1 370 = .ok (.iaload, 1) := by decide +kernel
theorem d_Law_law_371 : decode i_Law_law.2.1 371 = .ok (.invokevirtual 49, 3) := by decide +kernel
theorem d_Law_law_374 : decode i_Law_law.2.1 374 = .ok (.aload_n 2, 1) := by decide +kernel
theorem d_Law_law_375 : decode i_Law_law.2.1 375 = .ok (.aload_n 0, 1) := by decide +kernel
theorem d_Law_law_376 : decode i_Law_law.2.1 376 = .ok (.iload_n 3, 1) := by decide +kernel
theorem d_Law_law_377 : decode i_Law_law.2.1 377 = .ok (.iconst 1, 1) := by decide +kernel
theorem d_Law_law_378 : decode i_Law_law.2.1 378 = .ok (.iadd, 1) := by decide +kernel
theorem d_Law_law_379 : decode i_Law_law.2.1 379 = .ok (.iaload, 1) := by decide +kernel
theorem d_Law_law_380 : decode i_Law_law.2.1 380 = .ok (.aload_n 0, 1) := by decide +kernel
theorem d_Law_law_381 : decode i_Law_law.2.1 381 = .ok (.iload_n 3, 1) := by decide +kernel
theorem d_Law_law_382 : decode i_Law_law.2.1 382 = .ok (.iconst 2, 1) := by decide +kernel
theorem d_Law_law_383 : decode i_Law_law.2.1 383 = .ok (.iadd, 1) := by decide +kernel
theorem d_Law_law_384 : decode i_Law_law.2.1 384 = .ok (.iaload, 1) := by decide +kernel
theorem d_Law_law_385 : decode i_Law_law.2.1 385 = .ok (.invokevirtual 52, 3) := by decide +kernel
theorem d_Law_law_388 : decode i_Law_law.2.1 388 = .ok (.if_icmp .eq 619, 3) := by decide +kernel
theorem d_Law_law_391 : decode i_Law_law.2.1 391 = .ok (.iconst 0, 1) := by decide +kernel
theorem d_Law_law_392 : decode i_Law_law.2.1 392 = .ok (.ireturn, 1) := by decide +kernel
theorem d_Law_law_393 : decode i_Law_law.2.1 393 = .ok (.aload_n 1, 1) := by decide +kernel
theorem d_Law_law_394 : decode i_Law_law.2.1 394 = .ok (.invokevirtual 53, 3) := by decide +kernel
theorem d_Law_law_397 : decode i_Law_law.2.1 397 = .ok (.aload_n 2, 1) := by decide +kernel
theorem d_Law_law_398 : decode i_Law_law.2.1 398 = .ok (.invokevirtual 56, 3) := by decide +kernel
theorem d_Law_law_401 : decode i_Law_law.2.1 401 = .ok (.if_icmp .eq 606, 3) := by decide +kernel
theorem d_Law_law_404 : decode i_Law_law.2.1 404 = .ok (.iconst 0, 1) := by decide +kernel
theorem d_Law_law_405 : decode i_Law_law.2.1 405 = .ok (.ireturn, 1) := by decide +kernel
theorem d_Law_law_406 : decode i_Law_law.2.1 406 = .ok (.aload_n 1, 1) := by decide +kernel
theorem d_Law_law_407 : decode i_Law_law.2.1 407 = .ok (.aload_n 0, 1) := by decide +kernel
theorem d_Law_law_408 : decode i_Law_law.2.1 408 = .ok (.iload_n 3, 1) := by decide +kernel
theorem d_Law_law_409 : decode i_Law_law.2.1 409 = .ok (.iconst 1, 1) := by decide +kernel
theorem d_Law_law_410 : decode i_Law_law.2.1 410 = .ok (.iadd, 1) := by decide +kernel
theorem d_Law_law_411 : decode i_Law_law.2.1 411 = .ok (.iaload, 1) := by decide +kernel
theorem d_Law_law_412 : decode i_Law_law.2.1 412 = .ok (.aload_n 0, 1) := by decide +kernel
theorem d_Law_law_413 : decode i_Law_law.2.1 413 = .ok (.iload_n 3, 1) := by decide +kernel
theorem d_Law_law_414 : decode i_Law_law.2.1 414 = .ok (.iconst 2, 1) := by decide +kernel
theorem d_Law_law_415 : decode i_Law_law.2.1 415 = .ok (.iadd, 1) := by decide +kernel
theorem d_Law_law_416 : decode i_Law_law.2.1 416 = .ok (.iaload, 1) := by decide +kernel
theorem d_Law_law_417 : decode i_Law_law.2.1 417 = .ok (.invokevirtual 57, 3) := by decide +kernel
theorem d_Law_law_420 : decode i_Law_law.2.1 420 = .ok (.aload_n 2, 1) := by decide +kernel
theorem d_Law_law_421 : decode i_Law_law.2.1 421 = .ok (.aload_n 0, 1) := by decide +kernel
theorem d_Law_law_422 : decode i_Law_law.2.1 422 = .ok (.iload_n 3, 1) := by decide +kernel
theorem d_Law_law_423 : decode i_Law_law.2.1 423 = .ok (.iconst 1, 1) := by decide +kernel
theorem d_Law_law_424 : decode i_Law_law.2.1 424 = .ok (.iadd, 1) := by decide +kernel
theorem d_Law_law_425 : decode i_Law_law.2.1 425 = .ok (.iaload, 1) := by decide +kernel
theorem d_Law_law_426 : decode i_Law_law.2.1 426 = .ok (.aload_n 0, 1) := by decide +kernel
theorem d_Law_law_427 : decode i_Law_law.2.1 427 = .ok (.iload_n 3, 1) := by decide +kernel
theorem d_Law_law_428 : decode i_Law_law.2.1 428 = .ok (.iconst 2, 1) := by decide +kernel
theorem d_Law_law_429 : decode i_Law_law.2.1 429 = .ok (.iadd, 1) := by decide +kernel
theorem d_Law_law_430 : decode i_Law_law.2.1 430 = .ok (.iaload, 1) := by decide +kernel
theorem d_Law_law_431 : decode i_Law_law.2.1 431 = .ok (.invokevirtual 60, 3) := by decide +kernel
theorem d_Law_law_434 : decode i_Law_law.2.1 434 = .ok (.if_icmp .eq 573, 3) := by decide +kernel
theorem d_Law_law_437 : decode i_Law_law.2.1 437 = .ok (.iconst 0, 1) := by decide +kernel
theorem d_Law_law_438 : decode i_Law_law.2.1 438 = .ok (.ireturn, 1) := by decide +kernel
theorem d_Law_law_439 : decode i_Law_law.2.1 439 = .ok (.aload_n 1, 1) := by decide +kernel
theorem d_Law_law_440 : decode i_Law_law.2.1 440 = .ok (.aload_n 0, 1) := by decide +kernel
theorem d_Law_law_441 : decode i_Law_law.2.1 441 = .ok (.iload_n 3, 1) := by decide +kernel
theorem d_Law_law_442 : decode i_Law_law.2.1 442 = .ok (.iconst 1, 1) := by decide +kernel
theorem d_Law_law_443 : decode i_Law_law.2.1 443 = .ok (.iadd, 1) := by decide +kernel
theorem d_Law_law_444 : decode i_Law_law.2.1 444 = .ok (.iaload, 1) := by decide +kernel
theorem d_Law_law_445 : decode i_Law_law.2.1 445 = .ok (.aload_n 0, 1) := by decide +kernel
theorem d_Law_law_446 : decode i_Law_law.2.1 446 = .ok (.iload_n 3, 1) := by decide +kernel
theorem d_Law_law_447 : decode i_Law_law.2.1 447 = .ok (.iconst 2, 1) := by decide +kernel
theorem d_Law_law_448 : decode i_Law_law.2.1 448 = .ok (.iadd, 1) := by decide +kernel
theorem d_Law_law_449 : decode i_Law_law.2.1 449 = .ok (.iaload, 1) := by decide +kernel
theorem d_Law_law_450 : decode i_Law_law.2.1 450 = .ok (.aload_n 0, 1) := by decide +kernel
theorem d_Law_law_451 : decode i_Law_law.2.1 451 = .ok (.iload_n 3, 1) := by decide +kernel
theorem d_Law_law_452 : decode i_Law_law.2.1 452 = .ok (.iconst 3, 1) := by decide +kernel
theorem d_Law_law_453 : decode i_Law_law.2.1 453 = .ok (.iadd, 1) := by decide +kernel
theorem d_Law_law_454 : decode i_Law_law.2.1 454 = .ok (.iaload, 1) := by decide +kernel
theorem d_Law_law_455 : decode i_Law_law.2.1 455 = .ok (.invokevirtual 61, 3) := by decide +kernel
theorem d_Law_law_458 : decode i_Law_law.2.1 458 = .ok (.aload_n 2, 1) := by decide +kernel
theorem d_Law_law_459 : decode i_Law_law.2.1 459 = .ok (.aload_n 0, 1) := by decide +kernel
theorem d_Law_law_460 : decode i_Law_law.2.1 460 = .ok (.iload_n 3, 1) := by decide +kernel
theorem d_Law_law_461 : decode i_Law_law.2.1 461 = .ok (.iconst 1, 1) := by decide +kernel
theorem d_Law_law_462 : decode i_Law_law.2.1 462 = .ok (.iadd, 1) := by decide +kernel
theorem d_Law_law_463 : decode i_Law_law.2.1 463 = .ok (.iaload, 1) := by decide +kernel
theorem d_Law_law_464 : decode i_Law_law.2.1 464 = .ok (.aload_n 0, 1) := by decide +kernel
theorem d_Law_law_465 : decode i_Law_law.2.1 465 = .ok (.iload_n 3, 1) := by decide +kernel
theorem d_Law_law_466 : decode i_Law_law.2.1 466 = .ok (.iconst 2, 1) := by decide +kernel
theorem d_Law_law_467 : decode i_Law_law.2.1 467 = .ok (.iadd, 1) := by decide +kernel
theorem d_Law_law_468 : decode i_Law_law.2.1 468 = .ok (.iaload, 1) := by decide +kernel
theorem d_Law_law_469 : decode i_Law_law.2.1 469 = .ok (.aload_n 0, 1) := by decide +kernel
theorem d_Law_law_470 : decode i_Law_law.2.1 470 = .ok (.iload_n 3, 1) := by decide +kernel
theorem d_Law_law_471 : decode i_Law_law.2.1 471 = .ok (.iconst 3, 1) := by decide +kernel
theorem d_Law_law_472 : decode i_Law_law.2.1 472 = .ok (.iadd, 1) := by decide +kernel
theorem d_Law_law_473 : decode i_Law_law.2.1 473 = .ok (.iaload, 1) := by decide +kernel
theorem d_Law_law_474 : decode i_Law_law.2.1 474 = .ok (.invokevirtual 65, 3) := by decide +kernel
theorem d_Law_law_477 : decode i_Law_law.2.1 477 = .ok (.if_icmp .eq 530, 3) := by decide +kernel
theorem d_Law_law_480 : decode i_Law_law.2.1 480 = .ok (.iconst 0, 1) := by decide +kernel
theorem d_Law_law_481 : decode i_Law_law.2.1 481 = .ok (.ireturn, 1) := by decide +kernel
theorem d_Law_law_482 : decode i_Law_law.2.1 482 = .ok (.aload_n 1, 1) := by decide +kernel
theorem d_Law_law_483 : decode i_Law_law.2.1 483 = .ok (.aload_n 0, 1) := by decide +kernel
theorem d_Law_law_484 : decode i_Law_law.2.1 484 = .ok (.iload_n 3, 1) := by decide +kernel
theorem d_Law_law_485 : decode i_Law_law.2.1 485 = .ok (.iconst 1, 1) := by decide +kernel
theorem d_Law_law_486 : decode i_Law_law.2.1 486 = .ok (.iadd, 1) := by decide +kernel
theorem d_Law_law_487 : decode i_Law_law.2.1 487 = .ok (.iaload, 1) := by decide +kernel
theorem d_Law_law_488 : decode i_Law_law.2.1 488 = .ok (.aload_n 0, 1) := by decide +kernel
theorem d_Law_law_489 : decode i_Law_law.2.1 489 = .ok (.iload_n 3, 1) := by decide +kernel
theorem d_Law_law_490 : decode i_Law_law.2.1 490 = .ok (.iconst 2, 1) := by decide +kernel
theorem d_Law_law_491 : decode i_Law_law.2.1 491 = .ok (.iadd, 1) := by decide +kernel
theorem d_Law_law_492 : decode i_Law_law.2.1 492 = .ok (.iaload, 1) := by decide +kernel
theorem d_Law_law_493 : decode i_Law_law.2.1 493 = .ok (.aload_n 0, 1) := by decide +kernel
theorem d_Law_law_494 : decode i_Law_law.2.1 494 = .ok (.iload_n 3, 1) := by decide +kernel
theorem d_Law_law_495 : decode i_Law_law.2.1 495 = .ok (.iconst 3, 1) := by decide +kernel
theorem d_Law_law_496 : decode i_Law_law.2.1 496 = .ok (.iadd, 1) := by decide +kernel
theorem d_Law_law_497 : decode i_Law_law.2.1 497 = .ok (.iaload, 1) := by decide +kernel
theorem d_Law_law_498 : decode i_Law_law.2.1 498 = .ok (.invokevirtual 66, 3) := by decide +kernel
theorem d_Law_law_501 : decode i_Law_law.2.1 501 = .ok (.aload_n 2, 1) := by decide +kernel
theorem d_Law_law_502 : decode i_Law_law.2.1 502 = .ok (.aload_n 0, 1) := by decide +kernel
theorem d_Law_law_503 : decode i_Law_law.2.1 503 = .ok (.iload_n 3, 1) := by decide +kernel
theorem d_Law_law_504 : decode i_Law_law.2.1 504 = .ok (.iconst 1, 1) := by decide +kernel
theorem d_Law_law_505 : decode i_Law_law.2.1 505 = .ok (.iadd, 1) := by decide +kernel
theorem d_Law_law_506 : decode i_Law_law.2.1 506 = .ok (.iaload, 1) := by decide +kernel
theorem d_Law_law_507 : decode i_Law_law.2.1 507 = .ok (.aload_n 0, 1) := by decide +kernel
theorem d_Law_law_508 : decode i_Law_law.2.1 508 = .ok (.iload_n 3, 1) := by decide +kernel
theorem d_Law_law_509 : decode i_Law_law.2.1 509 = .ok (.iconst 2, 1) := by decide +kernel
theorem d_Law_law_510 : decode i_Law_law.2.1 510 = .ok (.iadd, 1) := by decide +kernel
theorem d_Law_law_511 : decode i_Law_law.2.1 511 = .ok (.iaload, 1) := by decide +kernel
theorem d_Law_law_512 : decode i_Law_law.2.1 512 = .ok (.aload_n 0, 1) := by decide +kernel
theorem d_Law_law_513 : decode i_Law_law.2.1 513 = .ok (.iload_n 3, 1) := by decide +kernel
theorem d_Law_law_514 : decode i_Law_law.2.1 514 = .ok (.iconst 3, 1) := by decide +kernel
theorem d_Law_law_515 : decode i_Law_law.2.1 515 = .ok (.iadd, 1) := by decide +kernel
theorem d_Law_law_516 : decode i_Law_law.2.1 516 = .ok (.iaload, 1) := by decide +kernel
theorem d_Law_law_517 : decode i_Law_law.2.1 517 = .ok (.invokevirtual 69, 3) := by decide +kernel
theorem d_Law_law_520 : decode i_Law_law.2.1 520 = .ok (.if_icmp .eq 487, 3) := by decide +kernel
theorem d_Law_law_523 : decode i_Law_law.2.1 523 = .ok (.iconst 0, 1) := by decide +kernel
theorem d_Law_law_524 : decode i_Law_law.2.1 524 = .ok (.ireturn, 1) := by decide +kernel
theorem d_Law_law_525 : decode i_Law_law.2.1 525 = .ok (.aload_n 1, 1) := by decide +kernel
theorem d_Law_law_526 : decode i_Law_law.2.1 526 = .ok (.aload_n 0, 1) := by decide +kernel
theorem d_Law_law_527 : decode i_Law_law.2.1 527 = .ok (.iload_n 3, 1) := by decide +kernel
theorem d_Law_law_528 : decode i_Law_law.2.1 528 = .ok (.iconst 1, 1) := by decide +kernel
theorem d_Law_law_529 : decode i_Law_law.2.1 529 = .ok (.iadd, 1) := by decide +kernel
theorem d_Law_law_530 : decode i_Law_law.2.1 530 = .ok (.iaload, 1) := by decide +kernel
theorem d_Law_law_531 : decode i_Law_law.2.1 531 = .ok (.aload_n 0, 1) := by decide +kernel
theorem d_Law_law_532 : decode i_Law_law.2.1 532 = .ok (.iload_n 3, 1) := by decide +kernel
theorem d_Law_law_533 : decode i_Law_law.2.1 533 = .ok (.iconst 2, 1) := by decide +kernel
theorem d_Law_law_534 : decode i_Law_law.2.1 534 = .ok (.iadd, 1) := by decide +kernel
theorem d_Law_law_535 : decode i_Law_law.2.1 535 = .ok (.iaload, 1) := by decide +kernel
theorem d_Law_law_536 : decode i_Law_law.2.1 536 = .ok (.aload_n 0, 1) := by decide +kernel
theorem d_Law_law_537 : decode i_Law_law.2.1 537 = .ok (.iload_n 3, 1) := by decide +kernel
theorem d_Law_law_538 : decode i_Law_law.2.1 538 = .ok (.iconst 3, 1) := by decide +kernel
theorem d_Law_law_539 : decode i_Law_law.2.1 539 = .ok (.iadd, 1) := by decide +kernel
theorem d_Law_law_540 : decode i_Law_law.2.1 540 = .ok (.iaload, 1) := by decide +kernel
theorem d_Law_law_541 : decode i_Law_law.2.1 541 = .ok (.invokevirtual 70, 3) := by decide +kernel
theorem d_Law_law_544 : decode i_Law_law.2.1 544 = .ok (.aload_n 2, 1) := by decide +kernel
theorem d_Law_law_545 : decode i_Law_law.2.1 545 = .ok (.aload_n 0, 1) := by decide +kernel
theorem d_Law_law_546 : decode i_Law_law.2.1 546 = .ok (.iload_n 3, 1) := by decide +kernel
theorem d_Law_law_547 : decode i_Law_law.2.1 547 = .ok (.iconst 1, 1) := by decide +kernel
theorem d_Law_law_548 : decode i_Law_law.2.1 548 = .ok (.iadd, 1) := by decide +kernel
theorem d_Law_law_549 : decode i_Law_law.2.1 549 = .ok (.iaload, 1) := by decide +kernel
theorem d_Law_law_550 : decode i_Law_law.2.1 550 = .ok (.aload_n 0, 1) := by decide +kernel
theorem d_Law_law_551 : decode i_Law_law.2.1 551 = .ok (.iload_n 3, 1) := by decide +kernel
theorem d_Law_law_552 : decode i_Law_law.2.1 552 = .ok (.iconst 2, 1) := by decide +kernel
theorem d_Law_law_553 : decode i_Law_law.2.1 553 = .ok (.iadd, 1) := by decide +kernel
theorem d_Law_law_554 : decode i_Law_law.2.1 554 = .ok (.iaload, 1) := by decide +kernel
theorem d_Law_law_555 : decode i_Law_law.2.1 555 = .ok (.aload_n 0, 1) := by decide +kernel
theorem d_Law_law_556 : decode i_Law_law.2.1 556 = .ok (.iload_n 3, 1) := by decide +kernel
theorem d_Law_law_557 : decode i_Law_law.2.1 557 = .ok (.iconst 3, 1) := by decide +kernel
theorem d_Law_law_558 : decode i_Law_law.2.1 558 = .ok (.iadd, 1) := by decide +kernel
theorem d_Law_law_559 : decode i_Law_law.2.1 559 = .ok (.iaload, 1) := by decide +kernel
theorem d_Law_law_560 : decode i_Law_law.2.1 560 = .ok (.invokevirtual 73, 3) := by decide +kernel
theorem d_Law_law_563 : decode i_Law_law.2.1 563 = .ok (.if_icmp .eq 444, 3) := by decide +kernel
theorem d_Law_law_566 : decode i_Law_law.2.1 566 = .ok (.iconst 0, 1) := by decide +kernel
theorem d_Law_law_567 : decode i_Law_law.2.1 567 = .ok (.ireturn, 1) := by decide +kernel
theorem d_Law_law_568 : decode i_Law_law.2.1 568 = .ok (.aload_n 1, 1) := by decide +kernel
theorem d_Law_law_569 : decode i_Law_law.2.1 569 = .ok (.aload_n 0, 1) := by decide +kernel
theorem d_Law_law_570 : decode i_Law_law.2.1 570 = .ok (.iload_n 3, 1) := by decide +kernel
theorem d_Law_law_571 : decode i_Law_law.2.1 571 = .ok (.iconst 1, 1) := by decide +kernel
theorem d_Law_law_572 : decode i_Law_law.2.1 572 = .ok (.iadd, 1) := by decide +kernel
theorem d_Law_law_573 : decode i_Law_law.2.1 573 = .ok (.iaload, 1) := by decide +kernel
theorem d_Law_law_574 : decode i_Law_law.2.1 574 = .ok (.aload_n 0, 1) := by decide +kernel
theorem d_Law_law_575 : decode i_Law_law.2.1 575 = .ok (.iload_n 3, 1) := by decide +kernel
theorem d_Law_law_576 : decode i_Law_law.2.1 576 = .ok (.iconst 2, 1) := by decide +kernel
theorem d_Law_law_577 : decode i_Law_law.2.1 577 = .ok (.iadd, 1) := by decide +kernel
theorem d_Law_law_578 : decode i_Law_law.2.1 578 = .ok (.iaload, 1) := by decide +kernel
theorem d_Law_law_579 : decode i_Law_law.2.1 579 = .ok (.aload_n 0, 1) := by decide +kernel
theorem d_Law_law_580 : decode i_Law_law.2.1 580 = .ok (.iload_n 3, 1) := by decide +kernel
theorem d_Law_law_581 : decode i_Law_law.2.1 581 = .ok (.iconst 3, 1) := by decide +kernel
theorem d_Law_law_582 : decode i_Law_law.2.1 582 = .ok (.iadd, 1) := by decide +kernel
theorem d_Law_law_583 : decode i_Law_law.2.1 583 = .ok (.iaload, 1) := by decide +kernel
theorem d_Law_law_584 : decode i_Law_law.2.1 584 = .ok (.invokevirtual 74, 3) := by decide +kernel
theorem d_Law_law_587 : decode i_Law_law.2.1 587 = .ok (.aload_n 2, 1) := by decide +kernel
theorem d_Law_law_588 : decode i_Law_law.2.1 588 = .ok (.aload_n 0, 1) := by decide +kernel
theorem d_Law_law_589 : decode i_Law_law.2.1 589 = .ok (.iload_n 3, 1) := by decide +kernel
theorem d_Law_law_590 : decode i_Law_law.2.1 590 = .ok (.iconst 1, 1) := by decide +kernel
theorem d_Law_law_591 : decode i_Law_law.2.1 591 = .ok (.iadd, 1) := by decide +kernel
theorem d_Law_law_592 : decode i_Law_law.2.1 592 = .ok (.iaload, 1) := by decide +kernel
theorem d_Law_law_593 : decode i_Law_law.2.1 593 = .ok (.aload_n 0, 1) := by decide +kernel
theorem d_Law_law_594 : decode i_Law_law.2.1 594 = .ok (.iload_n 3, 1) := by decide +kernel
theorem d_Law_law_595 : decode i_Law_law.2.1 595 = .ok (.iconst 2, 1) := by decide +kernel
theorem d_Law_law_596 : decode i_Law_law.2.1 596 = .ok (.iadd, 1) := by decide +kernel
theorem d_Law_law_597 : decode i_Law_law.2.1 597 = .ok (.iaload, 1) := by decide +kernel
theorem d_Law_law_598 : decode i_Law_law.2.1 598 = .ok (.aload_n 0, 1) := by decide +kernel
theorem d_Law_law_599 : decode i_Law_law.2.1 599 = .ok (.iload_n 3, 1) := by decide +kernel
theorem d_Law_law_600 : decode i_Law_law.2.1 600 = .ok (.iconst 3, 1) := by decide +kernel
theorem d_Law_law_601 : decode i_Law_law.2.1 601 = .ok (.iadd, 1) := by decide +kernel
theorem d_Law_law_602 : decode i_Law_law.2.1 602 = .ok (.iaload, 1) := by decide +kernel
theorem d_Law_law_603 : decode i_Law_law.2.1 603 = .ok (.invokevirtual 77, 3) := by decide +kernel
theorem d_Law_law_606 : decode i_Law_law.2.1 606 = .ok (.if_icmp .eq 401, 3) := by decide +kernel
theorem d_Law_law_609 : decode i_Law_law.2.1 609 = .ok (.iconst 0, 1) := by decide +kernel
theorem d_Law_law_610 : decode i_Law_law.2.1 610 = .ok (.ireturn, 1) := by decide +kernel
theorem d_Law_law_611 : decode i_Law_law.2.1 611 = .ok (.aload_n 1, 1) := by decide +kernel
theorem d_Law_law_612 : decode i_Law_law.2.1 612 = .ok (.aload_n 0, 1) := by decide +kernel
theorem d_Law_law_613 : decode i_Law_law.2.1 613 = .ok (.iload_n 3, 1) := by decide +kernel
theorem d_Law_law_614 : decode i_Law_law.2.1 614 = .ok (.iconst 1, 1) := by decide +kernel
theorem d_Law_law_615 : decode i_Law_law.2.1 615 = .ok (.iadd, 1) := by decide +kernel
theorem d_Law_law_616 : decode i_Law_law.2.1 616 = .ok (.iaload, 1) := by decide +kernel
theorem d_Law_law_617 : decode i_Law_law.2.1 617 = .ok (.aload_n 0, 1) := by decide +kernel
theorem d_Law_law_618 : decode i_Law_law.2.1 618 = .ok (.iload_n 3, 1) := by decide +kernel
theorem d_Law_law_619 : decode i_Law_law.2.1 619 = .ok (.iconst 2, 1) := by decide +kernel
theorem d_Law_law_620 : decode i_Law_law.2.1 620 = .ok (.iadd, 1) := by decide +kernel
theorem d_Law_law_621 : decode i_Law_law.2.1 621 = .ok (.iaload, 1) := by decide +kernel
theorem d_Law_law_622 : decode i_Law_law.2.1 622 = .ok (.invokevirtual 78, 3) := by decide +kernel
theorem d_Law_law_625 : decode i_Law_law.2.1 625 = .ok (.aload_n 2, 1) := by decide +kernel
theorem d_Law_law_626 : decode i_Law_law.2.1 626 = .ok (.aload_n 0, 1) := by decide +kernel
theorem d_Law_law_627 : decode i_Law_law.2.1 627 = .ok (.iload_n 3, 1) := by decide +kernel
theorem d_Law_law_628 : decode i_Law_law.2.1 628 = .ok (.iconst 1, 1) := by decide +kernel
theorem d_Law_law_629 : decode i_Law_law.2.1 629 = .ok (.iadd, 1) := by decide +kernel
theorem d_Law_law_630 : decode i_Law_law.2.1 630 = .ok (.iaload, 1) := by decide +kernel
theorem d_Law_law_631 : decode i_Law_law.2.1 631 = .ok (.aload_n 0, 1) := by decide +kernel
theorem d_Law_law_632 : decode i_Law_law.2.1 632 = .ok (.iload_n 3, 1) := by decide +kernel
theorem d_Law_law_633 : decode i_Law_law.2.1 633 = .ok (.iconst 2, 1) := by decide +kernel
theorem d_Law_law_634 : decode i_Law_law.2.1 634 = .ok (.iadd, 1) := by decide +kernel
theorem d_Law_law_635 : decode i_Law_law.2.1 635 = .ok (.iaload, 1) := by decide +kernel
theorem d_Law_law_636 : decode i_Law_law.2.1 636 = .ok (.invokevirtual 81, 3) := by decide +kernel
theorem d_Law_law_639 : decode i_Law_law.2.1 639 = .ok (.if_icmp .eq 368, 3) := by decide +kernel
theorem d_Law_law_642 : decode i_Law_law.2.1 642 = .ok (.iconst 0, 1) := by decide +kernel
theorem d_Law_law_643 : decode i_Law_law.2.1 643 = .ok (.ireturn, 1) := by decide +kernel
theorem d_Law_law_644 : decode i_Law_law.2.1 644 = .ok (.aload_n 1, 1) := by decide +kernel
theorem d_Law_law_645 : decode i_Law_law.2.1 645 = .ok (.aload_n 0, 1) := by decide +kernel
theorem d_Law_law_646 : decode i_Law_law.2.1 646 = .ok (.iload_n 3, 1) := by decide +kernel
theorem d_Law_law_647 : decode i_Law_law.2.1 647 = .ok (.iconst 1, 1) := by decide +kernel
theorem d_Law_law_648 : decode i_Law_law.2.1 648 = .ok (.iadd, 1) := by decide +kernel
theorem d_Law_law_649 : decode i_Law_law.2.1 649 = .ok (.iaload, 1) := by decide +kernel
theorem d_Law_law_650 : decode i_Law_law.2.1 650 = .ok (.aload_n 0, 1) := by decide +kernel
theorem d_Law_law_651 : decode i_Law_law.2.1 651 = .ok (.iload_n 3, 1) := by decide +kernel
theorem d_Law_law_652 : decode i_Law_law.2.1 652 = .ok (.iconst 2, 1) := by decide +kernel
theorem d_Law_law_653 : decode i_Law_law.2.1 653 = .ok (.iadd, 1) := by decide +kernel
theorem d_Law_law_654 : decode i_Law_law.2.1 654 = .ok (.iaload, 1) := by decide +kernel
theorem d_Law_law_655 : decode i_Law_law.2.1 655 = .ok (.invokevirtual 82, 3) := by decide +kernel
theorem d_Law_law_658 : decode i_Law_law.2.1 658 = .ok (.aload_n 2, 1) := by decide +kernel
theorem d_Law_law_659 : decode i_Law_law.2.1 659 = .ok (.aload_n 0, 1) := by decide +kernel
theorem d_Law_law_660 : decode i_Law_law.2.1 660 = .ok (.iload_n 3, 1) := by decide +kernel
theorem d_Law_law_661 : decode i_Law_law.2.1 661 = .ok (.iconst 1, 1) := by decide +kernel
theorem d_Law_law_662 : decode i_Law_law.2.1 662 = .ok (.iadd, 1) := by decide +kernel
theorem d_Law_law_663 : decode i_Law_law.2.1 663 = .ok (.iaload, 1) := by decide +kernel
theorem d_Law_law_664 : decode i_Law_law.2.1 664 = .ok (.aload_n 0, 1) := by decide +kernel
theorem d_Law_law_665 : decode i_Law_law.2.1 665 = .ok (.iload_n 3, 1) := by decide +kernel
theorem d_Law_law_666 : decode i_Law_law.2.1 666 = .ok (.iconst 2, 1) := by decide +kernel
theorem d_Law_law_667 : decode i_Law_law.2.1 667 = .ok (.iadd, 1) := by decide +kernel
theorem d_Law_law_668 : decode i_Law_law.2.1 668 = .ok (.iaload, 1) := by decide +kernel
theorem d_Law_law_669 : decode i_Law_law.2.1 669 = .ok (.invokevirtual 85, 3) := by decide +kernel
theorem d_Law_law_672 : decode i_Law_law.2.1 672 = .ok (.if_icmp .eq 335, 3) := by decide +kernel
theorem d_Law_law_675 : decode i_Law_law.2.1 675 = .ok (.iconst 0, 1) := by decide +kernel
theorem d_Law_law_676 : decode i_Law_law.2.1 676 = .ok (.ireturn, 1) := by decide +kernel
theorem d_Law_law_677 : decode i_Law_law.2.1 677 = .ok (.aload_n 1, 1) := by decide +kernel
theorem d_Law_law_678 : decode i_Law_law.2.1 678 = .ok (.aload_n 0, 1) := by decide +kernel
theorem d_Law_law_679 : decode i_Law_law.2.1 679 = .ok (.iload_n 3, 1) := by decide +kernel
theorem d_Law_law_680 : decode i_Law_law.2.1 680 = .ok (.iconst 1, 1) := by decide +kernel
theorem d_Law_law_681 : decode i_Law_law.2.1 681 = .ok (.iadd, 1) := by decide +kernel
theorem d_Law_law_682 : decode i_Law_law.2.1 682 = .ok (.iaload, 1) := by decide +kernel
theorem d_Law_law_683 : decode i_Law_law.2.1 683 = .ok (.aload_n 0, 1) := by decide +kernel
theorem d_Law_law_684 : decode i_Law_law.2.1 684 = .ok (.iload_n 3, 1) := by decide +kernel
theorem d_Law_law_685 : decode i_Law_law.2.1 685 = .ok (.iconst 2, 1) := by decide +kernel
theorem d_Law_law_686 : decode i_Law_law.2.1 686 = .ok (.iadd, 1) := by decide +kernel
theorem d_Law_law_687 : decode i_Law_law.2.1 687 = .ok (.iaload, 1) := by decide +kernel
theorem d_Law_law_688 : decode i_Law_law.2.1 688 = .ok (.aload_n 0, 1) := by decide +kernel
theorem d_Law_law_689 : decode i_Law_law.2.1 689 = .ok (.iload_n 3, 1) := by decide +kernel
theorem d_Law_law_690 : decode i_Law_law.2.1 690 = .ok (.iconst 3, 1) := by decide +kernel
theorem d_Law_law_691 : decode i_Law_law.2.1 691 = .ok (.iadd, 1) := by decide +kernel
theorem d_Law_law_692 : decode i_Law_law.2.1 692 = .ok (.iaload, 1) := by decide +kernel
theorem d_Law_law_693 : decode i_Law_law.2.1 693 = .ok (.invokevirtual 86, 3) := by decide +kernel
theorem d_Law_law_696 : decode i_Law_law.2.1 696 = .ok (.aload_n 2, 1) := by decide +kernel
theorem d_Law_law_697 : decode i_Law_law.2.1 697 = .ok (.aload_n 0, 1) := by decide +kernel
theorem d_Law_law_698 : decode i_Law_law.2.1 698 = .ok (.iload_n 3, 1) := by decide +kernel
theorem d_Law_law_699 : decode i_Law_law.2.1 699 = .ok (.iconst 1, 1) := by decide +kernel
theorem d_Law_law_700 : decode i_Law_law.2.1 700 = .ok (.iadd, 1) := by decide +kernel
theorem d_Law_law_701 : decode i_Law_law.2.1 701 = .ok (.iaload, 1) := by decide +kernel
theorem d_Law_law_702 : decode i_Law_law.2.1 702 = .ok (.aload_n 0, 1) := by decide +kernel
theorem d_Law_law_703 : decode i_Law_law.2.1 703 = .ok (.iload_n 3, 1) := by decide +kernel
theorem d_Law_law_704 : decode i_Law_law.2.1 704 = .ok (.iconst 2, 1) := by decide +kernel
theorem d_Law_law_705 : decode i_Law_law.2.1 705 = .ok (.iadd, 1) := by decide +kernel
theorem d_Law_law_706 : decode i_Law_law.2.1 706 = .ok (.iaload, 1) := by decide +kernel
theorem d_Law_law_707 : decode i_Law_law.2.1 707 = .ok (.aload_n 0, 1) := by decide +kernel
theorem d_Law_law_708 : decode i_Law_law.2.1 708 = .ok (.iload_n 3, 1) := by decide +kernel
theorem d_Law_law_709 : decode i_Law_law.2.1 709 = .ok (.iconst 3, 1) := by decide +kernel
theorem d_Law_law_710 : decode i_Law_law.2.1 710 = .ok (.iadd, 1) := by decide +kernel
theorem d_Law_law_711 : decode i_Law_law.2.1 711 = .ok (.iaload, 1) := by decide +kernel
theorem d_Law_law_712 : decode i_Law_law.2.1 712 = .ok (.invokevirtual 89, 3) := by decide +kernel
theorem d_Law_law_715 : decode i_Law_law.2.1 715 = .ok (.if_icmp .eq 292, 3) := by decide +kernel
theorem d_Law_law_718 : decode i_Law_law.2.1 718 = .ok (.iconst 0, 1) := by decide +kernel
theorem d_Law_law_719 : decode i_Law_law.2.1 719 = .ok (.ireturn, 1) := by decide +kernel
theorem d_Law_law_720 : decode i_Law_law.2.1 720 = .ok (.aload_n 1, 1) := by decide +kernel
theorem d_Law_law_721 : decode i_Law_law.2.1 721 = .ok (.aload_n 0, 1) := by decide +kernel
theorem d_Law_law_722 : decode i_Law_law.2.1 722 = .ok (.iload_n 3, 1) := by decide +kernel
theorem d_Law_law_723 : decode i_Law_law.2.1 723 = .ok (.iconst 1, 1) := by decide +kernel
theorem d_Law_law_724 : decode i_Law_law.2.1 724 = .ok (.iadd, 1) := by decide +kernel
theorem d_Law_law_725 : decode i_Law_law.2.1 725 = .ok (.iaload, 1) := by decide +kernel
theorem d_Law_law_726 : decode i_Law_law.2.1 726 = .ok (.aload_n 0, 1) := by decide +kernel
theorem d_Law_law_727 : decode i_Law_law.2.1 727 = .ok (.iload_n 3, 1) := by decide +kernel
theorem d_Law_law_728 : decode i_Law_law.2.1 728 = .ok (.iconst 2, 1) := by decide +kernel
theorem d_Law_law_729 : decode i_Law_law.2.1 729 = .ok (.iadd, 1) := by decide +kernel
theorem d_Law_law_730 : decode i_Law_law.2.1 730 = .ok (.iaload, 1) := by decide +kernel
theorem d_Law_law_731 : decode i_Law_law.2.1 731 = .ok (.invokevirtual 90, 3) := by decide +kernel
theorem d_Law_law_734 : decode i_Law_law.2.1 734 = .ok (.aload_n 2, 1) := by decide +kernel
theorem d_Law_law_735 : decode i_Law_law.2.1 735 = .ok (.aload_n 0, 1) := by decide +kernel
theorem d_Law_law_736 : decode i_Law_law.2.1 736 = .ok (.iload_n 3, 1) := by decide +kernel
theorem d_Law_law_737 : decode i_Law_law.2.1 737 = .ok (.iconst 1, 1) := by decide +kernel
theorem d_Law_law_738 : decode i_Law_law.2.1 738 = .ok (.iadd, 1) := by decide +kernel
theorem d_Law_law_739 : decode i_Law_law.2.1 739 = .ok (.iaload, 1) := by decide +kernel
theorem d_Law_law_740 : decode i_Law_law.2.1 740 = .ok (.aload_n 0, 1) := by decide +kernel
theorem d_Law_law_741 : decode i_Law_law.2.1 741 = .ok (.iload_n 3, 1) := by decide +kernel
theorem d_Law_law_742 : decode i_Law_law.2.1 742 = .ok (.iconst 2, 1) := by decide +kernel
theorem d_Law_law_743 : decode i_Law_law.2.1 743 = .ok (.iadd, 1) := by decide +kernel
theorem d_Law_law_744 : decode i_Law_law.2.1 744 = .ok (.iaload, 1) := by decide +kernel
theorem d_Law_law_745 : decode i_Law_law.2.1 745 = .ok (.invokevirtual 93, 3) := by decide +kernel
theorem d_Law_law_748 : decode i_Law_law.2.1 748 = .ok (.if_icmp .eq 259, 3) := by decide +kernel
theorem d_Law_law_751 : decode i_Law_law.2.1 751 = .ok (.iconst 0, 1) := by decide +kernel
theorem d_Law_law_752 : decode i_Law_law.2.1 752 = .ok (.ireturn, 1) := by decide +kernel
theorem d_Law_law_753 : decode i_Law_law.2.1 753 = .ok (.aload_n 1, 1) := by decide +kernel
theorem d_Law_law_754 : decode i_Law_law.2.1 754 = .ok (.aload_n 0, 1) := by decide +kernel
theorem d_Law_law_755 : decode i_Law_law.2.1 755 = .ok (.iload_n 3, 1) := by decide +kernel
theorem d_Law_law_756 : decode i_Law_law.2.1 756 = .ok (.iconst 1, 1) := by decide +kernel
theorem d_Law_law_757 : decode i_Law_law.2.1 757 = .ok (.iadd, 1) := by decide +kernel
theorem d_Law_law_758 : decode i_Law_law.2.1 758 = .ok (.iaload, 1) := by decide +kernel
theorem d_Law_law_759 : decode i_Law_law.2.1 759 = .ok (.aload_n 0, 1) := by decide +kernel
theorem d_Law_law_760 : decode i_Law_law.2.1 760 = .ok (.iload_n 3, 1) := by decide +kernel
theorem d_Law_law_761 : decode i_Law_law.2.1 761 = .ok (.iconst 2, 1) := by decide +kernel
theorem d_Law_law_762 : decode i_Law_law.2.1 762 = .ok (.iadd, 1) := by decide +kernel
theorem d_Law_law_763 : decode i_Law_law.2.1 763 = .ok (.iaload, 1) := by decide +kernel
theorem d_Law_law_764 : decode i_Law_law.2.1 764 = .ok (.aload_n 0, 1) := by decide +kernel
theorem d_Law_law_765 : decode i_Law_law.2.1 765 = .ok (.iload_n 3, 1) := by decide +kernel
theorem d_Law_law_766 : decode i_Law_law.2.1 766 = .ok (.iconst 3, 1) := by decide +kernel
theorem d_Law_law_767 : decode i_Law_law.2.1 767 = .ok (.iadd, 1) := by decide +kernel
theorem d_Law_law_768 : decode i_Law_law.2.1 768 = .ok (.iaload, 1) := by decide +kernel
theorem d_Law_law_769 : decode i_Law_law.2.1 769 = .ok (.aload_n 0, 1) := by decide +kernel
theorem d_Law_law_770 : decode i_Law_law.2.1 770 = .ok (.iload_n 3, 1) := by decide +kernel
theorem d_Law_law_771 : decode i_Law_law.2.1 771 = .ok (.iconst 4, 1) := by decide +kernel
theorem d_Law_law_772 : decode i_Law_law.2.1 772 = .ok (.iadd, 1) := by decide +kernel
theorem d_Law_law_773 : decode i_Law_law.2.1 773 = .ok (.iaload, 1) := by decide +kernel
theorem d_Law_law_774 : decode i_Law_law.2.1 774 = .ok (.invokevirtual 94, 3) := by decide +kernel
theorem d_Law_law_777 : decode i_Law_law.2.1 777 = .ok (.aload_n 2, 1) := by decide +kernel
theorem d_Law_law_778 : decode i_Law_law.2.1 778 = .ok (.aload_n 0, 1) := by decide +kernel
theorem d_Law_law_779 : decode i_Law_law.2.1 779 = .ok (.iload_n 3, 1) := by decide +kernel
theorem d_Law_law_780 : decode i_Law_law.2.1 780 = .ok (.iconst 1, 1) := by decide +kernel
theorem d_Law_law_781 : decode i_Law_law.2.1 781 = .ok (.iadd, 1) := by decide +kernel
theorem d_Law_law_782 : decode i_Law_law.2.1 782 = .ok (.iaload, 1) := by decide +kernel
theorem d_Law_law_783 : decode i_Law_law.2.1 783 = .ok (.aload_n 0, 1) := by decide +kernel
theorem d_Law_law_784 : decode i_Law_law.2.1 784 = .ok (.iload_n 3, 1) := by decide +kernel
theorem d_Law_law_785 : decode i_Law_law.2.1 785 = .ok (.iconst 2, 1) := by decide +kernel
theorem d_Law_law_786 : decode i_Law_law.2.1 786 = .ok (.iadd, 1) := by decide +kernel
theorem d_Law_law_787 : decode i_Law_law.2.1 787 = .ok (.iaload, 1) := by decide +kernel
theorem d_Law_law_788 : decode i_Law_law.2.1 788 = .ok (.aload_n 0, 1) := by decide +kernel
theorem d_Law_law_789 : decode i_Law_law.2.1 789 = .ok (.iload_n 3, 1) := by decide +kernel
theorem d_Law_law_790 : decode i_Law_law.2.1 790 = .ok (.iconst 3, 1) := by decide +kernel
theorem d_Law_law_791 : decode i_Law_law.2.1 791 = .ok (.iadd, 1) := by decide +kernel
theorem d_Law_law_792 : decode i_Law_law.2.1 792 = .ok (.iaload, 1) := by decide +kernel
theorem d_Law_law_793 : decode i_Law_law.2.1 793 = .ok (.aload_n 0, 1) := by decide +kernel
theorem d_Law_law_794 : decode i_Law_law.2.1 794 = .ok (.iload_n 3, 1) := by decide +kernel
theorem d_Law_law_795 : decode i_Law_law.2.1 795 = .ok (.iconst 4, 1) := by decide +kernel
theorem d_Law_law_796 : decode i_Law_law.2.1 796 = .ok (.iadd, 1) := by decide +kernel
theorem d_Law_law_797 : decode i_Law_law.2.1 797 = .ok (.iaload, 1) := by decide +kernel
theorem d_Law_law_798 : decode i_Law_law.2.1 798 = .ok (.invokevirtual 98, 3) := by decide +kernel
theorem d_Law_law_801 : decode i_Law_law.2.1 801 = .ok (.if_icmp .eq 206, 3) := by decide +kernel
theorem d_Law_law_804 : decode i_Law_law.2.1 804 = .ok (.iconst 0, 1) := by decide +kernel
theorem d_Law_law_805 : decode i_Law_law.2.1 805 = .ok (.ireturn, 1) := by decide +kernel
theorem d_Law_law_806 : decode i_Law_law.2.1 806 = .ok (.aload_n 1, 1) := by decide +kernel
theorem d_Law_law_807 : decode i_Law_law.2.1 807 = .ok (.aload_n 0, 1) := by decide +kernel
theorem d_Law_law_808 : decode i_Law_law.2.1 808 = .ok (.iload_n 3, 1) := by decide +kernel
theorem d_Law_law_809 : decode i_Law_law.2.1 809 = .ok (.iconst 1, 1) := by decide +kernel
theorem d_Law_law_810 : decode i_Law_law.2.1 810 = .ok (.iadd, 1) := by decide +kernel
theorem d_Law_law_811 : decode i_Law_law.2.1 811 = .ok (.iaload, 1) := by decide +kernel
theorem d_Law_law_812 : decode i_Law_law.2.1 812 = .ok (.aload_n 0, 1) := by decide +kernel
theorem d_Law_law_813 : decode i_Law_law.2.1 813 = .ok (.iload_n 3, 1) := by decide +kernel
theorem d_Law_law_814 : decode i_Law_law.2.1 814 = .ok (.iconst 2, 1) := by decide +kernel
theorem d_Law_law_815 : decode i_Law_law.2.1 815 = .ok (.iadd, 1) := by decide +kernel
theorem d_Law_law_816 : decode i_Law_law.2.1 816 = .ok (.iaload, 1) := by decide +kernel
theorem d_Law_law_817 : decode i_Law_law.2.1 817 = .ok (.aload_n 0, 1) := by decide +kernel
theorem d_Law_law_818 : decode i_Law_law.2.1 818 = .ok (.iload_n 3, 1) := by decide +kernel
theorem d_Law_law_819 : decode i_Law_law.2.1 819 = .ok (.iconst 3, 1) := by decide +kernel
theorem d_Law_law_820 : decode i_Law_law.2.1 820 = .ok (.iadd, 1) := by decide +kernel
theorem d_Law_law_821 : decode i_Law_law.2.1 821 = .ok (.iaload, 1) := by decide +kernel
theorem d_Law_law_822 : decode i_Law_law.2.1 822 = .ok (.aload_n 0, 1) := by decide +kernel
theorem d_Law_law_823 : decode i_Law_law.2.1 823 = .ok (.iload_n 3, 1) := by decide +kernel
theorem d_Law_law_824 : decode i_Law_law.2.1 824 = .ok (.iconst 4, 1) := by decide +kernel
theorem d_Law_law_825 : decode i_Law_law.2.1 825 = .ok (.iadd, 1) := by decide +kernel
theorem d_Law_law_826 : decode i_Law_law.2.1 826 = .ok (.iaload, 1) := by decide +kernel
theorem d_Law_law_827 : decode i_Law_law.2.1 827 = .ok (.invokevirtual 99, 3) := by decide +kernel
theorem d_Law_law_830 : decode i_Law_law.2.1 830 = .ok (.aload_n 2, 1) := by decide +kernel
theorem d_Law_law_831 : decode i_Law_law.2.1 831 = .ok (.aload_n 0, 1) := by decide +kernel
theorem d_Law_law_832 : decode i_Law_law.2.1 832 = .ok (.iload_n 3, 1) := by decide +kernel
theorem d_Law_law_833 : decode i_Law_law.2.1 833 = .ok (.iconst 1, 1) := by decide +kernel
theorem d_Law_law_834 : decode i_Law_law.2.1 834 = .ok (.iadd, 1) := by decide +kernel
theorem d_Law_law_835 : decode i_Law_law.2.1 835 = .ok (.iaload, 1) := by decide +kernel
theorem d_Law_law_836 : decode i_Law_law.2.1 836 = .ok (.aload_n 0, 1) := by decide +kernel
theorem d_Law_law_837 : decode i_Law_law.2.1 837 = .ok (.iload_n 3, 1) := by decide +kernel
theorem d_Law_law_838 : decode i_Law_law.2.1 838 = .ok (.iconst 2, 1) := by decide +kernel
theorem d_Law_law_839 : decode i_Law_law.2.1 839 = .ok (.iadd, 1) := by decide +kernel
theorem d_Law_law_840 : decode i_Law_law.2.1 840 = .ok (.iaload, 1) := by decide +kernel
theorem d_Law_law_841 : decode i_Law_law.2.1 841 = .ok (.aload_n 0, 1) := by decide +kernel
theorem d_Law_law_842 : decode i_Law_law.2.1 842 = .ok (.iload_n 3, 1) := by decide +kernel
theorem d_Law_law_843 : decode i_Law_law.2.1 843 = .ok (.iconst 3, 1) := by decide +kernel
theorem d_Law_law_844 : decode i_Law_law.2.1 844 = .ok (.iadd, 1) := by decide +kernel
theorem d_Law_law_845 : decode i_Law_law.2.1 845 = .ok (.iaload, 1) := by decide +kernel
theorem d_Law_law_846 : decode i_Law_law.2.1 846 = .ok (.aload_n 0, 1) := by decide +kernel
theorem d_Law_law_847 : decode i_Law_law.2.1 847 = .ok (.iload_n 3, 1) := by decide +kernel
theorem d_Law_law_848 : decode i_Law_law.2.1 848 = .ok (.iconst 4, 1) := by decide +kernel
theorem d_Law_law_849 : decode i_Law_law.2.1 849 = .ok (.iadd, 1) := by decide +kernel
theorem d_Law_law_850 : decode i_Law_law.2.1 850 = .ok (.iaload, 1) := by decide +kernel
theorem d_Law_law_851 : decode i_Law_law.2.1 851 = .ok (.invokevirtual 102, 3) := by decide +kernel
theorem d_Law_law_854 : decode i_Law_law.2.1 854 = .ok (.if_icmp .eq 153, 3) := by decide +kernel
theorem d_Law_law_857 : decode i_Law_law.2.1 857 = .ok (.iconst 0, 1) := by decide +kernel
theorem d_Law_law_858 : decode i_Law_law.2.1 858 = .ok (.ireturn, 1) := by decide +kernel
theorem d_Law_law_859 : decode i_Law_law.2.1 859 = .ok (.aload_n 1, 1) := by decide +kernel
theorem d_Law_law_860 : decode i_Law_law.2.1 860 = .ok (.aload_n 0, 1) := by decide +kernel
theorem d_Law_law_861 : decode i_Law_law.2.1 861 = .ok (.iload_n 3, 1) := by decide +kernel
theorem d_Law_law_862 : decode i_Law_law.2.1 862 = .ok (.iconst 1, 1) := by decide +kernel
theorem d_Law_law_863 : decode i_Law_law.2.1 863 = .ok (.iadd, 1) := by decide +kernel
theorem d_Law_law_864 : decode i_Law_law.2.1 864 = .ok (.iaload, 1) := by decide +kernel
theorem d_Law_law_865 : decode i_Law_law.2.1 865 = .ok (.aload_n 0, 1) := by decide +kernel
theorem d_Law_law_866 : decode i_Law_law.2.1 866 = .ok (.iload_n 3, 1) := by decide +kernel
theorem d_Law_law_867 : decode i_Law_law.2.1 867 = .ok (.iconst 2, 1) := by decide +kernel
theorem d_Law_law_868 : decode i_Law_law.2.1 868 = .ok (.iadd, 1) := by decide +kernel
theorem d_Law_law_869 : decode i_Law_law.2.1 869 = .ok (.iaload, 1) := by decide +kernel
theorem d_Law_law_870 : decode i_Law_law.2.1 870 = .ok (.invokevirtual 103, 3) := by decide +kernel
theorem d_Law_law_873 : decode i_Law_law.2.1 873 = .ok (.aload_n 2, 1) := by decide +kernel
theorem d_Law_law_874 : decode i_Law_law.2.1 874 = .ok (.aload_n 0, 1) := by decide +kernel
theorem d_Law_law_875 : decode i_Law_law.2.1 875 = .ok (.iload_n 3, 1) := by decide +kernel
theorem d_Law_law_876 : decode i_Law_law.2.1 876 = .ok (.iconst 1, 1) := by decide +kernel
theorem d_Law_law_877 : decode i_Law_law.2.1 877 = .ok (.iadd, 1) := by decide +kernel
theorem d_Law_law_878 : decode i_Law_law.2.1 878 = .ok (.iaload, 1) := by decide +kernel
theorem d_Law_law_879 : decode i_Law_law.2.1 879 = .ok (.aload_n 0, 1) := by decide +kernel
theorem d_Law_law_880 : decode i_Law_law.2.1 880 = .ok (.iload_n 3, 1) := by decide +kernel
theorem d_Law_law_881 : decode i_Law_law.2.1 881 = .ok (.iconst 2, 1) := by decide +kernel
theorem d_Law_law_882 : decode i_Law_law.2.1 882 = .ok (.iadd, 1) := by decide +kernel
theorem d_Law_law_883 : decode i_Law_law.2.1 883 = .ok (.iaload, 1) := by decide +kernel
theorem d_Law_law_884 : decode i_Law_law.2.1 884 = .ok (.invokevirtual 106, 3) := by decide +kernel
theorem d_Law_law_887 : decode i_Law_law.2.1 887 = .ok (.if_icmp .eq 120, 3) := by decide +kernel
theorem d_Law_law_890 : decode i_Law_law.2.1 890 = .ok (.iconst 0, 1) := by decide +kernel
theorem d_Law_law_891 : decode i_Law_law.2.1 891 = .ok (.ireturn, 1) := by decide +kernel
theorem d_Law_law_892 : decode i_Law_law.2.1 892 = .ok (.aload_n 1, 1) := by decide +kernel
theorem d_Law_law_893 : decode i_Law_law.2.1 893 = .ok (.aload_n 0, 1) := by decide +kernel
theorem d_Law_law_894 : decode i_Law_law.2.1 894 = .ok (.iload_n 3, 1) := by decide +kernel
theorem d_Law_law_895 : decode i_Law_law.2.1 895 = .ok (.iconst 1, 1) := by decide +kernel
theorem d_Law_law_896 : decode i_Law_law.2.1 896 = .ok (.iadd, 1) := by decide +kernel
theorem d_Law_law_897 : decode i_Law_law.2.1 897 = .ok (.iaload, 1) := by decide +kernel
theorem d_Law_law_898 : decode i_Law_law.2.1 898 = .ok (.invokevirtual 107, 3) := by decide +kernel
theorem d_Law_law_901 : decode i_Law_law.2.1 901 = .ok (.aload_n 2, 1) := by decide +kernel
theorem d_Law_law_902 : decode i_Law_law.2.1 902 = .ok (.aload_n 0, 1) := by decide +kernel
theorem d_Law_law_903 : decode i_Law_law.2.1 903 = .ok (.iload_n 3, 1) := by decide +kernel
theorem d_Law_law_904 : decode i_Law_law.2.1 904 = .ok (.iconst 1, 1) := by decide +kernel
theorem d_Law_law_905 : decode i_Law_law.2.1 905 = .ok (.iadd, 1) := by decide +kernel
theorem d_Law_law_906 : decode i_Law_law.2.1 906 = .ok (.iaload, 1) := by decide +kernel
theorem d_Law_law_907 : decode i_Law_law.2.1 907 = .ok (.invokevirtual 110, 3) := by decide +kernel
theorem d_Law_law_910 : decode i_Law_law.2.1 910 = .ok (.if_icmp .eq 97, 3) := by decide +kernel
theorem d_Law_law_913 : decode i_Law_law.2.1 913 = .ok (.iconst 0, 1) := by decide +kernel
theorem d_Law_law_914 : decode i_Law_law.2.1 914 = .ok (.ireturn, 1) := by decide +kernel
theorem d_Law_law_915 : decode i_Law_law.2.1 915 = .ok (.aload_n 1, 1) := by decide +kernel
theorem d_Law_law_916 : decode i_Law_law.2.1 916 = .ok (.aload_n 0, 1) := by decide +kernel
theorem d_Law_law_917 : decode i_Law_law.2.1 917 = .ok (.iload_n 3, 1) := by decide +kernel
theorem d_Law_law_918 : decode i_Law_law.2.1 918 = .ok (.iconst 1, 1) := by decide +kernel
theorem d_Law_law_919 : decode i_Law_law.2.1 919 = .ok (.iadd, 1) := by decide +kernel
theorem d_Law_law_920 : decode i_Law_law.2.1 920 = .ok (.iaload, 1) := by decide +kernel
theorem d_Law_law_921 : decode i_Law_law.2.1 921 = .ok (.invokevirtual 111, 3) := by decide +kernel
theorem d_Law_law_924 : decode i_Law_law.2.1 924 = .ok (.aload_n 2, 1) := by decide +kernel
theorem d_Law_law_925 : decode i_Law_law.2.1 925 = .ok (.aload_n 0, 1) := by decide +kernel
theorem d_Law_law_926 : decode i_Law_law.2.1 926 = .ok (.iload_n 3, 1) := by decide +kernel
theorem d_Law_law_927 : decode i_Law_law.2.1 927 = .ok (.iconst 1, 1) := by decide +kernel
theorem d_Law_law_928 : decode i_Law_law.2.1 928 = .ok (.iadd, 1) := by decide +kernel
theorem d_Law_law_929 : decode i_Law_law.2.1 929 = .ok (.iaload, 1) := by decide +kernel
theorem d_Law_law_930 : decode i_Law_law.2.1 930 = .ok (.invokevirtual 114, 3) := by decide +kernel
theorem d_Law_law_933 : decode i_Law_law.2.1 933 = .ok (.if_icmp .eq 74, 3) := by decide +kernel
theorem d_Law_law_936 : decode i_Law_law.2.1 936 = .ok (.iconst 0, 1) := by decide +kernel
theorem d_Law_law_937 : decode i_Law_law.2.1 937 = .ok (.ireturn, 1) := by decide +kernel
theorem d_Law_law_938 : decode i_Law_law.2.1 938 = .ok (.aload_n 1, 1) := by decide +kernel
theorem d_Law_law_939 : decode i_Law_law.2.1 939 = .ok (.aload_n 0, 1) := by decide +kernel
theorem d_Law_law_940 : decode i_Law_law.2.1 940 = .ok (.iload_n 3, 1) := by decide +kernel
theorem d_Law_law_941 : decode i_Law_law.2.1 941 = .ok (.iconst 1, 1) := by decide +kernel
theorem d_Law_law_942 : decode i_Law_law.2.1 942 = .ok (.iadd, 1) := by decide +kernel
theorem d_Law_law_943 : decode i_Law_law.2.1 943 = .ok (.iaload, 1) := by decide +kernel
theorem d_Law_law_944 : decode i_Law_law.2.1 944 = .ok (.invokevirtual 115, 3) := by decide +kernel
theorem d_Law_law_947 : decode i_Law_law.2.1 947 = .ok (.aload_n 2, 1) := by decide +kernel
theorem d_Law_law_948 : decode i_Law_law.2.1 948 = .ok (.aload_n 0, 1) := by decide +kernel
theorem d_Law_law_949 : decode i_Law_law.2.1 949 = .ok (.iload_n 3, 1) := by decide +kernel
theorem d_Law_law_950 : decode i_Law_law.2.1 950 = .ok (.iconst 1, 1) := by decide +kernel
theorem d_Law_law_951 : decode i_Law_law.2.1 951 = .ok (.iadd, 1) := by decide +kernel
theorem d_Law_law_952 : decode i_Law_law.2.1 952 = .ok (.iaload, 1) := by decide +kernel
theorem d_Law_law_953 : decode i_Law_law.2.1 953 = .ok (.invokevirtual 118, 3) := by decide +kernel
theorem d_Law_law_956 : decode i_Law_law.2.1 956 = .ok (.if_icmp .eq 51, 3) := by decide +kernel
theorem d_Law_law_959 : decode i_Law_law.2.1 959 = .ok (.iconst 0, 1) := by decide +kernel
theorem d_Law_law_960 : decode i_Law_law.2.1 960 = .ok (.ireturn, 1) := by decide +kernel
theorem d_Law_law_961 : decode i_Law_law.2.1 961 = .ok (.aload_n 1, 1) := by decide +kernel
theorem d_Law_law_962 : decode i_Law_law.2.1 962 = .ok (.aload_n 0, 1) := by decide +kernel
theorem d_Law_law_963 : decode i_Law_law.2.1 963 = .ok (.iload_n 3, 1) := by decide +kernel
theorem d_Law_law_964 : decode i_Law_law.2.1 964 = .ok (.iconst 1, 1) := by decide +kernel
theorem d_Law_law_965 : decode i_Law_law.2.1 965 = .ok (.iadd, 1) := by decide +kernel
theorem d_Law_law_966 : decode i_Law_law.2.1 966 = .ok (.iaload, 1) := by decide +kernel
theorem d_Law_law_967 : decode i_Law_law.2.1 967 = .ok (.invokevirtual 119, 3) := by decide +kernel
theorem d_Law_law_970 : decode i_Law_law.2.1 970 = .ok (.aload_n 2, 1) := by decide +kernel
theorem d_Law_law_971 : decode i_Law_law.2.1 971 = .ok (.aload_n 0, 1) := by decide +kernel
theorem d_Law_law_972 : decode i_Law_law.2.1 972 = .ok (.iload_n 3, 1) := by decide +kernel
theorem d_Law_law_973 : decode i_Law_law.2.1 973 = .ok (.iconst 1, 1) := by decide +kernel
theorem d_Law_law_974 : decode i_Law_law.2.1 974 = .ok (.iadd, 1) := by decide +kernel
theorem d_Law_law_975 : decode i_Law_law.2.1 975 = .ok (.iaload, 1) := by decide +kernel
theorem d_Law_law_976 : decode i_Law_law.2.1 976 = .ok (.invokevirtual 122, 3) := by decide +kernel
theorem d_Law_law_979 : decode i_Law_law.2.1 979 = .ok (.if_icmp .eq 28, 3) := by decide +kernel
theorem d_Law_law_982 : decode i_Law_law.2.1 982 = .ok (.iconst 0, 1) := by decide +kernel
theorem d_Law_law_983 : decode i_Law_law.2.1 983 = .ok (.ireturn, 1) := by decide +kernel
theorem d_Law_law_984 : decode i_Law_law.2.1 984 = .ok (.aload_n 1, 1) := by decide +kernel
theorem d_Law_law_985 : decode i_Law_law.2.1 985 = .ok (.aload_n 0, 1) := by decide +kernel
theorem d_Law_law_986 : decode i_Law_law.2.1 986 = .ok (.iload_n 3, 1) := by decide +kernel
theorem d_Law_law_987 : decode i_Law_law.2.1 987 = .ok (.iconst 1, 1) := by decide +kernel
theorem d_Law_law_988 : decode i_Law_law.2.1 988 = .ok (.iadd, 1) := by decide +kernel
theorem d_Law_law_989 : decode i_Law_law.2.1 989 = .ok (.iaload, 1) := by decide +kernel
theorem d_Law_law_990 : decode i_Law_law.2.1 990 = .ok (.invokevirtual 123, 3) := by decide +kernel
theorem d_Law_law_993 : decode i_Law_law.2.1 993 = .ok (.aload_n 2, 1) := by decide +kernel
theorem d_Law_law_994 : decode i_Law_law.2.1 994 = .ok (.aload_n 0, 1) := by decide +kernel
theorem d_Law_law_995 : decode i_Law_law.2.1 995 = .ok (.iload_n 3, 1) := by decide +kernel
theorem d_Law_law_996 : decode i_Law_law.2.1 996 = .ok (.iconst 1, 1) := by decide +kernel
theorem d_Law_law_997 : decode i_Law_law.2.1 997 = .ok (.iadd, 1) := by decide +kernel
theorem d_Law_law_998 : decode i_Law_law.2.1 998 = .ok (.iaload, 1) := by decide +kernel
theorem d_Law_law_999 : decode i_Law_law.2.1 999 = .ok (.invokevirtual 126, 3) := by decide +kernel
theorem d_Law_law_1002 : decode i_Law_law.2.1 1002 = .ok (.if_icmp .eq 5, 3) := by decide +kernel
theorem d_Law_law_1005 : decode i_Law_law.2.1 1005 = .ok (.iconst 0, 1) := by decide +kernel
theorem d_Law_law_1006 : decode i_Law_law.2.1 1006 = .ok (.ireturn, 1) := by decide +kernel
theorem d_Law_law_1007 : decode i_Law_law.2.1 1007 = .ok (.iinc 3 6, 3) := by decide +kernel
theorem d_Law_law_1010 : decode i_Law_law.2.1 1010 = .ok (.goto (-992), 3) := by decide +kernel
theorem d_Law_law_1013 : decode i_Law_law.2.1 1013 = .ok (.iconst 1, 1) := by decide +kernel
theorem d_Law_law_1014 : decode i_Law_law.2.1 1014 = .ok (.ireturn, 1) := by decide +kernel
end
section
/-! calls that make nothing; reaching -/
section AWMore
variable {V : VV} {I : MI} {R : Room} {Qf : QF} {n0 z0 pc : Nat} {lv : List (Option Value)} {st : List Value} {h : AH} {n z : Nat}
theorem a_fit (k : n ≤ n0 + R.cells → z ≤ z0 + R.slots → AW V I R Qf n0 z0 pc lv st h n z) : AW V I R Qf n0 z0 pc lv st h n z := by
  intro p l e s m args below meth c H locs ls X hS hP hL h1 h2 h3 h4
  exact k h2 h4 p l e s m args below meth c H locs ls X hS hP hL h1 h2 h3 h4
theorem a_cs0 {J : MI} {np d idx : Nat} {As rest st0 : List Value} {r : Option Value} {h' : AH} (dg : decode I.2.1 pc = .ok (.invokestatic idx, 3)) (mc : MC J np) (hs : Cond.static J.1 ∈ WT) (ml : Cond.methodLink I.1.cls idx J.1 ∈ WT) (hM : AMet V J d As h n z r h' n z) (hst : As.reverse ++ rest = st0) (hp : As.length = np) (hR : d + 1 ≤ R.frames ∧ 8 + (J.2.2.1 + 11) + 40 * d ≤ R.locals) (h8 : (rest.map fun v => v.category).sum ≤ 8)
    (k : AW V I R Qf n0 z0 (pc + 3) lv (r.toList ++ rest) h' n z) : AW V I R Qf n0 z0 pc lv st0 h n z :=
  a_fit fun q1 q2 => a_cs dg mc hs ml hM hst hp hR h8 q1 q2 k
theorem a_cv0 {J : MI} {np d idx j a : Nat} {fs : List Value} {q : vw_C} {As rest st0 : List Value} {r : Option Value} {h' : AH} (dg : decode I.2.1 pc = .ok (.invokevirtual idx, 3)) (mc : MC J np) (hs : Cond.instanceMethod J.1 ∈ WT ∧ Cond.selects J.1.cls J.1 J.1 ∈ WT) (ml : Cond.methodLink I.1.cls idx J.1 ∈ WT) (hg : h a = .inr (j, fs)) (hc : vwCl[j]? = some q) (hq : q.1 = J.1.cls) (hM : AMet V J d (.ref a :: As) h n z r h' n z) (hst : As.reverse ++ .ref a :: rest = st0) (hp : As.length = np) (hR : d + 1 ≤ R.frames ∧ 8 + (J.2.2.1 + 11) + 40 * d ≤ R.locals) (h8 : (rest.map fun v => v.category).sum ≤ 8)
    (k : AW V I R Qf n0 z0 (pc + 3) lv (r.toList ++ rest) h' n z) : AW V I R Qf n0 z0 pc lv st0 h n z :=
  a_fit fun q1 q2 => a_cv dg mc hs ml hg hc hq hM hst hp hR h8 q1 q2 k
end AWMore
theorem sw_cases (x : Int32) (hi : Nat) (h : hi < 100) : (x.toInt < 0 ∨ (hi : Int) < x.toInt) ∨ ∃ j : Nat, j ≤ hi ∧ x = nI j := by
  by_cases h1 : x.toInt < 0
  · exact Or.inl (Or.inl h1)
  · by_cases h2 : (hi : Int) < x.toInt
    · exact Or.inl (Or.inr h2)
    · refine Or.inr ⟨x.toInt.toNat, by omega, ?_⟩
      apply Int32.toInt_inj.mp
      rw [nI_toInt (by omega)]
      omega
/-- from one place of a method's walk to another -/
def Rc (V : VV) (I : MI) (d : Nat) (pc : Nat) (lv : List (Option Value)) (st : List Value) (h : AH) (n z : Nat) (pc' : Nat) (lv' : List (Option Value)) (st' : List Value) (h' : AH) (n' z' : Nat) : Prop :=
  ∀ (mc ms : Nat) (Qf : QF) (n0 z0 : Nat), n' ≤ n0 + mc → z' ≤ z0 + ms → AW V I (RmM d mc ms) Qf n0 z0 pc' lv' st' h' n' z' → AW V I (RmM d mc ms) Qf n0 z0 pc lv st h n z
theorem Rc.rfl {V : VV} {I : MI} {d pc : Nat} {lv : List (Option Value)} {st : List Value} {h : AH} {n z : Nat} : Rc V I d pc lv st h n z pc lv st h n z := fun _ _ _ _ _ _ _ k => k
theorem Rc.use {V : VV} {I : MI} {d pc : Nat} {lv : List (Option Value)} {st : List Value} {h : AH} {n z : Nat} {pc' : Nat} {lv' : List (Option Value)} {st' : List Value} {h' : AH} {mc ms : Nat} {Qf : QF} {n0 z0 : Nat} (r : Rc V I d pc lv st h n z pc' lv' st' h' n z) (k : AW V I (RmM d mc ms) Qf n0 z0 pc' lv' st' h' n z) : AW V I (RmM d mc ms) Qf n0 z0 pc lv st h n z :=
  a_fit fun q1 q2 => r mc ms Qf n0 z0 q1 q2 k
theorem Rc.trans {V : VV} {I : MI} {d pc : Nat} {lv : List (Option Value)} {st : List Value} {h : AH} {n z : Nat} {pc' : Nat} {lv' : List (Option Value)} {st' : List Value} {h' : AH} {pc2 : Nat} {lv2 : List (Option Value)} {st2 : List Value} {h2 : AH} (r : Rc V I d pc lv st h n z pc' lv' st' h' n z) (r2 : Rc V I d pc' lv' st' h' n z pc2 lv2 st2 h2 n z) : Rc V I d pc lv st h n z pc2 lv2 st2 h2 n z :=
  fun mc ms Qf n0 z0 q1 q2 k => r mc ms Qf n0 z0 q1 q2 (r2 mc ms Qf n0 z0 q1 q2 k)
theorem Rc.met {V : VV} {I : MI} {d : Nat} {av : List Value} {h : AH} {n z : Nat} {r : Option Value} {h' : AH} {n' z' : Nat} {lv : List (Option Value)} {pc' : Nat} {lv' : List (Option Value)} {st' : List Value} {h1 : AH} {n1 z1 : Nat} (rc : Rc V I d 0 lv [] h n z pc' lv' st' h1 n1 z1) (hn : n ≤ n') (hz : z ≤ z') (hn1 : n1 ≤ n') (hz1 : z1 ≤ z') (hy : plainName I.1.cls = true) (hl : (lvE av).length ≤ I.2.2.1) (hlv : lvE av ++ List.replicate (I.2.2.1 - (lvE av).length) none = lv)
    (k : AM V I d n z r h' n' z' pc' lv' st' h1 n1 z1) : AMet V I d av h n z r h' n' z' :=
  AMet.intro hn hz hy hl hlv (rc _ _ _ _ _ (by omega) (by omega) k)
/-! ints as whole numbers -/
def iI (z : Int) : Int32 := Int32.ofInt z
theorem iI_toInt {z : Int} (h1 : -2147483648 ≤ z) (h2 : z < 2147483648) : (iI z).toInt = z := Int32.toInt_ofInt_of_le (by simpa using h1) (by simpa using h2)
theorem iI_of (x : Int32) : iI x.toInt = x := Int32.ofInt_toInt x
theorem iI_add (a b : Int) : iI a + iI b = iI (a + b) := (Int32.ofInt_add a b).symm
theorem iI_sub (a b : Int) : iI a - iI b = iI (a - b) := (Int32.ofInt_sub a b).symm
theorem iI_mul (a b : Int) : iI a * iI b = iI (a * b) := (Int32.ofInt_mul a b).symm
theorem iI_neg (a : Int) : - iI a = iI (-a) := (Int32.ofInt_neg a).symm
theorem iI_nat (n : Nat) : nI n = iI n := by
  apply Int32.toInt_inj.mp
  simp [nI, iI]
theorem iI_lt {a b : Int} (h1 : -2147483648 ≤ a) (h2 : a < 2147483648) (h3 : -2147483648 ≤ b) (h4 : b < 2147483648) : iI a < iI b ↔ a < b := by
  rw [Int32.lt_iff_toInt_lt, iI_toInt h1 h2, iI_toInt h3 h4]
theorem iI_le {a b : Int} (h1 : -2147483648 ≤ a) (h2 : a < 2147483648) (h3 : -2147483648 ≤ b) (h4 : b < 2147483648) : iI a ≤ iI b ↔ a ≤ b := by
  rw [Int32.le_iff_toInt_le, iI_toInt h1 h2, iI_toInt h3 h4]
theorem iI_eq {a b : Int} (h1 : -2147483648 ≤ a) (h2 : a < 2147483648) (h3 : -2147483648 ≤ b) (h4 : b < 2147483648) : iI a = iI b ↔ a = b := by
  rw [← Int32.toInt_inj, iI_toInt h1 h2, iI_toInt h3 h4]
theorem iI_cl {a : Int} (h1 : 0 ≤ a) (h2 : a < 2147483648) : (iI a).toNatClampNeg = a.toNat := by
  rw [Int32.toNatClampNeg, iI_toInt (by omega) h2]
theorem iI_in {a : Int} {N : Nat} (h1 : 0 ≤ a) (h2 : a < N) (h3 : a < 2147483648) : vp_in (iI a) N := by
  rw [vp_in_iff, iI_toInt (by omega) h3]
  exact ⟨h1, h2⟩
theorem iI_div {a b : Int} (h1 : -2147483648 < a) (h2 : a < 2147483648) (h3 : -2147483648 ≤ b) (h4 : b < 2147483648) : iI a / iI b = iI (a.tdiv b) := by
  apply Int32.toInt_inj.mp
  rw [Int32.toInt_div, iI_toInt (by omega) h2, iI_toInt h3 h4]
  exact Int32.toInt_ofInt.symm
theorem iI_rem {a b : Int} (h1 : -2147483648 < a) (h2 : a < 2147483648) (h3 : -2147483648 ≤ b) (h4 : b < 2147483648) : iI a - iI a / iI b * iI b = iI (a.tmod b) := by
  rw [iI_div h1 h2 h3 h4, iI_mul, iI_sub]
  congr 1
  have := Int.tmod_add_mul_tdiv a b
  rw [Int.mul_comm] at this
  omega
theorem iI_lit (n : Nat) : (OfNat.ofNat n : Int32) = iI (n : Int) := by
  rw [← iI_nat]; rfl
theorem iI_m1 : (-1 : Int32) = iI (-1) := by decide
theorem iI_0 : (0 : Int32) = iI 0 := by decide
theorem iI_1 : (1 : Int32) = iI 1 := by decide
end
section
/-! longs by their bits -/
def lb (x : Int64) (k : Nat) : Bool := x.toBitVec.getLsbD k
theorem lb_ext {x y : Int64} (h : ∀ k, k < 64 → lb x k = lb y k) : x = y := Int64.toBitVec_inj.mp (BitVec.eq_of_getLsbD_eq (fun i hi => h i hi))
theorem lb_xor (x y : Int64) (k : Nat) : lb (x ^^^ y) k = (lb x k ^^ lb y k) := by unfold lb; rw [Int64.toBitVec_xor, BitVec.getLsbD_xor]
theorem lb_and (x y : Int64) (k : Nat) : lb (x &&& y) k = (lb x k && lb y k) := by unfold lb; rw [Int64.toBitVec_and, BitVec.getLsbD_and]
theorem lb_or (x y : Int64) (k : Nat) : lb (x ||| y) k = (lb x k || lb y k) := by unfold lb; rw [Int64.toBitVec_or, BitVec.getLsbD_or]
theorem lb_big {x : Int64} {k : Nat} (h : 64 ≤ k) : lb x k = false := BitVec.getLsbD_of_ge _ _ h
theorem lb_0 (k : Nat) : lb 0 k = false := BitVec.getLsbD_zero
theorem lb_1 (k : Nat) : lb 1 k = decide (k = 0) := by
  rcases Nat.lt_or_ge k 64 with h | h
  · exact (by decide +kernel : ∀ i, i < 64 → lb 1 i = decide (i = 0)) k h
  · rw [lb_big h, decide_eq_false (by omega)]
theorem lb_255 (k : Nat) : lb 255 k = decide (k < 8) := by
  rcases Nat.lt_or_ge k 64 with h | h
  · exact (by decide +kernel : ∀ i, i < 64 → lb 255 i = decide (i < 8)) k h
  · rw [lb_big h, decide_eq_false (by omega)]
theorem lb_m1 {k : Nat} (h : k < 64) : lb (-1) k = true := (by decide +kernel : ∀ k, k < 64 → lb (-1) k = true) k h
theorem lb_not (x : Int64) {k : Nat} (h : k < 64) : lb (x ^^^ (-1)) k = !lb x k := by rw [lb_xor, lb_m1 h, Bool.xor_true]
theorem ls_l : ∀ n, n < 64 → (((nI n).toInt64 &&& 63).toBitVec.smod 64).toNat = n := by decide +kernel
theorem ls_u : ∀ n, n < 64 → (((nI n).toInt64.toUInt64 &&& Int64.toUInt64 63).toBitVec % 64).toNat = n := by decide +kernel
theorem lb_shl (n : Nat) (hn : n < 64) (x : Int64) {k : Nat} (hk : k < 64) : lb (x <<< ((nI n).toInt64 &&& 63)) k = (decide (n ≤ k) && lb x (k - n)) := by
  unfold lb
  rw [Int64.toBitVec_shiftLeft]
  show (x.toBitVec <<< (((nI n).toInt64 &&& 63).toBitVec.smod 64).toNat).getLsbD k = _
  rw [ls_l n hn, BitVec.getLsbD_shiftLeft]
  rcases Nat.lt_or_ge k n with h | h
  · simp [h, Nat.not_le.mpr h]
  · simp [hk, h, Nat.not_lt.mpr h]
theorem lb_ushr (n : Nat) (hn : n < 64) (x : Int64) (k : Nat) : lb ((x.toUInt64 >>> ((nI n).toInt64.toUInt64 &&& Int64.toUInt64 63)).toInt64) k = lb x (n + k) := by
  show (x.toUInt64 >>> ((nI n).toInt64.toUInt64 &&& Int64.toUInt64 63)).toBitVec.getLsbD k = x.toUInt64.toBitVec.getLsbD (n + k)
  rw [UInt64.toBitVec_shiftRight]
  show (x.toUInt64.toBitVec >>> (((nI n).toInt64.toUInt64 &&& Int64.toUInt64 63).toBitVec % 64).toNat).getLsbD k = _
  rw [ls_u n hn, BitVec.getLsbD_ushiftRight]
theorem lb_shr (n : Nat) (hn : n < 64) (x : Int64) {k : Nat} (hk : k < 64) : lb (x >>> ((nI n).toInt64 &&& 63)) k = if n + k < 64 then lb x (n + k) else lb x 63 := by
  unfold lb
  rw [Int64.toBitVec_shiftRight]
  show (x.toBitVec.sshiftRight (((nI n).toInt64 &&& 63).toBitVec.smod 64).toNat).getLsbD k = _
  rw [ls_l n hn, BitVec.getLsbD_sshiftRight, BitVec.msb_eq_getLsbD_last]
  simp [hk]
theorem lb_eq0 {x : Int64} : x = 0 ↔ ∀ k, k < 64 → lb x k = false := by
  constructor
  · intro h k _; rw [h]; exact lb_0 k
  · intro h; exact lb_ext fun k hk => by rw [h k hk, lb_0]
/-- one bit by >>> and 1 -/
theorem lb_pickU (n : Nat) (hn : n < 64) (x : Int64) : (x.toUInt64 >>> ((nI n).toInt64.toUInt64 &&& Int64.toUInt64 63)).toInt64 &&& 1 = if lb x n then 1 else 0 := by
  apply lb_ext
  intro k hk
  rw [lb_and, lb_ushr n hn, lb_1]
  by_cases h0 : k = 0
  · subst h0
    cases hx : lb x n <;> simp [hx, lb_0, lb_1]
  · cases hx : lb x n <;> simp [h0, lb_0, lb_1]
theorem lb_pickS (n : Nat) (hn : n < 64) (x : Int64) : (x >>> ((nI n).toInt64 &&& 63)) &&& 1 = if lb x n then 1 else 0 := by
  apply lb_ext
  intro k hk
  rw [lb_and, lb_shr n hn x hk, lb_1]
  by_cases h0 : k = 0
  · subst h0
    cases hx : lb x n <;> simp [hx, lb_0, lb_1, hn]
  · cases hx : lb x n <;> simp [h0, lb_0, lb_1]
theorem lb_one_shl (n : Nat) (hn : n < 64) (k : Nat) : lb ((1 : Int64) <<< ((nI n).toInt64 &&& 63)) k = decide (k = n) := by
  rcases Nat.lt_or_ge k 64 with hk | hk
  · rw [lb_shl n hn 1 hk, lb_1]
    rcases Nat.lt_trichotomy k n with q | q | q
    · simp [show ¬ n ≤ k by omega, show k ≠ n by omega]
    · simp [q]
    · simp [show ¬ k - n = 0 by omega, show k ≠ n by omega]
  · rw [lb_big hk, decide_eq_false (by omega)]
theorem cmp0 {x y : Int64} : lg_cmp x y = 0 ↔ x = y := by
  unfold lg_cmp
  by_cases h1 : y < x
  · simp [h1]
    rintro rfl
    exact Int64.lt_irrefl h1
  · by_cases h2 : x = y
    · subst h2; simp
    · simp [h1, h2]
theorem cmpN {x y : Int64} : ¬ lg_cmp x y = 0 ↔ ¬ x = y := not_congr cmp0
/-! a dot's bit, a row's bits -/
def gBit (x y : Int32) : Int64 := if x < 0 then 0 else if 8 ≤ x then 0 else if y < 0 then 0 else if y < 8 then 1 <<< ((8 * y + x).toInt64 &&& 63) else 0
def gRow (x y : Int32) : Int64 := if x < 0 then 0 else if 8 ≤ x then 0 else if y < 0 then 0 else if y < 8 then (((255 : Int64) <<< (x.toInt64 &&& 63)) &&& 255) <<< ((8 * y).toInt64 &&& 63) else 0
theorem gBit_out {x y : Int} (hx : -2147483648 ≤ x ∧ x < 2147483648) (hy : -2147483648 ≤ y ∧ y < 2147483648) (h : x < 0 ∨ 8 ≤ x ∨ y < 0 ∨ 8 ≤ y) : gBit (iI x) (iI y) = 0 := by
  unfold gBit
  split
  · rfl
  · rename_i c1
    split
    · rfl
    · rename_i c2
      split
      · rfl
      · rename_i c3
        split
        · rename_i c4
          exfalso
          rw [iI_0, iI_lt hx.1 hx.2 (by omega) (by omega)] at c1
          rw [iI_lit 8, iI_le (by omega) (by omega) hx.1 hx.2] at c2
          rw [iI_0, iI_lt hy.1 hy.2 (by omega) (by omega)] at c3
          rw [iI_lit 8, iI_lt hy.1 hy.2 (by omega) (by omega)] at c4
          omega
        · rfl
theorem gRow_out {x y : Int} (hx : -2147483648 ≤ x ∧ x < 2147483648) (hy : -2147483648 ≤ y ∧ y < 2147483648) (h : x < 0 ∨ 8 ≤ x ∨ y < 0 ∨ 8 ≤ y) : gRow (iI x) (iI y) = 0 := by
  unfold gRow
  split
  · rfl
  · rename_i c1
    split
    · rfl
    · rename_i c2
      split
      · rfl
      · rename_i c3
        split
        · rename_i c4
          exfalso
          rw [iI_0, iI_lt hx.1 hx.2 (by omega) (by omega)] at c1
          rw [iI_lit 8, iI_le (by omega) (by omega) hx.1 hx.2] at c2
          rw [iI_0, iI_lt hy.1 hy.2 (by omega) (by omega)] at c3
          rw [iI_lit 8, iI_lt hy.1 hy.2 (by omega) (by omega)] at c4
          omega
        · rfl
theorem gBit_in {x y : Nat} (hx : x < 8) (hy : y < 8) (k : Nat) : lb (gBit (iI x) (iI y)) k = decide (k = 8 * y + x) := by
  unfold gBit
  rw [iI_0, iI_lit 8, if_neg (by rw [iI_lt (by omega) (by omega) (by omega) (by omega)]; omega), if_neg (by rw [iI_le (by omega) (by omega) (by omega) (by omega)]; omega), if_neg (by rw [iI_lt (by omega) (by omega) (by omega) (by omega)]; omega), if_pos (by rw [iI_lt (by omega) (by omega) (by omega) (by omega)]; omega)]
  rw [iI_mul, iI_add, show ((8 : Nat) : Int) * (y : Int) + (x : Int) = ((8 * y + x : Nat) : Int) by omega, ← iI_nat]
  exact lb_one_shl _ (by omega) k
theorem gRow_in {x y : Nat} (hx : x < 8) (hy : y < 8) (k : Nat) : lb (gRow (iI x) (iI y)) k = decide (k / 8 = y ∧ x ≤ k % 8) := by
  unfold gRow
  rw [iI_0, iI_lit 8, if_neg (by rw [iI_lt (by omega) (by omega) (by omega) (by omega)]; omega), if_neg (by rw [iI_le (by omega) (by omega) (by omega) (by omega)]; omega), if_neg (by rw [iI_lt (by omega) (by omega) (by omega) (by omega)]; omega), if_pos (by rw [iI_lt (by omega) (by omega) (by omega) (by omega)]; omega)]
  rw [iI_mul, show ((8 : Nat) : Int) * (y : Int) = ((8 * y : Nat) : Int) by omega, ← iI_nat, ← iI_nat]
  rcases Nat.lt_or_ge k 64 with hk | hk
  · rw [lb_shl _ (by omega) _ hk, lb_and, lb_255]
    by_cases h1 : 8 * y ≤ k
    · by_cases h2 : k - 8 * y < 64
      · rw [lb_shl _ (by omega) _ h2, lb_255]
        by_cases h3 : k / 8 = y ∧ x ≤ k % 8
        · rw [decide_eq_true h3, decide_eq_true h1, decide_eq_true (show x ≤ k - 8 * y by omega), decide_eq_true (show k - 8 * y - x < 8 by omega), decide_eq_true (show k - 8 * y < 8 by omega)]
          rfl
        · rw [decide_eq_false h3]
          by_cases h4 : k - 8 * y < 8
          · have : ¬ x ≤ k - 8 * y := by omega
            simp [this]
          · simp [h4]
      · omega
    · have h3 : ¬ (k / 8 = y ∧ x ≤ k % 8) := by omega
      rw [decide_eq_false h3]
      simp [h1]
  · have h3 : ¬ (k / 8 = y ∧ x ≤ k % 8) := by omega
    rw [lb_big hk, decide_eq_false h3]
end
section
def fAbs (x : Int32) : Int32 := if 0 ≤ x then x else -x
def fMax (x y : Int32) : Int32 := if x < y then y else x
def fMin (x y : Int32) : Int32 := if y < x then y else x
/-! Math.max, min, abs: rows of the kit -/
section AWMath
variable {V : VV} {I : MI} {R : Room} {Qf : QF} {n0 z0 pc : Nat} {lv : List (Option Value)} {st : List Value} {h : AH} {n z : Nat}
theorem w_max1 : Cond.static Lib.Math.max.name ∈ WT := wt_t 342 (by decide +kernel) (by decide +kernel)
theorem w_max2 : Cond.code Lib.Math.max.name Lib.Math.max.code 2 (some .int) ∈ WT := wt_t 343 (by decide +kernel) (by decide +kernel)
theorem a_max {idx : Nat} {x y : Int32} (dg : decode I.2.1 pc = .ok (.invokestatic idx, 3)) (ml : Cond.methodLink I.1.cls idx Lib.Math.max.name ∈ WT) (hf : 1 ≤ R.frames) (hl : 21 ≤ R.locals) (h8 : (st.map fun v => v.category).sum ≤ 8) (k : AW V I R Qf n0 z0 (pc + 3) lv (.int (fMax x y) :: st) h n z) : AW V I R Qf n0 z0 pc lv (.int y :: .int x :: st) h n z := by
  intro p l e s m args below meth c H locs ls X hS hP hL h1 h2 h3 h4
  have hts := X.2.2.2.2.1
  have e8 : ((st.map (coV V)).map (fun v => v.category)) = st.map (fun v => v.category) := by
    rw [List.map_map]
    exact List.map_congr_left (fun v _ => coV_cat V v)
  have K := k p l e s m args below meth c H locs ls X hS hP hL h1 h2 h3 h4
  refine va_mmax X.1 X.2.1 (X.2.2.1.trans hL.1.symm) X.2.2.2.1 (hts _ ml) (hts _ w_max1) (hts _ z_Mth) (hts _ w_max2) hf (by rw [e8]; omega) (by omega) (by omega) dg ?_
  exact K
theorem w_min1 : Cond.static Lib.Math.min.name ∈ WT := wt_t 545 (by decide +kernel) (by decide +kernel)
theorem w_min2 : Cond.code Lib.Math.min.name Lib.Math.min.code 2 (some .int) ∈ WT := wt_t 546 (by decide +kernel) (by decide +kernel)
theorem a_min {idx : Nat} {x y : Int32} (dg : decode I.2.1 pc = .ok (.invokestatic idx, 3)) (ml : Cond.methodLink I.1.cls idx Lib.Math.min.name ∈ WT) (hf : 1 ≤ R.frames) (hl : 21 ≤ R.locals) (h8 : (st.map fun v => v.category).sum ≤ 8) (k : AW V I R Qf n0 z0 (pc + 3) lv (.int (fMin x y) :: st) h n z) : AW V I R Qf n0 z0 pc lv (.int y :: .int x :: st) h n z := by
  intro p l e s m args below meth c H locs ls X hS hP hL h1 h2 h3 h4
  have hts := X.2.2.2.2.1
  have e8 : ((st.map (coV V)).map (fun v => v.category)) = st.map (fun v => v.category) := by
    rw [List.map_map]
    exact List.map_congr_left (fun v _ => coV_cat V v)
  have K := k p l e s m args below meth c H locs ls X hS hP hL h1 h2 h3 h4
  refine va_mmin X.1 X.2.1 (X.2.2.1.trans hL.1.symm) X.2.2.2.1 (hts _ ml) (hts _ w_min1) (hts _ z_Mth) (hts _ w_min2) hf (by rw [e8]; omega) (by omega) (by omega) dg ?_
  exact K
theorem w_abs1 : Cond.static Lib.Math.abs.name ∈ WT := wt_t 527 (by decide +kernel) (by decide +kernel)
theorem w_abs2 : Cond.code Lib.Math.abs.name Lib.Math.abs.code 1 (some .int) ∈ WT := wt_t 528 (by decide +kernel) (by decide +kernel)
theorem a_abs {idx : Nat} {x : Int32} (dg : decode I.2.1 pc = .ok (.invokestatic idx, 3)) (ml : Cond.methodLink I.1.cls idx Lib.Math.abs.name ∈ WT) (hf : 1 ≤ R.frames) (hl : 21 ≤ R.locals) (h8 : (st.map fun v => v.category).sum ≤ 8) (k : AW V I R Qf n0 z0 (pc + 3) lv (.int (fAbs x) :: st) h n z) : AW V I R Qf n0 z0 pc lv (.int x :: st) h n z := by
  intro p l e s m args below meth c H locs ls X hS hP hL h1 h2 h3 h4
  have hts := X.2.2.2.2.1
  have e8 : ((st.map (coV V)).map (fun v => v.category)) = st.map (fun v => v.category) := by
    rw [List.map_map]
    exact List.map_congr_left (fun v _ => coV_cat V v)
  have K := k p l e s m args below meth c H locs ls X hS hP hL h1 h2 h3 h4
  refine va_mabs X.1 X.2.1 (X.2.2.1.trans hL.1.symm) X.2.2.2.1 (hts _ ml) (hts _ w_abs1) (hts _ z_Mth) (hts _ w_abs2) hf (by rw [e8]; omega) (by omega) (by omega) dg ?_
  have e0 : (if 0 ≤ x then x else 0 - x) = fAbs x := by unfold fAbs; rw [Int32.zero_sub]
  rw [e0]
  exact K
end AWMath
end
section
/-! LEAVES of the class: printed by wip/whole/t11.py -/
abbrev aI (N : Nat) (f : Nat → Int32) : AC := .inl (N, .inl f)
abbrev aL (N : Nat) (f : Nat → Int64) : AC := .inl (N, .inr (.inl f))
abbrev aQ (N : Nat) (f : Nat → Option Nat) : AC := .inl (N, .inr (.inr (.inr (.inr f))))
abbrev oBrd (st ln fi : Int32) (wi : Int64) (me ve bo : Int32) : AC := .inr (2, [.int st, .int ln, .int fi, .long wi, .int me, .int ve, .int bo])
abbrev oPic (pw ph : Int32) (pd : Int64) (pj ps : Int32) : AC := .inr (5, [.int pw, .int ph, .long pd, .int pj, .int ps])
abbrev oTap (L : Int32) : AC := .inr (9, [.ref 10, .int L])
abbrev oAct (k : Int32) : AC := .inr (0, [.ref 16, .ref 17, .ref 18, .int k])
abbrev oBend (ux uy vx vy wx wy : Int32) : AC := .inr (1, [.int ux, .int uy, .int vx, .int vy, .int wx, .int wy])
section
variable {V : VV} {h : AH} {n z : Nat}
def ush (x : Int64) (k : Int32) : Int64 := (x.toUInt64 >>> (k.toInt64.toUInt64 &&& Int64.toUInt64 63)).toInt64
def bc1 (x : Int64) : Int64 := x - (ush x 1 &&& 6148914691236517205)
def bc2 (x : Int64) : Int64 := (x &&& 3689348814741910323) + (ush x 2 &&& 3689348814741910323)
def bc3 (x : Int64) : Int64 := (x + ush x 4) &&& 1085102592571150095
def bc4 (x : Int64) (k : Int32) : Int64 := x + ush x k
def fBC (x : Int64) : Int32 := (bc4 (bc4 (bc4 (bc3 (bc2 (bc1 x))) 8) 16) 32).toInt32 &&& 127

set_option maxRecDepth 20000 in
set_option maxHeartbeats 4000000 in
theorem s_Lng_bitCount (x : Int64) : AMet V i_Lng_bitCount 0 [.long x] h n z (some (.int (fBC x))) (h) n z := by
  refine AMet.intro (Nat.le_refl _) (Nat.le_refl _) (by decide) (Nat.le_of_ble_eq_true rfl) rfl ?_
  refine a_lload_n d_Lng_bitCount_0 rfl ?_
  refine a_lload_n d_Lng_bitCount_1 rfl ?_
  refine a_iconst (v := 1) d_Lng_bitCount_2 (by decide) ?_
  refine a_lushr d_Lng_bitCount_3 ?_
  refine a_ldc2 d_Lng_bitCount_4 k_Lng_314 ?_
  refine a_land d_Lng_bitCount_7 ?_
  refine a_lsub d_Lng_bitCount_8 ?_
  refine a_lstore_n d_Lng_bitCount_9 (Nat.le_of_ble_eq_true rfl) (Nat.le_of_ble_eq_true rfl) rfl ?_
  refine a_lload_n d_Lng_bitCount_10 rfl ?_
  refine a_ldc2 d_Lng_bitCount_11 k_Lng_316 ?_
  refine a_land d_Lng_bitCount_14 ?_
  refine a_lload_n d_Lng_bitCount_15 rfl ?_
  refine a_iconst (v := 2) d_Lng_bitCount_16 (by decide) ?_
  refine a_lushr d_Lng_bitCount_17 ?_
  refine a_ldc2 d_Lng_bitCount_18 k_Lng_316 ?_
  refine a_land d_Lng_bitCount_21 ?_
  refine a_ladd d_Lng_bitCount_22 ?_
  refine a_lstore_n d_Lng_bitCount_23 (Nat.le_of_ble_eq_true rfl) (Nat.le_of_ble_eq_true rfl) rfl ?_
  refine a_lload_n d_Lng_bitCount_24 rfl ?_
  refine a_lload_n d_Lng_bitCount_25 rfl ?_
  refine a_iconst (v := 4) d_Lng_bitCount_26 (by decide) ?_
  refine a_lushr d_Lng_bitCount_27 ?_
  refine a_ladd d_Lng_bitCount_28 ?_
  refine a_ldc2 d_Lng_bitCount_29 k_Lng_318 ?_
  refine a_land d_Lng_bitCount_32 ?_
  refine a_lstore_n d_Lng_bitCount_33 (Nat.le_of_ble_eq_true rfl) (Nat.le_of_ble_eq_true rfl) rfl ?_
  refine a_lload_n d_Lng_bitCount_34 rfl ?_
  refine a_lload_n d_Lng_bitCount_35 rfl ?_
  refine a_bipush (v := 8) d_Lng_bitCount_36 (by decide) ?_
  refine a_lushr d_Lng_bitCount_38 ?_
  refine a_ladd d_Lng_bitCount_39 ?_
  refine a_lstore_n d_Lng_bitCount_40 (Nat.le_of_ble_eq_true rfl) (Nat.le_of_ble_eq_true rfl) rfl ?_
  refine a_lload_n d_Lng_bitCount_41 rfl ?_
  refine a_lload_n d_Lng_bitCount_42 rfl ?_
  refine a_bipush (v := 16) d_Lng_bitCount_43 (by decide) ?_
  refine a_lushr d_Lng_bitCount_45 ?_
  refine a_ladd d_Lng_bitCount_46 ?_
  refine a_lstore_n d_Lng_bitCount_47 (Nat.le_of_ble_eq_true rfl) (Nat.le_of_ble_eq_true rfl) rfl ?_
  refine a_lload_n d_Lng_bitCount_48 rfl ?_
  refine a_lload_n d_Lng_bitCount_49 rfl ?_
  refine a_bipush (v := 32) d_Lng_bitCount_50 (by decide) ?_
  refine a_lushr d_Lng_bitCount_52 ?_
  refine a_ladd d_Lng_bitCount_53 ?_
  refine a_lstore_n d_Lng_bitCount_54 (Nat.le_of_ble_eq_true rfl) (Nat.le_of_ble_eq_true rfl) rfl ?_
  refine a_lload_n d_Lng_bitCount_55 rfl ?_
  refine a_l2i d_Lng_bitCount_56 ?_
  refine a_bipush (v := 127) d_Lng_bitCount_57 (by decide) ?_
  refine a_iand d_Lng_bitCount_59 ?_
  exact a_iret d_Lng_bitCount_60 rfl rfl rfl rfl
set_option maxRecDepth 20000 in
set_option maxHeartbeats 4000000 in
theorem s_Grid_bit (x y : Int32) : AMet V i_Grid_bit 0 [.int x, .int y] h n z (some (.long (gBit x y))) (h) n z := by
  refine AMet.intro (Nat.le_refl _) (Nat.le_refl _) (by decide) (Nat.le_of_ble_eq_true rfl) rfl ?_
  refine a_iload_n d_Grid_bit_0 rfl ?_
  refine a_if_lt 20 d_Grid_bit_1 (by decide) (fun c1 => ?_) (fun c1 => ?_)
  · skip
    refine a_lconst (v := 0) d_Grid_bit_20 rfl ?_
    exact a_lret d_Grid_bit_21 rfl (by simp [gBit, c1]) rfl rfl
  · skip
    refine a_iload_n d_Grid_bit_4 rfl ?_
    refine a_bipush (v := 8) d_Grid_bit_5 (by decide) ?_
    refine a_icmp_ge 20 d_Grid_bit_7 (by decide) (fun c7 => ?_) (fun c7 => ?_)
    · skip
      refine a_lconst (v := 0) d_Grid_bit_20 rfl ?_
      exact a_lret d_Grid_bit_21 rfl (by simp [gBit, c1, c7]) rfl rfl
    · skip
      refine a_iload_n d_Grid_bit_10 rfl ?_
      refine a_if_lt 20 d_Grid_bit_11 (by decide) (fun c11 => ?_) (fun c11 => ?_)
      · skip
        refine a_lconst (v := 0) d_Grid_bit_20 rfl ?_
        exact a_lret d_Grid_bit_21 rfl (by simp [gBit, c1, c7, c11]) rfl rfl
      · skip
        refine a_iload_n d_Grid_bit_14 rfl ?_
        refine a_bipush (v := 8) d_Grid_bit_15 (by decide) ?_
        refine a_icmp_lt 22 d_Grid_bit_17 (by decide) (fun c17 => ?_) (fun c17 => ?_)
        · skip
          refine a_lconst (v := 1) d_Grid_bit_22 rfl ?_
          refine a_bipush (v := 8) d_Grid_bit_23 (by decide) ?_
          refine a_iload_n d_Grid_bit_25 rfl ?_
          refine a_imul d_Grid_bit_26 ?_
          refine a_iload_n d_Grid_bit_27 rfl ?_
          refine a_iadd d_Grid_bit_28 ?_
          refine a_lshl d_Grid_bit_29 ?_
          exact a_lret d_Grid_bit_30 rfl (by simp [gBit, c1, c7, c11, c17]) rfl rfl
        · skip
          refine a_lconst (v := 0) d_Grid_bit_20 rfl ?_
          exact a_lret d_Grid_bit_21 rfl (by simp [gBit, c1, c7, c11, c17]) rfl rfl
set_option maxRecDepth 20000 in
set_option maxHeartbeats 4000000 in
theorem s_Grid_rowFrom (x y : Int32) : AMet V i_Grid_rowFrom 0 [.int x, .int y] h n z (some (.long (gRow x y))) (h) n z := by
  refine AMet.intro (Nat.le_refl _) (Nat.le_refl _) (by decide) (Nat.le_of_ble_eq_true rfl) rfl ?_
  refine a_iload_n d_Grid_rowFrom_0 rfl ?_
  refine a_if_lt 20 d_Grid_rowFrom_1 (by decide) (fun c1 => ?_) (fun c1 => ?_)
  · skip
    refine a_lconst (v := 0) d_Grid_rowFrom_20 rfl ?_
    exact a_lret d_Grid_rowFrom_21 rfl (by simp [gRow, c1]) rfl rfl
  · skip
    refine a_iload_n d_Grid_rowFrom_4 rfl ?_
    refine a_bipush (v := 8) d_Grid_rowFrom_5 (by decide) ?_
    refine a_icmp_ge 20 d_Grid_rowFrom_7 (by decide) (fun c7 => ?_) (fun c7 => ?_)
    · skip
      refine a_lconst (v := 0) d_Grid_rowFrom_20 rfl ?_
      exact a_lret d_Grid_rowFrom_21 rfl (by simp [gRow, c1, c7]) rfl rfl
    · skip
      refine a_iload_n d_Grid_rowFrom_10 rfl ?_
      refine a_if_lt 20 d_Grid_rowFrom_11 (by decide) (fun c11 => ?_) (fun c11 => ?_)
      · skip
        refine a_lconst (v := 0) d_Grid_rowFrom_20 rfl ?_
        exact a_lret d_Grid_rowFrom_21 rfl (by simp [gRow, c1, c7, c11]) rfl rfl
      · skip
        refine a_iload_n d_Grid_rowFrom_14 rfl ?_
        refine a_bipush (v := 8) d_Grid_rowFrom_15 (by decide) ?_
        refine a_icmp_lt 22 d_Grid_rowFrom_17 (by decide) (fun c17 => ?_) (fun c17 => ?_)
        · skip
          refine a_ldc2 d_Grid_rowFrom_22 k_Grid_9 ?_
          refine a_iload_n d_Grid_rowFrom_25 rfl ?_
          refine a_lshl d_Grid_rowFrom_26 ?_
          refine a_ldc2 d_Grid_rowFrom_27 k_Grid_9 ?_
          refine a_land d_Grid_rowFrom_30 ?_
          refine a_bipush (v := 8) d_Grid_rowFrom_31 (by decide) ?_
          refine a_iload_n d_Grid_rowFrom_33 rfl ?_
          refine a_imul d_Grid_rowFrom_34 ?_
          refine a_lshl d_Grid_rowFrom_35 ?_
          exact a_lret d_Grid_rowFrom_36 rfl (by simp [gRow, c1, c7, c11, c17]) rfl rfl
        · skip
          refine a_lconst (v := 0) d_Grid_rowFrom_20 rfl ?_
          exact a_lret d_Grid_rowFrom_21 rfl (by simp [gRow, c1, c7, c11, c17]) rfl rfl
set_option maxRecDepth 20000 in
set_option maxHeartbeats 4000000 in
theorem s_Grid_columnOf (x : Int32) : AMet V i_Grid_columnOf 0 [.int x] h n z (some (.int (x &&& 7))) (h) n z := by
  refine AMet.intro (Nat.le_refl _) (Nat.le_refl _) (by decide) (Nat.le_of_ble_eq_true rfl) rfl ?_
  refine a_iload_n d_Grid_columnOf_0 rfl ?_
  refine a_bipush (v := 7) d_Grid_columnOf_1 (by decide) ?_
  refine a_iand d_Grid_columnOf_3 ?_
  exact a_iret d_Grid_columnOf_4 rfl rfl rfl rfl
set_option maxRecDepth 20000 in
set_option maxHeartbeats 4000000 in
theorem s_Grid_rowOf (x : Int32) : AMet V i_Grid_rowOf 0 [.int x] h n z (some (.int ((x >>> ((3 : Int32) &&& 31)) &&& 7))) (h) n z := by
  refine AMet.intro (Nat.le_refl _) (Nat.le_refl _) (by decide) (Nat.le_of_ble_eq_true rfl) rfl ?_
  refine a_iload_n d_Grid_rowOf_0 rfl ?_
  refine a_iconst (v := 3) d_Grid_rowOf_1 (by decide) ?_
  refine a_ishr d_Grid_rowOf_2 ?_
  refine a_bipush (v := 7) d_Grid_rowOf_3 (by decide) ?_
  refine a_iand d_Grid_rowOf_5 ?_
  exact a_iret d_Grid_rowOf_6 rfl rfl rfl rfl
set_option maxRecDepth 20000 in
set_option maxHeartbeats 4000000 in
theorem s_Tap_addF {L : Nat} {f : Nat → Int32} (g9 : h 9 = oTap (nI L)) (g10 : h 10 = aI 90 f) (hL : L = 90) (x : Int32) : AMet V i_Tap_add 0 [.ref 9, .int x] h n z (some (.int 0)) (h) n z := by
  subst hL
  refine AMet.intro (Nat.le_refl _) (Nat.le_refl _) (by decide) (Nat.le_of_ble_eq_true rfl) rfl ?_
  refine a_aload_n d_Tap_add_0 rfl ?_
  refine a_getf d_Tap_add_1 f_Tap_13 g9 rfl ?_
  refine a_if_lt 16 d_Tap_add_4 (by decide) (fun c4 => absurd c4 (nI_pos (by omega))) (fun c4 => ?_)
  refine a_aload_n d_Tap_add_7 rfl ?_
  refine a_getf d_Tap_add_8 f_Tap_13 g9 rfl ?_
  refine a_bipush (v := 90) d_Tap_add_11 (by decide) ?_
  refine a_icmp_lt 18 d_Tap_add_13 (by decide) (fun c13 => absurd c13 (nI_nlt (Nat.le_refl 90) (by omega))) (fun c13 => ?_)
  refine a_iconst (v := 0) d_Tap_add_16 (by decide) ?_
  exact a_zret d_Tap_add_17 rfl (by decide) rfl rfl rfl
set_option maxRecDepth 20000 in
set_option maxHeartbeats 4000000 in
theorem s_Tap_add {L : Nat} {f : Nat → Int32} (g9 : h 9 = oTap (nI L)) (g10 : h 10 = aI 90 f) (hL : L < 90) (x : Int32) : AMet V i_Tap_add 0 [.ref 9, .int x] h n z (some (.int 1)) (hu (hu h 10 (aI 90 (upd f L x))) 9 (oTap (nI (L + 1)))) n z := by
  refine AMet.intro (Nat.le_refl _) (Nat.le_refl _) (by decide) (Nat.le_of_ble_eq_true rfl) rfl ?_
  refine a_aload_n d_Tap_add_0 rfl ?_
  refine a_getf d_Tap_add_1 f_Tap_13 g9 rfl ?_
  refine a_if_lt 16 d_Tap_add_4 (by decide) (fun c4 => absurd c4 (nI_pos (by omega))) (fun c4 => ?_)
  refine a_aload_n d_Tap_add_7 rfl ?_
  refine a_getf d_Tap_add_8 f_Tap_13 g9 rfl ?_
  refine a_bipush (v := 90) d_Tap_add_11 (by decide) ?_
  refine a_icmp_lt 18 d_Tap_add_13 (by decide) (fun c13 => ?_) (fun c13 => absurd (nI_lt (b := 90) hL (by omega)) c13)
  refine a_aload_n d_Tap_add_18 rfl ?_
  refine a_getf d_Tap_add_19 f_Tap_9 g9 rfl ?_
  refine a_aload_n d_Tap_add_22 rfl ?_
  refine a_getf d_Tap_add_23 f_Tap_13 g9 rfl ?_
  refine a_iload_n d_Tap_add_26 rfl ?_
  refine a_iast d_Tap_add_27 g10 (vp_in_nI hL (by omega)) ?_
  refine a_aload_n d_Tap_add_28 rfl ?_
  refine a_dup d_Tap_add_29 rfl ?_
  refine a_getf d_Tap_add_30 f_Tap_13 g9 rfl ?_
  refine a_iconst (v := 1) d_Tap_add_33 (by decide) ?_
  refine a_iadd d_Tap_add_34 ?_
  refine a_putf d_Tap_add_35 f_Tap_13 rfl g9 (Nat.le_of_ble_eq_true rfl) rfl rfl ?_
  refine a_iconst (v := 1) d_Tap_add_38 (by decide) ?_
  exact a_zret d_Tap_add_39 rfl (by decide) rfl (by rw [nI_clamp (by omega), nI_1]; rfl) rfl
set_option maxRecDepth 20000 in
set_option maxHeartbeats 4000000 in
theorem s_Tap_letterAt {L : Nat} {f : Nat → Int32} (g9 : h 9 = oTap (nI L)) (g10 : h 10 = aI 90 f) (hL : L ≤ 90) {k : Nat} (hk : k < L) : AMet V i_Tap_letterAt 0 [.ref 9, .int (nI k)] h n z (some (.int (f k))) (h) n z := by
  refine AMet.intro (Nat.le_refl _) (Nat.le_refl _) (by decide) (Nat.le_of_ble_eq_true rfl) rfl ?_
  refine a_iload_n d_Tap_letterAt_0 rfl ?_
  refine a_if_lt 27 d_Tap_letterAt_1 (by decide) (fun c1 => absurd c1 (nI_pos (by omega))) (fun c1 => ?_)
  refine a_iload_n d_Tap_letterAt_4 rfl ?_
  refine a_aload_n d_Tap_letterAt_5 rfl ?_
  refine a_getf d_Tap_letterAt_6 f_Tap_13 g9 rfl ?_
  refine a_icmp_ge 27 d_Tap_letterAt_9 (by decide) (fun c9 => absurd c9 (nI_ge hk (by omega))) (fun c9 => ?_)
  refine a_iload_n d_Tap_letterAt_12 rfl ?_
  refine a_bipush (v := 90) d_Tap_letterAt_13 (by decide) ?_
  refine a_icmp_ge 27 d_Tap_letterAt_15 (by decide) (fun c15 => absurd c15 (nI_ge (b := 90) (show k < 90 by omega) (by omega))) (fun c15 => ?_)
  refine a_aload_n d_Tap_letterAt_18 rfl ?_
  refine a_getf d_Tap_letterAt_19 f_Tap_9 g9 rfl ?_
  refine a_iload_n d_Tap_letterAt_22 rfl ?_
  refine a_iald d_Tap_letterAt_23 g10 (vp_in_nI (by omega) (by omega)) ?_
  refine a_goto 28 d_Tap_letterAt_24 (by decide) ?_
  exact a_iret d_Tap_letterAt_28 rfl (by rw [nI_clamp (by omega)]) rfl rfl
def fHas (pw ph x y : Int32) : Int32 := if x < 0 then 0 else if pw ≤ x then 0 else if y < 0 then 0 else if ph ≤ y then 0 else 1
def fDark (d : Int64) (x y : Int32) : Int32 := if d &&& gBit x y = 0 then 0 else 1
def fLay (d b : Int64) (v : Int32) : Int64 := if v = 0 then d &&& (b ^^^ (-1)) else if v = 1 then d ||| b else d ^^^ b
set_option maxRecDepth 20000 in
set_option maxHeartbeats 4000000 in
theorem s_Pic_isThere {p : Nat} {pw ph : Int32} {pd : Int64} {pj ps : Int32} (gp : h p = oPic pw ph pd pj ps) : AMet V i_Pic_isThere 0 [.ref p] h n z (some (.int (if pw ≤ 0 then 0 else 1))) (h) n z := by
  refine AMet.intro (Nat.le_refl _) (Nat.le_refl _) (by decide) (Nat.le_of_ble_eq_true rfl) rfl ?_
  refine a_aload_n d_Pic_isThere_0 rfl ?_
  refine a_getf d_Pic_isThere_1 f_Pic_7 gp rfl ?_
  refine a_if_le 11 d_Pic_isThere_4 (by decide) (fun c4 => ?_) (fun c4 => ?_)
  · skip
    refine a_iconst (v := 0) d_Pic_isThere_11 (by decide) ?_
    exact a_zret d_Pic_isThere_12 rfl (by decide) (by simp [c4]) rfl rfl
  · skip
    refine a_iconst (v := 1) d_Pic_isThere_7 (by decide) ?_
    refine a_goto 12 d_Pic_isThere_8 (by decide) ?_
    exact a_zret d_Pic_isThere_12 rfl (by decide) (by simp [c4]) rfl rfl
set_option maxRecDepth 20000 in
set_option maxHeartbeats 4000000 in
theorem s_Pic_has {p : Nat} {pw ph : Int32} {pd : Int64} {pj ps : Int32} (gp : h p = oPic pw ph pd pj ps) (x y : Int32) : AMet V i_Pic_has 0 [.ref p, .int x, .int y] h n z (some (.int (fHas pw ph x y))) (h) n z := by
  refine AMet.intro (Nat.le_refl _) (Nat.le_refl _) (by decide) (Nat.le_of_ble_eq_true rfl) rfl ?_
  refine a_iload_n d_Pic_has_0 rfl ?_
  refine a_if_lt 28 d_Pic_has_1 (by decide) (fun c1 => ?_) (fun c1 => ?_)
  · skip
    refine a_iconst (v := 0) d_Pic_has_28 (by decide) ?_
    exact a_zret d_Pic_has_29 rfl (by decide) (by simp [fHas, c1]) rfl rfl
  · skip
    refine a_iload_n d_Pic_has_4 rfl ?_
    refine a_aload_n d_Pic_has_5 rfl ?_
    refine a_getf d_Pic_has_6 f_Pic_7 gp rfl ?_
    refine a_icmp_ge 28 d_Pic_has_9 (by decide) (fun c9 => ?_) (fun c9 => ?_)
    · skip
      refine a_iconst (v := 0) d_Pic_has_28 (by decide) ?_
      exact a_zret d_Pic_has_29 rfl (by decide) (by simp [fHas, c1, c9]) rfl rfl
    · skip
      refine a_iload_n d_Pic_has_12 rfl ?_
      refine a_if_lt 28 d_Pic_has_13 (by decide) (fun c13 => ?_) (fun c13 => ?_)
      · skip
        refine a_iconst (v := 0) d_Pic_has_28 (by decide) ?_
        exact a_zret d_Pic_has_29 rfl (by decide) (by simp [fHas, c1, c9, c13]) rfl rfl
      · skip
        refine a_iload_n d_Pic_has_16 rfl ?_
        refine a_aload_n d_Pic_has_17 rfl ?_
        refine a_getf d_Pic_has_18 f_Pic_13 gp rfl ?_
        refine a_icmp_ge 28 d_Pic_has_21 (by decide) (fun c21 => ?_) (fun c21 => ?_)
        · skip
          refine a_iconst (v := 0) d_Pic_has_28 (by decide) ?_
          exact a_zret d_Pic_has_29 rfl (by decide) (by simp [fHas, c1, c9, c13, c21]) rfl rfl
        · skip
          refine a_iconst (v := 1) d_Pic_has_24 (by decide) ?_
          refine a_goto 29 d_Pic_has_25 (by decide) ?_
          exact a_zret d_Pic_has_29 rfl (by decide) (by simp [fHas, c1, c9, c13, c21]) rfl rfl
set_option maxRecDepth 20000 in
set_option maxHeartbeats 4000000 in
theorem s_Pic_isDark {p : Nat} {pw ph : Int32} {pd : Int64} {pj ps : Int32} (gp : h p = oPic pw ph pd pj ps) (x y : Int32) : AMet V i_Pic_isDark 1 [.ref p, .int x, .int y] h n z (some (.int (fDark pd x y))) (h) n z := by
  refine AMet.intro (Nat.le_refl _) (Nat.le_refl _) (by decide) (Nat.le_of_ble_eq_true rfl) rfl ?_
  refine a_aload_n d_Pic_isDark_0 rfl ?_
  refine a_getf d_Pic_isDark_1 f_Pic_16 gp rfl ?_
  refine a_iload_n d_Pic_isDark_4 rfl ?_
  refine a_iload_n d_Pic_isDark_5 rfl ?_
  refine a_cs0 d_Pic_isDark_6 m_Grid_bit t_Grid_bit l_Pic_20 (s_Grid_bit x y) rfl rfl ⟨Nat.le_of_ble_eq_true rfl, Nat.le_of_ble_eq_true rfl⟩ (Nat.le_of_ble_eq_true rfl)  ?_
  refine a_land d_Pic_isDark_9 ?_
  refine a_lconst (v := 0) d_Pic_isDark_10 rfl ?_
  refine a_lcmp d_Pic_isDark_11 ?_
  refine a_if_eq 19 d_Pic_isDark_12 (by decide) (fun c12 => ?_) (fun c12 => ?_)
  · skip
    refine a_iconst (v := 0) d_Pic_isDark_19 (by decide) ?_
    exact a_zret d_Pic_isDark_20 rfl (by decide) (by first | (rw [cmp0] at c12; simp [fDark, c12]; done) | (rw [cmp0] at c12; simp [fDark, c12])) rfl rfl
  · skip
    refine a_iconst (v := 1) d_Pic_isDark_15 (by decide) ?_
    refine a_goto 20 d_Pic_isDark_16 (by decide) ?_
    exact a_zret d_Pic_isDark_20 rfl (by decide) (by first | (rw [cmp0] at c12; simp [fDark, c12]; done) | (rw [cmp0] at c12; simp [fDark, c12])) rfl rfl
set_option maxRecDepth 20000 in
set_option maxHeartbeats 4000000 in
theorem s_Pic_darkDots {p : Nat} {pw ph : Int32} {pd : Int64} {pj ps : Int32} (gp : h p = oPic pw ph pd pj ps) : AMet V i_Pic_darkDots 1 [.ref p] h n z (some (.int (fBC pd))) (h) n z := by
  refine AMet.intro (Nat.le_refl _) (Nat.le_refl _) (by decide) (Nat.le_of_ble_eq_true rfl) rfl ?_
  refine a_aload_n d_Pic_darkDots_0 rfl ?_
  refine a_getf d_Pic_darkDots_1 f_Pic_16 gp rfl ?_
  refine a_cs0 d_Pic_darkDots_4 m_Lng_bitCount t_Lng_bitCount l_Pic_26 (s_Lng_bitCount pd) rfl rfl ⟨Nat.le_of_ble_eq_true rfl, Nat.le_of_ble_eq_true rfl⟩ (Nat.le_of_ble_eq_true rfl)  ?_
  exact a_iret d_Pic_darkDots_7 rfl rfl rfl rfl
set_option maxRecDepth 20000 in
set_option maxHeartbeats 4000000 in
theorem s_Pic_lay {p : Nat} {pw ph : Int32} {pd : Int64} {pj ps : Int32} (gp : h p = oPic pw ph pd pj ps) (b : Int64) (v : Int32) : AMet V i_Pic_lay 0 [.ref p, .long b, .int v] h n z (none) (hu h p (oPic pw ph (fLay pd b v) pj ps)) n z := by
  refine AMet.intro (Nat.le_refl _) (Nat.le_refl _) (by decide) (Nat.le_of_ble_eq_true rfl) rfl ?_
  refine a_iload_n d_Pic_lay_0 rfl ?_
  refine a_if_ne 21 d_Pic_lay_1 (by decide) (fun c1 => ?_) (fun c1 => ?_)
  · skip
    refine a_iload_n d_Pic_lay_21 rfl ?_
    refine a_iconst (v := 1) d_Pic_lay_22 (by decide) ?_
    refine a_icmp_ne 39 d_Pic_lay_23 (by decide) (fun c23 => ?_) (fun c23 => ?_)
    · skip
      refine a_aload_n d_Pic_lay_39 rfl ?_
      refine a_dup d_Pic_lay_40 rfl ?_
      refine a_getf d_Pic_lay_41 f_Pic_16 gp rfl ?_
      refine a_lload_n d_Pic_lay_44 rfl ?_
      refine a_lxor d_Pic_lay_45 ?_
      refine a_putf d_Pic_lay_46 f_Pic_16 rfl gp (Nat.le_of_ble_eq_true rfl) rfl rfl ?_
      exact a_vret d_Pic_lay_49 rfl rfl (by simp [fLay, c1, c23]) rfl
    · skip
      refine a_aload_n d_Pic_lay_26 rfl ?_
      refine a_dup d_Pic_lay_27 rfl ?_
      refine a_getf d_Pic_lay_28 f_Pic_16 gp rfl ?_
      refine a_lload_n d_Pic_lay_31 rfl ?_
      refine a_lor d_Pic_lay_32 ?_
      refine a_putf d_Pic_lay_33 f_Pic_16 rfl gp (Nat.le_of_ble_eq_true rfl) rfl rfl ?_
      refine a_goto 49 d_Pic_lay_36 (by decide) ?_
      exact a_vret d_Pic_lay_49 rfl rfl (by simp [fLay, c1, c23]) rfl
  · skip
    refine a_aload_n d_Pic_lay_4 rfl ?_
    refine a_dup d_Pic_lay_5 rfl ?_
    refine a_getf d_Pic_lay_6 f_Pic_16 gp rfl ?_
    refine a_lload_n d_Pic_lay_9 rfl ?_
    refine a_ldc2 d_Pic_lay_10 k_Pic_32 ?_
    refine a_lxor d_Pic_lay_13 ?_
    refine a_land d_Pic_lay_14 ?_
    refine a_putf d_Pic_lay_15 f_Pic_16 rfl gp (Nat.le_of_ble_eq_true rfl) rfl rfl ?_
    refine a_goto 49 d_Pic_lay_18 (by decide) ?_
    exact a_vret d_Pic_lay_49 rfl rfl (by simp [fLay, c1]) rfl
end
end
