section
-- ===== PART A: goes FIRST, ahead of the names: the tables' words, and 'selects' of the private methods out of them =====
/-- a private method of a class that the tables say can be made, by its rows of tables_1 -/
def lw_okq (q : MethodName × Nat) : Prop := (q.1.cls ≠ "java/lang/invoke/MethodHandle" ∧ q.1.cls ≠ "java/lang/invoke/VarHandle") ∧ Cond.instantiable q.1.cls q.2 ∈ tables_1 ∧ Cond.privateMethod q.1 ∈ tables_1 ∧ Cond.instanceMethod q.1 ∈ tables_1
theorem lw_p0 : lw_okq (⟨"DotOutlines$Reading", "faultInHead", "(II)I"⟩, 4) := ⟨⟨by decide +kernel, by decide +kernel⟩, List.mem_of_getElem? (i := 41) (by decide +kernel), List.mem_of_getElem? (i := 278) (by decide +kernel), List.mem_of_getElem? (i := 279) (by decide +kernel)⟩
theorem lw_p1 : lw_okq (⟨"DotOutlines$Reading", "faultInRows", "(II)I"⟩, 4) := ⟨⟨by decide +kernel, by decide +kernel⟩, List.mem_of_getElem? (i := 41) (by decide +kernel), List.mem_of_getElem? (i := 282) (by decide +kernel), List.mem_of_getElem? (i := 283) (by decide +kernel)⟩
theorem lw_p2 : lw_okq (⟨"DotOutlines$Acts", "forgetOldest", "()V"⟩, 4) := ⟨⟨by decide +kernel, by decide +kernel⟩, List.mem_of_getElem? (i := 94) (by decide +kernel), List.mem_of_getElem? (i := 325) (by decide +kernel), List.mem_of_getElem? (i := 326) (by decide +kernel)⟩
theorem lw_p3 : lw_okq (⟨"DotOutlines", "walkedBorders", "()I"⟩, 11) := ⟨⟨by decide +kernel, by decide +kernel⟩, List.mem_of_getElem? (i := 17) (by decide +kernel), List.mem_of_getElem? (i := 375) (by decide +kernel), List.mem_of_getElem? (i := 376) (by decide +kernel)⟩
theorem lw_p4 : lw_okq (⟨"DotOutlines$Borders", "nextBorder", "()LDotOutlines$Border;"⟩, 8) := ⟨⟨by decide +kernel, by decide +kernel⟩, List.mem_of_getElem? (i := 115) (by decide +kernel), List.mem_of_getElem? (i := 383) (by decide +kernel), List.mem_of_getElem? (i := 384) (by decide +kernel)⟩
theorem lw_p5 : lw_okq (⟨"DotOutlines$Borders", "walk", "(LDotOutlines$Border;J)V"⟩, 8) := ⟨⟨by decide +kernel, by decide +kernel⟩, List.mem_of_getElem? (i := 115) (by decide +kernel), List.mem_of_getElem? (i := 434) (by decide +kernel), List.mem_of_getElem? (i := 435) (by decide +kernel)⟩
theorem lw_p6 : lw_okq (⟨"DotOutlines$Borders", "nextWay", "(IZZ)I"⟩, 8) := ⟨⟨by decide +kernel, by decide +kernel⟩, List.mem_of_getElem? (i := 115) (by decide +kernel), List.mem_of_getElem? (i := 461) (by decide +kernel), List.mem_of_getElem? (i := 462) (by decide +kernel)⟩
theorem lw_p7 : lw_okq (⟨"DotOutlines", "borderNumber", "(I)LDotOutlines$Border;"⟩, 11) := ⟨⟨by decide +kernel, by decide +kernel⟩, List.mem_of_getElem? (i := 17) (by decide +kernel), List.mem_of_getElem? (i := 469) (by decide +kernel), List.mem_of_getElem? (i := 470) (by decide +kernel)⟩
theorem lw_p8 : lw_okq (⟨"DotOutlines", "shapedBorder", "(I)LDotOutlines$Border;"⟩, 11) := ⟨⟨by decide +kernel, by decide +kernel⟩, List.mem_of_getElem? (i := 17) (by decide +kernel), List.mem_of_getElem? (i := 553) (by decide +kernel), List.mem_of_getElem? (i := 554) (by decide +kernel)⟩
theorem lw_p9 : lw_okq (⟨"DotOutlines$Polygons", "costOfRound", "(LDotOutlines$Border;I)I"⟩, 5) := ⟨⟨by decide +kernel, by decide +kernel⟩, List.mem_of_getElem? (i := 165) (by decide +kernel), List.mem_of_getElem? (i := 567) (by decide +kernel), List.mem_of_getElem? (i := 568) (by decide +kernel)⟩
theorem lw_p10 : lw_okq (⟨"DotOutlines$Polygons", "writeVertices", "(LDotOutlines$Border;I)V"⟩, 5) := ⟨⟨by decide +kernel, by decide +kernel⟩, List.mem_of_getElem? (i := 165) (by decide +kernel), List.mem_of_getElem? (i := 582) (by decide +kernel), List.mem_of_getElem? (i := 583) (by decide +kernel)⟩
theorem lw_p11 : lw_okq (⟨"DotOutlines$Polygons", "nearestStep", "(LDotOutlines$Border;III)I"⟩, 5) := ⟨⟨by decide +kernel, by decide +kernel⟩, List.mem_of_getElem? (i := 165) (by decide +kernel), List.mem_of_getElem? (i := 586) (by decide +kernel), List.mem_of_getElem? (i := 587) (by decide +kernel)⟩
theorem lw_p12 : lw_okq (⟨"DotOutlines", "sizeOf", "(LDotOutlines$Border;I)I"⟩, 11) := ⟨⟨by decide +kernel, by decide +kernel⟩, List.mem_of_getElem? (i := 17) (by decide +kernel), List.mem_of_getElem? (i := 732) (by decide +kernel), List.mem_of_getElem? (i := 733) (by decide +kernel)⟩
theorem lw_p13 : lw_okq (⟨"DotOutlines", "imageNumber", "(I)LDotOutlines$Picture;"⟩, 11) := ⟨⟨by decide +kernel, by decide +kernel⟩, List.mem_of_getElem? (i := 17) (by decide +kernel), List.mem_of_getElem? (i := 740) (by decide +kernel), List.mem_of_getElem? (i := 741) (by decide +kernel)⟩
theorem lw_p14 : lw_okq (⟨"DotOutlinesModel", "reads", "()I"⟩, 31) := ⟨⟨by decide +kernel, by decide +kernel⟩, List.mem_of_getElem? (i := 756) (by decide +kernel), List.mem_of_getElem? (i := 869) (by decide +kernel), List.mem_of_getElem? (i := 870) (by decide +kernel)⟩
theorem lw_p15 : lw_okq (⟨"DotOutlinesModel", "sign", "(I)I"⟩, 31) := ⟨⟨by decide +kernel, by decide +kernel⟩, List.mem_of_getElem? (i := 756) (by decide +kernel), List.mem_of_getElem? (i := 873) (by decide +kernel), List.mem_of_getElem? (i := 874) (by decide +kernel)⟩
def lw_privs_1 : List (MethodName × Nat) := [(⟨"DotOutlines$Reading", "faultInHead", "(II)I"⟩, 4), (⟨"DotOutlines$Reading", "faultInRows", "(II)I"⟩, 4), (⟨"DotOutlines$Acts", "forgetOldest", "()V"⟩, 4), (⟨"DotOutlines", "walkedBorders", "()I"⟩, 11), (⟨"DotOutlines$Borders", "nextBorder", "()LDotOutlines$Border;"⟩, 8), (⟨"DotOutlines$Borders", "walk", "(LDotOutlines$Border;J)V"⟩, 8), (⟨"DotOutlines$Borders", "nextWay", "(IZZ)I"⟩, 8), (⟨"DotOutlines", "borderNumber", "(I)LDotOutlines$Border;"⟩, 11), (⟨"DotOutlines", "shapedBorder", "(I)LDotOutlines$Border;"⟩, 11), (⟨"DotOutlines$Polygons", "costOfRound", "(LDotOutlines$Border;I)I"⟩, 5), (⟨"DotOutlines$Polygons", "writeVertices", "(LDotOutlines$Border;I)V"⟩, 5), (⟨"DotOutlines$Polygons", "nearestStep", "(LDotOutlines$Border;III)I"⟩, 5), (⟨"DotOutlines", "sizeOf", "(LDotOutlines$Border;I)I"⟩, 11), (⟨"DotOutlines", "imageNumber", "(I)LDotOutlines$Picture;"⟩, 11), (⟨"DotOutlinesModel", "reads", "()I"⟩, 31), (⟨"DotOutlinesModel", "sign", "(I)I"⟩, 31)]
theorem lw_r1 : ∀ q ∈ lw_privs_1, lw_okq q := List.forall_mem_cons.mpr ⟨lw_p0, List.forall_mem_cons.mpr ⟨lw_p1, List.forall_mem_cons.mpr ⟨lw_p2, List.forall_mem_cons.mpr ⟨lw_p3, List.forall_mem_cons.mpr ⟨lw_p4, List.forall_mem_cons.mpr ⟨lw_p5, List.forall_mem_cons.mpr ⟨lw_p6, List.forall_mem_cons.mpr ⟨lw_p7, List.forall_mem_cons.mpr ⟨lw_p8, List.forall_mem_cons.mpr ⟨lw_p9, List.forall_mem_cons.mpr ⟨lw_p10, List.forall_mem_cons.mpr ⟨lw_p11, List.forall_mem_cons.mpr ⟨lw_p12, List.forall_mem_cons.mpr ⟨lw_p13, List.forall_mem_cons.mpr ⟨lw_p14, List.forall_mem_cons.mpr ⟨lw_p15, fun _ h => absurd h List.not_mem_nil⟩⟩⟩⟩⟩⟩⟩⟩⟩⟩⟩⟩⟩⟩⟩⟩
theorem lw_p16 : lw_okq (⟨"DotOutlinesModel", "due", "(IIII)I"⟩, 31) := ⟨⟨by decide +kernel, by decide +kernel⟩, List.mem_of_getElem? (i := 756) (by decide +kernel), List.mem_of_getElem? (i := 877) (by decide +kernel), List.mem_of_getElem? (i := 878) (by decide +kernel)⟩
theorem lw_p17 : lw_okq (⟨"DotOutlinesModel", "readsRow", "(I)I"⟩, 31) := ⟨⟨by decide +kernel, by decide +kernel⟩, List.mem_of_getElem? (i := 756) (by decide +kernel), List.mem_of_getElem? (i := 881) (by decide +kernel), List.mem_of_getElem? (i := 882) (by decide +kernel)⟩
theorem lw_p18 : lw_okq (⟨"DotOutlinesModel", "dark", "()I"⟩, 31) := ⟨⟨by decide +kernel, by decide +kernel⟩, List.mem_of_getElem? (i := 756) (by decide +kernel), List.mem_of_getElem? (i := 889) (by decide +kernel), List.mem_of_getElem? (i := 890) (by decide +kernel)⟩
theorem lw_p19 : lw_okq (⟨"DotOutlinesModel", "isDot", "(II)Z"⟩, 31) := ⟨⟨by decide +kernel, by decide +kernel⟩, List.mem_of_getElem? (i := 756) (by decide +kernel), List.mem_of_getElem? (i := 906) (by decide +kernel), List.mem_of_getElem? (i := 907) (by decide +kernel)⟩
theorem lw_p20 : lw_okq (⟨"DotOutlinesModel", "notes", "()V"⟩, 31) := ⟨⟨by decide +kernel, by decide +kernel⟩, List.mem_of_getElem? (i := 756) (by decide +kernel), List.mem_of_getElem? (i := 910) (by decide +kernel), List.mem_of_getElem? (i := 911) (by decide +kernel)⟩
theorem lw_p21 : lw_okq (⟨"DotOutlinesModel", "tells", "(IIII)I"⟩, 31) := ⟨⟨by decide +kernel, by decide +kernel⟩, List.mem_of_getElem? (i := 756) (by decide +kernel), List.mem_of_getElem? (i := 922) (by decide +kernel), List.mem_of_getElem? (i := 923) (by decide +kernel)⟩
theorem lw_p22 : lw_okq (⟨"DotOutlinesModel", "isPicture", "()Z"⟩, 31) := ⟨⟨by decide +kernel, by decide +kernel⟩, List.mem_of_getElem? (i := 756) (by decide +kernel), List.mem_of_getElem? (i := 926) (by decide +kernel), List.mem_of_getElem? (i := 927) (by decide +kernel)⟩
theorem lw_p23 : lw_okq (⟨"DotOutlinesModel", "lays", "()V"⟩, 31) := ⟨⟨by decide +kernel, by decide +kernel⟩, List.mem_of_getElem? (i := 756) (by decide +kernel), List.mem_of_getElem? (i := 942) (by decide +kernel), List.mem_of_getElem? (i := 943) (by decide +kernel)⟩
theorem lw_p24 : lw_okq (⟨"DotOutlinesModel", "walks", "(II)V"⟩, 31) := ⟨⟨by decide +kernel, by decide +kernel⟩, List.mem_of_getElem? (i := 756) (by decide +kernel), List.mem_of_getElem? (i := 946) (by decide +kernel), List.mem_of_getElem? (i := 947) (by decide +kernel)⟩
theorem lw_p25 : lw_okq (⟨"DotOutlinesModel", "turns", "(III)I"⟩, 31) := ⟨⟨by decide +kernel, by decide +kernel⟩, List.mem_of_getElem? (i := 756) (by decide +kernel), List.mem_of_getElem? (i := 956) (by decide +kernel), List.mem_of_getElem? (i := 957) (by decide +kernel)⟩
theorem lw_p26 : lw_okq (⟨"DotOutlinesModel", "isBeside", "(IIII)Z"⟩, 31) := ⟨⟨by decide +kernel, by decide +kernel⟩, List.mem_of_getElem? (i := 756) (by decide +kernel), List.mem_of_getElem? (i := 960) (by decide +kernel), List.mem_of_getElem? (i := 961) (by decide +kernel)⟩
theorem lw_p27 : lw_okq (⟨"DotOutlinesModel", "isRest", "(II)Z"⟩, 31) := ⟨⟨by decide +kernel, by decide +kernel⟩, List.mem_of_getElem? (i := 756) (by decide +kernel), List.mem_of_getElem? (i := 964) (by decide +kernel), List.mem_of_getElem? (i := 965) (by decide +kernel)⟩
theorem lw_p28 : lw_okq (⟨"DotOutlinesModel", "isWithin", "(III)Z"⟩, 31) := ⟨⟨by decide +kernel, by decide +kernel⟩, List.mem_of_getElem? (i := 756) (by decide +kernel), List.mem_of_getElem? (i := 968) (by decide +kernel), List.mem_of_getElem? (i := 969) (by decide +kernel)⟩
theorem lw_p29 : lw_okq (⟨"DotOutlinesModel", "isBorder", "(I)Z"⟩, 31) := ⟨⟨by decide +kernel, by decide +kernel⟩, List.mem_of_getElem? (i := 756) (by decide +kernel), List.mem_of_getElem? (i := 976) (by decide +kernel), List.mem_of_getElem? (i := 977) (by decide +kernel)⟩
theorem lw_p30 : lw_okq (⟨"DotOutlinesModel", "bends", "(I)I"⟩, 31) := ⟨⟨by decide +kernel, by decide +kernel⟩, List.mem_of_getElem? (i := 756) (by decide +kernel), List.mem_of_getElem? (i := 983) (by decide +kernel), List.mem_of_getElem? (i := 984) (by decide +kernel)⟩
theorem lw_p31 : lw_okq (⟨"DotOutlinesModel", "isIn", "(III)Z"⟩, 31) := ⟨⟨by decide +kernel, by decide +kernel⟩, List.mem_of_getElem? (i := 756) (by decide +kernel), List.mem_of_getElem? (i := 995) (by decide +kernel), List.mem_of_getElem? (i := 996) (by decide +kernel)⟩
def lw_privs_2 : List (MethodName × Nat) := [(⟨"DotOutlinesModel", "due", "(IIII)I"⟩, 31), (⟨"DotOutlinesModel", "readsRow", "(I)I"⟩, 31), (⟨"DotOutlinesModel", "dark", "()I"⟩, 31), (⟨"DotOutlinesModel", "isDot", "(II)Z"⟩, 31), (⟨"DotOutlinesModel", "notes", "()V"⟩, 31), (⟨"DotOutlinesModel", "tells", "(IIII)I"⟩, 31), (⟨"DotOutlinesModel", "isPicture", "()Z"⟩, 31), (⟨"DotOutlinesModel", "lays", "()V"⟩, 31), (⟨"DotOutlinesModel", "walks", "(II)V"⟩, 31), (⟨"DotOutlinesModel", "turns", "(III)I"⟩, 31), (⟨"DotOutlinesModel", "isBeside", "(IIII)Z"⟩, 31), (⟨"DotOutlinesModel", "isRest", "(II)Z"⟩, 31), (⟨"DotOutlinesModel", "isWithin", "(III)Z"⟩, 31), (⟨"DotOutlinesModel", "isBorder", "(I)Z"⟩, 31), (⟨"DotOutlinesModel", "bends", "(I)I"⟩, 31), (⟨"DotOutlinesModel", "isIn", "(III)Z"⟩, 31)]
theorem lw_r2 : ∀ q ∈ lw_privs_2, lw_okq q := List.forall_mem_cons.mpr ⟨lw_p16, List.forall_mem_cons.mpr ⟨lw_p17, List.forall_mem_cons.mpr ⟨lw_p18, List.forall_mem_cons.mpr ⟨lw_p19, List.forall_mem_cons.mpr ⟨lw_p20, List.forall_mem_cons.mpr ⟨lw_p21, List.forall_mem_cons.mpr ⟨lw_p22, List.forall_mem_cons.mpr ⟨lw_p23, List.forall_mem_cons.mpr ⟨lw_p24, List.forall_mem_cons.mpr ⟨lw_p25, List.forall_mem_cons.mpr ⟨lw_p26, List.forall_mem_cons.mpr ⟨lw_p27, List.forall_mem_cons.mpr ⟨lw_p28, List.forall_mem_cons.mpr ⟨lw_p29, List.forall_mem_cons.mpr ⟨lw_p30, List.forall_mem_cons.mpr ⟨lw_p31, fun _ h => absurd h List.not_mem_nil⟩⟩⟩⟩⟩⟩⟩⟩⟩⟩⟩⟩⟩⟩⟩⟩
theorem lw_p32 : lw_okq (⟨"DotOutlinesModel", "isStretch", "(III)Z"⟩, 31) := ⟨⟨by decide +kernel, by decide +kernel⟩, List.mem_of_getElem? (i := 756) (by decide +kernel), List.mem_of_getElem? (i := 1003) (by decide +kernel), List.mem_of_getElem? (i := 1004) (by decide +kernel)⟩
theorem lw_p33 : lw_okq (⟨"DotOutlinesModel", "offOf", "(III)I"⟩, 31) := ⟨⟨by decide +kernel, by decide +kernel⟩, List.mem_of_getElem? (i := 756) (by decide +kernel), List.mem_of_getElem? (i := 1007) (by decide +kernel), List.mem_of_getElem? (i := 1008) (by decide +kernel)⟩
theorem lw_p34 : lw_okq (⟨"DotOutlinesModel", "laysTable", "(I)V"⟩, 31) := ⟨⟨by decide +kernel, by decide +kernel⟩, List.mem_of_getElem? (i := 756) (by decide +kernel), List.mem_of_getElem? (i := 1027) (by decide +kernel), List.mem_of_getElem? (i := 1028) (by decide +kernel)⟩
theorem lw_p35 : lw_okq (⟨"DotOutlinesModel", "laysBest", "(I)V"⟩, 31) := ⟨⟨by decide +kernel, by decide +kernel⟩, List.mem_of_getElem? (i := 756) (by decide +kernel), List.mem_of_getElem? (i := 1031) (by decide +kernel), List.mem_of_getElem? (i := 1032) (by decide +kernel)⟩
theorem lw_p36 : lw_okq (⟨"DotOutlinesModel", "laysLeast", "(II)I"⟩, 31) := ⟨⟨by decide +kernel, by decide +kernel⟩, List.mem_of_getElem? (i := 756) (by decide +kernel), List.mem_of_getElem? (i := 1036) (by decide +kernel), List.mem_of_getElem? (i := 1037) (by decide +kernel)⟩
theorem lw_p37 : lw_okq (⟨"DotOutlinesModel", "stretch", "(III)I"⟩, 31) := ⟨⟨by decide +kernel, by decide +kernel⟩, List.mem_of_getElem? (i := 756) (by decide +kernel), List.mem_of_getElem? (i := 1040) (by decide +kernel), List.mem_of_getElem? (i := 1041) (by decide +kernel)⟩
theorem lw_p38 : lw_okq (⟨"DotOutlinesModel", "sharpMany", "(I)I"⟩, 31) := ⟨⟨by decide +kernel, by decide +kernel⟩, List.mem_of_getElem? (i := 756) (by decide +kernel), List.mem_of_getElem? (i := 1045) (by decide +kernel), List.mem_of_getElem? (i := 1046) (by decide +kernel)⟩
theorem lw_p39 : lw_okq (⟨"DotOutlinesModel", "isSharp", "(II)Z"⟩, 31) := ⟨⟨by decide +kernel, by decide +kernel⟩, List.mem_of_getElem? (i := 756) (by decide +kernel), List.mem_of_getElem? (i := 1049) (by decide +kernel), List.mem_of_getElem? (i := 1050) (by decide +kernel)⟩
theorem lw_p40 : lw_okq (⟨"DotOutlinesModel", "vx", "(II)I"⟩, 31) := ⟨⟨by decide +kernel, by decide +kernel⟩, List.mem_of_getElem? (i := 756) (by decide +kernel), List.mem_of_getElem? (i := 1053) (by decide +kernel), List.mem_of_getElem? (i := 1054) (by decide +kernel)⟩
theorem lw_p41 : lw_okq (⟨"DotOutlinesModel", "vy", "(II)I"⟩, 31) := ⟨⟨by decide +kernel, by decide +kernel⟩, List.mem_of_getElem? (i := 756) (by decide +kernel), List.mem_of_getElem? (i := 1057) (by decide +kernel), List.mem_of_getElem? (i := 1058) (by decide +kernel)⟩
theorem lw_p42 : lw_okq (⟨"DotOutlinesModel", "turnOf", "(II)I"⟩, 31) := ⟨⟨by decide +kernel, by decide +kernel⟩, List.mem_of_getElem? (i := 756) (by decide +kernel), List.mem_of_getElem? (i := 1061) (by decide +kernel), List.mem_of_getElem? (i := 1062) (by decide +kernel)⟩
theorem lw_p43 : lw_okq (⟨"DotOutlinesModel", "twice", "(I)I"⟩, 31) := ⟨⟨by decide +kernel, by decide +kernel⟩, List.mem_of_getElem? (i := 756) (by decide +kernel), List.mem_of_getElem? (i := 1068) (by decide +kernel), List.mem_of_getElem? (i := 1069) (by decide +kernel)⟩
theorem lw_p44 : lw_okq (⟨"DotOutlinesModel", "fewest", "(II)I"⟩, 31) := ⟨⟨by decide +kernel, by decide +kernel⟩, List.mem_of_getElem? (i := 756) (by decide +kernel), List.mem_of_getElem? (i := 1080) (by decide +kernel), List.mem_of_getElem? (i := 1081) (by decide +kernel)⟩
theorem lw_p45 : lw_okq (⟨"DotOutlinesModel", "pointOf", "(IIII)I"⟩, 31) := ⟨⟨by decide +kernel, by decide +kernel⟩, List.mem_of_getElem? (i := 756) (by decide +kernel), List.mem_of_getElem? (i := 1088) (by decide +kernel), List.mem_of_getElem? (i := 1089) (by decide +kernel)⟩
theorem lw_p46 : lw_okq (⟨"DotOutlinesModel", "laysLine", "(II)V"⟩, 31) := ⟨⟨by decide +kernel, by decide +kernel⟩, List.mem_of_getElem? (i := 756) (by decide +kernel), List.mem_of_getElem? (i := 1096) (by decide +kernel), List.mem_of_getElem? (i := 1097) (by decide +kernel)⟩
theorem lw_p47 : lw_okq (⟨"DotOutlinesModel", "adds", "(II)V"⟩, 31) := ⟨⟨by decide +kernel, by decide +kernel⟩, List.mem_of_getElem? (i := 756) (by decide +kernel), List.mem_of_getElem? (i := 1100) (by decide +kernel), List.mem_of_getElem? (i := 1101) (by decide +kernel)⟩
def lw_privs_3 : List (MethodName × Nat) := [(⟨"DotOutlinesModel", "isStretch", "(III)Z"⟩, 31), (⟨"DotOutlinesModel", "offOf", "(III)I"⟩, 31), (⟨"DotOutlinesModel", "laysTable", "(I)V"⟩, 31), (⟨"DotOutlinesModel", "laysBest", "(I)V"⟩, 31), (⟨"DotOutlinesModel", "laysLeast", "(II)I"⟩, 31), (⟨"DotOutlinesModel", "stretch", "(III)I"⟩, 31), (⟨"DotOutlinesModel", "sharpMany", "(I)I"⟩, 31), (⟨"DotOutlinesModel", "isSharp", "(II)Z"⟩, 31), (⟨"DotOutlinesModel", "vx", "(II)I"⟩, 31), (⟨"DotOutlinesModel", "vy", "(II)I"⟩, 31), (⟨"DotOutlinesModel", "turnOf", "(II)I"⟩, 31), (⟨"DotOutlinesModel", "twice", "(I)I"⟩, 31), (⟨"DotOutlinesModel", "fewest", "(II)I"⟩, 31), (⟨"DotOutlinesModel", "pointOf", "(IIII)I"⟩, 31), (⟨"DotOutlinesModel", "laysLine", "(II)V"⟩, 31), (⟨"DotOutlinesModel", "adds", "(II)V"⟩, 31)]
theorem lw_r3 : ∀ q ∈ lw_privs_3, lw_okq q := List.forall_mem_cons.mpr ⟨lw_p32, List.forall_mem_cons.mpr ⟨lw_p33, List.forall_mem_cons.mpr ⟨lw_p34, List.forall_mem_cons.mpr ⟨lw_p35, List.forall_mem_cons.mpr ⟨lw_p36, List.forall_mem_cons.mpr ⟨lw_p37, List.forall_mem_cons.mpr ⟨lw_p38, List.forall_mem_cons.mpr ⟨lw_p39, List.forall_mem_cons.mpr ⟨lw_p40, List.forall_mem_cons.mpr ⟨lw_p41, List.forall_mem_cons.mpr ⟨lw_p42, List.forall_mem_cons.mpr ⟨lw_p43, List.forall_mem_cons.mpr ⟨lw_p44, List.forall_mem_cons.mpr ⟨lw_p45, List.forall_mem_cons.mpr ⟨lw_p46, List.forall_mem_cons.mpr ⟨lw_p47, fun _ h => absurd h List.not_mem_nil⟩⟩⟩⟩⟩⟩⟩⟩⟩⟩⟩⟩⟩⟩⟩⟩
theorem lw_p48 : lw_okq (⟨"DotOutlinesModel", "isFilled", "(II)Z"⟩, 31) := ⟨⟨by decide +kernel, by decide +kernel⟩, List.mem_of_getElem? (i := 756) (by decide +kernel), List.mem_of_getElem? (i := 1104) (by decide +kernel), List.mem_of_getElem? (i := 1105) (by decide +kernel)⟩
def lw_privs_4 : List (MethodName × Nat) := [(⟨"DotOutlinesModel", "isFilled", "(II)Z"⟩, 31)]
theorem lw_r4 : ∀ q ∈ lw_privs_4, lw_okq q := List.forall_mem_cons.mpr ⟨lw_p48, fun _ h => absurd h List.not_mem_nil⟩
def lw_privs : List (MethodName × Nat) := lw_privs_1 ++ (lw_privs_2 ++ (lw_privs_3 ++ (lw_privs_4)))
def lw_tbl : List Cond := k2_sels lw_privs ++ tables_1
theorem lw_privs_ok : ∀ q ∈ lw_privs, lw_okq q := by
  show ∀ q ∈ lw_privs_1 ++ (lw_privs_2 ++ (lw_privs_3 ++ (lw_privs_4))), lw_okq q
  exact List.forall_mem_append.mpr ⟨lw_r1, List.forall_mem_append.mpr ⟨lw_r2, List.forall_mem_append.mpr ⟨lw_r3, lw_r4⟩⟩⟩
-- ===== end of PART A; then your names; then what follows =====
/-! ===== BEGIN printed: names, fields, word lists, decode rows ===== -/
def RX0 : String := "DotOutlines$Acts"
def TX0 : u_T := fun k => match k with
  | 0 => ("DotOutlines$Acts", "dots", "[J", true)
  | 1 => ("DotOutlines$Acts", "joinings", "[I", true)
  | 2 => ("DotOutlines$Acts", "sharpnesses", "[I", true)
  | _ => ("DotOutlines$Acts", "size", "I", false)
def tyX0 : Nat → FieldType := fun k => match k with
  | 0 => .array .long
  | 1 => .array .int
  | 2 => .array .int
  | _ => .int
abbrev wsX00 : List Cond := u_ws RX0 TX0 4
theorem nmX0 : ∀ a, a < 4 → ∀ b, b < 4 → a ≠ b → (TX0 a).2.1 ≠ (TX0 b).2.1 := by decide +kernel
theorem tyX0_ok : ∀ k, k < 4 → parseFieldDescriptor (TX0 k).2.2.1 = some (tyX0 k) := by decide +kernel
abbrev cX0_init : ByteArray := prog_2_method_1_code
def yX0_init : MethodName := ⟨RX0, "<init>", "()V"⟩
abbrev cX0_remember : ByteArray := prog_2_method_2_code
def yX0_remember : MethodName := ⟨RX0, "remember", "(LDotOutlines$Picture;)V"⟩
abbrev cX0_forgetOldest : ByteArray := prog_2_method_3_code
def yX0_forgetOldest : MethodName := ⟨RX0, "forgetOldest", "()V"⟩
abbrev cX0_takeBack : ByteArray := prog_2_method_4_code
def yX0_takeBack : MethodName := ⟨RX0, "takeBack", "(LDotOutlines$Picture;)Z"⟩
def RX1 : String := "DotOutlines$Bend"
def TX1 : u_T := fun k => match k with
  | 0 => ("DotOutlines$Bend", "ux", "I", false)
  | 1 => ("DotOutlines$Bend", "uy", "I", false)
  | 2 => ("DotOutlines$Bend", "vx", "I", false)
  | 3 => ("DotOutlines$Bend", "vy", "I", false)
  | 4 => ("DotOutlines$Bend", "wx", "I", false)
  | _ => ("DotOutlines$Bend", "wy", "I", false)
def tyX1 : Nat → FieldType := fun k => match k with
  | 0 => .int
  | 1 => .int
  | 2 => .int
  | 3 => .int
  | 4 => .int
  | _ => .int
abbrev wsX10 : List Cond := u_ws RX1 TX1 6
theorem nmX1 : ∀ a, a < 6 → ∀ b, b < 6 → a ≠ b → (TX1 a).2.1 ≠ (TX1 b).2.1 := by decide +kernel
theorem tyX1_ok : ∀ k, k < 6 → parseFieldDescriptor (TX1 k).2.2.1 = some (tyX1 k) := by decide +kernel
abbrev cX1_init : ByteArray := prog_3_method_1_code
def yX1_init : MethodName := ⟨RX1, "<init>", "()V"⟩
abbrev cX1_from : ByteArray := prog_3_method_2_code
def yX1_from : MethodName := ⟨RX1, "from", "(II)V"⟩
abbrev cX1_by : ByteArray := prog_3_method_3_code
def yX1_by : MethodName := ⟨RX1, "by", "(II)V"⟩
abbrev cX1_to : ByteArray := prog_3_method_4_code
def yX1_to : MethodName := ⟨RX1, "to", "(II)V"⟩
abbrev cX1_turn : ByteArray := prog_3_method_5_code
def yX1_turn : MethodName := ⟨RX1, "turn", "()I"⟩
abbrev cX1_isSharp : ByteArray := prog_3_method_6_code
def yX1_isSharp : MethodName := ⟨RX1, "isSharp", "(I)Z"⟩
abbrev cX1_greater : ByteArray := prog_3_method_7_code
def yX1_greater : MethodName := ⟨RX1, "greater", "(II)I"⟩
abbrev cX1_xOnRound : ByteArray := prog_3_method_8_code
def yX1_xOnRound : MethodName := ⟨RX1, "xOnRound", "(I)I"⟩
abbrev cX1_yOnRound : ByteArray := prog_3_method_9_code
def yX1_yOnRound : MethodName := ⟨RX1, "yOnRound", "(I)I"⟩
abbrev cX1_xOfVertex : ByteArray := prog_3_method_10_code
def yX1_xOfVertex : MethodName := ⟨RX1, "xOfVertex", "()I"⟩
abbrev cX1_yOfVertex : ByteArray := prog_3_method_11_code
def yX1_yOfVertex : MethodName := ⟨RX1, "yOfVertex", "()I"⟩
abbrev cX1_xOfNext : ByteArray := prog_3_method_12_code
def yX1_xOfNext : MethodName := ⟨RX1, "xOfNext", "()I"⟩
abbrev cX1_yOfNext : ByteArray := prog_3_method_13_code
def yX1_yOfNext : MethodName := ⟨RX1, "yOfNext", "()I"⟩
abbrev cX1_onRound : ByteArray := prog_3_method_14_code
def yX1_onRound : MethodName := ⟨RX1, "onRound", "(IIII)I"⟩
def RX2 : String := "DotOutlines$Border"
def TX2 : u_T := fun k => match k with
  | 0 => ("DotOutlines$Border", "start", "I", false)
  | 1 => ("DotOutlines$Border", "length", "I", false)
  | 2 => ("DotOutlines$Border", "first", "I", false)
  | 3 => ("DotOutlines$Border", "within", "J", false)
  | 4 => ("DotOutlines$Border", "measured", "Z", false)
  | 5 => ("DotOutlines$Border", "vertices", "I", false)
  | _ => ("DotOutlines$Border", "bestOff", "I", false)
def tyX2 : Nat → FieldType := fun k => match k with
  | 0 => .int
  | 1 => .int
  | 2 => .int
  | 3 => .long
  | 4 => .boolean
  | 5 => .int
  | _ => .int
abbrev wsX20 : List Cond := u_ws RX2 TX2 7
theorem nmX2 : ∀ a, a < 7 → ∀ b, b < 7 → a ≠ b → (TX2 a).2.1 ≠ (TX2 b).2.1 := by decide +kernel
theorem tyX2_ok : ∀ k, k < 7 → parseFieldDescriptor (TX2 k).2.2.1 = some (tyX2 k) := by decide +kernel
abbrev cX2_init : ByteArray := prog_4_method_1_code
def yX2_init : MethodName := ⟨RX2, "<init>", "()V"⟩
abbrev cX2_begin : ByteArray := prog_4_method_2_code
def yX2_begin : MethodName := ⟨RX2, "begin", "(II)V"⟩
abbrev cX2_hasCorner : ByteArray := prog_4_method_3_code
def yX2_hasCorner : MethodName := ⟨RX2, "hasCorner", "(I)Z"⟩
abbrev cX2_hasVertex : ByteArray := prog_4_method_4_code
def yX2_hasVertex : MethodName := ⟨RX2, "hasVertex", "(I)Z"⟩
abbrev cX2_hasStretch : ByteArray := prog_4_method_5_code
def yX2_hasStretch : MethodName := ⟨RX2, "hasStretch", "(II)Z"⟩
abbrev cX2_place : ByteArray := prog_4_method_6_code
def yX2_place : MethodName := ⟨RX2, "place", "(I)I"⟩
def RX3 : String := "DotOutlines$Borders"
def TX3 : u_T := fun k => match k with
  | 0 => ("DotOutlines$Borders", "xs", "[I", true)
  | 1 => ("DotOutlines$Borders", "ys", "[I", true)
  | 2 => ("DotOutlines$Borders", "ways", "[I", true)
  | 3 => ("DotOutlines$Borders", "known", "[LDotOutlines$Border;", true)
  | 4 => ("DotOutlines$Borders", "walked", "Z", false)
  | 5 => ("DotOutlines$Borders", "dots", "J", false)
  | 6 => ("DotOutlines$Borders", "joining", "I", false)
  | _ => ("DotOutlines$Borders", "size", "I", false)
def tyX3 : Nat → FieldType := fun k => match k with
  | 0 => .array .int
  | 1 => .array .int
  | 2 => .array .int
  | 3 => .array (.object "DotOutlines$Border")
  | 4 => .boolean
  | 5 => .long
  | 6 => .int
  | _ => .int
abbrev wsX30 : List Cond := u_ws RX3 TX3 8
theorem nmX3 : ∀ a, a < 8 → ∀ b, b < 8 → a ≠ b → (TX3 a).2.1 ≠ (TX3 b).2.1 := by decide +kernel
theorem tyX3_ok : ∀ k, k < 8 → parseFieldDescriptor (TX3 k).2.2.1 = some (tyX3 k) := by decide +kernel
abbrev cX3_init : ByteArray := prog_5_method_1_code
def yX3_init : MethodName := ⟨RX3, "<init>", "()V"⟩
abbrev cX3_at : ByteArray := prog_5_method_2_code
def yX3_at : MethodName := ⟨RX3, "at", "(I)LDotOutlines$Border;"⟩
abbrev cX3_xAt : ByteArray := prog_5_method_3_code
def yX3_xAt : MethodName := ⟨RX3, "xAt", "(LDotOutlines$Border;I)I"⟩
abbrev cX3_yAt : ByteArray := prog_5_method_4_code
def yX3_yAt : MethodName := ⟨RX3, "yAt", "(LDotOutlines$Border;I)I"⟩
abbrev cX3_wayAt : ByteArray := prog_5_method_5_code
def yX3_wayAt : MethodName := ⟨RX3, "wayAt", "(LDotOutlines$Border;I)I"⟩
abbrev cX3_turningSteps : ByteArray := prog_5_method_6_code
def yX3_turningSteps : MethodName := ⟨RX3, "turningSteps", "(LDotOutlines$Border;)I"⟩
abbrev cX3_follow : ByteArray := prog_5_method_7_code
def yX3_follow : MethodName := ⟨RX3, "follow", "(JI)V"⟩
abbrev cX3_nextBorder : ByteArray := prog_5_method_8_code
def yX3_nextBorder : MethodName := ⟨RX3, "nextBorder", "()LDotOutlines$Border;"⟩
abbrev cX3_walk : ByteArray := prog_5_method_9_code
def yX3_walk : MethodName := ⟨RX3, "walk", "(LDotOutlines$Border;J)V"⟩
abbrev cX3_dotsRightOf : ByteArray := prog_5_method_10_code
def yX3_dotsRightOf : MethodName := ⟨RX3, "dotsRightOf", "(III)J"⟩
abbrev cX3_dotAhead : ByteArray := prog_5_method_11_code
def yX3_dotAhead : MethodName := ⟨RX3, "dotAhead", "(III)J"⟩
abbrev cX3_nextWay : ByteArray := prog_5_method_12_code
def yX3_nextWay : MethodName := ⟨RX3, "nextWay", "(IZZ)I"⟩
def RX4 : String := "DotOutlines$Filling"
def TX4 : u_T := fun k => match k with
  | _ => ("DotOutlines$Filling", "polygons", "LDotOutlines$Polygons;", true)
def tyX4 : Nat → FieldType := fun k => match k with
  | _ => .object "DotOutlines$Polygons"
abbrev wsX40 : List Cond := u_ws RX4 TX4 1
theorem nmX4 : ∀ a, a < 1 → ∀ b, b < 1 → a ≠ b → (TX4 a).2.1 ≠ (TX4 b).2.1 := by decide +kernel
theorem tyX4_ok : ∀ k, k < 1 → parseFieldDescriptor (TX4 k).2.2.1 = some (tyX4 k) := by decide +kernel
abbrev cX4_init : ByteArray := prog_6_method_1_code
def yX4_init : MethodName := ⟨RX4, "<init>", "(LDotOutlines$Polygons;)V"⟩
abbrev cX4_by : ByteArray := prog_6_method_2_code
def yX4_by : MethodName := ⟨RX4, "by", "(LDotOutlines$Border;II)J"⟩
abbrev cX4_rightOfSharp : ByteArray := prog_6_method_3_code
def yX4_rightOfSharp : MethodName := ⟨RX4, "rightOfSharp", "(LDotOutlines$Bend;)J"⟩
abbrev cX4_rightOfRound : ByteArray := prog_6_method_4_code
def yX4_rightOfRound : MethodName := ⟨RX4, "rightOfRound", "(LDotOutlines$Bend;)J"⟩
abbrev cX4_rightOf : ByteArray := prog_6_method_5_code
def yX4_rightOf : MethodName := ⟨RX4, "rightOf", "(IIII)J"⟩
abbrev cX4_rightOfFalling : ByteArray := prog_6_method_6_code
def yX4_rightOfFalling : MethodName := ⟨RX4, "rightOfFalling", "(IIII)J"⟩
abbrev cX4_firstColumnRightOf : ByteArray := prog_6_method_7_code
def yX4_firstColumnRightOf : MethodName := ⟨RX4, "firstColumnRightOf", "(IIIII)I"⟩
def RX5 : String := "DotOutlines$Grid"
def TX5 : u_T := fun k => match k with
  | _ => ("", "", "", false)
def tyX5 : Nat → FieldType := fun k => match k with
  | _ => .int
abbrev wsX50 : List Cond := u_ws RX5 TX5 0
theorem nmX5 : ∀ a, a < 0 → ∀ b, b < 0 → a ≠ b → (TX5 a).2.1 ≠ (TX5 b).2.1 := by decide +kernel
theorem tyX5_ok : ∀ k, k < 0 → parseFieldDescriptor (TX5 k).2.2.1 = some (tyX5 k) := by decide +kernel
abbrev cX5_columnOf : ByteArray := prog_7_method_2_code
def yX5_columnOf : MethodName := ⟨RX5, "columnOf", "(I)I"⟩
abbrev cX5_rowOf : ByteArray := prog_7_method_3_code
def yX5_rowOf : MethodName := ⟨RX5, "rowOf", "(I)I"⟩
abbrev cX5_bit : ByteArray := prog_7_method_4_code
def yX5_bit : MethodName := ⟨RX5, "bit", "(II)J"⟩
abbrev cX5_rowFrom : ByteArray := prog_7_method_5_code
def yX5_rowFrom : MethodName := ⟨RX5, "rowFrom", "(II)J"⟩
abbrev cX5_block : ByteArray := prog_7_method_6_code
def yX5_block : MethodName := ⟨RX5, "block", "(IIII)J"⟩
def RX6 : String := "DotOutlines$Picture"
def TX6 : u_T := fun k => match k with
  | 0 => ("DotOutlines$Picture", "width", "I", false)
  | 1 => ("DotOutlines$Picture", "height", "I", false)
  | 2 => ("DotOutlines$Picture", "dots", "J", false)
  | 3 => ("DotOutlines$Picture", "joining", "I", false)
  | _ => ("DotOutlines$Picture", "sharpness", "I", false)
def tyX6 : Nat → FieldType := fun k => match k with
  | 0 => .int
  | 1 => .int
  | 2 => .long
  | 3 => .int
  | _ => .int
abbrev wsX60 : List Cond := u_ws RX6 TX6 5
theorem nmX6 : ∀ a, a < 5 → ∀ b, b < 5 → a ≠ b → (TX6 a).2.1 ≠ (TX6 b).2.1 := by decide +kernel
theorem tyX6_ok : ∀ k, k < 5 → parseFieldDescriptor (TX6 k).2.2.1 = some (tyX6 k) := by decide +kernel
abbrev cX6_init : ByteArray := prog_8_method_1_code
def yX6_init : MethodName := ⟨RX6, "<init>", "()V"⟩
abbrev cX6_isThere : ByteArray := prog_8_method_2_code
def yX6_isThere : MethodName := ⟨RX6, "isThere", "()Z"⟩
abbrev cX6_has : ByteArray := prog_8_method_3_code
def yX6_has : MethodName := ⟨RX6, "has", "(II)Z"⟩
abbrev cX6_isDark : ByteArray := prog_8_method_4_code
def yX6_isDark : MethodName := ⟨RX6, "isDark", "(II)Z"⟩
abbrev cX6_darkDots : ByteArray := prog_8_method_5_code
def yX6_darkDots : MethodName := ⟨RX6, "darkDots", "()I"⟩
abbrev cX6_lay : ByteArray := prog_8_method_6_code
def yX6_lay : MethodName := ⟨RX6, "lay", "(JI)V"⟩
abbrev cX6_becomeLike : ByteArray := prog_8_method_7_code
def yX6_becomeLike : MethodName := ⟨RX6, "becomeLike", "(LDotOutlines$Picture;)V"⟩
def RX7 : String := "DotOutlines$Polygons"
def TX7 : u_T := fun k => match k with
  | 0 => ("DotOutlines$Polygons", "borders", "LDotOutlines$Borders;", true)
  | 1 => ("DotOutlines$Polygons", "stretches", "LDotOutlines$Stretches;", true)
  | 2 => ("DotOutlines$Polygons", "bend", "LDotOutlines$Bend;", true)
  | 3 => ("DotOutlines$Polygons", "corners", "[I", true)
  | _ => ("DotOutlines$Polygons", "costs", "[I", true)
def tyX7 : Nat → FieldType := fun k => match k with
  | 0 => .object "DotOutlines$Borders"
  | 1 => .object "DotOutlines$Stretches"
  | 2 => .object "DotOutlines$Bend"
  | 3 => .array .int
  | _ => .array .int
abbrev wsX70 : List Cond := u_ws RX7 TX7 5
theorem nmX7 : ∀ a, a < 5 → ∀ b, b < 5 → a ≠ b → (TX7 a).2.1 ≠ (TX7 b).2.1 := by decide +kernel
theorem tyX7_ok : ∀ k, k < 5 → parseFieldDescriptor (TX7 k).2.2.1 = some (tyX7 k) := by decide +kernel
abbrev cX7_init : ByteArray := prog_9_method_1_code
def yX7_init : MethodName := ⟨RX7, "<init>", "(LDotOutlines$Borders;LDotOutlines$Stretches;)V"⟩
abbrev cX7_fewestThrough : ByteArray := prog_9_method_2_code
def yX7_fewestThrough : MethodName := ⟨RX7, "fewestThrough", "(LDotOutlines$Border;I)I"⟩
abbrev cX7_cornerOfVertex : ByteArray := prog_9_method_3_code
def yX7_cornerOfVertex : MethodName := ⟨RX7, "cornerOfVertex", "(LDotOutlines$Border;I)I"⟩
abbrev cX7_bendAt : ByteArray := prog_9_method_4_code
def yX7_bendAt : MethodName := ⟨RX7, "bendAt", "(LDotOutlines$Border;I)LDotOutlines$Bend;"⟩
abbrev cX7_sharpVertices : ByteArray := prog_9_method_5_code
def yX7_sharpVertices : MethodName := ⟨RX7, "sharpVertices", "(LDotOutlines$Border;I)I"⟩
abbrev cX7_twiceTheArea : ByteArray := prog_9_method_6_code
def yX7_twiceTheArea : MethodName := ⟨RX7, "twiceTheArea", "(LDotOutlines$Border;)I"⟩
abbrev cX7_seek : ByteArray := prog_9_method_7_code
def yX7_seek : MethodName := ⟨RX7, "seek", "(LDotOutlines$Border;)V"⟩
abbrev cX7_costOfRound : ByteArray := prog_9_method_8_code
def yX7_costOfRound : MethodName := ⟨RX7, "costOfRound", "(LDotOutlines$Border;I)I"⟩
abbrev cX7_writeVertices : ByteArray := prog_9_method_9_code
def yX7_writeVertices : MethodName := ⟨RX7, "writeVertices", "(LDotOutlines$Border;I)V"⟩
abbrev cX7_nearestStep : ByteArray := prog_9_method_10_code
def yX7_nearestStep : MethodName := ⟨RX7, "nearestStep", "(LDotOutlines$Border;III)I"⟩
def RX8 : String := "DotOutlines$Reading"
def TX8 : u_T := fun k => match k with
  | 0 => ("DotOutlines$Reading", "width", "I", false)
  | 1 => ("DotOutlines$Reading", "height", "I", false)
  | 2 => ("DotOutlines$Reading", "dots", "J", false)
  | _ => ("DotOutlines$Reading", "place", "I", false)
def tyX8 : Nat → FieldType := fun k => match k with
  | 0 => .int
  | 1 => .int
  | 2 => .long
  | _ => .int
abbrev wsX80 : List Cond := u_ws RX8 TX8 4
theorem nmX8 : ∀ a, a < 4 → ∀ b, b < 4 → a ≠ b → (TX8 a).2.1 ≠ (TX8 b).2.1 := by decide +kernel
theorem tyX8_ok : ∀ k, k < 4 → parseFieldDescriptor (TX8 k).2.2.1 = some (tyX8 k) := by decide +kernel
abbrev cX8_init : ByteArray := prog_10_method_1_code
def yX8_init : MethodName := ⟨RX8, "<init>", "()V"⟩
abbrev cX8_read : ByteArray := prog_10_method_2_code
def yX8_read : MethodName := ⟨RX8, "read", "(LDotOutlines$Tape;)I"⟩
abbrev cX8_faultInHead : ByteArray := prog_10_method_3_code
def yX8_faultInHead : MethodName := ⟨RX8, "faultInHead", "(II)I"⟩
abbrev cX8_faultInRows : ByteArray := prog_10_method_4_code
def yX8_faultInRows : MethodName := ⟨RX8, "faultInRows", "(II)I"⟩
def RX9 : String := "DotOutlines$Stretches"
def TX9 : u_T := fun k => match k with
  | 0 => ("DotOutlines$Stretches", "borders", "LDotOutlines$Borders;", true)
  | 1 => ("DotOutlines$Stretches", "offs", "[I", true)
  | _ => ("DotOutlines$Stretches", "reaches", "[I", true)
def tyX9 : Nat → FieldType := fun k => match k with
  | 0 => .object "DotOutlines$Borders"
  | 1 => .array .int
  | _ => .array .int
abbrev wsX90 : List Cond := u_ws RX9 TX9 3
theorem nmX9 : ∀ a, a < 3 → ∀ b, b < 3 → a ≠ b → (TX9 a).2.1 ≠ (TX9 b).2.1 := by decide +kernel
theorem tyX9_ok : ∀ k, k < 3 → parseFieldDescriptor (TX9 k).2.2.1 = some (tyX9 k) := by decide +kernel
abbrev cX9_init : ByteArray := prog_11_method_1_code
def yX9_init : MethodName := ⟨RX9, "<init>", "(LDotOutlines$Borders;)V"⟩
abbrev cX9_offOf : ByteArray := prog_11_method_2_code
def yX9_offOf : MethodName := ⟨RX9, "offOf", "(LDotOutlines$Border;II)I"⟩
abbrev cX9_longestFrom : ByteArray := prog_11_method_3_code
def yX9_longestFrom : MethodName := ⟨RX9, "longestFrom", "(LDotOutlines$Border;I)I"⟩
abbrev cX9_measure : ByteArray := prog_11_method_4_code
def yX9_measure : MethodName := ⟨RX9, "measure", "(LDotOutlines$Border;)V"⟩
abbrev cX9_reachAt : ByteArray := prog_11_method_5_code
def yX9_reachAt : MethodName := ⟨RX9, "reachAt", "(I)I"⟩
abbrev cX9_offAt : ByteArray := prog_11_method_6_code
def yX9_offAt : MethodName := ⟨RX9, "offAt", "(II)I"⟩
def RX10 : String := "DotOutlines$Tape"
def TX10 : u_T := fun k => match k with
  | 0 => ("DotOutlines$Tape", "letters", "[I", true)
  | _ => ("DotOutlines$Tape", "length", "I", false)
def tyX10 : Nat → FieldType := fun k => match k with
  | 0 => .array .int
  | _ => .int
abbrev wsX100 : List Cond := u_ws RX10 TX10 2
theorem nmX10 : ∀ a, a < 2 → ∀ b, b < 2 → a ≠ b → (TX10 a).2.1 ≠ (TX10 b).2.1 := by decide +kernel
theorem tyX10_ok : ∀ k, k < 2 → parseFieldDescriptor (TX10 k).2.2.1 = some (tyX10 k) := by decide +kernel
abbrev cX10_init : ByteArray := prog_12_method_1_code
def yX10_init : MethodName := ⟨RX10, "<init>", "()V"⟩
abbrev cX10_add : ByteArray := prog_12_method_2_code
def yX10_add : MethodName := ⟨RX10, "add", "(I)Z"⟩
abbrev cX10_letterAt : ByteArray := prog_12_method_3_code
def yX10_letterAt : MethodName := ⟨RX10, "letterAt", "(I)I"⟩
def RX11 : String := "DotOutlines"
def TX11 : u_T := fun k => match k with
  | 0 => ("DotOutlines", "tape", "LDotOutlines$Tape;", true)
  | 1 => ("DotOutlines", "reading", "LDotOutlines$Reading;", true)
  | 2 => ("DotOutlines", "now", "LDotOutlines$Picture;", true)
  | 3 => ("DotOutlines", "imageZero", "LDotOutlines$Picture;", true)
  | 4 => ("DotOutlines", "imageOne", "LDotOutlines$Picture;", true)
  | 5 => ("DotOutlines", "acts", "LDotOutlines$Acts;", true)
  | 6 => ("DotOutlines", "found", "LDotOutlines$Borders;", true)
  | 7 => ("DotOutlines", "stretches", "LDotOutlines$Stretches;", true)
  | 8 => ("DotOutlines", "polygons", "LDotOutlines$Polygons;", true)
  | 9 => ("DotOutlines", "filling", "LDotOutlines$Filling;", true)
  | _ => ("DotOutlines", "latestFault", "I", false)
def tyX11 : Nat → FieldType := fun k => match k with
  | 0 => .object "DotOutlines$Tape"
  | 1 => .object "DotOutlines$Reading"
  | 2 => .object "DotOutlines$Picture"
  | 3 => .object "DotOutlines$Picture"
  | 4 => .object "DotOutlines$Picture"
  | 5 => .object "DotOutlines$Acts"
  | 6 => .object "DotOutlines$Borders"
  | 7 => .object "DotOutlines$Stretches"
  | 8 => .object "DotOutlines$Polygons"
  | 9 => .object "DotOutlines$Filling"
  | _ => .int
abbrev wsX110 : List Cond := u_ws RX11 TX11 11
theorem nmX11 : ∀ a, a < 11 → ∀ b, b < 11 → a ≠ b → (TX11 a).2.1 ≠ (TX11 b).2.1 := by decide +kernel
theorem tyX11_ok : ∀ k, k < 11 → parseFieldDescriptor (TX11 k).2.2.1 = some (tyX11 k) := by decide +kernel
abbrev cX11_init : ByteArray := prog_1_method_1_code
def yX11_init : MethodName := ⟨RX11, "<init>", "()V"⟩
abbrev cX11_feed : ByteArray := prog_1_method_2_code
def yX11_feed : MethodName := ⟨RX11, "feed", "(I)I"⟩
abbrev cX11_picture : ByteArray := prog_1_method_3_code
def yX11_picture : MethodName := ⟨RX11, "picture", "()I"⟩
abbrev cX11_fault : ByteArray := prog_1_method_4_code
def yX11_fault : MethodName := ⟨RX11, "fault", "()I"⟩
abbrev cX11_undo : ByteArray := prog_1_method_5_code
def yX11_undo : MethodName := ⟨RX11, "undo", "()I"⟩
abbrev cX11_flip : ByteArray := prog_1_method_6_code
def yX11_flip : MethodName := ⟨RX11, "flip", "(II)I"⟩
abbrev cX11_frame : ByteArray := prog_1_method_7_code
def yX11_frame : MethodName := ⟨RX11, "frame", "(IIIII)I"⟩
abbrev cX11_joined : ByteArray := prog_1_method_8_code
def yX11_joined : MethodName := ⟨RX11, "joined", "(I)I"⟩
abbrev cX11_sharp : ByteArray := prog_1_method_9_code
def yX11_sharp : MethodName := ⟨RX11, "sharp", "(I)I"⟩
abbrev cX11_dot : ByteArray := prog_1_method_10_code
def yX11_dot : MethodName := ⟨RX11, "dot", "(II)I"⟩
abbrev cX11_borders : ByteArray := prog_1_method_11_code
def yX11_borders : MethodName := ⟨RX11, "borders", "()I"⟩
abbrev cX11_border : ByteArray := prog_1_method_12_code
def yX11_border : MethodName := ⟨RX11, "border", "(II)I"⟩
abbrev cX11_corner : ByteArray := prog_1_method_13_code
def yX11_corner : MethodName := ⟨RX11, "corner", "(III)I"⟩
abbrev cX11_inside : ByteArray := prog_1_method_14_code
def yX11_inside : MethodName := ⟨RX11, "inside", "(III)I"⟩
abbrev cX11_straight : ByteArray := prog_1_method_15_code
def yX11_straight : MethodName := ⟨RX11, "straight", "(III)I"⟩
abbrev cX11_off : ByteArray := prog_1_method_16_code
def yX11_off : MethodName := ⟨RX11, "off", "(III)I"⟩
abbrev cX11_longest : ByteArray := prog_1_method_17_code
def yX11_longest : MethodName := ⟨RX11, "longest", "(II)I"⟩
abbrev cX11_best : ByteArray := prog_1_method_18_code
def yX11_best : MethodName := ⟨RX11, "best", "(II)I"⟩
abbrev cX11_vertex : ByteArray := prog_1_method_19_code
def yX11_vertex : MethodName := ⟨RX11, "vertex", "(III)I"⟩
abbrev cX11_past : ByteArray := prog_1_method_20_code
def yX11_past : MethodName := ⟨RX11, "past", "(II)I"⟩
abbrev cX11_point : ByteArray := prog_1_method_21_code
def yX11_point : MethodName := ⟨RX11, "point", "(IIII)I"⟩
abbrev cX11_filled : ByteArray := prog_1_method_22_code
def yX11_filled : MethodName := ⟨RX11, "filled", "(IIII)I"⟩
abbrev cX11_differ : ByteArray := prog_1_method_23_code
def yX11_differ : MethodName := ⟨RX11, "differ", "(II)I"⟩
abbrev cX11_wrong : ByteArray := prog_1_method_24_code
def yX11_wrong : MethodName := ⟨RX11, "wrong", "(I)I"⟩
abbrev cX11_all : ByteArray := prog_1_method_25_code
def yX11_all : MethodName := ⟨RX11, "all", "(I)I"⟩
abbrev cX11_image : ByteArray := prog_1_method_26_code
def yX11_image : MethodName := ⟨RX11, "image", "(I)I"⟩
abbrev cX11_restore : ByteArray := prog_1_method_27_code
def yX11_restore : MethodName := ⟨RX11, "restore", "(I)I"⟩
abbrev cX11_count : ByteArray := prog_1_method_28_code
def yX11_count : MethodName := ⟨RX11, "count", "(I)I"⟩
abbrev cX11_walkedBorders : ByteArray := prog_1_method_29_code
def yX11_walkedBorders : MethodName := ⟨RX11, "walkedBorders", "()I"⟩
abbrev cX11_borderNumber : ByteArray := prog_1_method_30_code
def yX11_borderNumber : MethodName := ⟨RX11, "borderNumber", "(I)LDotOutlines$Border;"⟩
abbrev cX11_shapedBorder : ByteArray := prog_1_method_31_code
def yX11_shapedBorder : MethodName := ⟨RX11, "shapedBorder", "(I)LDotOutlines$Border;"⟩
abbrev cX11_imageNumber : ByteArray := prog_1_method_32_code
def yX11_imageNumber : MethodName := ⟨RX11, "imageNumber", "(I)LDotOutlines$Picture;"⟩
abbrev cX11_sizeOf : ByteArray := prog_1_method_33_code
def yX11_sizeOf : MethodName := ⟨RX11, "sizeOf", "(LDotOutlines$Border;I)I"⟩
def RX12 : String := "DotOutlinesModel"
def TX12 : u_T := fun k => match k with
  | 0 => ("DotOutlinesModel", "st", "[I", true)
  | 1 => ("DotOutlinesModel", "past", "[I", true)
  | 2 => ("DotOutlinesModel", "acts", "I", false)
  | 3 => ("DotOutlinesModel", "images", "[I", true)
  | 4 => ("DotOutlinesModel", "isImage", "[I", true)
  | 5 => ("DotOutlinesModel", "tape", "[I", true)
  | 6 => ("DotOutlinesModel", "bytes", "I", false)
  | 7 => ("DotOutlinesModel", "latest", "I", false)
  | 8 => ("DotOutlinesModel", "read", "[I", true)
  | 9 => ("DotOutlinesModel", "readAt", "I", false)
  | 10 => ("DotOutlinesModel", "isLaid", "Z", false)
  | 11 => ("DotOutlinesModel", "many", "I", false)
  | 12 => ("DotOutlinesModel", "from", "[I", true)
  | 13 => ("DotOutlinesModel", "size", "[I", true)
  | 14 => ("DotOutlinesModel", "firstX", "[I", true)
  | 15 => ("DotOutlinesModel", "firstY", "[I", true)
  | 16 => ("DotOutlinesModel", "within", "[J", true)
  | 17 => ("DotOutlinesModel", "cornerX", "[I", true)
  | 18 => ("DotOutlinesModel", "cornerY", "[I", true)
  | 19 => ("DotOutlinesModel", "goes", "[I", true)
  | 20 => ("DotOutlinesModel", "rest", "J", false)
  | 21 => ("DotOutlinesModel", "tableOf", "I", false)
  | 22 => ("DotOutlinesModel", "offs", "[I", true)
  | 23 => ("DotOutlinesModel", "least", "[I", true)
  | 24 => ("DotOutlinesModel", "vertices", "I", false)
  | 25 => ("DotOutlinesModel", "offAll", "I", false)
  | 26 => ("DotOutlinesModel", "vertex", "[I", true)
  | 27 => ("DotOutlinesModel", "turned", "[I", true)
  | 28 => ("DotOutlinesModel", "lineX", "[I", true)
  | 29 => ("DotOutlinesModel", "lineY", "[I", true)
  | _ => ("DotOutlinesModel", "lineMany", "I", false)
def tyX12 : Nat → FieldType := fun k => match k with
  | 0 => .array .int
  | 1 => .array .int
  | 2 => .int
  | 3 => .array .int
  | 4 => .array .int
  | 5 => .array .int
  | 6 => .int
  | 7 => .int
  | 8 => .array .int
  | 9 => .int
  | 10 => .boolean
  | 11 => .int
  | 12 => .array .int
  | 13 => .array .int
  | 14 => .array .int
  | 15 => .array .int
  | 16 => .array .long
  | 17 => .array .int
  | 18 => .array .int
  | 19 => .array .int
  | 20 => .long
  | 21 => .int
  | 22 => .array .int
  | 23 => .array .int
  | 24 => .int
  | 25 => .int
  | 26 => .array .int
  | 27 => .array .int
  | 28 => .array .int
  | 29 => .array .int
  | _ => .int
abbrev wsX120 : List Cond := u_ws RX12 TX12 31
theorem nmX12 : ∀ a, a < 31 → ∀ b, b < 31 → a ≠ b → (TX12 a).2.1 ≠ (TX12 b).2.1 := by decide +kernel
theorem tyX12_ok : ∀ k, k < 31 → parseFieldDescriptor (TX12 k).2.2.1 = some (tyX12 k) := by decide +kernel
abbrev cX12_init : ByteArray := prog_14_method_1_code
def yX12_init : MethodName := ⟨RX12, "<init>", "()V"⟩
abbrev cX12_in : ByteArray := prog_14_method_2_code
def yX12_in : MethodName := ⟨RX12, "in", "(III)Z"⟩
abbrev cX12_bring : ByteArray := prog_14_method_3_code
def yX12_bring : MethodName := ⟨RX12, "bring", "([II[III)V"⟩
abbrev cX12_isPicture : ByteArray := prog_14_method_4_code
def yX12_isPicture : MethodName := ⟨RX12, "isPicture", "()Z"⟩
abbrev cX12_isDot : ByteArray := prog_14_method_5_code
def yX12_isDot : MethodName := ⟨RX12, "isDot", "(II)Z"⟩
abbrev cX12_feed : ByteArray := prog_14_method_6_code
def yX12_feed : MethodName := ⟨RX12, "feed", "(I)I"⟩
abbrev cX12_due : ByteArray := prog_14_method_7_code
def yX12_due : MethodName := ⟨RX12, "due", "(IIII)I"⟩
abbrev cX12_sign : ByteArray := prog_14_method_8_code
def yX12_sign : MethodName := ⟨RX12, "sign", "(I)I"⟩
abbrev cX12_readsRow : ByteArray := prog_14_method_9_code
def yX12_readsRow : MethodName := ⟨RX12, "readsRow", "(I)I"⟩
abbrev cX12_reads : ByteArray := prog_14_method_10_code
def yX12_reads : MethodName := ⟨RX12, "reads", "()I"⟩
abbrev cX12_picture : ByteArray := prog_14_method_11_code
def yX12_picture : MethodName := ⟨RX12, "picture", "()I"⟩
abbrev cX12_fault : ByteArray := prog_14_method_12_code
def yX12_fault : MethodName := ⟨RX12, "fault", "()I"⟩
abbrev cX12_dark : ByteArray := prog_14_method_13_code
def yX12_dark : MethodName := ⟨RX12, "dark", "()I"⟩
abbrev cX12_notes : ByteArray := prog_14_method_14_code
def yX12_notes : MethodName := ⟨RX12, "notes", "()V"⟩
abbrev cX12_undo : ByteArray := prog_14_method_15_code
def yX12_undo : MethodName := ⟨RX12, "undo", "()I"⟩
abbrev cX12_flip : ByteArray := prog_14_method_16_code
def yX12_flip : MethodName := ⟨RX12, "flip", "(II)I"⟩
abbrev cX12_frame : ByteArray := prog_14_method_17_code
def yX12_frame : MethodName := ⟨RX12, "frame", "(IIIII)I"⟩
abbrev cX12_tells : ByteArray := prog_14_method_18_code
def yX12_tells : MethodName := ⟨RX12, "tells", "(IIII)I"⟩
abbrev cX12_joined : ByteArray := prog_14_method_19_code
def yX12_joined : MethodName := ⟨RX12, "joined", "(I)I"⟩
abbrev cX12_sharp : ByteArray := prog_14_method_20_code
def yX12_sharp : MethodName := ⟨RX12, "sharp", "(I)I"⟩
abbrev cX12_isRest : ByteArray := prog_14_method_21_code
def yX12_isRest : MethodName := ⟨RX12, "isRest", "(II)Z"⟩
abbrev cX12_stepX : ByteArray := prog_14_method_22_code
def yX12_stepX : MethodName := ⟨RX12, "stepX", "(I)I"⟩
abbrev cX12_stepY : ByteArray := prog_14_method_23_code
def yX12_stepY : MethodName := ⟨RX12, "stepY", "(I)I"⟩
abbrev cX12_isBeside : ByteArray := prog_14_method_24_code
def yX12_isBeside : MethodName := ⟨RX12, "isBeside", "(IIII)Z"⟩
abbrev cX12_turns : ByteArray := prog_14_method_25_code
def yX12_turns : MethodName := ⟨RX12, "turns", "(III)I"⟩
abbrev cX12_walks : ByteArray := prog_14_method_26_code
def yX12_walks : MethodName := ⟨RX12, "walks", "(II)V"⟩
abbrev cX12_isWithin : ByteArray := prog_14_method_27_code
def yX12_isWithin : MethodName := ⟨RX12, "isWithin", "(III)Z"⟩
abbrev cX12_lays : ByteArray := prog_14_method_28_code
def yX12_lays : MethodName := ⟨RX12, "lays", "()V"⟩
abbrev cX12_isBorder : ByteArray := prog_14_method_29_code
def yX12_isBorder : MethodName := ⟨RX12, "isBorder", "(I)Z"⟩
abbrev cX12_ones : ByteArray := prog_14_method_30_code
def yX12_ones : MethodName := ⟨RX12, "ones", "(J)I"⟩
abbrev cX12_dot : ByteArray := prog_14_method_31_code
def yX12_dot : MethodName := ⟨RX12, "dot", "(II)I"⟩
abbrev cX12_borders : ByteArray := prog_14_method_32_code
def yX12_borders : MethodName := ⟨RX12, "borders", "()I"⟩
abbrev cX12_bends : ByteArray := prog_14_method_33_code
def yX12_bends : MethodName := ⟨RX12, "bends", "(I)I"⟩
abbrev cX12_border : ByteArray := prog_14_method_34_code
def yX12_border : MethodName := ⟨RX12, "border", "(II)I"⟩
abbrev cX12_corner : ByteArray := prog_14_method_35_code
def yX12_corner : MethodName := ⟨RX12, "corner", "(III)I"⟩
abbrev cX12_isIn : ByteArray := prog_14_method_36_code
def yX12_isIn : MethodName := ⟨RX12, "isIn", "(III)Z"⟩
abbrev cX12_inside : ByteArray := prog_14_method_37_code
def yX12_inside : MethodName := ⟨RX12, "inside", "(III)I"⟩
abbrev cX12_size : ByteArray := prog_14_method_38_code
def yX12_size : MethodName := ⟨RX12, "size", "(I)I"⟩
abbrev cX12_offOf : ByteArray := prog_14_method_39_code
def yX12_offOf : MethodName := ⟨RX12, "offOf", "(III)I"⟩
abbrev cX12_laysTable : ByteArray := prog_14_method_40_code
def yX12_laysTable : MethodName := ⟨RX12, "laysTable", "(I)V"⟩
abbrev cX12_isStretch : ByteArray := prog_14_method_41_code
def yX12_isStretch : MethodName := ⟨RX12, "isStretch", "(III)Z"⟩
abbrev cX12_straight : ByteArray := prog_14_method_42_code
def yX12_straight : MethodName := ⟨RX12, "straight", "(III)I"⟩
abbrev cX12_off : ByteArray := prog_14_method_43_code
def yX12_off : MethodName := ⟨RX12, "off", "(III)I"⟩
abbrev cX12_longest : ByteArray := prog_14_method_44_code
def yX12_longest : MethodName := ⟨RX12, "longest", "(II)I"⟩
abbrev cX12_stretch : ByteArray := prog_14_method_45_code
def yX12_stretch : MethodName := ⟨RX12, "stretch", "(III)I"⟩
abbrev cX12_laysLeast : ByteArray := prog_14_method_46_code
def yX12_laysLeast : MethodName := ⟨RX12, "laysLeast", "(II)I"⟩
abbrev cX12_laysBest : ByteArray := prog_14_method_47_code
def yX12_laysBest : MethodName := ⟨RX12, "laysBest", "(I)V"⟩
abbrev cX12_fewest : ByteArray := prog_14_method_48_code
def yX12_fewest : MethodName := ⟨RX12, "fewest", "(II)I"⟩
abbrev cX12_vx : ByteArray := prog_14_method_49_code
def yX12_vx : MethodName := ⟨RX12, "vx", "(II)I"⟩
abbrev cX12_vy : ByteArray := prog_14_method_50_code
def yX12_vy : MethodName := ⟨RX12, "vy", "(II)I"⟩
abbrev cX12_greater : ByteArray := prog_14_method_51_code
def yX12_greater : MethodName := ⟨RX12, "greater", "(II)I"⟩
abbrev cX12_turnOf : ByteArray := prog_14_method_52_code
def yX12_turnOf : MethodName := ⟨RX12, "turnOf", "(II)I"⟩
abbrev cX12_isSharp : ByteArray := prog_14_method_53_code
def yX12_isSharp : MethodName := ⟨RX12, "isSharp", "(II)Z"⟩
abbrev cX12_sharpMany : ByteArray := prog_14_method_54_code
def yX12_sharpMany : MethodName := ⟨RX12, "sharpMany", "(I)I"⟩
abbrev cX12_twice : ByteArray := prog_14_method_55_code
def yX12_twice : MethodName := ⟨RX12, "twice", "(I)I"⟩
abbrev cX12_best : ByteArray := prog_14_method_56_code
def yX12_best : MethodName := ⟨RX12, "best", "(II)I"⟩
abbrev cX12_vertex : ByteArray := prog_14_method_57_code
def yX12_vertex : MethodName := ⟨RX12, "vertex", "(III)I"⟩
abbrev cX12_past : ByteArray := prog_14_method_58_code
def yX12_past : MethodName := ⟨RX12, "past", "(II)I"⟩
abbrev cX12_pointOf : ByteArray := prog_14_method_59_code
def yX12_pointOf : MethodName := ⟨RX12, "pointOf", "(IIII)I"⟩
abbrev cX12_point : ByteArray := prog_14_method_60_code
def yX12_point : MethodName := ⟨RX12, "point", "(IIII)I"⟩
abbrev cX12_adds : ByteArray := prog_14_method_61_code
def yX12_adds : MethodName := ⟨RX12, "adds", "(II)V"⟩
abbrev cX12_laysLine : ByteArray := prog_14_method_62_code
def yX12_laysLine : MethodName := ⟨RX12, "laysLine", "(II)V"⟩
abbrev cX12_isFilled : ByteArray := prog_14_method_63_code
def yX12_isFilled : MethodName := ⟨RX12, "isFilled", "(II)Z"⟩
abbrev cX12_filled : ByteArray := prog_14_method_64_code
def yX12_filled : MethodName := ⟨RX12, "filled", "(IIII)I"⟩
abbrev cX12_differ : ByteArray := prog_14_method_65_code
def yX12_differ : MethodName := ⟨RX12, "differ", "(II)I"⟩
abbrev cX12_wrong : ByteArray := prog_14_method_66_code
def yX12_wrong : MethodName := ⟨RX12, "wrong", "(I)I"⟩
abbrev cX12_all : ByteArray := prog_14_method_67_code
def yX12_all : MethodName := ⟨RX12, "all", "(I)I"⟩
abbrev cX12_image : ByteArray := prog_14_method_68_code
def yX12_image : MethodName := ⟨RX12, "image", "(I)I"⟩
abbrev cX12_restore : ByteArray := prog_14_method_69_code
def yX12_restore : MethodName := ⟨RX12, "restore", "(I)I"⟩
abbrev cX12_count : ByteArray := prog_14_method_70_code
def yX12_count : MethodName := ⟨RX12, "count", "(I)I"⟩
def RJ13 : String := "java/lang/Long"
def TJ13 : u_T := fun k => match k with
  | _ => ("", "", "", false)
def tyJ13 : Nat → FieldType := fun k => match k with
  | _ => .int
abbrev wsJ130 : List Cond := u_ws RJ13 TJ13 0
theorem nmJ13 : ∀ a, a < 0 → ∀ b, b < 0 → a ≠ b → (TJ13 a).2.1 ≠ (TJ13 b).2.1 := by decide +kernel
theorem tyJ13_ok : ∀ k, k < 0 → parseFieldDescriptor (TJ13 k).2.2.1 = some (tyJ13 k) := by decide +kernel
abbrev cJ13_bitCount_95d88 : ByteArray := prog_15_method_50_code
def yJ13_bitCount_95d88 : MethodName := ⟨RJ13, "bitCount", "(J)I"⟩
def RJ9 : String := "java/lang/Math"
def TJ9 : u_T := fun k => match k with
  | _ => ("", "", "", false)
def tyJ9 : Nat → FieldType := fun k => match k with
  | _ => .int
abbrev wsJ90 : List Cond := u_ws RJ9 TJ9 0
theorem nmJ9 : ∀ a, a < 0 → ∀ b, b < 0 → a ≠ b → (TJ9 a).2.1 ≠ (TJ9 b).2.1 := by decide +kernel
theorem tyJ9_ok : ∀ k, k < 0 → parseFieldDescriptor (TJ9 k).2.2.1 = some (tyJ9 k) := by decide +kernel
abbrev cJ9_abs_0f7a4 : ByteArray := prog_16_method_59_code
def yJ9_abs_0f7a4 : MethodName := ⟨RJ9, "abs", "(I)I"⟩
abbrev cJ9_max_7cf53 : ByteArray := prog_16_method_65_code
def yJ9_max_7cf53 : MethodName := ⟨RJ9, "max", "(II)I"⟩
abbrev cJ9_min_7cf53 : ByteArray := prog_16_method_69_code
def yJ9_min_7cf53 : MethodName := ⟨RJ9, "min", "(II)I"⟩
def RL : String := "DotOutlinesLaw"
abbrev cL_law : ByteArray := code
def yL_law : MethodName := ⟨RL, "law", "([I)Z"⟩
abbrev vwCl : List vw_C := [(RX0, TX0, 4), (RX1, TX1, 6), (RX2, TX2, 7), (RX3, TX3, 8), (RX4, TX4, 1), (RX6, TX6, 5), (RX7, TX7, 5), (RX8, TX8, 4), (RX9, TX9, 3), (RX10, TX10, 2), (RX11, TX11, 11), (RX12, TX12, 31)]
end
section
/-! THE FRAME: an abstract heap (cells by number), an abstract walk AW over it, contracts AMet that are functions of arguments and heap.
Numbers 0 to 6: the class's static int rows; 7: the script; from 8 on: the cells that the law's run makes, in their order. -/
def WT : List Cond := lw_tbl.filter goodWord
theorem wt_t (k : Nat) {w : Cond} (h : tables_1[k]? = some w) (hg : goodWord w = true) : w ∈ WT :=
  List.mem_filter.mpr ⟨List.mem_append_right _ (List.mem_of_getElem? h), hg⟩
theorem wt_s (k : Nat) {w : Cond} (h : (k2_sels lw_privs)[k]? = some w) (hg : goodWord w = true) : w ∈ WT :=
  List.mem_filter.mpr ⟨List.mem_append_left _ (List.mem_of_getElem? h), hg⟩
theorem wt_ok {w : Cond} (h : w ∈ WT) : (w.onTables && w.keeps) = true ∨ ∃ ty, w = .arrayClass ty := good_of_word (List.mem_filter.mp h).2
theorem wt_tbl {w : Cond} (h : w ∈ WT) : w ∈ lw_tbl := (List.mem_filter.mp h).1
abbrev AC : Type := vp_A ⊕ (Nat × List Value)
abbrev AH : Type := Nat → AC
abbrev VV : Type := va_G × (ClassId × ClassId × ClassId) × Nat × (Nat → Nat) × Nat × (Nat → Int32)
abbrev MI : Type := MethodName × ByteArray × Nat × Option FieldType
def vb (V : VV) : Nat := V.2.2.1
def ad (V : VV) (i : Nat) : Nat := if i < 8 then V.2.2.2.1 i else vb V + (i - 8)
def coV (V : VV) : Value → Value
  | .ref i => .ref (ad V i)
  | v => v
theorem coV_int (V : VV) (x : Int32) : coV V (.int x) = .int x := rfl
theorem coV_cat (V : VV) (v : Value) : (coV V v).category = v.category := by cases v <;> rfl
def coE (V : VV) : AC → va_E
  | .inl (n, .inl f) => .inl (V.2.1.1, n, .inl f)
  | .inl (n, .inr (.inl f)) => .inl (V.2.1.2.1, n, .inr (.inl f))
  | .inl (n, .inr (.inr (.inr (.inr f)))) => .inl (V.2.1.2.2, n, .inr (.inr (.inr (.inr (fun j => (f j).map (ad V))))))
  | .inl (n, .inr (.inr (.inl f))) => .inl (V.2.1.1, n, .inr (.inr (.inl f)))
  | .inl (n, .inr (.inr (.inr (.inl f)))) => .inl (V.2.1.1, n, .inr (.inr (.inr (.inl f))))
  | .inr (ci, fs) => .inr (ci, fs.map (coV V))
def jk : AC := .inl (0, .inr (.inr (.inl (fun _ => 0))))
def Ab (V : VV) : Nat → Prop := fun q => vb V ≤ q
def hu (h : AH) (i : Nat) (c : AC) : AH := fun j => if j = i then c else h j
theorem hu_s (h : AH) (i : Nat) (c : AC) : hu h i c i = c := by simp [hu]
theorem hu_n {h : AH} {i j : Nat} {c : AC} (e : j ≠ i) : hu h i c j = h j := by simp [hu, e]
def wsA (V : VV) (h : AH) (n : Nat) : va_W := (List.range (n - 8)).map (fun k => (vb V + k, coE V (h (8 + k))))
def Pos (V : VV) (h : AH) (n : Nat) (H : Heap) : Prop := 8 ≤ n ∧ H.size + 8 = vb V + n ∧ (∀ i, i < 8 ∨ n ≤ i → h i = jk) ∧ va_P V.1 vwCl (wsA V h n) H
theorem ad_ge (V : VV) {a : Nat} (h : 8 ≤ a) : ad V a = vb V + (a - 8) := by simp [ad, Nat.not_lt.mpr h]
theorem wsA_get (V : VV) (h : AH) {n a : Nat} (h1 : 8 ≤ a) (h2 : a < n) : (wsA V h n)[a - 8]? = some (ad V a, coE V (h a)) := by
  simp only [wsA, List.getElem?_map, List.getElem?_range (show a - 8 < n - 8 by omega), Option.map_some]
  rw [ad_ge V h1, show 8 + (a - 8) = a by omega]
theorem wsA_at (V : VV) (h : AH) (n : Nat) {k : Nat} {q : Nat × va_E} (hq : (wsA V h n)[k]? = some q) : k < n - 8 ∧ q = (vb V + k, coE V (h (8 + k))) := by
  simp only [wsA, List.getElem?_map, Option.map_eq_some_iff] at hq
  obtain ⟨j, h1, h2⟩ := hq
  rw [List.getElem?_eq_some_iff] at h1
  obtain ⟨h3, h4⟩ := h1
  simp at h3 h4
  subst h4
  exact ⟨h3, h2.symm⟩
theorem wsA_D (V : VV) (h : AH) (n : Nat) : va_D (Ab V) (wsA V h n) := by
  refine ⟨fun i j p q hi hj e => ?_, fun k q hk => ?_⟩
  · obtain ⟨-, rfl⟩ := wsA_at V h n hi
    obtain ⟨-, rfl⟩ := wsA_at V h n hj
    simp at e
    exact e
  · obtain ⟨-, rfl⟩ := wsA_at V h n hk
    exact Nat.le_add_right _ _
theorem wsA_set (V : VV) (h : AH) {n a : Nat} (c : AC) (h1 : 8 ≤ a) (h2 : a < n) : (wsA V h n).set (a - 8) (ad V a, coE V c) = wsA V (hu h a c) n := by
  apply List.ext_getElem?
  intro k
  by_cases hk : k = a - 8
  · subst hk
    rw [wsA_get V (hu h a c) h1 h2, hu_s, List.getElem?_set_self (by simp [wsA]; omega)]
  · rw [List.getElem?_set_ne (Ne.symm hk)]
    simp only [wsA, List.getElem?_map]
    by_cases hl : k < n - 8
    · rw [List.getElem?_range hl]
      simp only [Option.map_some]
      rw [hu_n (by omega)]
    · rw [List.getElem?_eq_none (by simp; omega)]
      rfl
theorem wsA_push (V : VV) (h : AH) {n : Nat} (c : AC) (h1 : 8 ≤ n) : wsA V h n ++ [(vb V + (n - 8), coE V c)] = wsA V (hu h n c) (n + 1) := by
  unfold wsA
  rw [show n + 1 - 8 = (n - 8) + 1 by omega, List.range_succ, List.map_append]
  congr 1
  · apply List.map_congr_left
    intro k hk
    simp at hk
    rw [hu_n (by omega)]
  · simp only [List.map_cons, List.map_nil]
    rw [show 8 + (n - 8) = n by omega, hu_s]
theorem Pos.at {V : VV} {h : AH} {n : Nat} {H : Heap} (P : Pos V h n H) {a : Nat} (hj : h a ≠ jk) : 8 ≤ a ∧ a < n := by
  refine ⟨?_, ?_⟩
  · exact Nat.not_lt.mp fun q => hj (P.2.2.1 a (Or.inl q))
  · exact Nat.not_le.mp fun q => hj (P.2.2.1 a (Or.inr q))
theorem nj_o {h : AH} {a ci : Nat} {fs : List Value} (e : h a = .inr (ci, fs)) : h a ≠ jk := by rw [e]; intro q; cases q
theorem nj_i {h : AH} {a N : Nat} {f : Nat → Int32} (e : h a = .inl (N, .inl f)) : h a ≠ jk := by rw [e]; intro q; cases q
theorem nj_l {h : AH} {a N : Nat} {f : Nat → Int64} (e : h a = .inl (N, .inr (.inl f))) : h a ≠ jk := by rw [e]; intro q; cases q
theorem nj_q {h : AH} {a N : Nat} {f : Nat → Option Nat} (e : h a = .inl (N, .inr (.inr (.inr (.inr f))))) : h a ≠ jk := by rw [e]; intro q; cases q
theorem Pos.put {V : VV} {h : AH} {n : Nat} {H H1 : Heap} {a : Nat} {c : AC} (P : Pos V h n H) (h1 : 8 ≤ a) (h2 : a < n) (hs : H1.size = H.size) (hP : va_P V.1 vwCl ((wsA V h n).set (a - 8) (ad V a, coE V c)) H1) : Pos V (hu h a c) n H1 := by
  refine ⟨P.1, by rw [hs]; exact P.2.1, fun i hi => ?_, by rw [wsA_set V h c h1 h2] at hP; exact hP⟩
  rw [hu_n (by omega)]
  exact P.2.2.1 i hi
theorem va_Sz {A : Nat → Prop} {D : va_G} {cl : List vw_C} {ws : va_W} {H : Heap} (hP : va_P D cl ws H) {k : Nat} {q : Nat × va_E} (hq : ws[k]? = some q) : q.1 < H.size := (hP k q hq).lt
/-! the static rows -/
def sC : Nat → String
  | 4 => "DotOutlines$Bend"
  | 5 => "DotOutlines$Bend"
  | 6 => "DotOutlines$Bend"
  | _ => "DotOutlines$Borders"
def sN : Nat → String
  | 0 => "STEP_X"
  | 1 => "STEP_Y"
  | 2 => "AHEAD_X"
  | 3 => "AHEAD_Y"
  | 4 => "PART_BEFORE"
  | 5 => "PART_OWN"
  | _ => "PART_BEHIND"
def tL (V : VV) : Nat → Nat
  | 0 => 4
  | 1 => 4
  | 2 => 4
  | 3 => 4
  | 4 => 5
  | 5 => 5
  | 6 => 5
  | _ => V.2.2.2.2.1
def tF (V : VV) : Nat → Nat → Int32
  | 0 => fun j => ([1, 0, -1, 0] : List Int32).getD j 0
  | 1 => fun j => ([0, 1, 0, -1] : List Int32).getD j 0
  | 2 => fun j => ([0, 0, -1, -1] : List Int32).getD j 0
  | 3 => fun j => ([-1, 0, 0, -1] : List Int32).getD j 0
  | 4 => fun j => ([16, 9, 4, 1, 0] : List Int32).getD j 0
  | 5 => fun j => ([0, 6, 8, 6, 0] : List Int32).getD j 0
  | 6 => fun j => ([0, 1, 4, 9, 16] : List Int32).getD j 0
  | _ => V.2.2.2.2.2
def Sta (V : VV) (U : State) (H : Heap) : Prop := (∀ k, k < 7 → va_Z (sC k) (sN k) "[I" (.ref (V.2.2.2.1 k)) (Ab V) U H) ∧ ∀ k, k < 8 → va_T .int (V.2.2.2.1 k) (tL V k) (fun j => .int (tF V k j)) (Ab V) U H
def tys3 (V : VV) : List (ClassId × FieldType) := [(V.2.1.1, .int), (V.2.1.2.1, .long), (V.2.1.2.2, .object "DotOutlines$Border")]
def Wd (V : VV) (h : AH) (n : Nat) (U : State) : Prop := va_K V.1 vwCl (tys3 V) U ∧ Sta V U U.heap ∧ Pos V h n U.heap
theorem Sta.moved {V : VV} {u U : State} {H : Heap} (hvm : u.vm.Alike U.vm) (S : Sta V u H) : Sta V U H := ⟨fun k hk => (S.1 k hk).moved hvm, fun k hk => (S.2 k hk).moved hvm⟩
theorem Sta.kept {V : VV} {U : State} {H H1 : Heap} (S : Sta V U H) (hq : ∀ a : Nat, a < H.size → ¬ Ab V a → H1[a]? = H[a]?) : Sta V U H1 := ⟨fun k hk => (S.1 k hk).kept hq, fun k hk => (S.2 k hk).kept hq⟩
/-! the walk -/
def Cx (V : VV) (I : MI) (p : Program) (s : State) (m : MethodId) (args : Array Value) (meth : Method) (c : Code) : Prop :=
  p.tables.exec = Jvm.exec ∧ c.code = I.2.1 ∧ c.maxLocals = I.2.2.1 ∧ s.vm.findClass I.1.cls = some m.cls ∧ (∀ w ∈ WT, w.before args s = true) ∧ meth.sig.returnType = I.2.2.2 ∧ meth.locks = false ∧ meth.name = I.1.name ∧ va_K V.1 vwCl (tys3 V) s ∧ Sta V s s.heap ∧ vb V ≤ s.heap.size
def Lo (V : VV) (nL : Nat) (ls : Array Slot) (lv : List (Option Value)) : Prop := ls.size = nL ∧ lv_wf ls ∧ ∀ (i : Nat) (v : Value), lv[i]? = some (some v) → ls[i]? = some (.val (coV V v))
abbrev QF : Type := List Frame → Array Value → State → State → Prop
def AW (V : VV) (I : MI) (R : Room) (Qf : QF) (n0 z0 pc : Nat) (lv : List (Option Value)) (st : List Value) (h : AH) (n z : Nat) : Prop :=
  ∀ (p : Program) (l : Launch) (e : Env) (s : State) (m : MethodId) (args : Array Value) (below : List Frame) (meth : Method) (c : Code) (H : Heap) (locs : List Loc) (ls : Array Slot),
    Cx V I p s m args meth c → va_S (Ab V) s.heap H locs → Pos V h n H → Lo V I.2.2.1 ls lv → n0 ≤ n → n ≤ n0 + R.cells → z0 ≤ z → z ≤ z0 + R.slots →
    W p l e R s m args below meth c H locs (n - n0) (z - z0) (Qf below args s) (F0 m pc ls (st.map (coV V)))
def RmM (d mc ms : Nat) : Room := { frames := d, cells := mc, slots := ms, locals := 40 * d }
def QcM (V : VV) (r : Option Value) (h' : AH) (n' : Nat) : Array Value → State → Outcome → State → Prop := fun _ st oc t => oc = .returned (r.map (coV V)) ∧ Wd V h' n' t ∧ va_F (Ab V) st t
def QM (V : VV) (r : Option Value) (h' : AH) (n' mc ms : Nat) : QF := fun below args s => MQ below (QcM V r h' n') args s mc ms (Ab V)
abbrev AM (V : VV) (I : MI) (d n0 z0 : Nat) (r : Option Value) (h' : AH) (n' z' pc : Nat) (lv : List (Option Value)) (st : List Value) (h : AH) (n z : Nat) : Prop :=
  AW V I (RmM d (n' - n0) (z' - z0)) (QM V r h' n' (n' - n0) (z' - z0)) n0 z0 pc lv st h n z
def wsM (I : MI) : List Cond := .code I.1 I.2.1 I.2.2.1 I.2.2.2 :: WT
def AMet (V : VV) (I : MI) (d : Nat) (av : List Value) (h : AH) (n z : Nat) (r : Option Value) (h' : AH) (n' z' : Nat) : Prop :=
  n ≤ n' ∧ z ≤ z' ∧ ∀ l : Launch, Met l I.1 (wsM I) (RmM d (n' - n) (z' - z)) (va_Pc (av.map (coV V)) (Wd V h n)) (QcM V r h' n') (n' - n) (z' - z) (Ab V)
/-! the locals at a method's entry -/
def lvE : List Value → List (Option Value)
  | [] => []
  | .long x :: vs => some (.long x) :: none :: lvE vs
  | .double x :: vs => some (.double x) :: none :: lvE vs
  | v :: vs => some v :: lvE vs
theorem lvE_args (V : VV) : ∀ (vs : List Value) (o i : Nat) (v : Value), (lvE vs)[i]? = some (some v) → (o + i, coV V v) ∈ lv_args o (vs.map (coV V))
  | [], o, i, v, h => by simp [lvE] at h
  | .long x :: vs, o, i, v, h => by
    cases i with
    | zero => simp [lvE] at h; subst h; simp [lv_args, coV]
    | succ i =>
      cases i with
      | zero => simp [lvE] at h
      | succ i =>
        simp [lvE] at h
        have := lvE_args V vs (o + 2) i v h
        rw [show o + 2 + i = o + (i + 1 + 1) by omega] at this
        exact List.mem_cons_of_mem _ this
  | .double x :: vs, o, i, v, h => by
    cases i with
    | zero => simp [lvE] at h; subst h; simp [lv_args, coV]
    | succ i =>
      cases i with
      | zero => simp [lvE] at h
      | succ i =>
        simp [lvE] at h
        have := lvE_args V vs (o + 2) i v h
        rw [show o + 2 + i = o + (i + 1 + 1) by omega] at this
        exact List.mem_cons_of_mem _ this
  | .int x :: vs, o, i, v, h => by
    cases i with
    | zero => simp [lvE] at h; subst h; simp [lv_args, coV]
    | succ i =>
      simp [lvE] at h
      have := lvE_args V vs (o + 1) i v h
      rw [show o + 1 + i = o + (i + 1) by omega] at this
      exact List.mem_cons_of_mem _ this
  | .float x :: vs, o, i, v, h => by
    cases i with
    | zero => simp [lvE] at h; subst h; simp [lv_args, coV]
    | succ i =>
      simp [lvE] at h
      have := lvE_args V vs (o + 1) i v h
      rw [show o + 1 + i = o + (i + 1) by omega] at this
      exact List.mem_cons_of_mem _ this
  | .null :: vs, o, i, v, h => by
    cases i with
    | zero => simp [lvE] at h; subst h; simp [lv_args, coV]
    | succ i =>
      simp [lvE] at h
      have := lvE_args V vs (o + 1) i v h
      rw [show o + 1 + i = o + (i + 1) by omega] at this
      exact List.mem_cons_of_mem _ this
  | .ref x :: vs, o, i, v, h => by
    cases i with
    | zero => simp [lvE] at h; subst h; simp [lv_args, coV]
    | succ i =>
      simp [lvE] at h
      have := lvE_args V vs (o + 1) i v h
      rw [show o + 1 + i = o + (i + 1) by omega] at this
      exact List.mem_cons_of_mem _ this
  | .retAddr x :: vs, o, i, v, h => by
    cases i with
    | zero => simp [lvE] at h; subst h; simp [lv_args, coV]
    | succ i =>
      simp [lvE] at h
      have := lvE_args V vs (o + 1) i v h
      rw [show o + 1 + i = o + (i + 1) by omega] at this
      exact List.mem_cons_of_mem _ this
theorem lgs_len (V : VV) : ∀ vs : List Value, (lg_sl (vs.map (coV V))).length = (lvE vs).length
  | [] => rfl
  | v :: vs => by
    have ih := lgs_len V vs
    have e : lg_sl ((v :: vs).map (coV V)) = lg_sl [coV V v] ++ lg_sl (vs.map (coV V)) := by simp [lg_sl]
    rw [e, List.length_append, ih]
    cases v <;> simp [lg_sl, coV, lvE, Value.category] <;> omega
theorem Lo.entry (V : VV) (av : List Value) {nL : Nat} (hl : (lvE av).length ≤ nL) : Lo V nL ((lg_sl (av.map (coV V)) ++ List.replicate (nL - (lg_sl (av.map (coV V))).length) Slot.unset).toArray) (lvE av ++ List.replicate (nL - (lvE av).length) none) := by
  have h := lv_entry (av.map (coV V)) (n := nL) (by rw [lgs_len]; exact hl)
  refine ⟨h.1, h.2.1, fun i v hi => ?_⟩
  by_cases hlt : i < (lvE av).length
  · rw [List.getElem?_append_left hlt] at hi
    have := h.2.2 _ (lvE_args V av 0 i v hi)
    simpa using this
  · rw [List.getElem?_append_right (by omega)] at hi
    have := List.eq_of_mem_replicate (List.mem_of_getElem? hi)
    cases this
theorem Wd.blind {V : VV} {av : List Value} {h : AH} {n : Nat} : FrameBlind (va_Pc av (Wd V h n)) := by
  intro a U g mk q
  obtain ⟨q1, q2, q3, q4⟩ := q
  exact ⟨q1, va_K.moved (u := U) (U := U.calling g mk a) (Vm.Alike.refl U.vm) q2, Sta.moved (u := U) (U := U.calling g mk a) (Vm.Alike.refl U.vm) q3, q4⟩
theorem AMet.intro {V : VV} {I : MI} {d : Nat} {av : List Value} {h : AH} {n z : Nat} {r : Option Value} {h' : AH} {n' z' : Nat} {lv : List (Option Value)} (hn : n ≤ n') (hz : z ≤ z') (hy : plainName I.1.cls = true) (hl : (lvE av).length ≤ I.2.2.1) (hlv : lvE av ++ List.replicate (I.2.2.1 - (lvE av).length) none = lv)
    (k : AM V I d n z r h' n' z' 0 lv [] h n z) : AMet V I d av h n z r h' n' z' := by
  refine ⟨hn, hz, fun l => ?_⟩
  refine Met.ofW (cc := I.2.1) (maxL := I.2.2.1) (ret := I.2.2.2) hy rfl ?_
  intro p e s m args below meth c s₁ B hml hv
  obtain ⟨rfl, hK, hS, hP⟩ := hv
  have hts := atoms_spec (ws := wsM I) B.pre
  have hown : s.vm.findClass I.1.cls = some m.cls := findClass_of_methodNamed B.named
  have hb : vb V ≤ s.heap.size := by have := hP.2.1; have := hP.1; omega
  have X : Cx V I p s m (av.map (coV V)).toArray meth c := ⟨B.exec, B.bytes, hml, hown, fun w hw => hts w (List.mem_cons_of_mem _ hw), B.returns, B.notSynchronized, (name_of_methodNamed B.named B.method).1, hK, hS, hb⟩
  have hL := Lo.entry V av hl
  rw [hlv] at hL
  rw [lg_entry_eq]
  have K := k p l e s m (av.map (coV V)).toArray below meth c s.heap [] _ X va_S.rf hP hL (Nat.le_refl _) (Nat.le_add_right _ _) (Nat.le_refl _) (Nat.le_add_right _ _)
  rw [Nat.sub_self, Nat.sub_self] at K
  exact K
end
section
/-! ROWS: one for each instruction, over AW -/
section AWRows
variable {V : VV} {I : MI} {R : Room} {Qf : QF} {n0 z0 pc : Nat} {lv : List (Option Value)} {st : List Value} {h : AH} {n z : Nat}
theorem a_iconst {c : Int} {v : Int32} (dg : decode I.2.1 pc = .ok (.iconst c, 1)) (hv : Int32.ofInt c = v) (k : AW V I R Qf n0 z0 (pc + 1) lv (.int v :: st) h n z) : AW V I R Qf n0 z0 pc lv st h n z := by
  intro p l e s m args below meth c H locs ls X hS hP hL h1 h2 h3 h4
  exact lv_iconst X.1 X.2.1 dg hv (k p l e s m args below meth c H locs ls X hS hP hL h1 h2 h3 h4)
theorem a_bipush {c : Int} {v : Int32} (dg : decode I.2.1 pc = .ok (.bipush c, 2)) (hv : (Int8.ofInt c).toInt32 = v) (k : AW V I R Qf n0 z0 (pc + 2) lv (.int v :: st) h n z) : AW V I R Qf n0 z0 pc lv st h n z := by
  intro p l e s m args below meth c H locs ls X hS hP hL h1 h2 h3 h4
  exact lv_bipush X.1 X.2.1 dg hv (k p l e s m args below meth c H locs ls X hS hP hL h1 h2 h3 h4)
theorem a_sipush {c : Int} {v : Int32} (dg : decode I.2.1 pc = .ok (.sipush c, 3)) (hv : (Int16.ofInt c).toInt32 = v) (k : AW V I R Qf n0 z0 (pc + 3) lv (.int v :: st) h n z) : AW V I R Qf n0 z0 pc lv st h n z := by
  intro p l e s m args below meth c H locs ls X hS hP hL h1 h2 h3 h4
  exact lv_sipush X.1 X.2.1 dg hv (k p l e s m args below meth c H locs ls X hS hP hL h1 h2 h3 h4)
theorem a_lconst {c : Fin 2} {v : Int64} (dg : decode I.2.1 pc = .ok (.lconst c, 1)) (hv : Int64.ofNat (c : Nat) = v) (k : AW V I R Qf n0 z0 (pc + 1) lv (.long v :: st) h n z) : AW V I R Qf n0 z0 pc lv st h n z := by
  intro p l e s m args below meth c H locs ls X hS hP hL h1 h2 h3 h4
  exact lv_lconst X.1 X.2.1 dg hv (k p l e s m args below meth c H locs ls X hS hP hL h1 h2 h3 h4)
theorem a_iload_n {k : Fin 4} {x : Int32} (dg : decode I.2.1 pc = .ok (.iload_n k, 1)) (hl : lv[(k : Nat)]? = some (some (.int x))) (k : AW V I R Qf n0 z0 (pc + 1) lv (.int x :: st) h n z) : AW V I R Qf n0 z0 pc lv st h n z := by
  intro p l e s m args below meth c H locs ls X hS hP hL h1 h2 h3 h4
  exact lv_iload_n X.1 X.2.1 dg rfl (hL.2.2 _ _ hl) (k p l e s m args below meth c H locs ls X hS hP hL h1 h2 h3 h4)
theorem a_iload {i : Nat} {x : Int32} (dg : decode I.2.1 pc = .ok (.iload i, 2)) (hl : lv[i]? = some (some (.int x))) (k : AW V I R Qf n0 z0 (pc + 2) lv (.int x :: st) h n z) : AW V I R Qf n0 z0 pc lv st h n z := by
  intro p l e s m args below meth c H locs ls X hS hP hL h1 h2 h3 h4
  exact lv_iload X.1 X.2.1 dg (hL.2.2 _ _ hl) (k p l e s m args below meth c H locs ls X hS hP hL h1 h2 h3 h4)
theorem a_lload_n {k : Fin 4} {x : Int64} (dg : decode I.2.1 pc = .ok (.lload_n k, 1)) (hl : lv[(k : Nat)]? = some (some (.long x))) (k : AW V I R Qf n0 z0 (pc + 1) lv (.long x :: st) h n z) : AW V I R Qf n0 z0 pc lv st h n z := by
  intro p l e s m args below meth c H locs ls X hS hP hL h1 h2 h3 h4
  exact lv_lload_n X.1 X.2.1 dg rfl (hL.2.2 _ _ hl) (k p l e s m args below meth c H locs ls X hS hP hL h1 h2 h3 h4)
theorem a_lload {i : Nat} {x : Int64} (dg : decode I.2.1 pc = .ok (.lload i, 2)) (hl : lv[i]? = some (some (.long x))) (k : AW V I R Qf n0 z0 (pc + 2) lv (.long x :: st) h n z) : AW V I R Qf n0 z0 pc lv st h n z := by
  intro p l e s m args below meth c H locs ls X hS hP hL h1 h2 h3 h4
  exact lv_lload X.1 X.2.1 dg (hL.2.2 _ _ hl) (k p l e s m args below meth c H locs ls X hS hP hL h1 h2 h3 h4)
theorem a_aload_n {k : Fin 4} {x : Nat} (dg : decode I.2.1 pc = .ok (.aload_n k, 1)) (hl : lv[(k : Nat)]? = some (some (.ref x))) (k : AW V I R Qf n0 z0 (pc + 1) lv (.ref x :: st) h n z) : AW V I R Qf n0 z0 pc lv st h n z := by
  intro p l e s m args below meth c H locs ls X hS hP hL h1 h2 h3 h4
  exact lv_aload_n X.1 X.2.1 dg rfl (hL.2.2 _ _ hl) (k p l e s m args below meth c H locs ls X hS hP hL h1 h2 h3 h4)
theorem a_aload {i x : Nat} (dg : decode I.2.1 pc = .ok (.aload i, 2)) (hl : lv[i]? = some (some (.ref x))) (k : AW V I R Qf n0 z0 (pc + 2) lv (.ref x :: st) h n z) : AW V I R Qf n0 z0 pc lv st h n z := by
  intro p l e s m args below meth c H locs ls X hS hP hL h1 h2 h3 h4
  exact lv_aload X.1 X.2.1 dg (hL.2.2 _ _ hl) (k p l e s m args below meth c H locs ls X hS hP hL h1 h2 h3 h4)
theorem a_aload_nN {k : Fin 4} (dg : decode I.2.1 pc = .ok (.aload_n k, 1)) (hl : lv[(k : Nat)]? = some (some .null)) (k : AW V I R Qf n0 z0 (pc + 1) lv (.null :: st) h n z) : AW V I R Qf n0 z0 pc lv st h n z := by
  intro p l e s m args below meth c H locs ls X hS hP hL h1 h2 h3 h4
  exact lv_aload_nN X.1 X.2.1 dg rfl (hL.2.2 _ _ hl) (k p l e s m args below meth c H locs ls X hS hP hL h1 h2 h3 h4)
theorem a_aloadN {i : Nat} (dg : decode I.2.1 pc = .ok (.aload i, 2)) (hl : lv[i]? = some (some .null)) (k : AW V I R Qf n0 z0 (pc + 2) lv (.null :: st) h n z) : AW V I R Qf n0 z0 pc lv st h n z := by
  intro p l e s m args below meth c H locs ls X hS hP hL h1 h2 h3 h4
  exact lv_aloadN X.1 X.2.1 dg (hL.2.2 _ _ hl) (k p l e s m args below meth c H locs ls X hS hP hL h1 h2 h3 h4)
/-- a live value of two words stands just below the place -/
def c2 (lv : List (Option Value)) : Nat → Bool
  | 0 => false
  | i + 1 => match lv[i]? with
    | some (some (.long _)) => true
    | some (some (.double _)) => true
    | _ => false
theorem c2_no {lv : List (Option Value)} {i j : Nat} {v : Value} (hc : c2 lv i = false) (hj : lv[j]? = some (some v)) (e : j + 1 = i) : v.category = 1 := by
  subst e
  simp only [c2, hj] at hc
  cases v <;> simp_all [Value.category]
def lvl (V : VV) (lv : List (Option Value)) : List (Nat × Value) := (List.range lv.length).filterMap (fun i => match lv[i]? with
  | some (some v) => some (i, coV V v)
  | _ => none)
theorem lvl_mem {V : VV} {lv : List (Option Value)} {i : Nat} {v : Value} (hi : lv[i]? = some (some v)) : (i, coV V v) ∈ lvl V lv := by
  have hlt : i < lv.length := (List.getElem?_eq_some_iff.mp hi).1
  refine List.mem_filterMap.mpr ⟨i, List.mem_range.mpr hlt, ?_⟩
  rw [hi]
theorem lvl_of {V : VV} {lv : List (Option Value)} {q : Nat × Value} (h : q ∈ lvl V lv) : ∃ v, lv[q.1]? = some (some v) ∧ q.2 = coV V v := by
  obtain ⟨i, -, hi⟩ := List.mem_filterMap.mp h
  split at hi
  · rename_i v hv
    cases hi
    exact ⟨v, hv, rfl⟩
  · cases hi
theorem Lo.has {V : VV} {nL : Nat} {ls : Array Slot} {lv : List (Option Value)} (h : Lo V nL ls lv) : lv_has ls nL (lvl V lv) := by
  refine ⟨h.1, h.2.1, fun q hq => ?_⟩
  obtain ⟨v, h1, h2⟩ := lvl_of hq
  rw [h2]
  exact h.2.2 _ _ h1
theorem Lo.st1 {V : VV} {nL i : Nat} {ls : Array Slot} {lv : List (Option Value)} {v : Value} (hc : c2 lv i = false) (hi : i < lv.length) (h : lv_has ls nL ((i, coV V v) :: (lvl V lv).filter (fun q => !(q.1 == i) && !(q.1 + 1 == i && q.2.category == 2)))) : Lo V nL ls (lv.set i (some v)) := by
  refine ⟨h.1, h.2.1, fun j w hj => ?_⟩
  by_cases e : j = i
  · subst e
    rw [List.getElem?_set_self hi] at hj
    cases hj
    exact h.2.2 _ List.mem_cons_self
  · rw [List.getElem?_set_ne (Ne.symm e)] at hj
    refine h.2.2 (j, coV V w) (List.mem_cons_of_mem _ (List.mem_filter.mpr ⟨lvl_mem hj, ?_⟩))
    by_cases e2 : j + 1 = i
    · have := c2_no hc hj e2
      simp [e, coV_cat, this]
    · simp [e, e2]
theorem Lo.st2 {V : VV} {nL i : Nat} {ls : Array Slot} {lv : List (Option Value)} {v : Value} (hc : c2 lv i = false) (hi : i + 1 < lv.length) (h : lv_has ls nL ((i, coV V v) :: (lvl V lv).filter (fun q => !(q.1 == i) && (!(q.1 == i + 1) && !(q.1 + 1 == i && q.2.category == 2))))) : Lo V nL ls ((lv.set i (some v)).set (i + 1) none) := by
  refine ⟨h.1, h.2.1, fun j w hj => ?_⟩
  by_cases e1 : j = i + 1
  · subst e1
    rw [List.getElem?_set_self (by simpa using hi)] at hj
    cases hj
  · rw [List.getElem?_set_ne (Ne.symm e1)] at hj
    by_cases e : j = i
    · subst e
      rw [List.getElem?_set_self (by omega)] at hj
      cases hj
      exact h.2.2 _ List.mem_cons_self
    · rw [List.getElem?_set_ne (Ne.symm e)] at hj
      refine h.2.2 (j, coV V w) (List.mem_cons_of_mem _ (List.mem_filter.mpr ⟨lvl_mem hj, ?_⟩))
      by_cases e2 : j + 1 = i
      · have := c2_no hc hj e2
        simp [e, e1, coV_cat, this]
      · simp [e, e1, e2]
theorem a_drop (i : Nat) (k : AW V I R Qf n0 z0 pc (lv.set i none) st h n z) : AW V I R Qf n0 z0 pc lv st h n z := by
  intro p l e s m args below meth c H locs ls X hS hP hL h1 h2 h3 h4
  refine k p l e s m args below meth c H locs ls X hS hP ⟨hL.1, hL.2.1, fun j v hj => ?_⟩ h1 h2 h3 h4
  by_cases q : j = i
  · subst q
    by_cases hlt : j < lv.length
    · rw [List.getElem?_set_self hlt] at hj
      cases hj
    · rw [List.getElem?_eq_none (by simp; omega)] at hj
      cases hj
  · rw [List.getElem?_set_ne (Ne.symm q)] at hj
    exact hL.2.2 j v hj
theorem a_eq {pc' : Nat} {lv' : List (Option Value)} {st' : List Value} {h' : AH} {n' z' : Nat} (e1 : pc = pc') (e2 : lv = lv') (e3 : st = st') (e4 : h = h') (e5 : n = n') (e6 : z = z') (k : AW V I R Qf n0 z0 pc' lv' st' h' n' z') : AW V I R Qf n0 z0 pc lv st h n z := by
  subst e1; subst e2; subst e3; subst e4; subst e5; subst e6; exact k
theorem a_istore_n {k : Fin 4} {x : Int32} (dg : decode I.2.1 pc = .ok (.istore_n k, 1)) (hi : (k : Nat) < lv.length) (hi2 : (k : Nat) < I.2.2.1) (hc : c2 lv (k : Nat) = false) (k : AW V I R Qf n0 z0 (pc + 1) (lv.set (k : Nat) (some (.int x))) st h n z) : AW V I R Qf n0 z0 pc lv (.int x :: st) h n z := by
  intro p l e s m args below meth c H locs ls X hS hP hL h1 h2 h3 h4
  exact lv_istore_n X.1 X.2.1 dg rfl hL.has hi2 rfl (fun ls' hl' => k p l e s m args below meth c H locs ls' X hS hP (Lo.st1 (v := .int x) hc hi hl') h1 h2 h3 h4)
theorem a_istore {i : Nat} {x : Int32} (dg : decode I.2.1 pc = .ok (.istore i, 2)) (hi : i < lv.length) (hi2 : i < I.2.2.1) (hc : c2 lv i = false) (k : AW V I R Qf n0 z0 (pc + 2) (lv.set i (some (.int x))) st h n z) : AW V I R Qf n0 z0 pc lv (.int x :: st) h n z := by
  intro p l e s m args below meth c H locs ls X hS hP hL h1 h2 h3 h4
  exact lv_istore X.1 X.2.1 dg hL.has hi2 rfl (fun ls' hl' => k p l e s m args below meth c H locs ls' X hS hP (Lo.st1 (v := .int x) hc hi hl') h1 h2 h3 h4)
theorem a_lstore_n {k : Fin 4} {x : Int64} (dg : decode I.2.1 pc = .ok (.lstore_n k, 1)) (hi : (k : Nat) + 1 < lv.length) (hi2 : (k : Nat) + 1 < I.2.2.1) (hc : c2 lv (k : Nat) = false) (k : AW V I R Qf n0 z0 (pc + 1) ((lv.set (k : Nat) (some (.long x))).set ((k : Nat) + 1) none) st h n z) : AW V I R Qf n0 z0 pc lv (.long x :: st) h n z := by
  intro p l e s m args below meth c H locs ls X hS hP hL h1 h2 h3 h4
  exact lv_lstore_n X.1 X.2.1 dg rfl hL.has hi2 rfl (fun ls' hl' => k p l e s m args below meth c H locs ls' X hS hP (Lo.st2 (v := .long x) hc hi hl') h1 h2 h3 h4)
theorem a_lstore {i : Nat} {x : Int64} (dg : decode I.2.1 pc = .ok (.lstore i, 2)) (hi : i + 1 < lv.length) (hi2 : i + 1 < I.2.2.1) (hc : c2 lv i = false) (k : AW V I R Qf n0 z0 (pc + 2) ((lv.set i (some (.long x))).set (i + 1) none) st h n z) : AW V I R Qf n0 z0 pc lv (.long x :: st) h n z := by
  intro p l e s m args below meth c H locs ls X hS hP hL h1 h2 h3 h4
  exact lv_lstore X.1 X.2.1 dg hL.has hi2 rfl (fun ls' hl' => k p l e s m args below meth c H locs ls' X hS hP (Lo.st2 (v := .long x) hc hi hl') h1 h2 h3 h4)
theorem a_astore_n {k : Fin 4} {x : Nat} (dg : decode I.2.1 pc = .ok (.astore_n k, 1)) (hi : (k : Nat) < lv.length) (hi2 : (k : Nat) < I.2.2.1) (hc : c2 lv (k : Nat) = false) (k : AW V I R Qf n0 z0 (pc + 1) (lv.set (k : Nat) (some (.ref x))) st h n z) : AW V I R Qf n0 z0 pc lv (.ref x :: st) h n z := by
  intro p l e s m args below meth c H locs ls X hS hP hL h1 h2 h3 h4
  exact lv_astore_n X.1 X.2.1 dg rfl hL.has hi2 rfl (fun ls' hl' => k p l e s m args below meth c H locs ls' X hS hP (Lo.st1 (v := .ref x) hc hi hl') h1 h2 h3 h4)
theorem a_astore_nN {k : Fin 4} (dg : decode I.2.1 pc = .ok (.astore_n k, 1)) (hi : (k : Nat) < lv.length) (hi2 : (k : Nat) < I.2.2.1) (hc : c2 lv (k : Nat) = false) (k : AW V I R Qf n0 z0 (pc + 1) (lv.set (k : Nat) (some .null)) st h n z) : AW V I R Qf n0 z0 pc lv (.null :: st) h n z := by
  intro p l e s m args below meth c H locs ls X hS hP hL h1 h2 h3 h4
  exact lv_astore_nN X.1 X.2.1 dg rfl hL.has hi2 rfl (fun ls' hl' => k p l e s m args below meth c H locs ls' X hS hP (Lo.st1 (v := .null) hc hi hl') h1 h2 h3 h4)
theorem a_astore {i : Nat} {x : Nat} (dg : decode I.2.1 pc = .ok (.astore i, 2)) (hi : i < lv.length) (hi2 : i < I.2.2.1) (hc : c2 lv i = false) (k : AW V I R Qf n0 z0 (pc + 2) (lv.set i (some (.ref x))) st h n z) : AW V I R Qf n0 z0 pc lv (.ref x :: st) h n z := by
  intro p l e s m args below meth c H locs ls X hS hP hL h1 h2 h3 h4
  exact lv_astore X.1 X.2.1 dg hL.has hi2 rfl (fun ls' hl' => k p l e s m args below meth c H locs ls' X hS hP (Lo.st1 (v := .ref x) hc hi hl') h1 h2 h3 h4)
theorem a_astoreN {i : Nat} (dg : decode I.2.1 pc = .ok (.astore i, 2)) (hi : i < lv.length) (hi2 : i < I.2.2.1) (hc : c2 lv i = false) (k : AW V I R Qf n0 z0 (pc + 2) (lv.set i (some .null)) st h n z) : AW V I R Qf n0 z0 pc lv (.null :: st) h n z := by
  intro p l e s m args below meth c H locs ls X hS hP hL h1 h2 h3 h4
  exact lv_astoreN X.1 X.2.1 dg hL.has hi2 rfl (fun ls' hl' => k p l e s m args below meth c H locs ls' X hS hP (Lo.st1 (v := .null) hc hi hl') h1 h2 h3 h4)
theorem a_iinc {i : Nat} {c : Int} {x v : Int32} (dg : decode I.2.1 pc = .ok (.iinc i c, 3)) (hl : lv[i]? = some (some (.int x))) (hv : x + Int32.ofInt c = v) (hi2 : i < I.2.2.1) (hc : c2 lv i = false) (k : AW V I R Qf n0 z0 (pc + 3) (lv.set i (some (.int v))) st h n z) : AW V I R Qf n0 z0 pc lv st h n z := by
  intro p l e s m args below meth c' H locs ls X hS hP hL h1 h2 h3 h4
  obtain ⟨k0, hk0⟩ := List.getElem?_of_mem (lvl_mem (V := V) hl)
  exact lv_iinc X.1 X.2.1 dg hL.has hk0 hv hi2 rfl (fun ls' hl' => k p l e s m args below meth c' H locs ls' X hS hP (Lo.st1 (v := .int v) hc (List.getElem?_eq_some_iff.mp hl).1 hl') h1 h2 h3 h4)
theorem a_iadd {x y : Int32} (dg : decode I.2.1 pc = .ok (.iadd, 1))  (k : AW V I R Qf n0 z0 (pc + 1) lv (.int (x + y) :: st) h n z) : AW V I R Qf n0 z0 pc lv (.int y :: .int x :: st) h n z := by
  intro p l e s m args below meth c H locs ls X hS hP hL h1 h2 h3 h4
  exact lv_iadd X.1 X.2.1 dg (k p l e s m args below meth c H locs ls X hS hP hL h1 h2 h3 h4)
theorem a_isub {x y : Int32} (dg : decode I.2.1 pc = .ok (.isub, 1))  (k : AW V I R Qf n0 z0 (pc + 1) lv (.int (x - y) :: st) h n z) : AW V I R Qf n0 z0 pc lv (.int y :: .int x :: st) h n z := by
  intro p l e s m args below meth c H locs ls X hS hP hL h1 h2 h3 h4
  exact lv_isub X.1 X.2.1 dg (k p l e s m args below meth c H locs ls X hS hP hL h1 h2 h3 h4)
theorem a_imul {x y : Int32} (dg : decode I.2.1 pc = .ok (.imul, 1))  (k : AW V I R Qf n0 z0 (pc + 1) lv (.int (x * y) :: st) h n z) : AW V I R Qf n0 z0 pc lv (.int y :: .int x :: st) h n z := by
  intro p l e s m args below meth c H locs ls X hS hP hL h1 h2 h3 h4
  exact lv_imul X.1 X.2.1 dg (k p l e s m args below meth c H locs ls X hS hP hL h1 h2 h3 h4)
theorem a_iand {x y : Int32} (dg : decode I.2.1 pc = .ok (.iand, 1))  (k : AW V I R Qf n0 z0 (pc + 1) lv (.int (x &&& y) :: st) h n z) : AW V I R Qf n0 z0 pc lv (.int y :: .int x :: st) h n z := by
  intro p l e s m args below meth c H locs ls X hS hP hL h1 h2 h3 h4
  exact lv_iand X.1 X.2.1 dg (k p l e s m args below meth c H locs ls X hS hP hL h1 h2 h3 h4)
theorem a_ladd {x y : Int64} (dg : decode I.2.1 pc = .ok (.ladd, 1))  (k : AW V I R Qf n0 z0 (pc + 1) lv (.long (x + y) :: st) h n z) : AW V I R Qf n0 z0 pc lv (.long y :: .long x :: st) h n z := by
  intro p l e s m args below meth c H locs ls X hS hP hL h1 h2 h3 h4
  exact lv_ladd X.1 X.2.1 dg (k p l e s m args below meth c H locs ls X hS hP hL h1 h2 h3 h4)
theorem a_lsub {x y : Int64} (dg : decode I.2.1 pc = .ok (.lsub, 1))  (k : AW V I R Qf n0 z0 (pc + 1) lv (.long (x - y) :: st) h n z) : AW V I R Qf n0 z0 pc lv (.long y :: .long x :: st) h n z := by
  intro p l e s m args below meth c H locs ls X hS hP hL h1 h2 h3 h4
  exact lv_lsub X.1 X.2.1 dg (k p l e s m args below meth c H locs ls X hS hP hL h1 h2 h3 h4)
theorem a_land {x y : Int64} (dg : decode I.2.1 pc = .ok (.land, 1))  (k : AW V I R Qf n0 z0 (pc + 1) lv (.long (x &&& y) :: st) h n z) : AW V I R Qf n0 z0 pc lv (.long y :: .long x :: st) h n z := by
  intro p l e s m args below meth c H locs ls X hS hP hL h1 h2 h3 h4
  exact lv_land X.1 X.2.1 dg (k p l e s m args below meth c H locs ls X hS hP hL h1 h2 h3 h4)
theorem a_lor {x y : Int64} (dg : decode I.2.1 pc = .ok (.lor, 1))  (k : AW V I R Qf n0 z0 (pc + 1) lv (.long (x ||| y) :: st) h n z) : AW V I R Qf n0 z0 pc lv (.long y :: .long x :: st) h n z := by
  intro p l e s m args below meth c H locs ls X hS hP hL h1 h2 h3 h4
  exact lv_lor X.1 X.2.1 dg (k p l e s m args below meth c H locs ls X hS hP hL h1 h2 h3 h4)
theorem a_lxor {x y : Int64} (dg : decode I.2.1 pc = .ok (.lxor, 1))  (k : AW V I R Qf n0 z0 (pc + 1) lv (.long (x ^^^ y) :: st) h n z) : AW V I R Qf n0 z0 pc lv (.long y :: .long x :: st) h n z := by
  intro p l e s m args below meth c H locs ls X hS hP hL h1 h2 h3 h4
  exact lv_lxor X.1 X.2.1 dg (k p l e s m args below meth c H locs ls X hS hP hL h1 h2 h3 h4)
theorem a_idiv {x y : Int32} (dg : decode I.2.1 pc = .ok (.idiv, 1)) (hne : ¬ y = 0) (k : AW V I R Qf n0 z0 (pc + 1) lv (.int (x / y) :: st) h n z) : AW V I R Qf n0 z0 pc lv (.int y :: .int x :: st) h n z := by
  intro p l e s m args below meth c H locs ls X hS hP hL h1 h2 h3 h4
  exact lv_idiv X.1 X.2.1 dg hne (k p l e s m args below meth c H locs ls X hS hP hL h1 h2 h3 h4)
theorem a_irem {x y : Int32} (dg : decode I.2.1 pc = .ok (.irem, 1)) (hne : ¬ y = 0) (k : AW V I R Qf n0 z0 (pc + 1) lv (.int (x - x / y * y) :: st) h n z) : AW V I R Qf n0 z0 pc lv (.int y :: .int x :: st) h n z := by
  intro p l e s m args below meth c H locs ls X hS hP hL h1 h2 h3 h4
  exact lv_irem X.1 X.2.1 dg hne (k p l e s m args below meth c H locs ls X hS hP hL h1 h2 h3 h4)
theorem a_ineg {x : Int32} (dg : decode I.2.1 pc = .ok (.ineg, 1))  (k : AW V I R Qf n0 z0 (pc + 1) lv (.int (-x) :: st) h n z) : AW V I R Qf n0 z0 pc lv (.int x :: st) h n z := by
  intro p l e s m args below meth c H locs ls X hS hP hL h1 h2 h3 h4
  exact lv_ineg X.1 X.2.1 dg (k p l e s m args below meth c H locs ls X hS hP hL h1 h2 h3 h4)
theorem a_i2l {x : Int32} (dg : decode I.2.1 pc = .ok (.i2l, 1))  (k : AW V I R Qf n0 z0 (pc + 1) lv (.long x.toInt64 :: st) h n z) : AW V I R Qf n0 z0 pc lv (.int x :: st) h n z := by
  intro p l e s m args below meth c H locs ls X hS hP hL h1 h2 h3 h4
  exact lv_i2l X.1 X.2.1 dg rfl (k p l e s m args below meth c H locs ls X hS hP hL h1 h2 h3 h4)
theorem a_l2i {x : Int64} (dg : decode I.2.1 pc = .ok (.l2i, 1))  (k : AW V I R Qf n0 z0 (pc + 1) lv (.int x.toInt32 :: st) h n z) : AW V I R Qf n0 z0 pc lv (.long x :: st) h n z := by
  intro p l e s m args below meth c H locs ls X hS hP hL h1 h2 h3 h4
  exact lv_l2i X.1 X.2.1 dg rfl (k p l e s m args below meth c H locs ls X hS hP hL h1 h2 h3 h4)
theorem a_ishr {x y : Int32} (dg : decode I.2.1 pc = .ok (.ishr, 1))  (k : AW V I R Qf n0 z0 (pc + 1) lv (.int (x >>> (y &&& 31)) :: st) h n z) : AW V I R Qf n0 z0 pc lv (.int y :: .int x :: st) h n z := by
  intro p l e s m args below meth c H locs ls X hS hP hL h1 h2 h3 h4
  exact lv_ishr X.1 X.2.1 dg (k p l e s m args below meth c H locs ls X hS hP hL h1 h2 h3 h4)
theorem a_lushr {x : Int64} {y : Int32} (dg : decode I.2.1 pc = .ok (.lushr, 1))  (k : AW V I R Qf n0 z0 (pc + 1) lv (.long (x.toUInt64 >>> (y.toInt64.toUInt64 &&& Int64.toUInt64 63)).toInt64 :: st) h n z) : AW V I R Qf n0 z0 pc lv (.int y :: .long x :: st) h n z := by
  intro p l e s m args below meth c H locs ls X hS hP hL h1 h2 h3 h4
  exact lv_lushr X.1 X.2.1 dg rfl (k p l e s m args below meth c H locs ls X hS hP hL h1 h2 h3 h4)
theorem a_lshl {x : Int64} {y : Int32} (dg : decode I.2.1 pc = .ok (.lshl, 1))  (k : AW V I R Qf n0 z0 (pc + 1) lv (.long (x <<< (y.toInt64 &&& 63)) :: st) h n z) : AW V I R Qf n0 z0 pc lv (.int y :: .long x :: st) h n z := by
  intro p l e s m args below meth c H locs ls X hS hP hL h1 h2 h3 h4
  exact lv_lshl X.1 X.2.1 dg rfl (k p l e s m args below meth c H locs ls X hS hP hL h1 h2 h3 h4)
theorem a_lshr {x : Int64} {y : Int32} (dg : decode I.2.1 pc = .ok (.lshr, 1))  (k : AW V I R Qf n0 z0 (pc + 1) lv (.long (x >>> (y.toInt64 &&& 63)) :: st) h n z) : AW V I R Qf n0 z0 pc lv (.int y :: .long x :: st) h n z := by
  intro p l e s m args below meth c H locs ls X hS hP hL h1 h2 h3 h4
  exact lv_lshr X.1 X.2.1 dg rfl (k p l e s m args below meth c H locs ls X hS hP hL h1 h2 h3 h4)
theorem a_lcmp {x y : Int64} (dg : decode I.2.1 pc = .ok (.lcmp, 1))  (k : AW V I R Qf n0 z0 (pc + 1) lv (.int (lg_cmp x y) :: st) h n z) : AW V I R Qf n0 z0 pc lv (.long y :: .long x :: st) h n z := by
  intro p l e s m args below meth c H locs ls X hS hP hL h1 h2 h3 h4
  exact W.lcmp X.1 X.2.1 dg (k p l e s m args below meth c H locs ls X hS hP hL h1 h2 h3 h4)
theorem a_null  (dg : decode I.2.1 pc = .ok (.aconst_null, 1))  (k : AW V I R Qf n0 z0 (pc + 1) lv (.null :: st) h n z) : AW V I R Qf n0 z0 pc lv st h n z := by
  intro p l e s m args below meth c H locs ls X hS hP hL h1 h2 h3 h4
  exact lv_null X.1 X.2.1 dg (k p l e s m args below meth c H locs ls X hS hP hL h1 h2 h3 h4)
theorem a_dup {v : Value} (dg : decode I.2.1 pc = .ok (.dup, 1)) (hv : v.category = 1) (k : AW V I R Qf n0 z0 (pc + 1) lv (v :: v :: st) h n z) : AW V I R Qf n0 z0 pc lv (v :: st) h n z := by
  intro p l e s m args below meth c H locs ls X hS hP hL h1 h2 h3 h4
  exact lv_dup X.1 X.2.1 dg (by rw [coV_cat]; exact hv) (k p l e s m args below meth c H locs ls X hS hP hL h1 h2 h3 h4)
theorem a_pop {v : Value} (dg : decode I.2.1 pc = .ok (.pop, 1)) (hv : v.category = 1) (k : AW V I R Qf n0 z0 (pc + 1) lv st h n z) : AW V I R Qf n0 z0 pc lv (v :: st) h n z := by
  intro p l e s m args below meth c H locs ls X hS hP hL h1 h2 h3 h4
  exact lv_pop X.1 X.2.1 dg (by rw [coV_cat]; exact hv) (k p l e s m args below meth c H locs ls X hS hP hL h1 h2 h3 h4)
theorem a_dup2 {v u : Value} (dg : decode I.2.1 pc = .ok (.dup2, 1)) (hv : v.category = 1) (hu : u.category = 1) (k : AW V I R Qf n0 z0 (pc + 1) lv (v :: u :: v :: u :: st) h n z) : AW V I R Qf n0 z0 pc lv (v :: u :: st) h n z := by
  intro p l e s m args below meth c H locs ls X hS hP hL h1 h2 h3 h4
  exact lv_dup2_11 X.1 X.2.1 dg (by rw [coV_cat]; exact hv) (by rw [coV_cat]; exact hu) (k p l e s m args below meth c H locs ls X hS hP hL h1 h2 h3 h4)
theorem a_if_eq {x : Int32} {off : Int} (tgt : Nat) (dg : decode I.2.1 pc = .ok (.ifCond .eq off, 3)) (ht : (pc : Int) + off = (tgt : Int)) (kt : x = 0 → AW V I R Qf n0 z0 tgt lv st h n z) (kf : ¬ x = 0 → AW V I R Qf n0 z0 (pc + 3) lv st h n z) : AW V I R Qf n0 z0 pc lv (.int x :: st) h n z := by
  intro p l e s m args below meth c H locs ls X hS hP hL h1 h2 h3 h4
  exact lv_if_eq X.1 X.2.1 dg ht (fun q => kt q p l e s m args below meth c H locs ls X hS hP hL h1 h2 h3 h4) (fun q => kf q p l e s m args below meth c H locs ls X hS hP hL h1 h2 h3 h4)
theorem a_icmp_eq {x y : Int32} {off : Int} (tgt : Nat) (dg : decode I.2.1 pc = .ok (.if_icmp .eq off, 3)) (ht : (pc : Int) + off = (tgt : Int)) (kt : x = y → AW V I R Qf n0 z0 tgt lv st h n z) (kf : ¬ x = y → AW V I R Qf n0 z0 (pc + 3) lv st h n z) : AW V I R Qf n0 z0 pc lv (.int y :: .int x :: st) h n z := by
  intro p l e s m args below meth c H locs ls X hS hP hL h1 h2 h3 h4
  exact lv_icmp_eq X.1 X.2.1 dg ht (fun q => kt q p l e s m args below meth c H locs ls X hS hP hL h1 h2 h3 h4) (fun q => kf q p l e s m args below meth c H locs ls X hS hP hL h1 h2 h3 h4)
theorem a_if_ne {x : Int32} {off : Int} (tgt : Nat) (dg : decode I.2.1 pc = .ok (.ifCond .ne off, 3)) (ht : (pc : Int) + off = (tgt : Int)) (kt : ¬ x = 0 → AW V I R Qf n0 z0 tgt lv st h n z) (kf : x = 0 → AW V I R Qf n0 z0 (pc + 3) lv st h n z) : AW V I R Qf n0 z0 pc lv (.int x :: st) h n z := by
  intro p l e s m args below meth c H locs ls X hS hP hL h1 h2 h3 h4
  exact lv_if_ne X.1 X.2.1 dg ht (fun q => kt q p l e s m args below meth c H locs ls X hS hP hL h1 h2 h3 h4) (fun q => kf q p l e s m args below meth c H locs ls X hS hP hL h1 h2 h3 h4)
theorem a_icmp_ne {x y : Int32} {off : Int} (tgt : Nat) (dg : decode I.2.1 pc = .ok (.if_icmp .ne off, 3)) (ht : (pc : Int) + off = (tgt : Int)) (kt : ¬ x = y → AW V I R Qf n0 z0 tgt lv st h n z) (kf : x = y → AW V I R Qf n0 z0 (pc + 3) lv st h n z) : AW V I R Qf n0 z0 pc lv (.int y :: .int x :: st) h n z := by
  intro p l e s m args below meth c H locs ls X hS hP hL h1 h2 h3 h4
  exact lv_icmp_ne X.1 X.2.1 dg ht (fun q => kt q p l e s m args below meth c H locs ls X hS hP hL h1 h2 h3 h4) (fun q => kf q p l e s m args below meth c H locs ls X hS hP hL h1 h2 h3 h4)
theorem a_if_lt {x : Int32} {off : Int} (tgt : Nat) (dg : decode I.2.1 pc = .ok (.ifCond .lt off, 3)) (ht : (pc : Int) + off = (tgt : Int)) (kt : x < 0 → AW V I R Qf n0 z0 tgt lv st h n z) (kf : ¬ x < 0 → AW V I R Qf n0 z0 (pc + 3) lv st h n z) : AW V I R Qf n0 z0 pc lv (.int x :: st) h n z := by
  intro p l e s m args below meth c H locs ls X hS hP hL h1 h2 h3 h4
  exact lv_if_lt X.1 X.2.1 dg ht (fun q => kt q p l e s m args below meth c H locs ls X hS hP hL h1 h2 h3 h4) (fun q => kf q p l e s m args below meth c H locs ls X hS hP hL h1 h2 h3 h4)
theorem a_icmp_lt {x y : Int32} {off : Int} (tgt : Nat) (dg : decode I.2.1 pc = .ok (.if_icmp .lt off, 3)) (ht : (pc : Int) + off = (tgt : Int)) (kt : x < y → AW V I R Qf n0 z0 tgt lv st h n z) (kf : ¬ x < y → AW V I R Qf n0 z0 (pc + 3) lv st h n z) : AW V I R Qf n0 z0 pc lv (.int y :: .int x :: st) h n z := by
  intro p l e s m args below meth c H locs ls X hS hP hL h1 h2 h3 h4
  exact lv_icmp_lt X.1 X.2.1 dg ht (fun q => kt q p l e s m args below meth c H locs ls X hS hP hL h1 h2 h3 h4) (fun q => kf q p l e s m args below meth c H locs ls X hS hP hL h1 h2 h3 h4)
theorem a_if_ge {x : Int32} {off : Int} (tgt : Nat) (dg : decode I.2.1 pc = .ok (.ifCond .ge off, 3)) (ht : (pc : Int) + off = (tgt : Int)) (kt : 0 ≤ x → AW V I R Qf n0 z0 tgt lv st h n z) (kf : ¬ 0 ≤ x → AW V I R Qf n0 z0 (pc + 3) lv st h n z) : AW V I R Qf n0 z0 pc lv (.int x :: st) h n z := by
  intro p l e s m args below meth c H locs ls X hS hP hL h1 h2 h3 h4
  exact lv_if_ge X.1 X.2.1 dg ht (fun q => kt q p l e s m args below meth c H locs ls X hS hP hL h1 h2 h3 h4) (fun q => kf q p l e s m args below meth c H locs ls X hS hP hL h1 h2 h3 h4)
theorem a_icmp_ge {x y : Int32} {off : Int} (tgt : Nat) (dg : decode I.2.1 pc = .ok (.if_icmp .ge off, 3)) (ht : (pc : Int) + off = (tgt : Int)) (kt : y ≤ x → AW V I R Qf n0 z0 tgt lv st h n z) (kf : ¬ y ≤ x → AW V I R Qf n0 z0 (pc + 3) lv st h n z) : AW V I R Qf n0 z0 pc lv (.int y :: .int x :: st) h n z := by
  intro p l e s m args below meth c H locs ls X hS hP hL h1 h2 h3 h4
  exact lv_icmp_ge X.1 X.2.1 dg ht (fun q => kt q p l e s m args below meth c H locs ls X hS hP hL h1 h2 h3 h4) (fun q => kf q p l e s m args below meth c H locs ls X hS hP hL h1 h2 h3 h4)
theorem a_if_gt {x : Int32} {off : Int} (tgt : Nat) (dg : decode I.2.1 pc = .ok (.ifCond .gt off, 3)) (ht : (pc : Int) + off = (tgt : Int)) (kt : 0 < x → AW V I R Qf n0 z0 tgt lv st h n z) (kf : ¬ 0 < x → AW V I R Qf n0 z0 (pc + 3) lv st h n z) : AW V I R Qf n0 z0 pc lv (.int x :: st) h n z := by
  intro p l e s m args below meth c H locs ls X hS hP hL h1 h2 h3 h4
  exact lv_if_gt X.1 X.2.1 dg ht (fun q => kt q p l e s m args below meth c H locs ls X hS hP hL h1 h2 h3 h4) (fun q => kf q p l e s m args below meth c H locs ls X hS hP hL h1 h2 h3 h4)
theorem a_icmp_gt {x y : Int32} {off : Int} (tgt : Nat) (dg : decode I.2.1 pc = .ok (.if_icmp .gt off, 3)) (ht : (pc : Int) + off = (tgt : Int)) (kt : y < x → AW V I R Qf n0 z0 tgt lv st h n z) (kf : ¬ y < x → AW V I R Qf n0 z0 (pc + 3) lv st h n z) : AW V I R Qf n0 z0 pc lv (.int y :: .int x :: st) h n z := by
  intro p l e s m args below meth c H locs ls X hS hP hL h1 h2 h3 h4
  exact lv_icmp_gt X.1 X.2.1 dg ht (fun q => kt q p l e s m args below meth c H locs ls X hS hP hL h1 h2 h3 h4) (fun q => kf q p l e s m args below meth c H locs ls X hS hP hL h1 h2 h3 h4)
theorem a_if_le {x : Int32} {off : Int} (tgt : Nat) (dg : decode I.2.1 pc = .ok (.ifCond .le off, 3)) (ht : (pc : Int) + off = (tgt : Int)) (kt : x ≤ 0 → AW V I R Qf n0 z0 tgt lv st h n z) (kf : ¬ x ≤ 0 → AW V I R Qf n0 z0 (pc + 3) lv st h n z) : AW V I R Qf n0 z0 pc lv (.int x :: st) h n z := by
  intro p l e s m args below meth c H locs ls X hS hP hL h1 h2 h3 h4
  exact lv_if_le X.1 X.2.1 dg ht (fun q => kt q p l e s m args below meth c H locs ls X hS hP hL h1 h2 h3 h4) (fun q => kf q p l e s m args below meth c H locs ls X hS hP hL h1 h2 h3 h4)
theorem a_icmp_le {x y : Int32} {off : Int} (tgt : Nat) (dg : decode I.2.1 pc = .ok (.if_icmp .le off, 3)) (ht : (pc : Int) + off = (tgt : Int)) (kt : x ≤ y → AW V I R Qf n0 z0 tgt lv st h n z) (kf : ¬ x ≤ y → AW V I R Qf n0 z0 (pc + 3) lv st h n z) : AW V I R Qf n0 z0 pc lv (.int y :: .int x :: st) h n z := by
  intro p l e s m args below meth c H locs ls X hS hP hL h1 h2 h3 h4
  exact lv_icmp_le X.1 X.2.1 dg ht (fun q => kt q p l e s m args below meth c H locs ls X hS hP hL h1 h2 h3 h4) (fun q => kf q p l e s m args below meth c H locs ls X hS hP hL h1 h2 h3 h4)
theorem a_goto {off : Int} (tgt : Nat) (dg : decode I.2.1 pc = .ok (.goto off, 3)) (ht : (pc : Int) + off = (tgt : Int)) (k : AW V I R Qf n0 z0 tgt lv st h n z) : AW V I R Qf n0 z0 pc lv st h n z := by
  intro p l e s m args below meth c H locs ls X hS hP hL h1 h2 h3 h4
  exact lv_goto X.1 X.2.1 dg ht (k p l e s m args below meth c H locs ls X hS hP hL h1 h2 h3 h4)
theorem a_ifnull {x : Nat} {off : Int} (dg : decode I.2.1 pc = .ok (.ifnull off, 3)) (k : AW V I R Qf n0 z0 (pc + 3) lv st h n z) : AW V I R Qf n0 z0 pc lv (.ref x :: st) h n z := by
  intro p l e s m args below meth c H locs ls X hS hP hL h1 h2 h3 h4
  exact lv_ifnull X.1 X.2.1 dg (k p l e s m args below meth c H locs ls X hS hP hL h1 h2 h3 h4)
theorem a_ifnullN {off : Int} (tgt : Nat) (dg : decode I.2.1 pc = .ok (.ifnull off, 3)) (ht : (pc : Int) + off = (tgt : Int)) (k : AW V I R Qf n0 z0 tgt lv st h n z) : AW V I R Qf n0 z0 pc lv (.null :: st) h n z := by
  intro p l e s m args below meth c H locs ls X hS hP hL h1 h2 h3 h4
  exact lv_ifnullN X.1 X.2.1 dg ht (k p l e s m args below meth c H locs ls X hS hP hL h1 h2 h3 h4)
theorem a_ifnonnull {x : Nat} {off : Int} (tgt : Nat) (dg : decode I.2.1 pc = .ok (.ifnonnull off, 3)) (ht : (pc : Int) + off = (tgt : Int)) (k : AW V I R Qf n0 z0 tgt lv st h n z) : AW V I R Qf n0 z0 pc lv (.ref x :: st) h n z := by
  intro p l e s m args below meth c H locs ls X hS hP hL h1 h2 h3 h4
  exact lv_ifnonnull X.1 X.2.1 dg ht (k p l e s m args below meth c H locs ls X hS hP hL h1 h2 h3 h4)
theorem a_ifnonnullN {off : Int} (dg : decode I.2.1 pc = .ok (.ifnonnull off, 3)) (k : AW V I R Qf n0 z0 (pc + 3) lv st h n z) : AW V I R Qf n0 z0 pc lv (.null :: st) h n z := by
  intro p l e s m args below meth c H locs ls X hS hP hL h1 h2 h3 h4
  exact lv_ifnonnullN X.1 X.2.1 dg (k p l e s m args below meth c H locs ls X hS hP hL h1 h2 h3 h4)
theorem a_tabOut {dflt lo hi : Int} {offs : Array Int} {len : Nat} {x : Int32} (tgt : Nat) (dg : decode I.2.1 pc = .ok (.tableswitch dflt lo hi offs, len)) (hx : x.toInt < lo ∨ hi < x.toInt) (ht : (pc : Int) + dflt = (tgt : Int)) (k : AW V I R Qf n0 z0 tgt lv st h n z) : AW V I R Qf n0 z0 pc lv (.int x :: st) h n z := by
  intro p l e s m args below meth c H locs ls X hS hP hL h1 h2 h3 h4
  exact lv_tableOut X.1 X.2.1 dg hx ht (k p l e s m args below meth c H locs ls X hS hP hL h1 h2 h3 h4)
theorem a_tabIn {dflt lo hi off : Int} {offs : Array Int} {len : Nat} {x : Int32} (tgt : Nat) (dg : decode I.2.1 pc = .ok (.tableswitch dflt lo hi offs, len)) (hx1 : ¬ x.toInt < lo) (hx2 : ¬ hi < x.toInt) (ho : offs[(x.toInt - lo).toNat]? = some off) (ht : (pc : Int) + off = (tgt : Int)) (k : AW V I R Qf n0 z0 tgt lv st h n z) : AW V I R Qf n0 z0 pc lv (.int x :: st) h n z := by
  intro p l e s m args below meth c H locs ls X hS hP hL h1 h2 h3 h4
  exact lv_tableIn X.1 X.2.1 dg hx1 hx2 ho ht (k p l e s m args below meth c H locs ls X hS hP hL h1 h2 h3 h4)
theorem a_ldc {i : Nat} {v : Int32} (dg : decode I.2.1 pc = .ok (.ldc i, 2)) (hw : Cond.constant I.1.cls i v ∈ WT) (k : AW V I R Qf n0 z0 (pc + 2) lv (.int v :: st) h n z) : AW V I R Qf n0 z0 pc lv st h n z := by
  intro p l e s m args below meth c H locs ls X hS hP hL h1 h2 h3 h4
  exact lv_ldc X.1 X.2.1 X.2.2.2.1 (X.2.2.2.2.1 _ hw) dg (k p l e s m args below meth c H locs ls X hS hP hL h1 h2 h3 h4)
theorem a_ldc2 {i : Nat} {v : Int64} (dg : decode I.2.1 pc = .ok (.ldc2_w i, 3)) (hw : Cond.constantLong I.1.cls i v ∈ WT) (k : AW V I R Qf n0 z0 (pc + 3) lv (.long v :: st) h n z) : AW V I R Qf n0 z0 pc lv st h n z := by
  intro p l e s m args below meth c H locs ls X hS hP hL h1 h2 h3 h4
  exact lv_ldc2 X.1 X.2.1 X.2.2.2.1 (X.2.2.2.2.1 _ hw) dg (k p l e s m args below meth c H locs ls X hS hP hL h1 h2 h3 h4)
end AWRows
end
section
/-! ROWS of fields, arrays, objects, returns, calls -/
def CI (j : Nat) (C : String) (T : u_T) (N : Nat) (ty : Nat → FieldType) : Prop := vwCl[j]? = some (C, T, N) ∧ (∀ w ∈ u_ws C T N, w ∈ WT) ∧ (∀ k, k < N → parseFieldDescriptor (T k).2.2.1 = some (ty k)) ∧ ∀ a, a < N → ∀ b, b < N → a ≠ b → (T a).2.1 ≠ (T b).2.1
def FL (own : String) (idx j : Nat) (C : String) (T : u_T) (N : Nat) (ty : Nat → FieldType) (k : Nat) : Prop := CI j C T N ty ∧ k < N ∧ Cond.fieldLink own idx (T k).1 (T k).2.1 (T k).2.2.1 ∈ WT
section AWMem
variable {V : VV} {I : MI} {R : Room} {Qf : QF} {n0 z0 pc : Nat} {lv : List (Option Value)} {st : List Value} {h : AH} {n z : Nat}
theorem a_getf {idx j k a : Nat} {C : String} {T : u_T} {N : Nat} {ty : Nat → FieldType} {fs : List Value} {v : Value} (dg : decode I.2.1 pc = .ok (.getfield idx, 3)) (fl : FL I.1.cls idx j C T N ty k) (hg : h a = .inr (j, fs)) (hv : fs[k]? = some v) (kk : AW V I R Qf n0 z0 (pc + 3) lv (v :: st) h n z) : AW V I R Qf n0 z0 pc lv (.ref a :: st) h n z := by
  intro p l e s m args below meth c H locs ls X hS hP hL h1 h2 h3 h4
  obtain ⟨⟨c1, c2, c3, c4⟩, hk, hw⟩ := fl
  have ha := hP.at (nj_o hg)
  have he := wsA_get V h ha.1 ha.2
  rw [hg] at he
  exact va_get X.1 X.2.1 X.2.2.2.2.1 c2 X.2.2.2.1 X.2.2.2.2.2.2.2.2.1 hP.2.2.2 (a - 8) he c1 k hk (X.2.2.2.2.1 _ hw) (fun _ q => q) (show (fs.map (coV V))[k]? = some (coV V v) by simp [hv]) dg (kk p l e s m args below meth c H locs ls X hS hP hL h1 h2 h3 h4)
theorem a_putf {idx j k a : Nat} {C : String} {T : u_T} {N : Nat} {ty : Nat → FieldType} {fs : List Value} {v : Value} (dg : decode I.2.1 pc = .ok (.putfield idx, 3)) (fl : FL I.1.cls idx j C T N ty k) (hfin : (T k).2.2.2 = false) (hg : h a = .inr (j, fs)) (hl : k < fs.length) (hn : narrow (ty k) (coV V v) = coV V v) (hf : fits (ty k) (coV V v) = true) (kk : AW V I R Qf n0 z0 (pc + 3) lv st (hu h a (.inr (j, fs.set k v))) n z) : AW V I R Qf n0 z0 pc lv (v :: .ref a :: st) h n z := by
  intro p l e s m args below meth c H locs ls X hS hP hL h1 h2 h3 h4
  obtain ⟨⟨c1, c2, c3, c4⟩, hk, hw⟩ := fl
  have ha := hP.at (nj_o hg)
  have he := wsA_get V h ha.1 ha.2
  rw [hg] at he
  obtain ⟨r, q0, cell, q1, q2, q3, q4⟩ := hP.2.2.2 (a - 8) _ he
  have hr : r = (C, T, N) := Option.some.inj (q0.symm.trans c1)
  subst hr
  have hts := X.2.2.2.2.1
  have hK := X.2.2.2.2.2.2.2.2.1
  obtain ⟨hSl, hfc, kC, hkC, hkind⟩ := hK.1 j _ c1
  obtain ⟨cf, kf, fi, f, hi, hsl⟩ := hSl k hk
  have hap := va_apart (own := I.1.cls) hts c2 ty c3 c4 hK c1
  have hlay := hts _ (c2 _ (u_in_lay hk))
  unfold u_lay at hlay
  rw [if_neg (by rw [hfin]; decide)] at hlay
  have hst := (u_facts hfc hkC (u_lays hts c2 hk) hi).1
  have h6 := u_store hfc hkC hkind hlay hi (c3 k hk) hn hf
  refine W.putK X.1 X.2.1 (f := f) ⟨X.2.2.2.1, hts _ hw, ⟨_, _, _, hi⟩, hst⟩ (by rw [q2]; exact h6) q1 q3 (by rw [hsl]; exact k2_hasslot (q4 k hk)) rfl rfl dg fun H' e1 e2 e3 => ?_
  rw [hsl] at e1 ⊢
  have hP' := hP.2.2.2.set (wsA_D V h n) he (e := .inr (j, (fs.map (coV V)).set k (coV V v))) ⟨_, c1, t_OB.to (V := updV (vp_V (fs.map (coV V))) k (coV V v)) ⟨_, e1, q2, q3, t_set q4 hap hk _⟩ (fun i _ => vp_updV_set (by simpa using hl) _ i)⟩ e3
  have hA : Ab V (ad V a) := by rw [ad_ge V ha.1]; exact Nat.le_add_right _ _
  have hP2 : Pos V (hu h a (.inr (j, fs.set k v))) n H' := hP.put ha.1 ha.2 e2 (by
    show va_P V.1 vwCl ((wsA V h n).set (a - 8) (ad V a, .inr (j, (fs.set k v).map (coV V)))) H'
    rw [List.map_set]; exact hP')
  exact kk p l e s m args below meth c H' _ ls X (hS.put e2 e3 hA) hP2 hL h1 h2 h3 h4
theorem a_putF {idx j k a : Nat} {C : String} {T : u_T} {N : Nat} {ty : Nat → FieldType} {fs : List Value} {v : Value} (dg : decode I.2.1 pc = .ok (.putfield idx, 3)) (fl : FL I.1.cls idx j C T N ty k) (hfin : (T k).2.2.2 = true) (hin : I.1.name = "<init>") (hdc : (T k).1 = I.1.cls) (hg : h a = .inr (j, fs)) (hl : k < fs.length) (hn : narrow (ty k) (coV V v) = coV V v) (hf : fits (ty k) (coV V v) = true) (kk : AW V I R Qf n0 z0 (pc + 3) lv st (hu h a (.inr (j, fs.set k v))) n z) : AW V I R Qf n0 z0 pc lv (v :: .ref a :: st) h n z := by
  intro p l e s m args below meth c H locs ls X hS hP hL h1 h2 h3 h4
  obtain ⟨⟨c1, c2, c3, c4⟩, hk, hw⟩ := fl
  have ha := hP.at (nj_o hg)
  have he := wsA_get V h ha.1 ha.2
  rw [hg] at he
  obtain ⟨r, q0, cell, q1, q2, q3, q4⟩ := hP.2.2.2 (a - 8) _ he
  have hr : r = (C, T, N) := Option.some.inj (q0.symm.trans c1)
  subst hr
  have hts := X.2.2.2.2.1
  have hK := X.2.2.2.2.2.2.2.2.1
  obtain ⟨hSl, hfc, kC, hkC, hkind⟩ := hK.1 j _ c1
  obtain ⟨cf, kf, fi, f, hi, hsl⟩ := hSl k hk
  have hap := va_apart (own := I.1.cls) hts c2 ty c3 c4 hK c1
  have hlay := hts _ (c2 _ (u_in_lay hk))
  unfold u_lay at hlay
  rw [if_pos hfin] at hlay
  have hst := (u_facts hfc hkC (u_lays hts c2 hk) hi).1
  have hcf : m.cls = cf := by
    obtain ⟨_, _, c', _, _, _, -, -, hf', -, -, -, hown2, -⟩ := Cond.laysFinal_spec hlay
    have e1 : c' = cf := by have := hi.symm.trans hf'; simp at this; exact this.1.symm
    rw [hdc] at hown2
    rw [← e1]; exact Option.some.inj (X.2.2.2.1.symm.trans hown2)
  have h6 := u_fits hfc hkC hkind (Or.inr hlay) hi (c3 k hk) hn hf
  refine W.putFinK X.1 X.2.1 X.2.2.2.1 (hts _ hw) hi hst hcf (X.2.2.2.2.2.2.2.1.trans hin) (by rw [q2]; exact h6) q1 q3 (by rw [hsl]; exact k2_hasslot (q4 k hk)) rfl rfl dg fun H' e1 e2 e3 => ?_
  rw [hsl] at e1 ⊢
  have hP' := hP.2.2.2.set (wsA_D V h n) he (e := .inr (j, (fs.map (coV V)).set k (coV V v))) ⟨_, c1, t_OB.to (V := updV (vp_V (fs.map (coV V))) k (coV V v)) ⟨_, e1, q2, q3, t_set q4 hap hk _⟩ (fun i _ => vp_updV_set (by simpa using hl) _ i)⟩ e3
  have hA : Ab V (ad V a) := by rw [ad_ge V ha.1]; exact Nat.le_add_right _ _
  have hP2 : Pos V (hu h a (.inr (j, fs.set k v))) n H' := hP.put ha.1 ha.2 e2 (by
    show va_P V.1 vwCl ((wsA V h n).set (a - 8) (ad V a, .inr (j, (fs.set k v).map (coV V)))) H'
    rw [List.map_set]; exact hP')
  exact kk p l e s m args below meth c H' _ ls X (hS.put e2 e3 hA) hP2 hL h1 h2 h3 h4
theorem a_gets {idx k : Nat} (hk : k < 7) (dg : decode I.2.1 pc = .ok (.getstatic idx, 3)) (hw : Cond.fieldLink I.1.cls idx (sC k) (sN k) "[I" ∈ WT) (kk : AW V I R Qf n0 z0 (pc + 3) lv (.ref k :: st) h n z) : AW V I R Qf n0 z0 pc lv st h n z := by
  intro p l e s m args below meth c H locs ls X hS hP hL h1 h2 h3 h4
  have K := kk p l e s m args below meth c H locs ls X hS hP hL h1 h2 h3 h4
  have e1 : coV V (.ref k) = .ref (V.2.2.2.1 k) := by simp [coV, ad, show k < 8 by omega]
  rw [List.map_cons, e1] at K
  exact va_gets X.1 X.2.1 (X.2.2.2.2.2.2.2.2.2.1.1 k hk) hS X.2.2.2.1 (X.2.2.2.2.1 _ hw) (fun _ q => q) dg K
theorem a_tald {k : Nat} {i : Int32} (hk : k < 8) (dg : decode I.2.1 pc = .ok (.iaload, 1)) (hin : vp_in i (tL V k)) (kk : AW V I R Qf n0 z0 (pc + 1) lv (.int (tF V k i.toNatClampNeg) :: st) h n z) : AW V I R Qf n0 z0 pc lv (.int i :: .ref k :: st) h n z := by
  intro p l e s m args below meth c H locs ls X hS hP hL h1 h2 h3 h4
  have e1 : coV V (.ref k) = .ref (V.2.2.2.1 k) := by simp [coV, ad, hk]
  rw [List.map_cons, List.map_cons, e1]
  exact va_ti X.1 X.2.1 (X.2.2.2.2.2.2.2.2.2.1.2 k hk) hS hin rfl dg (kk p l e s m args below meth c H locs ls X hS hP hL h1 h2 h3 h4)
theorem a_tlen {k : Nat} {v : Int32} (hk : k < 8) (dg : decode I.2.1 pc = .ok (.arraylength, 1)) (hv : Int32.ofNat (tL V k) = v) (kk : AW V I R Qf n0 z0 (pc + 1) lv (.int v :: st) h n z) : AW V I R Qf n0 z0 pc lv (.ref k :: st) h n z := by
  intro p l e s m args below meth c H locs ls X hS hP hL h1 h2 h3 h4
  have e1 : coV V (.ref k) = .ref (V.2.2.2.1 k) := by simp [coV, ad, hk]
  rw [List.map_cons, e1]
  exact va_tlen X.1 X.2.1 (X.2.2.2.2.2.2.2.2.2.1.2 k hk) hS hv dg (kk p l e s m args below meth c H locs ls X hS hP hL h1 h2 h3 h4)
theorem a_iald {a N : Nat} {f : Nat → Int32} {i : Int32} (dg : decode I.2.1 pc = .ok (.iaload, 1)) (hg : h a = .inl (N, .inl f)) (hin : vp_in i N) (kk : AW V I R Qf n0 z0 (pc + 1) lv (.int (f i.toNatClampNeg) :: st) h n z) : AW V I R Qf n0 z0 pc lv (.int i :: .ref a :: st) h n z := by
  intro p l e s m args below meth c H locs ls X hS hP hL h1 h2 h3 h4
  have ha := hP.at (nj_i hg)
  have he := wsA_get V h ha.1 ha.2
  rw [hg] at he
  exact va_iald X.1 X.2.1 X.2.2.2.2.2.2.2.2.1 hP.2.2.2 (a - 8) 0 he rfl hin dg (kk p l e s m args below meth c H locs ls X hS hP hL h1 h2 h3 h4)
theorem a_lald {a N : Nat} {f : Nat → Int64} {i : Int32} (dg : decode I.2.1 pc = .ok (.laload, 1)) (hg : h a = .inl (N, .inr (.inl f))) (hin : vp_in i N) (kk : AW V I R Qf n0 z0 (pc + 1) lv (.long (f i.toNatClampNeg) :: st) h n z) : AW V I R Qf n0 z0 pc lv (.int i :: .ref a :: st) h n z := by
  intro p l e s m args below meth c H locs ls X hS hP hL h1 h2 h3 h4
  have ha := hP.at (nj_l hg)
  have he := wsA_get V h ha.1 ha.2
  rw [hg] at he
  exact va_lald X.1 X.2.1 X.2.2.2.2.2.2.2.2.1 hP.2.2.2 (a - 8) 1 he rfl hin dg (kk p l e s m args below meth c H locs ls X hS hP hL h1 h2 h3 h4)
theorem a_aald {a N : Nat} {f : Nat → Option Nat} {i : Int32} (dg : decode I.2.1 pc = .ok (.aaload, 1)) (hg : h a = .inl (N, .inr (.inr (.inr (.inr f))))) (hin : vp_in i N) (kk : AW V I R Qf n0 z0 (pc + 1) lv (va_rf (f i.toNatClampNeg) :: st) h n z) : AW V I R Qf n0 z0 pc lv (.int i :: .ref a :: st) h n z := by
  intro p l e s m args below meth c H locs ls X hS hP hL h1 h2 h3 h4
  have ha := hP.at (nj_q hg)
  have he := wsA_get V h ha.1 ha.2
  rw [hg] at he
  have K := kk p l e s m args below meth c H locs ls X hS hP hL h1 h2 h3 h4
  have e1 : coV V (va_rf (f i.toNatClampNeg)) = va_rf ((f i.toNatClampNeg).map (ad V)) := by cases f i.toNatClampNeg <;> rfl
  rw [List.map_cons, e1] at K
  exact va_aldq X.1 X.2.1 X.2.2.2.2.2.2.2.2.1 hP.2.2.2 (a - 8) 2 he rfl hin dg K
theorem a_iast {a N : Nat} {f : Nat → Int32} {i x : Int32} (dg : decode I.2.1 pc = .ok (.iastore, 1)) (hg : h a = .inl (N, .inl f)) (hin : vp_in i N) (kk : AW V I R Qf n0 z0 (pc + 1) lv st (hu h a (.inl (N, .inl (upd f i.toNatClampNeg x)))) n z) : AW V I R Qf n0 z0 pc lv (.int x :: .int i :: .ref a :: st) h n z := by
  intro p l e s m args below meth c H locs ls X hS hP hL h1 h2 h3 h4
  have ha := hP.at (nj_i hg)
  have he := wsA_get V h ha.1 ha.2
  rw [hg] at he
  have hA : Ab V (ad V a) := by rw [ad_ge V ha.1]; exact Nat.le_add_right _ _
  refine W.iast X.1 X.2.1 (hP.2.2.2 (a - 8) _ he) ((X.2.2.2.2.2.2.2.2.1.2 0 _ rfl).1 N (fun j => .int (f j))) (fun q => by cases q) (by show ¬ (i < 0 ∨ (arrV _ _ _).slots.size ≤ _); rw [arrV_size]; exact hin) rfl rfl dg fun H1 e1 e2 e3 => ?_
  have hc : H1[ad V a]? = some (vp_cell V.2.1.1 (N, .inl (upd f i.toNatClampNeg x))) := by
    rw [e1, vp_cell_i, vp_cell_i, arrV_store]
    congr 2
    funext q
    by_cases hq : q = i.toNatClampNeg
    · subst hq; simp [updV, upd]
    · simp [updV, upd, hq]
  exact kk p l e s m args below meth c H1 _ ls X (hS.put e2 e3 hA) (hP.put ha.1 ha.2 e2 (hP.2.2.2.set (wsA_D V h n) he hc e3)) hL h1 h2 h3 h4
theorem a_last {a N : Nat} {f : Nat → Int64} {i : Int32} {x : Int64} (dg : decode I.2.1 pc = .ok (.lastore, 1)) (hg : h a = .inl (N, .inr (.inl f))) (hin : vp_in i N) (kk : AW V I R Qf n0 z0 (pc + 1) lv st (hu h a (.inl (N, .inr (.inl (vp_updL f i.toNatClampNeg x))))) n z) : AW V I R Qf n0 z0 pc lv (.long x :: .int i :: .ref a :: st) h n z := by
  intro p l e s m args below meth c H locs ls X hS hP hL h1 h2 h3 h4
  have ha := hP.at (nj_l hg)
  have he := wsA_get V h ha.1 ha.2
  rw [hg] at he
  have hA : Ab V (ad V a) := by rw [ad_ge V ha.1]; exact Nat.le_add_right _ _
  refine W.last X.1 X.2.1 (hP.2.2.2 (a - 8) _ he) ((X.2.2.2.2.2.2.2.2.1.2 1 _ rfl).1 N (fun j => .long (f j))) (fun q => by cases q) (by show ¬ (i < 0 ∨ (arrV _ _ _).slots.size ≤ _); rw [arrV_size]; exact hin) rfl rfl dg fun H1 e1 e2 e3 => ?_
  have hc : H1[ad V a]? = some (vp_cell V.2.1.2.1 (N, .inr (.inl (vp_updL f i.toNatClampNeg x)))) := by
    rw [e1, vp_cell_l, vp_cell_l, arrV_store]
    congr 2
    funext q
    by_cases hq : q = i.toNatClampNeg
    · subst hq; simp [updV, vp_updL]
    · simp [updV, vp_updL, hq]
  exact kk p l e s m args below meth c H1 _ ls X (hS.put e2 e3 hA) (hP.put ha.1 ha.2 e2 (hP.2.2.2.set (wsA_D V h n) he hc e3)) hL h1 h2 h3 h4
theorem a_aast {a b N : Nat} {f : Nat → Option Nat} {i : Int32} {fs : List Value} (dg : decode I.2.1 pc = .ok (.aastore, 1)) (hg : h a = .inl (N, .inr (.inr (.inr (.inr f))))) (hb : h b = .inr (2, fs)) (hin : vp_in i N) (kk : AW V I R Qf n0 z0 (pc + 1) lv st (hu h a (.inl (N, .inr (.inr (.inr (.inr (va_up f i.toNatClampNeg (some b)))))))) n z) : AW V I R Qf n0 z0 pc lv (.ref b :: .int i :: .ref a :: st) h n z := by
  intro p l e s m args below meth c H locs ls X hS hP hL h1 h2 h3 h4
  have ha := hP.at (nj_q hg)
  have he := wsA_get V h ha.1 ha.2
  rw [hg] at he
  have hbb := hP.at (nj_o hb)
  have hbe := wsA_get V h hbb.1 hbb.2
  rw [hb] at hbe
  have hlt : i.toNatClampNeg < N := Nat.not_le.mp fun q => hin (Or.inr q)
  have h0 : ¬ i < 0 := fun q => hin (Or.inl q)
  have hK := X.2.2.2.2.2.2.2.2.1
  have hA : Ab V (ad V a) := by rw [ad_ge V ha.1]; exact Nat.le_add_right _ _
  obtain ⟨r', hr', cellV, g1, g2, g3, -⟩ := hP.2.2.2 (b - 8) _ hbe
  have hcls := (hK.1 2 _ rfl).2
  obtain ⟨kA, comp, k1, k2, k3, -⟩ := (hK.2 2 _ rfl).2
  have hcomp : comp = V.1.1 2 := Option.some.inj (k3.symm.trans hcls.1)
  subst hcomp
  obtain ⟨kC, hkC, -⟩ := hcls.2
  refine W.aast X.1 X.2.1 (hP.2.2.2 (a - 8) _ he) (fun q h => by cases h) (fun h => by cases h) k1 k2 rfl hkC ⟨h0, by show _ < (arrV _ _ _).slots.size; rw [arrV_size]; exact hlt⟩ g1 (fun q h => by rw [g3] at h; cases h) (by rw [g2]; exact hkC) (by rw [g2]; exact va_assign hcls) rfl rfl dg fun H1 e1 e2 e3 => ?_
  have hc : H1[ad V a]? = some (vp_cell V.2.1.2.2 (N, .inr (.inr (.inr (.inr (fun j => ((va_up f i.toNatClampNeg (some b)) j).map (ad V))))))) := by
    rw [e1, vp_cell_q, vp_cell_q, arrV_store]
    congr 2
    funext q
    by_cases hq : q = i.toNatClampNeg
    · subst hq; simp [updV, va_up, va_rf]
    · simp [updV, va_up, hq]
  exact kk p l e s m args below meth c H1 _ ls X (hS.put e2 e3 hA) (hP.put ha.1 ha.2 e2 (hP.2.2.2.set (wsA_D V h n) he hc e3)) hL h1 h2 h3 h4
/-! what is made -/
theorem Pos.push {V : VV} {h : AH} {n : Nat} {H H1 : Heap} {c : AC} (P : Pos V h n H) (hs : H1.size = H.size + 1) (ho : ∀ q, q < H.size → H1[q]? = H[q]?) (hc : va_at V.1 vwCl (H.size, coE V c) H1) : Pos V (hu h n c) (n + 1) H1 := by
  have e0 : H.size = vb V + (n - 8) := by have := P.2.1; have := P.1; omega
  refine ⟨by have := P.1; omega, by rw [hs]; have := P.2.1; omega, fun i hi => ?_, ?_⟩
  · rw [hu_n (by have := P.1; omega)]
    exact P.2.2.1 i (by omega)
  · rw [← wsA_push V h c P.1]
    refine (P.2.2.2.kept (fun k x hx => ho x.1 ((P.2.2.2 k x hx).lt))).app (fun k x hx => ?_)
    have hz : k < 1 := (List.getElem?_eq_some_iff.mp hx).1
    rw [show k = 0 by omega] at hx
    cases hx
    rw [← e0]
    exact hc
theorem va_S.grow {A : Nat → Prop} {H0 H H1 : Heap} {locs : List Loc} (hS : va_S A H0 H locs) (hs : H1.size = H.size + 1) (ho : ∀ q, q < H.size → H1[q]? = H[q]?) : va_S A H0 H1 locs :=
  ⟨by rw [hs]; exact Nat.le_succ_of_le hS.1, fun q h1 h2 => (ho q (Nat.lt_of_lt_of_le h1 hS.1)).trans (hS.2.1 q h1 h2), hS.2.2⟩
theorem ref_new {V : VV} {h : AH} {n : Nat} {H : Heap} (P : Pos V h n H) : coV V (.ref n) = .ref H.size := by
  have q1 := P.1
  have q2 := P.2.1
  have q3 : vb V + (n - 8) = H.size := by omega
  simp only [coV, ad_ge V P.1, q3]
theorem a_newI {x : Int32} {N : Nat} (dg : decode I.2.1 pc = .ok (.newarray .int, 2)) (hx : ¬ x < 0) (hN : x.toNatClampNeg = N) (hb : N * 4 ≤ 536870912) (hn1 : n + 1 ≤ n0 + R.cells) (hz1 : z + N ≤ z0 + R.slots) (hw : Cond.arrayClass .int ∈ WT) (kk : AW V I R Qf n0 z0 (pc + 2) lv (.ref n :: st) (hu h n (.inl (N, .inl (fun _ => 0)))) (n + 1) (z + N)) : AW V I R Qf n0 z0 pc lv (.int x :: st) h n z := by
  intro p l e s m args below meth c H locs ls X hS hP hL h1 h2 h3 h4
  refine va_newaK (atype := .int) X.1 X.2.1 (X.2.2.2.2.1 _ hw) rfl dg rfl hx hN hb (by omega) (by omega) rfl fun H1 cA e1 z1 o1 hAr hNm => ?_
  have hcA : cA = V.2.1.1 := Option.some.inj (hNm.symm.trans (X.2.2.2.2.2.2.2.2.1.2 0 _ rfl).2)
  subst hcA
  have K := kk p l e s m args below meth c H1 locs ls X (hS.grow z1 o1) (hP.push z1 o1 (by show H1[H.size]? = _; rw [e1]; rfl)) hL (by omega) hn1 (by omega) hz1
  rw [List.map_cons, ref_new hP, show n + 1 - n0 = n - n0 + 1 by omega, show z + N - z0 = z - z0 + N by omega] at K
  exact K
theorem a_newL {x : Int32} {N : Nat} (dg : decode I.2.1 pc = .ok (.newarray .long, 2)) (hx : ¬ x < 0) (hN : x.toNatClampNeg = N) (hb : N * 8 ≤ 536870912) (hn1 : n + 1 ≤ n0 + R.cells) (hz1 : z + N ≤ z0 + R.slots) (hw : Cond.arrayClass .long ∈ WT) (kk : AW V I R Qf n0 z0 (pc + 2) lv (.ref n :: st) (hu h n (.inl (N, .inr (.inl (fun _ => 0))))) (n + 1) (z + N)) : AW V I R Qf n0 z0 pc lv (.int x :: st) h n z := by
  intro p l e s m args below meth c H locs ls X hS hP hL h1 h2 h3 h4
  refine va_newaK (atype := .long) X.1 X.2.1 (X.2.2.2.2.1 _ hw) rfl dg rfl hx hN hb (by omega) (by omega) rfl fun H1 cA e1 z1 o1 hAr hNm => ?_
  have hcA : cA = V.2.1.2.1 := Option.some.inj (hNm.symm.trans (X.2.2.2.2.2.2.2.2.1.2 1 _ rfl).2)
  subst hcA
  have K := kk p l e s m args below meth c H1 locs ls X (hS.grow z1 o1) (hP.push z1 o1 (by show H1[H.size]? = _; rw [e1]; rfl)) hL (by omega) hn1 (by omega) hz1
  rw [List.map_cons, ref_new hP, show n + 1 - n0 = n - n0 + 1 by omega, show z + N - z0 = z - z0 + N by omega] at K
  exact K
theorem a_newQ {x : Int32} {N idx : Nat} (dg : decode I.2.1 pc = .ok (.anewarray idx, 3)) (hx : ¬ x < 0) (hN : x.toNatClampNeg = N) (hb : N * 4 ≤ 536870912) (hn1 : n + 1 ≤ n0 + R.cells) (hz1 : z + N ≤ z0 + R.slots) (hw : Cond.classLink I.1.cls idx "DotOutlines$Border" ∈ WT) (hw2 : Cond.arrayOver (.object "DotOutlines$Border") ∈ WT) (kk : AW V I R Qf n0 z0 (pc + 3) lv (.ref n :: st) (hu h n (.inl (N, .inr (.inr (.inr (.inr (fun _ => none))))))) (n + 1) (z + N)) : AW V I R Qf n0 z0 pc lv (.int x :: st) h n z := by
  intro p l e s m args below meth c H locs ls X hS hP hL h1 h2 h3 h4
  subst hN
  refine W.anew X.1 X.2.1 X.2.2.2.1 (X.2.2.2.2.1 _ hw) (X.2.2.2.2.1 _ hw2) rfl dg rfl hx hb (by omega) (by omega) fun cA kA comp f1 f2 f3 f4 => ?_
  generalize hH1 : H.push ({ cls := cA, slots := Array.replicate x.toNatClampNeg .null, vm := .none } : Cell) = H1
  have z1 : H1.size = H.size + 1 := by rw [← hH1, Array.size_push]
  have e1 : H1[H.size]? = some (arrV cA x.toNatClampNeg (fun _ => .null)) := by rw [← hH1, Array.getElem?_push_size, ← arrV_new]
  have o1 : ∀ q : Nat, q < H.size → H1[q]? = H[q]? := fun q hq => by rw [← hH1, Array.getElem?_push, if_neg (Nat.ne_of_lt hq)]
  obtain ⟨kA', comp', -, -, -, hq4⟩ := (X.2.2.2.2.2.2.2.2.1.2 2 _ rfl).2
  have hcA : cA = V.2.1.2.2 := Option.some.inj (f1.symm.trans hq4)
  subst hcA
  have K := kk p l e s m args below meth c H1 locs ls X (hS.grow z1 o1) (hP.push z1 o1 (by show H1[H.size]? = _; rw [e1]; rfl)) hL (by omega) hn1 (by omega) hz1
  rw [List.map_cons, ref_new hP, show n + 1 - n0 = n - n0 + 1 by omega, show z + x.toNatClampNeg - z0 = z - z0 + x.toNatClampNeg by omega] at K
  exact K
theorem a_new {idx j : Nat} {C : String} {T : u_T} {N : Nat} {ty : Nat → FieldType} {fs : List Value} (dg : decode I.2.1 pc = .ok (.new idx, 3)) (ci : CI j C T N ty) (hw : Cond.classLink I.1.cls idx C ∈ WT) (hw2 : Cond.instantiable C N ∈ WT) (hw3 : Cond.initialized C ∈ WT) (hfs : ∀ i, i < N → defaultValue (ty i) = vp_V (fs.map (coV V)) i) (hn1 : n + 1 ≤ n0 + R.cells) (hz1 : z + N ≤ z0 + R.slots) (kk : AW V I R Qf n0 z0 (pc + 3) lv (.ref n :: st) (hu h n (.inr (j, fs))) (n + 1) (z + N)) : AW V I R Qf n0 z0 pc lv st h n z := by
  intro p l e s m args below meth c H locs ls X hS hP hL h1 h2 h3 h4
  have hts := X.2.2.2.2.1
  have hKn := X.2.2.2.2.2.2.2.2.1.1 j _ ci.1
  refine W.newcK X.1 X.2.1 X.2.2.2.1 (hts _ hw) (hts _ hw2) (hts _ hw3) rfl dg (by omega) (by omega) hKn.2.1 rfl fun H1 kC hkC e1 z1 o1 => ?_
  have K := kk p l e s m args below meth c H1 locs ls X (hS.grow z1 o1) (hP.push z1 o1 ⟨_, ci.1, (u_born ty hts ci.2.1 hKn hkC e1 ci.2.2.1).to hfs⟩) hL (by omega) hn1 (by omega) hz1
  rw [List.map_cons, ref_new hP, show n + 1 - n0 = n - n0 + 1 by omega, show z + N - z0 = z - z0 + N by omega] at K
  exact K
theorem a_obj {idx a : Nat} (dg : decode I.2.1 pc = .ok (.invokespecial idx, 3)) (hw : Cond.methodLink I.1.cls idx Lib.objectInit ∈ WT) (hw2 : Cond.instanceMethod Lib.objectInit ∈ WT) (hw3 : Cond.code Lib.objectInit ⟨#[0xb1]⟩ 1 none ∈ WT) (hf : 1 ≤ R.frames) (hl : 12 ≤ R.locals) (kk : AW V I R Qf n0 z0 (pc + 3) lv [] h n z) : AW V I R Qf n0 z0 pc lv [.ref a] h n z := by
  intro p l e s m args below meth c H locs ls X hS hP hL h1 h2 h3 h4
  have hts := X.2.2.2.2.1
  refine W.objInit X.1 X.2.1 X.2.2.2.1 (hts _ hw) (hts _ hw2) (hts _ hw3) rfl (by rw [X.2.2.1]; exact hL.1) rfl dg hf ?_ (kk p l e s m args below meth c H locs ls X hS hP hL h1 h2 h3 h4)
  have := lv_room (m := m) (pc := pc) (ls := ls) (rest := []) (st := []) (by decide)
  simpa [JFrame.monitorRoom] using hl
/-! returns -/
theorem Wd.end {V : VV} {I : MI} {p : Program} {s t : State} {m : MethodId} {args : Array Value} {meth : Method} {c : Code} {H : Heap} {locs : List Loc} {h : AH} {n : Nat} (X : Cx V I p s m args meth c) (hS : va_S (Ab V) s.heap H locs) (hP : Pos V h n H) (ht : t.heap = H) (hW : s.WarmedH t.vm) : Wd V h n t := by
  refine ⟨va_K.moved hW.alike X.2.2.2.2.2.2.2.2.1, ?_, by rw [ht]; exact hP⟩
  rw [ht]
  exact (X.2.2.2.2.2.2.2.2.2.1.kept (fun a h1 h2 => hS.2.1 a h1 h2)).moved hW.alike
theorem a_iret {d mc ms : Nat} {r : Option Value} {h' : AH} {n' : Nat} {v : Int32} (dg : decode I.2.1 pc = .ok (.ireturn, 1)) (hr : I.2.2.2 = some .int) (e1 : r = some (.int v)) (e2 : h' = h) (e3 : n' = n) : AW V I (RmM d mc ms) (QM V r h' n' mc ms) n0 z0 pc lv [.int v] h n z := by
  subst e1; subst e2; subst e3
  intro p l e s m args below meth c H locs ls X hS hP hL h1 h2 h3 h4
  refine W.widen (k := mc) (n := ms) (by have : n' ≤ n0 + mc := h2; omega) (by have : z ≤ z0 + ms := h4; omega) ?_
  exact W.iret X.1 X.2.1 (X.2.2.2.2.2.1.trans hr) (fun t ht hW => ⟨rfl, Wd.end X hS hP ht hW, hS.F ht⟩) hS.2.2 dg X.2.2.2.2.2.2.1
theorem a_zret {d mc ms : Nat} {r : Option Value} {h' : AH} {n' : Nat} {v : Int32} (dg : decode I.2.1 pc = .ok (.ireturn, 1)) (hr : I.2.2.2 = some .boolean) (hv : v = 0 ∨ v = 1) (e1 : r = some (.int v)) (e2 : h' = h) (e3 : n' = n) : AW V I (RmM d mc ms) (QM V r h' n' mc ms) n0 z0 pc lv [.int v] h n z := by
  subst e1; subst e2; subst e3
  intro p l e s m args below meth c H locs ls X hS hP hL h1 h2 h3 h4
  refine W.widen (k := mc) (n := ms) (by have : n' ≤ n0 + mc := h2; omega) (by have : z ≤ z0 + ms := h4; omega) ?_
  exact W.zret X.1 X.2.1 (X.2.2.2.2.2.1.trans hr) (by rcases hv with rfl | rfl <;> decide) (fun t ht hW => ⟨rfl, Wd.end X hS hP ht hW, hS.F ht⟩) hS.2.2 dg X.2.2.2.2.2.2.1
theorem a_lret {d mc ms : Nat} {r : Option Value} {h' : AH} {n' : Nat} {v : Int64} (dg : decode I.2.1 pc = .ok (.lreturn, 1)) (hr : I.2.2.2 = some .long) (e1 : r = some (.long v)) (e2 : h' = h) (e3 : n' = n) : AW V I (RmM d mc ms) (QM V r h' n' mc ms) n0 z0 pc lv [.long v] h n z := by
  subst e1; subst e2; subst e3
  intro p l e s m args below meth c H locs ls X hS hP hL h1 h2 h3 h4
  refine W.widen (k := mc) (n := ms) (by have : n' ≤ n0 + mc := h2; omega) (by have : z ≤ z0 + ms := h4; omega) ?_
  exact W.lret X.1 X.2.1 (X.2.2.2.2.2.1.trans hr) (fun t ht hW => ⟨rfl, Wd.end X hS hP ht hW, hS.F ht⟩) hS.2.2 dg X.2.2.2.2.2.2.1
theorem a_vret {d mc ms : Nat} {r : Option Value} {h' : AH} {n' : Nat} (dg : decode I.2.1 pc = .ok (.return_, 1)) (hr : I.2.2.2 = none) (e1 : r = none) (e2 : h' = h) (e3 : n' = n) : AW V I (RmM d mc ms) (QM V r h' n' mc ms) n0 z0 pc lv [] h n z := by
  subst e1; subst e2; subst e3
  intro p l e s m args below meth c H locs ls X hS hP hL h1 h2 h3 h4
  refine W.widen (k := mc) (n := ms) (by have : n' ≤ n0 + mc := h2; omega) (by have : z ≤ z0 + ms := h4; omega) ?_
  exact W.vret X.1 X.2.1 (X.2.2.2.2.2.1.trans hr) (fun t ht hW => ⟨rfl, Wd.end X hS hP ht hW, hS.F ht⟩) hS.2.2 dg X.2.2.2.2.2.2.1
theorem a_aret {d mc ms : Nat} {r : Option Value} {h' : AH} {n' : Nat} {v : Value} {nm : String} (dg : decode I.2.1 pc = .ok (.areturn, 1)) (hr : I.2.2.2 = some (.object nm)) (hv : v = .null ∨ ∃ a, v = .ref a) (e1 : r = some v) (e2 : h' = h) (e3 : n' = n) : AW V I (RmM d mc ms) (QM V r h' n' mc ms) n0 z0 pc lv [v] h n z := by
  subst e1; subst e2; subst e3
  intro p l e s m args below meth c H locs ls X hS hP hL h1 h2 h3 h4
  refine W.widen (k := mc) (n := ms) (by have : n' ≤ n0 + mc := h2; omega) (by have : z ≤ z0 + ms := h4; omega) ?_
  exact W.aret X.1 X.2.1 (X.2.2.2.2.2.1.trans hr) (Or.inl ⟨nm, rfl⟩) (by rcases hv with rfl | ⟨a, rfl⟩; exact Or.inl rfl; exact Or.inr ⟨_, rfl⟩) (fun t ht hW => ⟨rfl, Wd.end X hS hP ht hW, hS.F ht⟩) hS.2.2 dg X.2.2.2.2.2.2.1
/-! calls -/
theorem aw_call {p : Program} {l : Launch} {e : Env} {s : State} {m : MethodId} {args : Array Value} {below : List Frame} {meth : Method} {c : Code} {H : Heap} {locs : List Loc} {ls : Array Slot} {r : Option Value} {h' : AH} {n' z' : Nat} {a : Array Value} {st0 : List Value} {rest : List Value}
    (X : Cx V I p s m args meth c) (hS : va_S (Ab V) s.heap H locs) (hL : Lo V I.2.2.1 ls lv) (h1 : n0 ≤ n) (h3 : z0 ≤ z) (hn : n ≤ n') (hz : z ≤ z') (hn' : n' ≤ n0 + R.cells) (hz' : z' ≤ z0 + R.slots)
    (hr : va_Run p l e R s m args below meth c H locs (n - n0) (z - z0) (n' - n) (z' - z) (F0 m pc ls st0) (rest.map (coV V)) (QcM V r h' n' a) (Ab V))
    (k : AW V I R Qf n0 z0 (pc + 3) lv (r.toList ++ rest) h' n' z') : W p l e R s m args below meth c H locs (n - n0) (z - z0) (Qf below args s) (F0 m pc ls st0) := by
  intro T hT XT
  obtain ⟨v, st₀, t, T', L, e0, X', hL', e1, e2, ⟨hv, hwd, hz1, hk⟩, st⟩ := hr T hT XT
  cases hv
  rw [e0] at hz1 hk
  have hS' : va_S (Ab V) s.heap T'.heap (locs ++ L) := ⟨Nat.le_trans hS.1 (by rw [e1]; exact hz1), fun q q1 q2 => by rw [e1, hk q (Nat.lt_of_lt_of_le q1 hS.1) q2]; exact hS.2.1 q q1 q2, fun q hq => by
    rcases List.mem_append.mp hq with g | g
    · exact hS.2.2 q g
    · exact hL' q g⟩
  have hP' : Pos V h' n' T'.heap := by rw [e1]; exact hwd.2.2
  have K := k p l e s m args below meth c T'.heap (locs ++ L) ls X hS' hP' hL (by omega) hn' (by omega) hz'
  rw [show n' - n0 = n - n0 + (n' - n) by omega, show z' - z0 = z - z0 + (z' - z) by omega] at K
  have es : (r.toList ++ rest).map (coV V) = (r.map (coV V)).toList ++ rest.map (coV V) := by cases r <;> simp
  rw [es] at K
  obtain ⟨t2, a1, b1⟩ := K T' rfl X'
  exact ⟨t2, st t2 a1, b1⟩
theorem r8 {m : MethodId} {ls : Array Slot} {rest : List Value} {st0 : List Value} (h8 : (rest.map fun v => v.category).sum ≤ 8) : 2 * (F0 m pc ls st0).monitorRoom + ((rest.map (coV V)).map fun v => v.category).sum ≤ 8 := by
  refine lv_room (st := rest.map (coV V)) ?_
  have e : (rest.map (coV V)).map (fun v => v.category) = rest.map (fun v => v.category) := by
    rw [List.map_map]
    apply List.map_congr_left
    intro v _
    exact coV_cat V v
  rw [e]
  exact h8
def MC (J : MI) (np : Nat) : Prop := Cond.code J.1 J.2.1 J.2.2.1 J.2.2.2 ∈ WT ∧ Cond.initialized J.1.cls ∈ WT ∧ J.1.cls ≠ "java/lang/invoke/MethodHandle" ∧ J.1.cls ≠ "java/lang/invoke/VarHandle" ∧ (parseMethodDescriptor J.1.desc).map (fun d => d.parameters.length) = some np
theorem MC.good {J : MI} {np : Nat} (c : MC J np) : GoodIn WT (wsM J) := by
  intro w hw
  rcases List.mem_cons.mp hw with rfl | hw
  · exact ⟨c.1, wt_ok c.1⟩
  · exact ⟨hw, wt_ok hw⟩
theorem a_cs {J : MI} {np d idx : Nat} {As rest st0 : List Value} {r : Option Value} {h' : AH} {n' z' : Nat} (dg : decode I.2.1 pc = .ok (.invokestatic idx, 3)) (mc : MC J np) (hs : Cond.static J.1 ∈ WT) (ml : Cond.methodLink I.1.cls idx J.1 ∈ WT) (hM : AMet V J d As h n z r h' n' z') (hst : As.reverse ++ rest = st0) (hp : As.length = np) (hR : d + 1 ≤ R.frames ∧ 8 + (J.2.2.1 + 11) + 40 * d ≤ R.locals) (h8 : (rest.map fun v => v.category).sum ≤ 8) (hn' : n' ≤ n0 + R.cells) (hz' : z' ≤ z0 + R.slots)
    (k : AW V I R Qf n0 z0 (pc + 3) lv (r.toList ++ rest) h' n' z') : AW V I R Qf n0 z0 pc lv st0 h n z := by
  intro p l e s m args below meth c H locs ls X hS hP hL h1 h2 h3 h4
  subst hst
  obtain ⟨g1, g2, hMet⟩ := hM
  have hts := X.2.2.2.2.1
  have cw : CallB R s args I.1.cls idx J.1 J.2.1 J.2.2.1 J.2.2.2 (wsM J) (RmM d (n' - n) (z' - z)) (n' - n) (z' - z) np ∧ (Cond.static J.1).before args s = true :=
    ⟨callB_of np hts mc.good rfl rfl rfl (hts _ mc.2.1) (hts _ ml) ⟨mc.2.2.1, mc.2.2.2.1, mc.2.2.2.2⟩ hR, hts _ hs⟩
  refine aw_call X hS hL h1 h3 g1 g2 hn' hz' (a := (As.map (coV V)).toArray) (va_runS (As := As.map (coV V)) (rest := rest.map (coV V)) ⟨X.1, X.2.1, X.2.2.1, X.2.2.2.1, hts⟩ (hMet l) cw ⟨Wd.blind, fun U hU hW => ⟨rfl, Wd.end X hS hP hU hW⟩⟩ rfl (by rw [List.length_map]; exact hp) hL.1 (by simp) (r8 h8) dg ⟨by omega, by omega⟩) k
theorem a_cv {J : MI} {np d idx j a : Nat} {fs : List Value} {q : vw_C} {As rest st0 : List Value} {r : Option Value} {h' : AH} {n' z' : Nat} (dg : decode I.2.1 pc = .ok (.invokevirtual idx, 3)) (mc : MC J np) (hs : Cond.instanceMethod J.1 ∈ WT ∧ Cond.selects J.1.cls J.1 J.1 ∈ WT) (ml : Cond.methodLink I.1.cls idx J.1 ∈ WT) (hg : h a = .inr (j, fs)) (hc : vwCl[j]? = some q) (hq : q.1 = J.1.cls) (hM : AMet V J d (.ref a :: As) h n z r h' n' z') (hst : As.reverse ++ .ref a :: rest = st0) (hp : As.length = np) (hR : d + 1 ≤ R.frames ∧ 8 + (J.2.2.1 + 11) + 40 * d ≤ R.locals) (h8 : (rest.map fun v => v.category).sum ≤ 8) (hn' : n' ≤ n0 + R.cells) (hz' : z' ≤ z0 + R.slots)
    (k : AW V I R Qf n0 z0 (pc + 3) lv (r.toList ++ rest) h' n' z') : AW V I R Qf n0 z0 pc lv st0 h n z := by
  intro p l e s m args below meth c H locs ls X hS hP hL h1 h2 h3 h4
  subst hst
  obtain ⟨g1, g2, hMet⟩ := hM
  have hts := X.2.2.2.2.1
  have ha := hP.at (nj_o hg)
  have he := wsA_get V h ha.1 ha.2
  rw [hg] at he
  have cw : CallW R s args I.1.cls J.1.cls idx J.1 J.2.1 J.2.2.1 J.2.2.2 (wsM J) (RmM d (n' - n) (z' - z)) (n' - n) (z' - z) np :=
    ⟨callB_of np hts mc.good rfl rfl rfl (hts _ mc.2.1) (hts _ ml) ⟨mc.2.2.1, mc.2.2.2.1, mc.2.2.2.2⟩ hR, hts _ hs.1, hts _ hs.2⟩
  have hrc := va_recv X.2.2.2.2.2.2.2.2.1 hP.2.2.2 hc he
  rw [hq] at hrc
  refine aw_call X hS hL h1 h3 g1 g2 hn' hz' (a := ((.ref a :: As).map (coV V)).toArray) (va_runV (As := As.map (coV V)) (rest := rest.map (coV V)) (b := ad V a) ⟨X.1, X.2.1, X.2.2.1, X.2.2.2.1, hts⟩ (hMet l) cw ⟨Wd.blind, hrc, fun U hU hW => ⟨rfl, Wd.end X hS hP hU hW⟩⟩ rfl (by rw [List.length_map]; exact hp) hL.1 (by simp [coV]) (r8 h8) dg ⟨by omega, by omega⟩) k
theorem a_ci {J : MI} {np d idx a : Nat} {As rest st0 : List Value} {r : Option Value} {h' : AH} {n' z' : Nat} (dg : decode I.2.1 pc = .ok (.invokespecial idx, 3)) (mc : MC J np) (hs : Cond.instanceMethod J.1 ∈ WT ∧ J.1.name = "<init>" ∧ J.2.2.2 = none) (ml : Cond.methodLink I.1.cls idx J.1 ∈ WT) (hM : AMet V J d (.ref a :: As) h n z r h' n' z') (hst : As.reverse ++ .ref a :: rest = st0) (hp : As.length = np) (hR : d + 1 ≤ R.frames ∧ 8 + (J.2.2.1 + 11) + 40 * d ≤ R.locals) (h8 : (rest.map fun v => v.category).sum ≤ 8) (hn' : n' ≤ n0 + R.cells) (hz' : z' ≤ z0 + R.slots)
    (k : AW V I R Qf n0 z0 (pc + 3) lv (r.toList ++ rest) h' n' z') : AW V I R Qf n0 z0 pc lv st0 h n z := by
  intro p l e s m args below meth c H locs ls X hS hP hL h1 h2 h3 h4
  subst hst
  obtain ⟨g1, g2, hMet⟩ := hM
  have hts := X.2.2.2.2.1
  have cb := callB_of (R := R) (own := I.1.cls) (index := idx) (rm := RmM d (n' - n) (z' - z)) np hts mc.good rfl rfl rfl (hts _ mc.2.1) (hts _ ml) ⟨mc.2.2.1, mc.2.2.2.1, mc.2.2.2.2⟩ hR
  rw [hs.2.2] at cb
  refine aw_call X hS hL h1 h3 g1 g2 hn' hz' (a := ((.ref a :: As).map (coV V)).toArray) (va_runI (As := As.map (coV V)) (rest := rest.map (coV V)) (b := ad V a) ⟨X.1, X.2.1, X.2.2.1, X.2.2.2.1, hts⟩ (hMet l) ⟨cb, hs.2.1, hts _ hs.1⟩ ⟨Wd.blind, fun U hU hW => ⟨rfl, Wd.end X hS hP hU hW⟩⟩ rfl (by rw [List.length_map]; exact hp) hL.1 (by simp [coV]) (r8 h8) dg ⟨by omega, by omega⟩) k
end AWMem
end
