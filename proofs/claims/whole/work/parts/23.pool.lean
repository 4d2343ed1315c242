section
variable {b0 mi : Nat} {E : Nat → Nat}
theorem ft_0_9 : mx_tf (gt_P b0 mi E) 0 9 = some (0, 0, .int, false) := rfl
theorem ft_0_27 : mx_tf (gt_P b0 mi E) 0 27 = some (5, 17, .object "SectionGarden$Section", false) := rfl
theorem ft_0_45 : mx_tf (gt_P b0 mi E) 0 45 = some (5, 2, .int, true) := rfl
theorem ft_0_52 : mx_tf (gt_P b0 mi E) 0 52 = some (5, 8, .boolean, false) := rfl
theorem ft_0_56 : mx_tf (gt_P b0 mi E) 0 56 = some (5, 9, .int, false) := rfl
theorem ft_0_59 : mx_tf (gt_P b0 mi E) 0 59 = some (5, 14, .boolean, false) := rfl
theorem ft_0_66 : mx_tf (gt_P b0 mi E) 0 66 = some (5, 6, .object "java/util/ArrayList", true) := rfl
theorem ft_0_72 : mx_tf (gt_P b0 mi E) 0 72 = some (4, 2, .object "SectionGarden$Type", true) := rfl
theorem ft_0_81 : mx_tf (gt_P b0 mi E) 0 81 = some (4, 3, .object "SectionGarden$Symbol", true) := rfl
theorem ft_0_85 : mx_tf (gt_P b0 mi E) 0 85 = some (6, 7, .object "SectionGarden$Section", false) := rfl
theorem ft_0_90 : mx_tf (gt_P b0 mi E) 0 90 = some (5, 15, .object "SectionGarden$Section", false) := rfl
theorem ft_0_97 : mx_tf (gt_P b0 mi E) 0 97 = some (5, 3, .int, true) := rfl
theorem ft_0_99 : mx_tf (gt_P b0 mi E) 0 99 = some (5, 4, .int, true) := rfl
theorem ft_0_122 : mx_tf (gt_P b0 mi E) 0 122 = some (5, 16, .object "SectionGarden$Section", false) := rfl
theorem qt_0_25 : mx_tk (gt_P b0 mi E) 0 25 = some [5] := rfl
theorem qt_0_70 : mx_tk (gt_P b0 mi E) 0 70 = some [4] := rfl
theorem st_0_76 : mx_ts (gt_P b0 mi E) 0 76 = some (.ref (E 3)) := rfl
theorem mt_0_3 : mx_tm (gt_P b0 mi E) 0 3 = some (3, 0, mL_law) := rfl
theorem mt_0_15 : mx_tm (gt_P b0 mi E) 0 15 = some (0, 0, mJx4a65c_size_8abf5) := rfl
theorem mt_0_21 : mx_tm (gt_P b0 mi E) 0 21 = some (0, 1, mJx4a65c_get_915e3) := rfl
theorem mt_0_31 : mx_tm (gt_P b0 mi E) 0 31 = some (0, 1, mX0_findWhatMayFold) := rfl
theorem mt_0_35 : mx_tm (gt_P b0 mi E) 0 35 = some (0, 1, mX0_joinKin) := rfl
theorem mt_0_38 : mx_tm (gt_P b0 mi E) 0 38 = some (0, 1, mX0_partKin) := rfl
theorem mt_0_42 : mx_tm (gt_P b0 mi E) 0 42 = some (0, 1, mX0_foldKin) := rfl
theorem mt_0_48 : mx_tm (gt_P b0 mi E) 0 48 = some (0, 0, mX5_isKept) := rfl
theorem mt_0_62 : mx_tm (gt_P b0 mi E) 0 62 = some (0, 1, mX0_forbidWhatItTakesPlacesOf) := rfl
theorem mt_0_93 : mx_tm (gt_P b0 mi E) 0 93 = some (0, 2, mX0_looksLike) := rfl
theorem mt_0_102 : mx_tm (gt_P b0 mi E) 0 102 = some (0, 2, mX0_relocationsLookLike) := rfl
theorem mt_0_106 : mx_tm (gt_P b0 mi E) 0 106 = some (0, 1, mX5_hasBytesOf) := rfl
theorem mt_0_110 : mx_tm (gt_P b0 mi E) 0 110 = some (0, 1, mX4_isWrittenLike) := rfl
theorem mt_0_114 : mx_tm (gt_P b0 mi E) 0 114 = some (0, 1, mX6_hasSetAndOffsetOf) := rfl
theorem mt_0_118 : mx_tm (gt_P b0 mi E) 0 118 = some (0, 3, mX0_firstOfTheSameKin) := rfl
theorem mt_0_125 : mx_tm (gt_P b0 mi E) 0 125 = some (0, 2, mX0_targetsAreKin) := rfl
theorem ft_1_12 : mx_tf (gt_P b0 mi E) 1 12 = some (1, 0, .object "java/util/ArrayList", true) := rfl
theorem ft_1_18 : mx_tf (gt_P b0 mi E) 1 18 = some (7, 0, .object "java/util/ArrayList", true) := rfl
theorem ft_1_27 : mx_tf (gt_P b0 mi E) 1 27 = some (7, 6, .int, false) := rfl
theorem ft_1_31 : mx_tf (gt_P b0 mi E) 1 31 = some (7, 3, .array .int, true) := rfl
theorem ft_1_41 : mx_tf (gt_P b0 mi E) 1 41 = some (6, 2, .object "SectionGarden$Section", true) := rfl
theorem ft_1_67 : mx_tf (gt_P b0 mi E) 1 67 = some (4, 3, .object "SectionGarden$Symbol", true) := rfl
theorem ft_1_71 : mx_tf (gt_P b0 mi E) 1 71 = some (4, 0, .object "SectionGarden$Section", true) := rfl
theorem ft_1_76 : mx_tf (gt_P b0 mi E) 1 76 = some (6, 4, .int, true) := rfl
theorem ft_1_82 : mx_tf (gt_P b0 mi E) 1 82 = some (6, 7, .object "SectionGarden$Section", false) := rfl
theorem ft_1_85 : mx_tf (gt_P b0 mi E) 1 85 = some (5, 11, .boolean, false) := rfl
theorem ft_1_92 : mx_tf (gt_P b0 mi E) 1 92 = some (5, 12, .int, false) := rfl
theorem ft_1_95 : mx_tf (gt_P b0 mi E) 1 95 = some (5, 13, .object "SectionGarden$Section", false) := rfl
theorem ft_1_98 : mx_tf (gt_P b0 mi E) 1 98 = some (5, 8, .boolean, false) := rfl
theorem ft_1_105 : mx_tf (gt_P b0 mi E) 1 105 = some (5, 6, .object "java/util/ArrayList", true) := rfl
theorem ft_1_115 : mx_tf (gt_P b0 mi E) 1 115 = some (5, 10, .int, false) := rfl
theorem ft_1_121 : mx_tf (gt_P b0 mi E) 1 121 = some (5, 9, .int, false) := rfl
theorem nt_1_9 : mx_tn (gt_P b0 mi E) 1 9 = some (10, [.int 0, .null, .int 0]) := rfl
theorem qt_1_59 : mx_tk (gt_P b0 mi E) 1 59 = some [5] := rfl
theorem qt_1_65 : mx_tk (gt_P b0 mi E) 1 65 = some [4] := rfl
theorem mt_1_3 : mx_tm (gt_P b0 mi E) 1 3 = some (3, 0, mL_law) := rfl
theorem mt_1_11 : mx_tm (gt_P b0 mi E) 1 11 = some (1, 0, mJx4a65c_init_da8c8) := rfl
theorem mt_1_23 : mx_tm (gt_P b0 mi E) 1 23 = some (0, 1, mX1_begin) := rfl
theorem mt_1_35 : mx_tm (gt_P b0 mi E) 1 35 = some (0, 1, mX2_definitionOf) := rfl
theorem mt_1_47 : mx_tm (gt_P b0 mi E) 1 47 = some (0, 2, mX1_admit) := rfl
theorem mt_1_51 : mx_tm (gt_P b0 mi E) 1 51 = some (0, 0, mJx4a65c_size_8abf5) := rfl
theorem mt_1_55 : mx_tm (gt_P b0 mi E) 1 55 = some (0, 1, mJx4a65c_get_915e3) := rfl
theorem mt_1_61 : mx_tm (gt_P b0 mi E) 1 61 = some (0, 2, mX1_follow) := rfl
theorem mt_1_72 : mx_tm (gt_P b0 mi E) 1 72 = some (0, 0, mX5_isKept) := rfl
theorem mt_1_79 : mx_tm (gt_P b0 mi E) 1 79 = some (0, 0, mX6_isNowhere) := rfl
theorem mt_1_89 : mx_tm (gt_P b0 mi E) 1 89 = some (0, 0, mJx4a65c_clear_da8c8) := rfl
theorem mt_1_101 : mx_tm (gt_P b0 mi E) 1 101 = some (0, 1, mJx4a65c_add_9ea2d) := rfl
theorem mt_1_108 : mx_tm (gt_P b0 mi E) 1 108 = some (0, 0, mX6_targetSet) := rfl
theorem mt_1_111 : mx_tm (gt_P b0 mi E) 1 111 = some (0, 3, mX1_admitSet) := rfl
theorem mt_1_118 : mx_tm (gt_P b0 mi E) 1 118 = some (0, 2, mX1_admitGroup) := rfl
theorem ft_2_9 : mx_tf (gt_P b0 mi E) 2 9 = some (2, 0, .array .int, true) := rfl
theorem ft_2_17 : mx_tf (gt_P b0 mi E) 2 17 = some (2, 1, .array (.object "SectionGarden$Symbol"), true) := rfl
theorem ft_2_21 : mx_tf (gt_P b0 mi E) 2 21 = some (7, 0, .object "java/util/ArrayList", true) := rfl
theorem ft_2_31 : mx_tf (gt_P b0 mi E) 2 31 = some (7, 1, .object "java/util/ArrayList", true) := rfl
theorem ft_2_41 : mx_tf (gt_P b0 mi E) 2 41 = some (7, 6, .int, false) := rfl
theorem ft_2_45 : mx_tf (gt_P b0 mi E) 2 45 = some (7, 3, .array .int, true) := rfl
theorem ft_2_74 : mx_tf (gt_P b0 mi E) 2 74 = some (5, 10, .int, false) := rfl
theorem ft_2_77 : mx_tf (gt_P b0 mi E) 2 77 = some (5, 1, .int, true) := rfl
theorem ft_2_86 : mx_tf (gt_P b0 mi E) 2 86 = some (5, 11, .boolean, false) := rfl
theorem ft_2_98 : mx_tf (gt_P b0 mi E) 2 98 = some (6, 1, .int, true) := rfl
theorem ft_2_101 : mx_tf (gt_P b0 mi E) 2 101 = some (6, 4, .int, true) := rfl
theorem at_2_15 : mx_ta (gt_P b0 mi E) 2 15 = some 5 := rfl
theorem qt_2_15 : mx_tk (gt_P b0 mi E) 2 15 = some [6] := rfl
theorem qt_2_68 : mx_tk (gt_P b0 mi E) 2 68 = some [5] := rfl
theorem mt_2_3 : mx_tm (gt_P b0 mi E) 2 3 = some (3, 0, mL_law) := rfl
theorem mt_2_27 : mx_tm (gt_P b0 mi E) 2 27 = some (0, 1, mX2_findLost) := rfl
theorem mt_2_34 : mx_tm (gt_P b0 mi E) 2 34 = some (0, 1, mX2_findDefinitions) := rfl
theorem mt_2_38 : mx_tm (gt_P b0 mi E) 2 38 = some (0, 1, mX2_findTargets) := rfl
theorem mt_2_48 : mx_tm (gt_P b0 mi E) 2 48 = some (0, 1, mX2_definitionOf) := rfl
theorem mt_2_52 : mx_tm (gt_P b0 mi E) 2 52 = some (2, 2, mJ7_fill_53178) := rfl
theorem mt_2_58 : mx_tm (gt_P b0 mi E) 2 58 = some (0, 0, mJx4a65c_size_8abf5) := rfl
theorem mt_2_64 : mx_tm (gt_P b0 mi E) 2 64 = some (0, 1, mJx4a65c_get_915e3) := rfl
theorem mt_2_70 : mx_tm (gt_P b0 mi E) 2 70 = some (0, 1, mX2_hasGroup) := rfl
theorem mt_2_80 : mx_tm (gt_P b0 mi E) 2 80 = some (22, 2, mL_law) := rfl
theorem mt_2_90 : mx_tm (gt_P b0 mi E) 2 90 = some (0, 0, mX6_isDefinition) := rfl
theorem mt_2_94 : mx_tm (gt_P b0 mi E) 2 94 = some (0, 1, mX2_takeDefinition) := rfl
theorem mt_2_104 : mx_tm (gt_P b0 mi E) 2 104 = some (0, 0, mX6_targetSet) := rfl
theorem mt_2_107 : mx_tm (gt_P b0 mi E) 2 107 = some (0, 1, mX6_aimAt) := rfl
theorem ft_3_9 : mx_tf (gt_P b0 mi E) 3 9 = some (3, 0, .array .long, true) := rfl
theorem ft_3_15 : mx_tf (gt_P b0 mi E) 3 15 = some (3, 1, .array .long, true) := rfl
theorem ft_3_18 : mx_tf (gt_P b0 mi E) 3 18 = some (3, 2, .array .boolean, true) := rfl
theorem ft_3_22 : mx_tf (gt_P b0 mi E) 3 22 = some (3, 3, .array .long, true) := rfl
theorem ft_3_25 : mx_tf (gt_P b0 mi E) 3 25 = some (3, 4, .array .long, true) := rfl
theorem ft_3_28 : mx_tf (gt_P b0 mi E) 3 28 = some (3, 5, .int, false) := rfl
theorem ft_3_32 : mx_tf (gt_P b0 mi E) 3 32 = some (3, 6, .int, false) := rfl
theorem ft_3_42 : mx_tf (gt_P b0 mi E) 3 42 = some (7, 0, .object "java/util/ArrayList", true) := rfl
theorem ft_3_64 : mx_tf (gt_P b0 mi E) 3 64 = some (4, 0, .object "SectionGarden$Section", true) := rfl
theorem ft_3_74 : mx_tf (gt_P b0 mi E) 3 74 = some (4, 2, .object "SectionGarden$Type", true) := rfl
theorem ft_3_88 : mx_tf (gt_P b0 mi E) 3 88 = some (6, 5, .int, true) := rfl
theorem ft_3_93 : mx_tf (gt_P b0 mi E) 3 93 = some (6, 6, .int, true) := rfl
theorem ft_3_96 : mx_tf (gt_P b0 mi E) 3 96 = some (6, 7, .object "SectionGarden$Section", false) := rfl
theorem ft_3_103 : mx_tf (gt_P b0 mi E) 3 103 = some (6, 8, .int, false) := rfl
theorem ft_3_109 : mx_tf (gt_P b0 mi E) 3 109 = some (5, 18, .long, false) := rfl
theorem ft_3_127 : mx_tf (gt_P b0 mi E) 3 127 = some (5, 19, .int, false) := rfl
theorem ft_3_130 : mx_tf (gt_P b0 mi E) 3 130 = some (7, 2, .object "java/util/ArrayList", true) := rfl
theorem ft_3_133 : mx_tf (gt_P b0 mi E) 3 133 = some (4, 5, .int, false) := rfl
theorem ft_3_138 : mx_tf (gt_P b0 mi E) 3 138 = some (7, 4, .array .int, true) := rfl
theorem ft_3_150 : mx_tf (gt_P b0 mi E) 3 150 = some (5, 2, .int, true) := rfl
theorem ft_3_153 : mx_tf (gt_P b0 mi E) 3 153 = some (5, 4, .int, true) := rfl
theorem ft_3_174 : mx_tf (gt_P b0 mi E) 3 174 = some (5, 9, .int, false) := rfl
theorem ft_3_177 : mx_tf (gt_P b0 mi E) 3 177 = some (5, 3, .int, true) := rfl
theorem ft_3_196 : mx_tf (gt_P b0 mi E) 3 196 = some (5, 6, .object "java/util/ArrayList", true) := rfl
theorem ft_3_204 : mx_tf (gt_P b0 mi E) 3 204 = some (4, 4, .int, true) := rfl
theorem ft_3_207 : mx_tf (gt_P b0 mi E) 3 207 = some (4, 3, .object "SectionGarden$Symbol", true) := rfl
theorem ft_3_230 : mx_tf (gt_P b0 mi E) 3 230 = some (4, 1, .int, true) := rfl
theorem ct_3_121 : mx_tc (gt_P b0 mi E) 3 121 = some (.long (8)) := rfl
theorem ct_3_136 : mx_tc (gt_P b0 mi E) 3 136 = some (.long (4096)) := rfl
theorem ct_3_163 : mx_tc (gt_P b0 mi E) 3 163 = some (.long (-1)) := rfl
theorem qt_3_62 : mx_tk (gt_P b0 mi E) 3 62 = some [4] := rfl
theorem qt_3_69 : mx_tk (gt_P b0 mi E) 3 69 = some [5] := rfl
theorem st_3_197 : mx_ts (gt_P b0 mi E) 3 197 = some (.ref (E 3)) := rfl
theorem mt_3_3 : mx_tm (gt_P b0 mi E) 3 3 = some (3, 0, mL_law) := rfl
theorem mt_3_35 : mx_tm (gt_P b0 mi E) 3 35 = some (0, 1, mX3_dropVeneers) := rfl
theorem mt_3_39 : mx_tm (gt_P b0 mi E) 3 39 = some (0, 1, mX3_layOut) := rfl
theorem mt_3_48 : mx_tm (gt_P b0 mi E) 3 48 = some (0, 1, mX3_addVeneers) := rfl
theorem mt_3_52 : mx_tm (gt_P b0 mi E) 3 52 = some (0, 0, mJx4a65c_size_8abf5) := rfl
theorem mt_3_58 : mx_tm (gt_P b0 mi E) 3 58 = some (0, 1, mJx4a65c_get_915e3) := rfl
theorem mt_3_68 : mx_tm (gt_P b0 mi E) 3 68 = some (0, 0, mX5_isPlaced) := rfl
theorem mt_3_78 : mx_tm (gt_P b0 mi E) 3 78 = some (0, 1, mX3_amountWritten) := rfl
theorem mt_3_82 : mx_tm (gt_P b0 mi E) 3 82 = some (0, 1, mX8_fits) := rfl
theorem mt_3_99 : mx_tm (gt_P b0 mi E) 3 99 = some (0, 0, mX5_finalPlace) := rfl
theorem mt_3_106 : mx_tm (gt_P b0 mi E) 3 106 = some (0, 0, mX5_endWithoutVeneers) := rfl
theorem mt_3_113 : mx_tm (gt_P b0 mi E) 3 113 = some (0, 2, mX3_sectionByte) := rfl
theorem mt_3_117 : mx_tm (gt_P b0 mi E) 3 117 = some (0, 1, mX5_placeOfVeneer) := rfl
theorem mt_3_123 : mx_tm (gt_P b0 mi E) 3 123 = some (0, 3, mX3_veneerByte) := rfl
theorem mt_3_142 : mx_tm (gt_P b0 mi E) 3 142 = some (0, 3, mX3_layOutKind) := rfl
theorem mt_3_146 : mx_tm (gt_P b0 mi E) 3 146 = some (0, 1, mX3_findSetEdges) := rfl
theorem mt_3_156 : mx_tm (gt_P b0 mi E) 3 156 = some (2, 2, mX5_alignedUp) := rfl
theorem mt_3_160 : mx_tm (gt_P b0 mi E) 3 160 = some (0, 0, mX5_endWithVeneers) := rfl
theorem mt_3_165 : mx_tm (gt_P b0 mi E) 3 165 = some (2, 2, mJ7_fill_d0a16) := rfl
theorem mt_3_171 : mx_tm (gt_P b0 mi E) 3 171 = some (0, 0, mX5_isKept) := rfl
theorem mt_3_179 : mx_tm (gt_P b0 mi E) 3 179 = some (0, 3, mX3_widenSet) := rfl
theorem mt_3_183 : mx_tm (gt_P b0 mi E) 3 183 = some (24, 2, mL_law) := rfl
theorem mt_3_189 : mx_tm (gt_P b0 mi E) 3 189 = some (25, 2, mL_law) := rfl
theorem mt_3_192 : mx_tm (gt_P b0 mi E) 3 192 = some (0, 1, mX3_addVeneersOf) := rfl
theorem mt_3_200 : mx_tm (gt_P b0 mi E) 3 200 = some (0, 2, mX3_veneerFor) := rfl
theorem mt_3_211 : mx_tm (gt_P b0 mi E) 3 211 = some (0, 1, mX6_hasTargetOf) := rfl
theorem mt_3_215 : mx_tm (gt_P b0 mi E) 3 215 = some (0, 0, mX4_ownPlace) := rfl
theorem mt_3_222 : mx_tm (gt_P b0 mi E) 3 222 = some (0, 1, mX3_targetValue) := rfl
theorem mt_3_226 : mx_tm (gt_P b0 mi E) 3 226 = some (0, 1, mX4_covers) := rfl
theorem mt_3_233 : mx_tm (gt_P b0 mi E) 3 233 = some (2, 2, mX3_byteOf) := rfl
theorem mt_3_237 : mx_tm (gt_P b0 mi E) 3 237 = some (0, 1, mX5_byteAt) := rfl
theorem et_3_218 (a : Nat) : mx_te (gt_P b0 mi E) 3 218 a = gt_ev E 1 a := rfl
theorem ft_4_9 : mx_tf (gt_P b0 mi E) 4 9 = some (4, 5, .int, false) := rfl
theorem ft_4_15 : mx_tf (gt_P b0 mi E) 4 15 = some (4, 0, .object "SectionGarden$Section", true) := rfl
theorem ft_4_19 : mx_tf (gt_P b0 mi E) 4 19 = some (4, 1, .int, true) := rfl
theorem ft_4_22 : mx_tf (gt_P b0 mi E) 4 22 = some (4, 2, .object "SectionGarden$Type", true) := rfl
theorem ft_4_26 : mx_tf (gt_P b0 mi E) 4 26 = some (4, 3, .object "SectionGarden$Symbol", true) := rfl
theorem ft_4_30 : mx_tf (gt_P b0 mi E) 4 30 = some (4, 4, .int, true) := rfl
theorem ft_4_33 : mx_tf (gt_P b0 mi E) 4 33 = some (5, 18, .long, false) := rfl
theorem mt_4_3 : mx_tm (gt_P b0 mi E) 4 3 = some (3, 0, mL_law) := rfl
theorem et_4_39 (a : Nat) : mx_te (gt_P b0 mi E) 4 39 a = gt_ev E 0 a := rfl
theorem ft_5_12 : mx_tf (gt_P b0 mi E) 5 12 = some (5, 6, .object "java/util/ArrayList", true) := rfl
theorem ft_5_18 : mx_tf (gt_P b0 mi E) 5 18 = some (5, 7, .object "java/util/ArrayList", true) := rfl
theorem ft_5_21 : mx_tf (gt_P b0 mi E) 5 21 = some (5, 9, .int, false) := rfl
theorem ft_5_25 : mx_tf (gt_P b0 mi E) 5 25 = some (5, 10, .int, false) := rfl
theorem ft_5_28 : mx_tf (gt_P b0 mi E) 5 28 = some (5, 12, .int, false) := rfl
theorem ft_5_31 : mx_tf (gt_P b0 mi E) 5 31 = some (5, 0, .int, true) := rfl
theorem ft_5_34 : mx_tf (gt_P b0 mi E) 5 34 = some (5, 1, .int, true) := rfl
theorem ft_5_37 : mx_tf (gt_P b0 mi E) 5 37 = some (5, 2, .int, true) := rfl
theorem ft_5_40 : mx_tf (gt_P b0 mi E) 5 40 = some (5, 3, .int, true) := rfl
theorem ft_5_43 : mx_tf (gt_P b0 mi E) 5 43 = some (5, 4, .int, true) := rfl
theorem ft_5_46 : mx_tf (gt_P b0 mi E) 5 46 = some (5, 5, .int, true) := rfl
theorem ft_5_58 : mx_tf (gt_P b0 mi E) 5 58 = some (11, 0, .int, true) := rfl
theorem ft_5_61 : mx_tf (gt_P b0 mi E) 5 61 = some (11, 1, .int, false) := rfl
theorem ft_5_79 : mx_tf (gt_P b0 mi E) 5 79 = some (5, 8, .boolean, false) := rfl
theorem ft_5_87 : mx_tf (gt_P b0 mi E) 5 87 = some (5, 17, .object "SectionGarden$Section", false) := rfl
theorem ft_5_91 : mx_tf (gt_P b0 mi E) 5 91 = some (5, 18, .long, false) := rfl
theorem ft_5_105 : mx_tf (gt_P b0 mi E) 5 105 = some (5, 19, .int, false) := rfl
theorem ct_5_103 : mx_tc (gt_P b0 mi E) 5 103 = some (.long (8)) := rfl
theorem ct_5_112 : mx_tc (gt_P b0 mi E) 5 112 = some (.long (-1)) := rfl
theorem nt_5_9 : mx_tn (gt_P b0 mi E) 5 9 = some (10, [.int 0, .null, .int 0]) := rfl
theorem nt_5_56 : mx_tn (gt_P b0 mi E) 5 56 = some (11, [.int 0, .int 0]) := rfl
theorem qt_5_56 : mx_tk (gt_P b0 mi E) 5 56 = some [11] := rfl
theorem mt_5_3 : mx_tm (gt_P b0 mi E) 5 3 = some (3, 0, mL_law) := rfl
theorem mt_5_11 : mx_tm (gt_P b0 mi E) 5 11 = some (1, 0, mJx4a65c_init_da8c8) := rfl
theorem mt_5_49 : mx_tm (gt_P b0 mi E) 5 49 = some (0, 0, mJx4a65c_size_8abf5) := rfl
theorem mt_5_52 : mx_tm (gt_P b0 mi E) 5 52 = some (0, 1, mJx4a65c_get_915e3) := rfl
theorem mt_5_64 : mx_tm (gt_P b0 mi E) 5 64 = some (1, 2, mX12_init) := rfl
theorem mt_5_67 : mx_tm (gt_P b0 mi E) 5 67 = some (0, 1, mJx4a65c_add_9ea2d) := rfl
theorem mt_5_71 : mx_tm (gt_P b0 mi E) 5 71 = some (0, 1, mX5_agreesWherePatched) := rfl
theorem mt_5_75 : mx_tm (gt_P b0 mi E) 5 75 = some (0, 1, mX5_byteAt) := rfl
theorem mt_5_83 : mx_tm (gt_P b0 mi E) 5 83 = some (0, 0, mX5_isKept) := rfl
theorem mt_5_95 : mx_tm (gt_P b0 mi E) 5 95 = some (0, 0, mX5_endWithoutVeneers) := rfl
theorem mt_5_99 : mx_tm (gt_P b0 mi E) 5 99 = some (2, 2, mX5_alignedUp) := rfl
theorem mt_5_108 : mx_tm (gt_P b0 mi E) 5 108 = some (0, 1, mX5_placeOfVeneer) := rfl
theorem ft_6_9 : mx_tf (gt_P b0 mi E) 6 9 = some (6, 0, .int, true) := rfl
theorem ft_6_15 : mx_tf (gt_P b0 mi E) 6 15 = some (6, 1, .int, true) := rfl
theorem ft_6_18 : mx_tf (gt_P b0 mi E) 6 18 = some (6, 2, .object "SectionGarden$Section", true) := rfl
theorem ft_6_22 : mx_tf (gt_P b0 mi E) 6 22 = some (6, 3, .int, true) := rfl
theorem ft_6_25 : mx_tf (gt_P b0 mi E) 6 25 = some (6, 4, .int, true) := rfl
theorem ft_6_28 : mx_tf (gt_P b0 mi E) 6 28 = some (6, 5, .int, true) := rfl
theorem ft_6_31 : mx_tf (gt_P b0 mi E) 6 31 = some (6, 6, .int, true) := rfl
theorem ft_6_34 : mx_tf (gt_P b0 mi E) 6 34 = some (5, 11, .boolean, false) := rfl
theorem ft_6_40 : mx_tf (gt_P b0 mi E) 6 40 = some (6, 7, .object "SectionGarden$Section", false) := rfl
theorem ft_6_47 : mx_tf (gt_P b0 mi E) 6 47 = some (6, 8, .int, false) := rfl
theorem mt_6_3 : mx_tm (gt_P b0 mi E) 6 3 = some (3, 0, mL_law) := rfl
theorem mt_6_43 : mx_tm (gt_P b0 mi E) 6 43 = some (0, 0, mX6_targetSet) := rfl
theorem mt_6_50 : mx_tm (gt_P b0 mi E) 6 50 = some (0, 1, mX6_hasSetAndOffsetOf) := rfl
theorem ft_7_12 : mx_tf (gt_P b0 mi E) 7 12 = some (7, 0, .object "java/util/ArrayList", true) := rfl
theorem ft_7_18 : mx_tf (gt_P b0 mi E) 7 18 = some (7, 1, .object "java/util/ArrayList", true) := rfl
theorem ft_7_21 : mx_tf (gt_P b0 mi E) 7 21 = some (7, 2, .object "java/util/ArrayList", true) := rfl
theorem ft_7_24 : mx_tf (gt_P b0 mi E) 7 24 = some (7, 3, .array .int, true) := rfl
theorem ft_7_28 : mx_tf (gt_P b0 mi E) 7 28 = some (7, 4, .array .int, true) := rfl
theorem ft_7_31 : mx_tf (gt_P b0 mi E) 7 31 = some (7, 5, .int, false) := rfl
theorem ft_7_47 : mx_tf (gt_P b0 mi E) 7 47 = some (7, 6, .int, false) := rfl
theorem nt_7_9 : mx_tn (gt_P b0 mi E) 7 9 = some (10, [.int 0, .null, .int 0]) := rfl
theorem qt_7_43 : mx_tk (gt_P b0 mi E) 7 43 = some [5] := rfl
theorem qt_7_45 : mx_tk (gt_P b0 mi E) 7 45 = some [6] := rfl
theorem mt_7_3 : mx_tm (gt_P b0 mi E) 7 3 = some (3, 0, mL_law) := rfl
theorem mt_7_11 : mx_tm (gt_P b0 mi E) 7 11 = some (1, 0, mJx4a65c_init_da8c8) := rfl
theorem mt_7_35 : mx_tm (gt_P b0 mi E) 7 35 = some (0, 0, mJx4a65c_size_8abf5) := rfl
theorem mt_7_39 : mx_tm (gt_P b0 mi E) 7 39 = some (0, 1, mJx4a65c_get_915e3) := rfl
theorem ft_8_10 : mx_tf (gt_P b0 mi E) 8 10 = some (8, 0, .object "SectionGarden$Told", true) := rfl
theorem ft_8_19 : mx_tf (gt_P b0 mi E) 8 19 = some (8, 1, .object "SectionGarden$Names", true) := rfl
theorem ft_8_26 : mx_tf (gt_P b0 mi E) 8 26 = some (8, 2, .object "SectionGarden$Keeping", true) := rfl
theorem ft_8_33 : mx_tf (gt_P b0 mi E) 8 33 = some (8, 3, .object "SectionGarden$Folding", true) := rfl
theorem ft_8_40 : mx_tf (gt_P b0 mi E) 8 40 = some (8, 4, .object "SectionGarden$Placing", true) := rfl
theorem ft_8_44 : mx_tf (gt_P b0 mi E) 8 44 = some (8, 7, .int, false) := rfl
theorem ft_8_48 : mx_tf (gt_P b0 mi E) 8 48 = some (7, 5, .int, false) := rfl
theorem ft_8_62 : mx_tf (gt_P b0 mi E) 8 62 = some (7, 0, .object "java/util/ArrayList", true) := rfl
theorem ft_8_72 : mx_tf (gt_P b0 mi E) 8 72 = some (7, 7, .int, false) := rfl
theorem ft_8_85 : mx_tf (gt_P b0 mi E) 8 85 = some (5, 0, .int, true) := rfl
theorem ft_8_92 : mx_tf (gt_P b0 mi E) 8 92 = some (5, 2, .int, true) := rfl
theorem ft_8_95 : mx_tf (gt_P b0 mi E) 8 95 = some (5, 3, .int, true) := rfl
theorem ft_8_113 : mx_tf (gt_P b0 mi E) 8 113 = some (5, 1, .int, true) := rfl
theorem ft_8_119 : mx_tf (gt_P b0 mi E) 8 119 = some (7, 1, .object "java/util/ArrayList", true) := rfl
theorem ft_8_131 : mx_tf (gt_P b0 mi E) 8 131 = some (6, 0, .int, true) := rfl
theorem ft_8_145 : mx_tf (gt_P b0 mi E) 8 145 = some (7, 2, .object "java/util/ArrayList", true) := rfl
theorem ft_8_153 : mx_tf (gt_P b0 mi E) 8 153 = some (5, 6, .object "java/util/ArrayList", true) := rfl
theorem ft_8_157 : mx_tf (gt_P b0 mi E) 8 157 = some (7, 6, .int, false) := rfl
theorem ft_8_161 : mx_tf (gt_P b0 mi E) 8 161 = some (7, 4, .array .int, true) := rfl
theorem ft_8_176 : mx_tf (gt_P b0 mi E) 8 176 = some (8, 5, .boolean, false) := rfl
theorem ft_8_190 : mx_tf (gt_P b0 mi E) 8 190 = some (8, 6, .boolean, false) := rfl
theorem ft_8_197 : mx_tf (gt_P b0 mi E) 8 197 = some (5, 13, .object "SectionGarden$Section", false) := rfl
theorem ft_8_205 : mx_tf (gt_P b0 mi E) 8 205 = some (5, 17, .object "SectionGarden$Section", false) := rfl
theorem ft_8_208 : mx_tf (gt_P b0 mi E) 8 208 = some (5, 11, .boolean, false) := rfl
theorem ft_8_211 : mx_tf (gt_P b0 mi E) 8 211 = some (5, 12, .int, false) := rfl
theorem ft_8_232 : mx_tf (gt_P b0 mi E) 8 232 = some (6, 7, .object "SectionGarden$Section", false) := rfl
theorem ft_8_248 : mx_tf (gt_P b0 mi E) 8 248 = some (5, 18, .long, false) := rfl
theorem ft_8_263 : mx_tf (gt_P b0 mi E) 8 263 = some (3, 1, .array .long, true) := rfl
theorem ft_8_267 : mx_tf (gt_P b0 mi E) 8 267 = some (3, 0, .array .long, true) := rfl
theorem ft_8_270 : mx_tf (gt_P b0 mi E) 8 270 = some (5, 19, .int, false) := rfl
theorem ft_8_273 : mx_tf (gt_P b0 mi E) 8 273 = some (1, 0, .object "java/util/ArrayList", true) := rfl
theorem ft_8_276 : mx_tf (gt_P b0 mi E) 8 276 = some (0, 0, .int, false) := rfl
theorem ft_8_279 : mx_tf (gt_P b0 mi E) 8 279 = some (3, 5, .int, false) := rfl
theorem ft_8_282 : mx_tf (gt_P b0 mi E) 8 282 = some (3, 6, .int, false) := rfl
theorem ct_8_75 : mx_tc (gt_P b0 mi E) 8 75 = some (.int (60000)) := rfl
theorem ct_8_160 : mx_tc (gt_P b0 mi E) 8 160 = some (.int (2000000000)) := rfl
theorem nt_8_7 : mx_tn (gt_P b0 mi E) 8 7 = some (7, [.null, .null, .null, .null, .null, .int 0, .int 0, .int 0]) := rfl
theorem nt_8_16 : mx_tn (gt_P b0 mi E) 8 16 = some (2, [.null, .null]) := rfl
theorem nt_8_23 : mx_tn (gt_P b0 mi E) 8 23 = some (1, [.null]) := rfl
theorem nt_8_30 : mx_tn (gt_P b0 mi E) 8 30 = some (0, [.int 0]) := rfl
theorem nt_8_37 : mx_tn (gt_P b0 mi E) 8 37 = some (3, [.null, .null, .null, .null, .null, .int 0, .int 0]) := rfl
theorem nt_8_76 : mx_tn (gt_P b0 mi E) 8 76 = some (5, [.int 0, .int 0, .int 0, .int 0, .int 0, .int 0, .null, .null, .int 0, .int 0, .int 0, .int 0, .int 0, .null, .int 0, .null, .null, .null, .long 0, .int 0]) := rfl
theorem nt_8_122 : mx_tn (gt_P b0 mi E) 8 122 = some (6, [.int 0, .int 0, .null, .int 0, .int 0, .int 0, .int 0, .null, .int 0]) := rfl
theorem nt_8_148 : mx_tn (gt_P b0 mi E) 8 148 = some (4, [.null, .int 0, .null, .null, .int 0, .int 0]) := rfl
theorem qt_8_76 : mx_tk (gt_P b0 mi E) 8 76 = some [5] := rfl
theorem st_8_141 : mx_ts (gt_P b0 mi E) 8 141 = some (.ref (E 3)) := rfl
theorem st_8_301 : mx_ts (gt_P b0 mi E) 8 301 = some (.ref (E 5)) := rfl
theorem mt_8_1 : mx_tm (gt_P b0 mi E) 8 1 = some (3, 0, mL_law) := rfl
theorem mt_8_9 : mx_tm (gt_P b0 mi E) 8 9 = some (11, 0, mX7_init) := rfl
theorem mt_8_18 : mx_tm (gt_P b0 mi E) 8 18 = some (11, 0, mX2_init) := rfl
theorem mt_8_25 : mx_tm (gt_P b0 mi E) 8 25 = some (11, 0, mX1_init) := rfl
theorem mt_8_32 : mx_tm (gt_P b0 mi E) 8 32 = some (11, 0, mX0_init) := rfl
theorem mt_8_39 : mx_tm (gt_P b0 mi E) 8 39 = some (11, 0, mX3_init) := rfl
theorem mt_8_51 : mx_tm (gt_P b0 mi E) 8 51 = some (0, 0, mX9_forgetLink) := rfl
theorem mt_8_54 : mx_tm (gt_P b0 mi E) 8 54 = some (0, 1, mX7_hasObject) := rfl
theorem mt_8_58 : mx_tm (gt_P b0 mi E) 8 58 = some (2, 3, mX9_isWithin) := rfl
theorem mt_8_66 : mx_tm (gt_P b0 mi E) 8 66 = some (0, 0, mJx4a65c_size_8abf5) := rfl
theorem mt_8_78 : mx_tm (gt_P b0 mi E) 8 78 = some (1, 6, mX5_init) := rfl
theorem mt_8_81 : mx_tm (gt_P b0 mi E) 8 81 = some (0, 1, mJx4a65c_add_9ea2d) := rfl
theorem mt_8_88 : mx_tm (gt_P b0 mi E) 8 88 = some (0, 1, mX7_sectionAt) := rfl
theorem mt_8_97 : mx_tm (gt_P b0 mi E) 8 97 = some (0, 1, mX5_byteAt) := rfl
theorem mt_8_101 : mx_tm (gt_P b0 mi E) 8 101 = some (0, 2, mX5_setByte) := rfl
theorem mt_8_105 : mx_tm (gt_P b0 mi E) 8 105 = some (2, 2, mX9_isMark) := rfl
theorem mt_8_109 : mx_tm (gt_P b0 mi E) 8 109 = some (0, 2, mX5_exchangeMark) := rfl
theorem mt_8_116 : mx_tm (gt_P b0 mi E) 8 116 = some (2, 2, mX9_isSortFor) := rfl
theorem mt_8_124 : mx_tm (gt_P b0 mi E) 8 124 = some (1, 6, mX6_init) := rfl
theorem mt_8_127 : mx_tm (gt_P b0 mi E) 8 127 = some (0, 1, mX7_symbolAt) := rfl
theorem mt_8_132 : mx_tm (gt_P b0 mi E) 8 132 = some (2, 1, mX9_typeAt) := rfl
theorem mt_8_150 : mx_tm (gt_P b0 mi E) 8 150 = some (1, 5, mX4_init) := rfl
theorem mt_8_154 : mx_tm (gt_P b0 mi E) 8 154 = some (0, 1, mX7_addRoot) := rfl
theorem mt_8_165 : mx_tm (gt_P b0 mi E) 8 165 = some (0, 1, mX2_resolve) := rfl
theorem mt_8_169 : mx_tm (gt_P b0 mi E) 8 169 = some (0, 2, mX1_find) := rfl
theorem mt_8_173 : mx_tm (gt_P b0 mi E) 8 173 = some (0, 2, mX0_find) := rfl
theorem mt_8_180 : mx_tm (gt_P b0 mi E) 8 180 = some (0, 0, mX9_faultBeforePlacing) := rfl
theorem mt_8_183 : mx_tm (gt_P b0 mi E) 8 183 = some (0, 1, mX3_run) := rfl
theorem mt_8_187 : mx_tm (gt_P b0 mi E) 8 187 = some (0, 0, mX9_faultOfPlaces) := rfl
theorem mt_8_193 : mx_tm (gt_P b0 mi E) 8 193 = some (0, 0, mX5_isKept) := rfl
theorem mt_8_201 : mx_tm (gt_P b0 mi E) 8 201 = some (2, 1, mX9_numberOf) := rfl
theorem mt_8_226 : mx_tm (gt_P b0 mi E) 8 226 = some (0, 0, mX5_finalPlace) := rfl
theorem mt_8_237 : mx_tm (gt_P b0 mi E) 8 237 = some (0, 1, mX3_targetValue) := rfl
theorem mt_8_241 : mx_tm (gt_P b0 mi E) 8 241 = some (0, 1, mJx4a65c_get_915e3) := rfl
theorem mt_8_245 : mx_tm (gt_P b0 mi E) 8 245 = some (0, 0, mX5_isPlaced) := rfl
theorem mt_8_252 : mx_tm (gt_P b0 mi E) 8 252 = some (0, 0, mX5_endWithVeneers) := rfl
theorem mt_8_255 : mx_tm (gt_P b0 mi E) 8 255 = some (0, 2, mX3_imageByte) := rfl
theorem mt_8_285 : mx_tm (gt_P b0 mi E) 8 285 = some (0, 1, mX2_firstRootNowhere) := rfl
theorem mt_8_288 : mx_tm (gt_P b0 mi E) 8 288 = some (0, 1, mX1_firstNowhere) := rfl
theorem mt_8_292 : mx_tm (gt_P b0 mi E) 8 292 = some (0, 1, mX1_firstIntoLost) := rfl
theorem mt_8_295 : mx_tm (gt_P b0 mi E) 8 295 = some (0, 0, mX3_firstKindOverAnother) := rfl
theorem mt_8_298 : mx_tm (gt_P b0 mi E) 8 298 = some (0, 1, mX3_firstMisfit) := rfl
theorem et_8_136 (a : Nat) : mx_te (gt_P b0 mi E) 8 136 a = gt_ev E 0 a := rfl
theorem ft_9_1 : mx_tf (gt_P b0 mi E) 9 1 = some (9, 0, .int, false) := rfl
theorem ft_9_13 : mx_tf (gt_P b0 mi E) 9 13 = some (9, 3, .array .int, true) := rfl
theorem ft_9_17 : mx_tf (gt_P b0 mi E) 9 17 = some (9, 4, .array .int, true) := rfl
theorem ft_9_20 : mx_tf (gt_P b0 mi E) 9 20 = some (9, 5, .array .int, true) := rfl
theorem ft_9_23 : mx_tf (gt_P b0 mi E) 9 23 = some (9, 6, .array .int, true) := rfl
theorem ft_9_26 : mx_tf (gt_P b0 mi E) 9 26 = some (9, 7, .array .int, true) := rfl
theorem ft_9_29 : mx_tf (gt_P b0 mi E) 9 29 = some (9, 8, .array .boolean, true) := rfl
theorem ft_9_33 : mx_tf (gt_P b0 mi E) 9 33 = some (9, 9, .array .int, true) := rfl
theorem ft_9_36 : mx_tf (gt_P b0 mi E) 9 36 = some (9, 10, .array .int, true) := rfl
theorem ft_9_40 : mx_tf (gt_P b0 mi E) 9 40 = some (9, 11, .array .int, true) := rfl
theorem ft_9_43 : mx_tf (gt_P b0 mi E) 9 43 = some (9, 15, .array .int, true) := rfl
theorem ft_9_46 : mx_tf (gt_P b0 mi E) 9 46 = some (9, 16, .array .int, true) := rfl
theorem ft_9_49 : mx_tf (gt_P b0 mi E) 9 49 = some (9, 17, .array .int, true) := rfl
theorem ft_9_52 : mx_tf (gt_P b0 mi E) 9 52 = some (9, 18, .array .int, true) := rfl
theorem ft_9_55 : mx_tf (gt_P b0 mi E) 9 55 = some (9, 19, .array .int, true) := rfl
theorem ft_9_58 : mx_tf (gt_P b0 mi E) 9 58 = some (9, 21, .array .int, true) := rfl
theorem ft_9_61 : mx_tf (gt_P b0 mi E) 9 61 = some (9, 22, .array .int, true) := rfl
theorem ft_9_64 : mx_tf (gt_P b0 mi E) 9 64 = some (9, 23, .array .int, true) := rfl
theorem ft_9_67 : mx_tf (gt_P b0 mi E) 9 67 = some (9, 24, .array .int, true) := rfl
theorem ft_9_70 : mx_tf (gt_P b0 mi E) 9 70 = some (9, 25, .array .int, true) := rfl
theorem ft_9_73 : mx_tf (gt_P b0 mi E) 9 73 = some (9, 27, .array .int, true) := rfl
theorem ft_9_78 : mx_tf (gt_P b0 mi E) 9 78 = some (9, 28, .array .long, true) := rfl
theorem ft_9_82 : mx_tf (gt_P b0 mi E) 9 82 = some (9, 32, .int, false) := rfl
theorem ft_9_85 : mx_tf (gt_P b0 mi E) 9 85 = some (9, 33, .array .boolean, true) := rfl
theorem ft_9_88 : mx_tf (gt_P b0 mi E) 9 88 = some (9, 34, .array .int, true) := rfl
theorem ft_9_91 : mx_tf (gt_P b0 mi E) 9 91 = some (9, 35, .array .int, true) := rfl
theorem ft_9_94 : mx_tf (gt_P b0 mi E) 9 94 = some (9, 36, .array .int, true) := rfl
theorem ft_9_97 : mx_tf (gt_P b0 mi E) 9 97 = some (9, 37, .array .int, true) := rfl
theorem ft_9_100 : mx_tf (gt_P b0 mi E) 9 100 = some (9, 38, .array .int, true) := rfl
theorem ft_9_103 : mx_tf (gt_P b0 mi E) 9 103 = some (9, 40, .array .boolean, true) := rfl
theorem ft_9_106 : mx_tf (gt_P b0 mi E) 9 106 = some (9, 41, .array .int, true) := rfl
theorem ft_9_109 : mx_tf (gt_P b0 mi E) 9 109 = some (9, 42, .array .int, true) := rfl
theorem ft_9_112 : mx_tf (gt_P b0 mi E) 9 112 = some (9, 43, .array .int, true) := rfl
theorem ft_9_115 : mx_tf (gt_P b0 mi E) 9 115 = some (9, 44, .array .boolean, true) := rfl
theorem ft_9_118 : mx_tf (gt_P b0 mi E) 9 118 = some (9, 45, .array .boolean, true) := rfl
theorem ft_9_121 : mx_tf (gt_P b0 mi E) 9 121 = some (9, 46, .array .long, true) := rfl
theorem ft_9_124 : mx_tf (gt_P b0 mi E) 9 124 = some (9, 47, .array .long, true) := rfl
theorem ft_9_127 : mx_tf (gt_P b0 mi E) 9 127 = some (9, 48, .array .long, true) := rfl
theorem ft_9_130 : mx_tf (gt_P b0 mi E) 9 130 = some (9, 51, .array .int, true) := rfl
theorem ft_9_133 : mx_tf (gt_P b0 mi E) 9 133 = some (9, 52, .array .int, true) := rfl
theorem ft_9_136 : mx_tf (gt_P b0 mi E) 9 136 = some (9, 53, .array .int, true) := rfl
theorem ft_9_139 : mx_tf (gt_P b0 mi E) 9 139 = some (9, 29, .boolean, false) := rfl
theorem ft_9_143 : mx_tf (gt_P b0 mi E) 9 143 = some (9, 30, .boolean, false) := rfl
theorem ft_9_146 : mx_tf (gt_P b0 mi E) 9 146 = some (9, 31, .int, false) := rfl
theorem ft_9_149 : mx_tf (gt_P b0 mi E) 9 149 = some (9, 1, .int, false) := rfl
theorem ft_9_165 : mx_tf (gt_P b0 mi E) 9 165 = some (9, 2, .int, false) := rfl
theorem ft_9_168 : mx_tf (gt_P b0 mi E) 9 168 = some (9, 13, .int, false) := rfl
theorem ft_9_171 : mx_tf (gt_P b0 mi E) 9 171 = some (9, 12, .int, false) := rfl
theorem ft_9_186 : mx_tf (gt_P b0 mi E) 9 186 = some (9, 14, .int, false) := rfl
theorem ft_9_195 : mx_tf (gt_P b0 mi E) 9 195 = some (9, 20, .int, false) := rfl
theorem ft_9_198 : mx_tf (gt_P b0 mi E) 9 198 = some (9, 26, .int, false) := rfl
theorem ft_9_203 : mx_tf (gt_P b0 mi E) 9 203 = some (9, 39, .int, false) := rfl
theorem ft_9_227 : mx_tf (gt_P b0 mi E) 9 227 = some (9, 50, .int, false) := rfl
theorem ft_9_230 : mx_tf (gt_P b0 mi E) 9 230 = some (9, 49, .int, false) := rfl
theorem ct_9_39 : mx_tc (gt_P b0 mi E) 9 39 = some (.int (60000)) := rfl
theorem ct_9_76 : mx_tc (gt_P b0 mi E) 9 76 = some (.long (-1)) := rfl
theorem ct_9_159 : mx_tc (gt_P b0 mi E) 9 159 = some (.long (3)) := rfl
theorem ct_9_161 : mx_tc (gt_P b0 mi E) 9 161 = some (.long (20000)) := rfl
theorem ct_9_163 : mx_tc (gt_P b0 mi E) 9 163 = some (.long (8)) := rfl
theorem ct_9_178 : mx_tc (gt_P b0 mi E) 9 178 = some (.long (2)) := rfl
theorem ct_9_180 : mx_tc (gt_P b0 mi E) 9 180 = some (.long (7)) := rfl
theorem ct_9_182 : mx_tc (gt_P b0 mi E) 9 182 = some (.long (15)) := rfl
theorem ct_9_184 : mx_tc (gt_P b0 mi E) 9 184 = some (.long (63)) := rfl
theorem ct_9_189 : mx_tc (gt_P b0 mi E) 9 189 = some (.long (4)) := rfl
theorem ct_9_201 : mx_tc (gt_P b0 mi E) 9 201 = some (.long (2000000000)) := rfl
theorem ct_9_233 : mx_tc (gt_P b0 mi E) 9 233 = some (.long (4096)) := rfl
theorem ct_9_252 : mx_tc (gt_P b0 mi E) 9 252 = some (.long (-32768)) := rfl
theorem ct_9_254 : mx_tc (gt_P b0 mi E) 9 254 = some (.long (32767)) := rfl
theorem ct_9_298 : mx_tc (gt_P b0 mi E) 9 298 = some (.long (4294967295)) := rfl
theorem ct_9_300 : mx_tc (gt_P b0 mi E) 9 300 = some (.long (65535)) := rfl
theorem ct_9_302 : mx_tc (gt_P b0 mi E) 9 302 = some (.long (-2147483648)) := rfl
theorem ct_9_304 : mx_tc (gt_P b0 mi E) 9 304 = some (.long (2147483647)) := rfl
theorem ct_9_306 : mx_tc (gt_P b0 mi E) 9 306 = some (.long (-128)) := rfl
theorem ct_9_308 : mx_tc (gt_P b0 mi E) 9 308 = some (.long (255)) := rfl
theorem mt_9_7 : mx_tm (gt_P b0 mi E) 9 7 = some (3, 0, mL_law) := rfl
theorem mt_9_152 : mx_tm (gt_P b0 mi E) 9 152 = some (0, 0, mX10_told) := rfl
theorem mt_9_155 : mx_tm (gt_P b0 mi E) 9 155 = some (2, 3, mX10_in) := rfl
theorem mt_9_174 : mx_tm (gt_P b0 mi E) 9 174 = some (0, 1, mX10_hasBytes) := rfl
theorem mt_9_191 : mx_tm (gt_P b0 mi E) 9 191 = some (2, 1, mX10_wide) := rfl
theorem mt_9_206 : mx_tm (gt_P b0 mi E) 9 206 = some (0, 2, mX10_keeps) := rfl
theorem mt_9_210 : mx_tm (gt_P b0 mi E) 9 210 = some (0, 2, mX10_comesBy) := rfl
theorem mt_9_213 : mx_tm (gt_P b0 mi E) 9 213 = some (0, 1, mX10_relocationsOf) := rfl
theorem mt_9_216 : mx_tm (gt_P b0 mi E) 9 216 = some (0, 2, mX10_nth) := rfl
theorem mt_9_220 : mx_tm (gt_P b0 mi E) 9 220 = some (0, 2, mX10_startsAlike) := rfl
theorem mt_9_224 : mx_tm (gt_P b0 mi E) 9 224 = some (0, 2, mX10_staysAlike) := rfl
theorem mt_9_235 : mx_tm (gt_P b0 mi E) 9 235 = some (0, 1, mX10_isPlaced) := rfl
theorem mt_9_238 : mx_tm (gt_P b0 mi E) 9 238 = some (2, 2, mX10_up) := rfl
theorem mt_9_242 : mx_tm (gt_P b0 mi E) 9 242 = some (0, 1, mX10_veneersOf) := rfl
theorem mt_9_245 : mx_tm (gt_P b0 mi E) 9 245 = some (0, 1, mX10_placeOf) := rfl
theorem mt_9_249 : mx_tm (gt_P b0 mi E) 9 249 = some (0, 1, mX10_valueOf) := rfl
theorem mt_9_256 : mx_tm (gt_P b0 mi E) 9 256 = some (0, 0, mX10_placeAll) := rfl
theorem mt_9_259 : mx_tm (gt_P b0 mi E) 9 259 = some (0, 1, mX10_v) := rfl
theorem mt_9_262 : mx_tm (gt_P b0 mi E) 9 262 = some (0, 1, mX10_isBranchNear) := rfl
theorem mt_9_266 : mx_tm (gt_P b0 mi E) 9 266 = some (0, 2, mX10_sameAim) := rfl
theorem mt_9_269 : mx_tm (gt_P b0 mi E) 9 269 = some (0, 0, mX10_names) := rfl
theorem mt_9_273 : mx_tm (gt_P b0 mi E) 9 273 = some (0, 2, mX10_bad) := rfl
theorem mt_9_276 : mx_tm (gt_P b0 mi E) 9 276 = some (0, 0, mX10_keepAll) := rfl
theorem mt_9_279 : mx_tm (gt_P b0 mi E) 9 279 = some (0, 1, mX10_foldAll) := rfl
theorem mt_9_283 : mx_tm (gt_P b0 mi E) 9 283 = some (0, 0, mX10_veneerAll) := rfl
theorem mt_9_286 : mx_tm (gt_P b0 mi E) 9 286 = some (0, 1, mX10_hasPlaced) := rfl
theorem mt_9_289 : mx_tm (gt_P b0 mi E) 9 289 = some (0, 1, mX10_fits) := rfl
theorem mt_9_292 : mx_tm (gt_P b0 mi E) 9 292 = some (0, 1, mX10_veneerPlace) := rfl
theorem mt_9_295 : mx_tm (gt_P b0 mi E) 9 295 = some (0, 1, mX10_written) := rfl
theorem mt_9_310 : mx_tm (gt_P b0 mi E) 9 310 = some (0, 2, mX10_byteOf) := rfl
theorem mt_9_313 : mx_tm (gt_P b0 mi E) 9 313 = some (0, 1, mX10_found) := rfl
theorem ft_10_9 : mx_tf (gt_P b0 mi E) 10 9 = some (10, 1, .array (.object "java/lang/Object"), false) := rfl
theorem ft_10_48 : mx_tf (gt_P b0 mi E) 10 48 = some (10, 2, .int, false) := rfl
theorem ft_10_63 : mx_tf (gt_P b0 mi E) 10 63 = some (10, 0, .int, false) := rfl
theorem at_10_7 : mx_ta (gt_P b0 mi E) 10 7 = some 4 := rfl
theorem st_10_39 : mx_ts (gt_P b0 mi E) 10 39 = some (.ref (E 6)) := rfl
theorem mt_10_1 : mx_tm (gt_P b0 mi E) 10 1 = some (1, 0, mJxc12de_init_da8c8) := rfl
theorem mt_10_66 : mx_tm (gt_P b0 mi E) 10 66 = some (2, 2, mJ7_copyOf_1904c) := rfl
theorem mt_10_69 : mx_tm (gt_P b0 mi E) 10 69 = some (0, 1, mJx4a65c_grow_92f84) := rfl
theorem mt_10_73 : mx_tm (gt_P b0 mi E) 10 73 = some (2, 3, mJ8_newLength_cabcc) := rfl
theorem mt_10_79 : mx_tm (gt_P b0 mi E) 10 79 = some (23, 2, mL_law) := rfl
theorem mt_10_118 : mx_tm (gt_P b0 mi E) 10 118 = some (2, 2, mJ15_checkIndex_7cf53) := rfl
theorem mt_10_123 : mx_tm (gt_P b0 mi E) 10 123 = some (0, 1, mJx4a65c_elementData_915e3) := rfl
theorem mt_10_129 : mx_tm (gt_P b0 mi E) 10 129 = some (0, 0, mJx4a65c_grow_d5877) := rfl
theorem mt_10_131 : mx_tm (gt_P b0 mi E) 10 131 = some (0, 3, mJx4a65c_add_72be8) := rfl
theorem ft_11_7 : mx_tf (gt_P b0 mi E) 11 7 = some (11, 0, .int, true) := rfl
theorem ft_11_13 : mx_tf (gt_P b0 mi E) 11 13 = some (11, 1, .int, false) := rfl
theorem mt_11_1 : mx_tm (gt_P b0 mi E) 11 1 = some (3, 0, mL_law) := rfl
theorem ct_12_90 : mx_tc (gt_P b0 mi E) 12 90 = some (.long (4294967295)) := rfl
theorem nt_12_8 : mx_tn (gt_P b0 mi E) 12 8 = some (8, [.null, .null, .null, .null, .null, .int 0, .int 0, .int 0]) := rfl
theorem nt_12_25 : mx_tn (gt_P b0 mi E) 12 25 = some (9, [.int 0, .int 0, .int 0, .null, .null, .null, .null, .null, .null, .null, .null, .null, .int 0, .int 0, .int 0, .null, .null, .null, .null, .null, .int 0, .null, .null, .null, .null, .null, .int 0, .null, .null, .int 0, .int 0, .int 0, .int 0, .null, .null, .null, .null, .null, .null, .int 0, .null, .null, .null, .null, .null, .null, .null, .null, .null, .int 0, .int 0, .null, .null, .null]) := rfl
theorem mt_12_7 : mx_tm (gt_P b0 mi E) 12 7 = some (0, 1, mX9_place) := rfl
theorem mt_12_17 : mx_tm (gt_P b0 mi E) 12 17 = some (0, 1, mX9_value) := rfl
theorem mt_12_20 : mx_tm (gt_P b0 mi E) 12 20 = some (0, 2, mX9_range) := rfl
theorem mt_12_24 : mx_tm (gt_P b0 mi E) 12 24 = some (1, 0, mX9_init) := rfl
theorem mt_12_27 : mx_tm (gt_P b0 mi E) 12 27 = some (1, 0, mX10_init) := rfl
theorem mt_12_28 : mx_tm (gt_P b0 mi E) 12 28 = some (0, 0, mX9_object) := rfl
theorem mt_12_32 : mx_tm (gt_P b0 mi E) 12 32 = some (0, 0, mX10_object) := rfl
theorem mt_12_33 : mx_tm (gt_P b0 mi E) 12 33 = some (0, 5, mX9_section) := rfl
theorem mt_12_37 : mx_tm (gt_P b0 mi E) 12 37 = some (0, 5, mX10_section) := rfl
theorem mt_12_38 : mx_tm (gt_P b0 mi E) 12 38 = some (0, 3, mX9_patch) := rfl
theorem mt_12_42 : mx_tm (gt_P b0 mi E) 12 42 = some (0, 3, mX10_patch) := rfl
theorem mt_12_43 : mx_tm (gt_P b0 mi E) 12 43 = some (0, 3, mX9_mark) := rfl
theorem mt_12_46 : mx_tm (gt_P b0 mi E) 12 46 = some (0, 3, mX10_mark) := rfl
theorem mt_12_47 : mx_tm (gt_P b0 mi E) 12 47 = some (0, 5, mX9_symbol) := rfl
theorem mt_12_50 : mx_tm (gt_P b0 mi E) 12 50 = some (0, 5, mX10_symbol) := rfl
theorem mt_12_51 : mx_tm (gt_P b0 mi E) 12 51 = some (0, 5, mX9_relocation) := rfl
theorem mt_12_54 : mx_tm (gt_P b0 mi E) 12 54 = some (0, 5, mX10_relocation) := rfl
theorem mt_12_55 : mx_tm (gt_P b0 mi E) 12 55 = some (0, 1, mX9_root) := rfl
theorem mt_12_59 : mx_tm (gt_P b0 mi E) 12 59 = some (0, 1, mX10_root) := rfl
theorem mt_12_60 : mx_tm (gt_P b0 mi E) 12 60 = some (0, 2, mX9_base) := rfl
theorem mt_12_64 : mx_tm (gt_P b0 mi E) 12 64 = some (0, 2, mX10_base) := rfl
theorem mt_12_65 : mx_tm (gt_P b0 mi E) 12 65 = some (0, 1, mX9_link) := rfl
theorem mt_12_69 : mx_tm (gt_P b0 mi E) 12 69 = some (0, 1, mX10_link) := rfl
theorem mt_12_70 : mx_tm (gt_P b0 mi E) 12 70 = some (0, 0, mX9_fault) := rfl
theorem mt_12_73 : mx_tm (gt_P b0 mi E) 12 73 = some (0, 0, mX10_fault) := rfl
theorem mt_12_74 : mx_tm (gt_P b0 mi E) 12 74 = some (0, 2, mX9_kept) := rfl
theorem mt_12_77 : mx_tm (gt_P b0 mi E) 12 77 = some (0, 2, mX10_kept) := rfl
theorem mt_12_83 : mx_tm (gt_P b0 mi E) 12 83 = some (0, 1, mX10_place) := rfl
theorem mt_12_84 : mx_tm (gt_P b0 mi E) 12 84 = some (0, 0, mX10_thrown) := rfl
theorem mt_12_89 : mx_tm (gt_P b0 mi E) 12 89 = some (0, 1, mX10_value) := rfl
theorem mt_12_92 : mx_tm (gt_P b0 mi E) 12 92 = some (0, 1, mX9_octet) := rfl
theorem mt_12_96 : mx_tm (gt_P b0 mi E) 12 96 = some (0, 1, mX10_octet) := rfl
theorem mt_12_100 : mx_tm (gt_P b0 mi E) 12 100 = some (0, 2, mX10_range) := rfl
theorem mt_12_101 : mx_tm (gt_P b0 mi E) 12 101 = some (0, 1, mX9_veneers) := rfl
theorem mt_12_104 : mx_tm (gt_P b0 mi E) 12 104 = some (0, 1, mX10_veneers) := rfl
theorem mt_12_105 : mx_tm (gt_P b0 mi E) 12 105 = some (0, 1, mX9_count) := rfl
theorem mt_12_108 : mx_tm (gt_P b0 mi E) 12 108 = some (0, 1, mX10_count) := rfl
theorem et_13_46 (a : Nat) : mx_te (gt_P b0 mi E) 13 46 a = gt_ev E 2 a := rfl
theorem et_13_50 (a : Nat) : mx_te (gt_P b0 mi E) 13 50 a = gt_ev E 3 a := rfl
theorem mt_15_1 : mx_tm (gt_P b0 mi E) 15 1 = some (3, 0, mL_law) := rfl
theorem ft_16_7 : mx_tf (gt_P b0 mi E) 16 7 = some (10, 0, .int, false) := rfl
theorem mt_16_1 : mx_tm (gt_P b0 mi E) 16 1 = some (1, 0, mJxa1e45_init_da8c8) := rfl
theorem ct_17_110 : mx_tc (gt_P b0 mi E) 17 110 = some (.ref mi) := rfl
theorem at_17_2 : mx_ta (gt_P b0 mi E) 17 2 = some 4 := rfl
theorem mt_17_86 : mx_tm (gt_P b0 mi E) 17 86 = some (21, 0, mL_law) := rfl
theorem mt_17_150 : mx_tm (gt_P b0 mi E) 17 150 = some (20, 5, mL_law) := rfl
theorem mt_17_300 : mx_tm (gt_P b0 mi E) 17 300 = some (2, 3, mJ7_copyOf_6403c) := rfl
theorem mt_17_304 : mx_tm (gt_P b0 mi E) 17 304 = some (22, 2, mL_law) := rfl
theorem mt_18_105 : mx_tm (gt_P b0 mi E) 18 105 = some (2, 3, mJ3_checkIndex_8e157) := rfl
theorem ct_19_200 : mx_tc (gt_P b0 mi E) 19 200 = some (.int (2147483639)) := rfl
theorem mt_19_194 : mx_tm (gt_P b0 mi E) 19 194 = some (23, 2, mL_law) := rfl
theorem mt_19_201 : mx_tm (gt_P b0 mi E) 19 201 = some (2, 2, mJ8_hugeLength_7cf53) := rfl
end
