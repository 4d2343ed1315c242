/-- a list of a class's pool entries, looked up -/
def gt_lu {α : Type} (t : List (List (Nat × α))) (c i : Nat) : Option α := ((t.getD c []).find? (fun e => Nat.beq e.1 i)).map (fun e => e.2)
def gt_cn : List String := [RX0, RX1, RX2, RX3, RX4, RX5, RX6, RX7, RX9, RX10, RJx4a65c, RX12, RL, RX8, RJ9, RJxa1e45, RJxc12de, RJ7, RJ15, RJ8, RJ3]
def gt_c (k : Nat) : String := gt_cn.getD k ""
def gt_cl : List vw_C := [(RX0, TX0, 1), (RX1, TX1, 1), (RX2, TX2, 2), (RX3, TX3, 7), (RX4, TX4, 6), (RX5, TX5, 20), (RX6, TX6, 9), (RX7, TX7, 8), (RX9, TX9, 8), (RX10, TX10, 54), (RJx4a65c, TJx4a65c, 3), (RX12, TX12, 2)]
abbrev mX0_init : mx_M := (0, yX0_init, cX0_init, 1, none, [], 1, 20)
abbrev mX0_find : mx_M := (0, yX0_find, cX0_find, 5, none, [], 8, 178)
abbrev mX0_findWhatMayFold : mx_M := (0, yX0_findWhatMayFold, cX0_findWhatMayFold, 5, none, [], 4, 87)
abbrev mX0_forbidWhatItTakesPlacesOf : mx_M := (0, yX0_forbidWhatItTakesPlacesOf, cX0_forbidWhatItTakesPlacesOf, 4, none, [], 3, 64)
abbrev mX0_joinKin : mx_M := (0, yX0_joinKin, cX0_joinKin, 6, none, [], 7, 153)
abbrev mX0_looksLike : mx_M := (0, yX0_looksLike, cX0_looksLike, 3, (some .boolean), [], 6, 131)
abbrev mX0_relocationsLookLike : mx_M := (0, yX0_relocationsLookLike, cX0_relocationsLookLike, 7, (some .boolean), [], 3, 64)
abbrev mX0_partKin : mx_M := (0, yX0_partKin, cX0_partKin, 5, (some .boolean), [], 5, 114)
abbrev mX0_firstOfTheSameKin : mx_M := (0, yX0_firstOfTheSameKin, cX0_firstOfTheSameKin, 6, (some (.object "SectionGarden$Section")), [], 4, 89)
abbrev mX0_targetsAreKin : mx_M := (0, yX0_targetsAreKin, cX0_targetsAreKin, 6, (some .boolean), [], 3, 64)
abbrev mX0_foldKin : mx_M := (0, yX0_foldKin, cX0_foldKin, 4, none, [], 3, 64)
abbrev mX1_init : mx_M := (1, yX1_init, cX1_init, 1, none, [], 4, 80)
abbrev mX1_find : mx_M := (1, yX1_find, cX1_find, 5, none, [], 10, 241)
abbrev mX1_firstNowhere : mx_M := (1, yX1_firstNowhere, cX1_firstNowhere, 5, (some .int), [], 3, 64)
abbrev mX1_firstIntoLost : mx_M := (1, yX1_firstIntoLost, cX1_firstIntoLost, 5, (some .int), [], 3, 64)
abbrev mX1_begin : mx_M := (1, yX1_begin, cX1_begin, 3, none, [], 8, 193)
abbrev mX1_admit : mx_M := (1, yX1_admit, cX1_admit, 3, none, [], 7, 171)
abbrev mX1_follow : mx_M := (1, yX1_follow, cX1_follow, 5, none, [], 9, 217)
abbrev mX1_admitSet : mx_M := (1, yX1_admitSet, cX1_admitSet, 5, none, [], 8, 193)
abbrev mX1_admitGroup : mx_M := (1, yX1_admitGroup, cX1_admitGroup, 4, none, [], 8, 193)
abbrev mX2_init : mx_M := (2, yX2_init, cX2_init, 1, none, [], 1, 20)
abbrev mX2_resolve : mx_M := (2, yX2_resolve, cX2_resolve, 3, (some .int), [], 4, 87)
abbrev mX2_definitionOf : mx_M := (2, yX2_definitionOf, cX2_definitionOf, 2, (some (.object "SectionGarden$Symbol")), [], 0, 0)
abbrev mX2_firstRootNowhere : mx_M := (2, yX2_firstRootNowhere, cX2_firstRootNowhere, 3, (some .int), [], 1, 21)
abbrev mX2_findLost : mx_M := (2, yX2_findLost, cX2_findLost, 4, none, [], 3, 64)
abbrev mX2_hasGroup : mx_M := (2, yX2_hasGroup, cX2_hasGroup, 2, (some .boolean), [], 0, 0)
abbrev mX2_findDefinitions : mx_M := (2, yX2_findDefinitions, cX2_findDefinitions, 4, (some .int), [], 3, 64)
abbrev mX2_takeDefinition : mx_M := (2, yX2_takeDefinition, cX2_takeDefinition, 4, (some .boolean), [], 1, 21)
abbrev mX2_findTargets : mx_M := (2, yX2_findTargets, cX2_findTargets, 4, none, [], 3, 64)
abbrev mX12_init : mx_M := (11, yX12_init, cX12_init, 3, none, [], 1, 20)
abbrev mX3_init : mx_M := (3, yX3_init, cX3_init, 1, none, [], 1, 20)
abbrev mX3_run : mx_M := (3, yX3_run, cX3_run, 4, none, [], 6, 136)
abbrev mX3_firstKindOverAnother : mx_M := (3, yX3_firstKindOverAnother, cX3_firstKindOverAnother, 4, (some .int), [], 0, 0)
abbrev mX3_firstMisfit : mx_M := (3, yX3_firstMisfit, cX3_firstMisfit, 4, (some .int), [], 3, 68)
abbrev mX3_targetValue : mx_M := (3, yX3_targetValue, cX3_targetValue, 2, (some .long), [], 1, 20)
abbrev mX3_imageByte : mx_M := (3, yX3_imageByte, cX3_imageByte, 6, (some .int), [2, 4], 5, 110)
abbrev mX3_dropVeneers : mx_M := (3, yX3_dropVeneers, cX3_dropVeneers, 3, none, [], 3, 64)
abbrev mX3_layOut : mx_M := (3, yX3_layOut, cX3_layOut, 5, none, [2], 4, 93)
abbrev mX3_layOutKind : mx_M := (3, yX3_layOutKind, cX3_layOutKind, 9, (some .long), [2, 5], 3, 65)
abbrev mX3_findSetEdges : mx_M := (3, yX3_findSetEdges, cX3_findSetEdges, 4, none, [], 3, 64)
abbrev mX3_widenSet : mx_M := (3, yX3_widenSet, cX3_widenSet, 6, none, [2, 4], 1, 24)
abbrev mX3_addVeneers : mx_M := (3, yX3_addVeneers, cX3_addVeneers, 4, (some .boolean), [], 5, 113)
abbrev mX3_addVeneersOf : mx_M := (3, yX3_addVeneersOf, cX3_addVeneersOf, 5, none, [], 4, 89)
abbrev mX3_veneerFor : mx_M := (3, yX3_veneerFor, cX3_veneerFor, 6, (some .int), [], 3, 64)
abbrev mX3_amountWritten : mx_M := (3, yX3_amountWritten, cX3_amountWritten, 4, (some .long), [2], 2, 45)
abbrev mX3_sectionByte : mx_M := (3, yX3_sectionByte, cX3_sectionByte, 5, (some .int), [], 4, 86)
abbrev mX3_veneerByte : mx_M := (3, yX3_veneerByte, cX3_veneerByte, 6, (some .int), [], 3, 64)
abbrev mX3_byteOf : mx_M := (3, yX3_byteOf, cX3_byteOf, 3, (some .int), [0], 0, 0)
abbrev mX4_init : mx_M := (4, yX4_init, cX4_init, 6, none, [], 1, 20)
abbrev mX4_ownPlace : mx_M := (4, yX4_ownPlace, cX4_ownPlace, 1, (some .long), [], 0, 0)
abbrev mX4_covers : mx_M := (4, yX4_covers, cX4_covers, 2, (some .boolean), [], 0, 0)
abbrev mX4_isWrittenLike : mx_M := (4, yX4_isWrittenLike, cX4_isWrittenLike, 2, (some .boolean), [], 0, 0)
abbrev mX5_init : mx_M := (5, yX5_init, cX5_init, 7, none, [], 4, 80)
abbrev mX5_byteAt : mx_M := (5, yX5_byteAt, cX5_byteAt, 3, (some .int), [], 3, 64)
abbrev mX5_setByte : mx_M := (5, yX5_setByte, cX5_setByte, 5, none, [], 7, 171)
abbrev mX5_hasBytesOf : mx_M := (5, yX5_hasBytesOf, cX5_hasBytesOf, 3, (some .boolean), [], 5, 109)
abbrev mX5_agreesWherePatched : mx_M := (5, yX5_agreesWherePatched, cX5_agreesWherePatched, 4, (some .boolean), [], 4, 86)
abbrev mX5_exchangeMark : mx_M := (5, yX5_exchangeMark, cX5_exchangeMark, 4, (some .int), [], 0, 0)
abbrev mX5_isKept : mx_M := (5, yX5_isKept, cX5_isKept, 1, (some .boolean), [], 0, 0)
abbrev mX5_isPlaced : mx_M := (5, yX5_isPlaced, cX5_isPlaced, 1, (some .boolean), [], 1, 20)
abbrev mX5_finalPlace : mx_M := (5, yX5_finalPlace, cX5_finalPlace, 1, (some .long), [], 0, 0)
abbrev mX5_endWithoutVeneers : mx_M := (5, yX5_endWithoutVeneers, cX5_endWithoutVeneers, 1, (some .long), [], 0, 0)
abbrev mX5_placeOfVeneer : mx_M := (5, yX5_placeOfVeneer, cX5_placeOfVeneer, 2, (some .long), [], 1, 24)
abbrev mX5_endWithVeneers : mx_M := (5, yX5_endWithVeneers, cX5_endWithVeneers, 1, (some .long), [], 2, 45)
abbrev mX5_alignedUp : mx_M := (5, yX5_alignedUp, cX5_alignedUp, 5, (some .long), [0, 3], 0, 0)
abbrev mX6_init : mx_M := (6, yX6_init, cX6_init, 9, none, [], 1, 20)
abbrev mX6_isDefinition : mx_M := (6, yX6_isDefinition, cX6_isDefinition, 1, (some .boolean), [], 0, 0)
abbrev mX6_targetSet : mx_M := (6, yX6_targetSet, cX6_targetSet, 1, (some .int), [], 0, 0)
abbrev mX6_isNowhere : mx_M := (6, yX6_isNowhere, cX6_isNowhere, 1, (some .boolean), [], 1, 20)
abbrev mX6_aimAt : mx_M := (6, yX6_aimAt, cX6_aimAt, 2, none, [], 0, 0)
abbrev mX6_hasSetAndOffsetOf : mx_M := (6, yX6_hasSetAndOffsetOf, cX6_hasSetAndOffsetOf, 2, (some .boolean), [], 0, 0)
abbrev mX6_hasTargetOf : mx_M := (6, yX6_hasTargetOf, cX6_hasTargetOf, 2, (some .boolean), [], 1, 21)
abbrev mX7_init : mx_M := (7, yX7_init, cX7_init, 1, none, [], 4, 80)
abbrev mX7_hasObject : mx_M := (7, yX7_hasObject, cX7_hasObject, 2, (some .boolean), [], 0, 0)
abbrev mX7_sectionAt : mx_M := (7, yX7_sectionAt, cX7_sectionAt, 2, (some (.object "SectionGarden$Section")), [], 3, 64)
abbrev mX7_symbolAt : mx_M := (7, yX7_symbolAt, cX7_symbolAt, 2, (some (.object "SectionGarden$Symbol")), [], 3, 64)
abbrev mX7_addRoot : mx_M := (7, yX7_addRoot, cX7_addRoot, 2, (some .boolean), [], 0, 0)
abbrev mX8_fits : mx_M := (13, yX8_fits, cX8_fits, 3, (some .boolean), [1], 0, 0)
abbrev mX9_init : mx_M := (8, yX9_init, cX9_init, 1, none, [], 5, 100)
abbrev mX9_object : mx_M := (8, yX9_object, cX9_object, 1, (some .int), [], 1, 20)
abbrev mX9_section : mx_M := (8, yX9_section, cX9_section, 7, (some .int), [], 7, 171)
abbrev mX9_patch : mx_M := (8, yX9_patch, cX9_patch, 6, (some .int), [], 8, 195)
abbrev mX9_mark : mx_M := (8, yX9_mark, cX9_mark, 5, (some .int), [], 4, 85)
abbrev mX9_symbol : mx_M := (8, yX9_symbol, cX9_symbol, 9, (some .int), [], 7, 171)
abbrev mX9_relocation : mx_M := (8, yX9_relocation, cX9_relocation, 10, (some .int), [], 7, 171)
abbrev mX9_root : mx_M := (8, yX9_root, cX9_root, 2, (some .int), [], 1, 22)
abbrev mX9_base : mx_M := (8, yX9_base, cX9_base, 4, (some .int), [], 1, 22)
abbrev mX9_link : mx_M := (8, yX9_link, cX9_link, 3, (some .int), [], 11, 265)
abbrev mX9_fault : mx_M := (8, yX9_fault, cX9_fault, 1, (some .int), [], 0, 0)
abbrev mX9_kept : mx_M := (8, yX9_kept, cX9_kept, 4, (some .int), [], 4, 85)
abbrev mX9_place : mx_M := (8, yX9_place, cX9_place, 3, (some .long), [], 6, 90)
abbrev mX9_value : mx_M := (8, yX9_value, cX9_value, 3, (some .long), [], 6, 90)
abbrev mX9_octet : mx_M := (8, yX9_octet, cX9_octet, 5, (some .int), [1], 6, 135)
abbrev mX9_range : mx_M := (8, yX9_range, cX9_range, 3, (some .long), [], 6, 90)
abbrev mX9_veneers : mx_M := (8, yX9_veneers, cX9_veneers, 3, (some .int), [], 4, 85)
abbrev mX9_count : mx_M := (8, yX9_count, cX9_count, 2, (some .int), [], 1, 20)
abbrev mX9_forgetLink : mx_M := (8, yX9_forgetLink, cX9_forgetLink, 1, none, [], 0, 0)
abbrev mX9_faultBeforePlacing : mx_M := (8, yX9_faultBeforePlacing, cX9_faultBeforePlacing, 1, (some .int), [], 4, 88)
abbrev mX9_faultOfPlaces : mx_M := (8, yX9_faultOfPlaces, cX9_faultOfPlaces, 1, (some .int), [], 4, 91)
abbrev mX9_isWithin : mx_M := (8, yX9_isWithin, cX9_isWithin, 3, (some .boolean), [], 0, 0)
abbrev mX9_isMark : mx_M := (8, yX9_isMark, cX9_isMark, 2, (some .boolean), [], 1, 22)
abbrev mX9_isSortFor : mx_M := (8, yX9_isSortFor, cX9_isSortFor, 2, (some .boolean), [], 1, 22)
abbrev mX9_typeAt : mx_M := (8, yX9_typeAt, cX9_typeAt, 1, (some (.object "SectionGarden$Type")), [], 1, 22)
abbrev mX9_numberOf : mx_M := (8, yX9_numberOf, cX9_numberOf, 1, (some .int), [], 0, 0)
abbrev mX10_thrown : mx_M := (9, yX10_thrown, cX10_thrown, 1, (some .int), [], 0, 0)
abbrev mX10_init : mx_M := (9, yX10_init, cX10_init, 1, none, [], 1, 20)
abbrev mX10_in : mx_M := (9, yX10_in, cX10_in, 6, (some .boolean), [0, 2, 4], 0, 0)
abbrev mX10_told : mx_M := (9, yX10_told, cX10_told, 1, none, [], 0, 0)
abbrev mX10_object : mx_M := (9, yX10_object, cX10_object, 1, (some .int), [], 1, 20)
abbrev mX10_section : mx_M := (9, yX10_section, cX10_section, 8, (some .int), [], 1, 25)
abbrev mX10_hasBytes : mx_M := (9, yX10_hasBytes, cX10_hasBytes, 2, (some .boolean), [], 1, 25)
abbrev mX10_patch : mx_M := (9, yX10_patch, cX10_patch, 6, (some .int), [], 2, 46)
abbrev mX10_mark : mx_M := (9, yX10_mark, cX10_mark, 5, (some .int), [], 1, 25)
abbrev mX10_symbol : mx_M := (9, yX10_symbol, cX10_symbol, 9, (some .int), [], 1, 25)
abbrev mX10_wide : mx_M := (9, yX10_wide, cX10_wide, 1, (some .int), [], 0, 0)
abbrev mX10_relocation : mx_M := (9, yX10_relocation, cX10_relocation, 7, (some .int), [], 2, 46)
abbrev mX10_root : mx_M := (9, yX10_root, cX10_root, 2, (some .int), [], 1, 25)
abbrev mX10_base : mx_M := (9, yX10_base, cX10_base, 4, (some .int), [], 1, 25)
abbrev mX10_names : mx_M := (9, yX10_names, cX10_names, 6, (some .int), [], 0, 0)
abbrev mX10_keeps : mx_M := (9, yX10_keeps, cX10_keeps, 3, none, [], 0, 0)
abbrev mX10_keepAll : mx_M := (9, yX10_keepAll, cX10_keepAll, 4, none, [], 2, 45)
abbrev mX10_comesBy : mx_M := (9, yX10_comesBy, cX10_comesBy, 4, none, [], 1, 22)
abbrev mX10_relocationsOf : mx_M := (9, yX10_relocationsOf, cX10_relocationsOf, 4, (some .int), [], 0, 0)
abbrev mX10_nth : mx_M := (9, yX10_nth, cX10_nth, 5, (some .int), [], 0, 0)
abbrev mX10_startsAlike : mx_M := (9, yX10_startsAlike, cX10_startsAlike, 4, (some .boolean), [], 1, 23)
abbrev mX10_staysAlike : mx_M := (9, yX10_staysAlike, cX10_staysAlike, 10, (some .boolean), [], 1, 24)
abbrev mX10_foldAll : mx_M := (9, yX10_foldAll, cX10_foldAll, 5, none, [], 2, 53)
abbrev mX10_isPlaced : mx_M := (9, yX10_isPlaced, cX10_isPlaced, 2, (some .boolean), [], 0, 0)
abbrev mX10_veneersOf : mx_M := (9, yX10_veneersOf, cX10_veneersOf, 4, (some .int), [], 0, 0)
abbrev mX10_up : mx_M := (9, yX10_up, cX10_up, 4, (some .long), [0, 2], 0, 0)
abbrev mX10_placeAll : mx_M := (9, yX10_placeAll, cX10_placeAll, 6, none, [1], 1, 23)
abbrev mX10_veneerPlace : mx_M := (9, yX10_veneerPlace, cX10_veneerPlace, 5, (some .long), [], 1, 23)
abbrev mX10_placeOf : mx_M := (9, yX10_placeOf, cX10_placeOf, 2, (some .long), [], 0, 0)
abbrev mX10_valueOf : mx_M := (9, yX10_valueOf, cX10_valueOf, 10, (some .long), [3, 5, 8], 1, 21)
abbrev mX10_v : mx_M := (9, yX10_v, cX10_v, 2, (some .long), [], 2, 50)
abbrev mX10_isBranchNear : mx_M := (9, yX10_isBranchNear, cX10_isBranchNear, 3, (some .boolean), [1], 1, 25)
abbrev mX10_sameAim : mx_M := (9, yX10_sameAim, cX10_sameAim, 3, (some .boolean), [], 0, 0)
abbrev mX10_veneerAll : mx_M := (9, yX10_veneerAll, cX10_veneerAll, 7, none, [], 3, 71)
abbrev mX10_bad : mx_M := (9, yX10_bad, cX10_bad, 3, none, [], 0, 0)
abbrev mX10_link : mx_M := (9, yX10_link, cX10_link, 5, (some .int), [], 5, 119)
abbrev mX10_hasPlaced : mx_M := (9, yX10_hasPlaced, cX10_hasPlaced, 3, (some .boolean), [], 1, 21)
abbrev mX10_written : mx_M := (9, yX10_written, cX10_written, 6, (some .long), [2, 4], 3, 71)
abbrev mX10_fits : mx_M := (9, yX10_fits, cX10_fits, 4, (some .boolean), [2], 4, 96)
abbrev mX10_fault : mx_M := (9, yX10_fault, cX10_fault, 1, (some .int), [], 0, 0)
abbrev mX10_kept : mx_M := (9, yX10_kept, cX10_kept, 3, (some .int), [], 1, 25)
abbrev mX10_place : mx_M := (9, yX10_place, cX10_place, 2, (some .long), [], 1, 25)
abbrev mX10_value : mx_M := (9, yX10_value, cX10_value, 2, (some .long), [], 2, 50)
abbrev mX10_octet : mx_M := (9, yX10_octet, cX10_octet, 7, (some .int), [1, 4], 5, 121)
abbrev mX10_byteOf : mx_M := (9, yX10_byteOf, cX10_byteOf, 6, (some .int), [], 4, 96)
abbrev mX10_range : mx_M := (9, yX10_range, cX10_range, 3, (some .long), [], 1, 25)
abbrev mX10_veneers : mx_M := (9, yX10_veneers, cX10_veneers, 2, (some .int), [], 1, 25)
abbrev mX10_found : mx_M := (9, yX10_found, cX10_found, 4, (some .int), [], 0, 0)
abbrev mX10_count : mx_M := (9, yX10_count, cX10_count, 2, (some .int), [], 1, 23)
abbrev mJ9_max_7cf53 : mx_M := (14, yJ9_max_7cf53, cJ9_max_7cf53, 2, (some .int), [], 0, 0)
abbrev mJ9_max_f86c9 : mx_M := (14, yJ9_max_f86c9, cJ9_max_f86c9, 4, (some .long), [0, 2], 0, 0)
abbrev mJ9_min_7cf53 : mx_M := (14, yJ9_min_7cf53, cJ9_min_7cf53, 2, (some .int), [], 0, 0)
abbrev mJ9_min_f86c9 : mx_M := (14, yJ9_min_f86c9, cJ9_min_f86c9, 4, (some .long), [0, 2], 0, 0)
abbrev mJxa1e45_init_da8c8 : mx_M := (15, yJxa1e45_init_da8c8, cJxa1e45_init_da8c8, 1, none, [], 1, 20)
abbrev mJxc12de_init_da8c8 : mx_M := (16, yJxc12de_init_da8c8, cJxc12de_init_da8c8, 1, none, [], 2, 40)
abbrev mJx4a65c_init_da8c8 : mx_M := (10, yJx4a65c_init_da8c8, cJx4a65c_init_da8c8, 1, none, [], 3, 60)
abbrev mJx4a65c_grow_92f84 : mx_M := (10, yJx4a65c_grow_92f84, cJx4a65c_grow_92f84, 4, (some (.array (.object "java/lang/Object"))), [], 3, 84)
abbrev mJx4a65c_grow_d5877 : mx_M := (10, yJx4a65c_grow_d5877, cJx4a65c_grow_d5877, 1, (some (.array (.object "java/lang/Object"))), [], 4, 107)
abbrev mJx4a65c_size_8abf5 : mx_M := (10, yJx4a65c_size_8abf5, cJx4a65c_size_8abf5, 1, (some .int), [], 0, 0)
abbrev mJx4a65c_elementData_915e3 : mx_M := (10, yJx4a65c_elementData_915e3, cJx4a65c_elementData_915e3, 2, (some (.object "java/lang/Object")), [], 0, 0)
abbrev mJx4a65c_get_915e3 : mx_M := (10, yJx4a65c_get_915e3, cJx4a65c_get_915e3, 2, (some (.object "java/lang/Object")), [], 2, 43)
abbrev mJx4a65c_add_72be8 : mx_M := (10, yJx4a65c_add_72be8, cJx4a65c_add_72be8, 4, none, [], 5, 127)
abbrev mJx4a65c_add_9ea2d : mx_M := (10, yJx4a65c_add_9ea2d, cJx4a65c_add_9ea2d, 2, (some .boolean), [], 6, 150)
abbrev mJx4a65c_clear_da8c8 : mx_M := (10, yJx4a65c_clear_da8c8, cJx4a65c_clear_da8c8, 4, none, [], 0, 0)
abbrev mJ7_fill_d0a16 : mx_M := (17, yJ7_fill_d0a16, cJ7_fill_d0a16, 5, none, [1], 0, 0)
abbrev mJ7_fill_53178 : mx_M := (17, yJ7_fill_53178, cJ7_fill_53178, 4, none, [], 0, 0)
abbrev mJ7_copyOf_1904c : mx_M := (17, yJ7_copyOf_1904c, cJ7_copyOf_1904c, 2, (some (.array (.object "java/lang/Object"))), [], 2, 63)
abbrev mJ7_copyOf_6403c : mx_M := (17, yJ7_copyOf_6403c, cJ7_copyOf_6403c, 4, (some (.array (.object "java/lang/Object"))), [], 1, 40)
abbrev mJ15_checkIndex_7cf53 : mx_M := (18, yJ15_checkIndex_7cf53, cJ15_checkIndex_7cf53, 2, (some .int), [], 1, 22)
abbrev mJ8_newLength_cabcc : mx_M := (19, yJ8_newLength_cabcc, cJ8_newLength_cabcc, 4, (some .int), [], 1, 24)
abbrev mJ8_hugeLength_7cf53 : mx_M := (19, yJ8_hugeLength_7cf53, cJ8_hugeLength_7cf53, 3, (some .int), [], 0, 0)
abbrev mJ3_checkIndex_8e157 : mx_M := (20, yJ3_checkIndex_8e157, cJ3_checkIndex_8e157, 3, (some .int), [], 0, 0)
abbrev mL_place : mx_M := (12, yL_place, cL_place, 4, (some .int), [], 7, 112)
abbrev mL_value : mx_M := (12, yL_value, cL_value, 4, (some .int), [], 7, 112)
abbrev mL_range : mx_M := (12, yL_range, cL_range, 5, (some .int), [], 7, 112)
abbrev mL_law : mx_M := (12, yL_law, cL_law, 8, (some .boolean), [6], 12, 287)
def gt_f : List (List (Nat × (Nat × Nat × FieldType × Bool) × String × Nat × Nat)) := [
  [(9, (0, 0, .int, false), "SectionGarden$Folding", 209, 0), (27, (5, 17, .object "SectionGarden$Section", false), "SectionGarden$Section", 350, 0), (45, (5, 2, .int, true), "SectionGarden$Section", 311, 0), (52, (5, 8, .boolean, false), "SectionGarden$Section", 328, 0), (56, (5, 9, .int, false), "SectionGarden$Section", 332, 0), (59, (5, 14, .boolean, false), "SectionGarden$Section", 347, 0), (66, (5, 6, .object "java/util/ArrayList", true), "SectionGarden$Section", 323, 0), (72, (4, 2, .object "SectionGarden$Type", true), "SectionGarden$Relocation", 605, 0), (81, (4, 3, .object "SectionGarden$Symbol", true), "SectionGarden$Relocation", 609, 0), (85, (6, 7, .object "SectionGarden$Section", false), "SectionGarden$Symbol", 553, 0), (90, (5, 15, .object "SectionGarden$Section", false), "SectionGarden$Section", 348, 0), (97, (5, 3, .int, true), "SectionGarden$Section", 316, 0), (99, (5, 4, .int, true), "SectionGarden$Section", 319, 0), (122, (5, 16, .object "SectionGarden$Section", false), "SectionGarden$Section", 349, 0)],
  [(12, (1, 0, .object "java/util/ArrayList", true), "SectionGarden$Keeping", 198, 0), (18, (7, 0, .object "java/util/ArrayList", true), "SectionGarden$Told", 135, 0), (27, (7, 6, .int, false), "SectionGarden$Told", 152, 0), (31, (7, 3, .array .int, true), "SectionGarden$Told", 145, 0), (41, (6, 2, .object "SectionGarden$Section", true), "SectionGarden$Symbol", 542, 0), (67, (4, 3, .object "SectionGarden$Symbol", true), "SectionGarden$Relocation", 608, 0), (71, (4, 0, .object "SectionGarden$Section", true), "SectionGarden$Relocation", 600, 0), (76, (6, 4, .int, true), "SectionGarden$Symbol", 545, 0), (82, (6, 7, .object "SectionGarden$Section", false), "SectionGarden$Symbol", 552, 0), (85, (5, 11, .boolean, false), "SectionGarden$Section", 339, 0), (92, (5, 12, .int, false), "SectionGarden$Section", 343, 0), (95, (5, 13, .object "SectionGarden$Section", false), "SectionGarden$Section", 345, 0), (98, (5, 8, .boolean, false), "SectionGarden$Section", 329, 0), (105, (5, 6, .object "java/util/ArrayList", true), "SectionGarden$Section", 324, 0), (115, (5, 10, .int, false), "SectionGarden$Section", 337, 0), (121, (5, 9, .int, false), "SectionGarden$Section", 333, 0)],
  [(9, (2, 0, .array .int, true), "SectionGarden$Names", 183, 0), (17, (2, 1, .array (.object "SectionGarden$Symbol"), true), "SectionGarden$Names", 184, 0), (21, (7, 0, .object "java/util/ArrayList", true), "SectionGarden$Told", 134, 0), (31, (7, 1, .object "java/util/ArrayList", true), "SectionGarden$Told", 139, 0), (41, (7, 6, .int, false), "SectionGarden$Told", 153, 0), (45, (7, 3, .array .int, true), "SectionGarden$Told", 146, 0), (74, (5, 10, .int, false), "SectionGarden$Section", 336, 0), (77, (5, 1, .int, true), "SectionGarden$Section", 308, 0), (86, (5, 11, .boolean, false), "SectionGarden$Section", 340, 0), (98, (6, 1, .int, true), "SectionGarden$Symbol", 540, 0), (101, (6, 4, .int, true), "SectionGarden$Symbol", 546, 0)],
  [(9, (3, 0, .array .long, true), "SectionGarden$Placing", 220, 0), (15, (3, 1, .array .long, true), "SectionGarden$Placing", 222, 0), (18, (3, 2, .array .boolean, true), "SectionGarden$Placing", 224, 0), (22, (3, 3, .array .long, true), "SectionGarden$Placing", 225, 0), (25, (3, 4, .array .long, true), "SectionGarden$Placing", 226, 0), (28, (3, 5, .int, false), "SectionGarden$Placing", 227, 0), (32, (3, 6, .int, false), "SectionGarden$Placing", 229, 0), (42, (7, 0, .object "java/util/ArrayList", true), "SectionGarden$Told", 136, 0), (64, (4, 0, .object "SectionGarden$Section", true), "SectionGarden$Relocation", 601, 0), (74, (4, 2, .object "SectionGarden$Type", true), "SectionGarden$Relocation", 606, 0), (88, (6, 5, .int, true), "SectionGarden$Symbol", 548, 0), (93, (6, 6, .int, true), "SectionGarden$Symbol", 550, 0), (96, (6, 7, .object "SectionGarden$Section", false), "SectionGarden$Symbol", 554, 0), (103, (6, 8, .int, false), "SectionGarden$Symbol", 557, 0), (109, (5, 18, .long, false), "SectionGarden$Section", 354, 0), (127, (5, 19, .int, false), "SectionGarden$Section", 357, 0), (130, (7, 2, .object "java/util/ArrayList", true), "SectionGarden$Told", 142, 0), (133, (4, 5, .int, false), "SectionGarden$Relocation", 614, 0), (138, (7, 4, .array .int, true), "SectionGarden$Told", 148, 0), (150, (5, 2, .int, true), "SectionGarden$Section", 313, 0), (153, (5, 4, .int, true), "SectionGarden$Section", 320, 0), (174, (5, 9, .int, false), "SectionGarden$Section", 334, 0), (177, (5, 3, .int, true), "SectionGarden$Section", 317, 0), (196, (5, 6, .object "java/util/ArrayList", true), "SectionGarden$Section", 326, 0), (204, (4, 4, .int, true), "SectionGarden$Relocation", 612, 0), (207, (4, 3, .object "SectionGarden$Symbol", true), "SectionGarden$Relocation", 610, 0), (230, (4, 1, .int, true), "SectionGarden$Relocation", 603, 0)],
  [(9, (4, 5, .int, false), "SectionGarden$Relocation", 613, 0), (15, (4, 0, .object "SectionGarden$Section", true), "SectionGarden$Relocation", 599, 0), (19, (4, 1, .int, true), "SectionGarden$Relocation", 602, 0), (22, (4, 2, .object "SectionGarden$Type", true), "SectionGarden$Relocation", 604, 0), (26, (4, 3, .object "SectionGarden$Symbol", true), "SectionGarden$Relocation", 607, 0), (30, (4, 4, .int, true), "SectionGarden$Relocation", 611, 0), (33, (5, 18, .long, false), "SectionGarden$Section", 353, 0)],
  [(12, (5, 6, .object "java/util/ArrayList", true), "SectionGarden$Section", 322, 0), (18, (5, 7, .object "java/util/ArrayList", true), "SectionGarden$Section", 327, 0), (21, (5, 9, .int, false), "SectionGarden$Section", 331, 0), (25, (5, 10, .int, false), "SectionGarden$Section", 335, 0), (28, (5, 12, .int, false), "SectionGarden$Section", 342, 0), (31, (5, 0, .int, true), "SectionGarden$Section", 305, 0), (34, (5, 1, .int, true), "SectionGarden$Section", 307, 0), (37, (5, 2, .int, true), "SectionGarden$Section", 310, 0), (40, (5, 3, .int, true), "SectionGarden$Section", 314, 0), (43, (5, 4, .int, true), "SectionGarden$Section", 318, 0), (46, (5, 5, .int, true), "SectionGarden$Section", 321, 0), (58, (11, 0, .int, true), "SectionGarden$Patch", 504, 0), (61, (11, 1, .int, false), "SectionGarden$Patch", 506, 0), (79, (5, 8, .boolean, false), "SectionGarden$Section", 330, 0), (87, (5, 17, .object "SectionGarden$Section", false), "SectionGarden$Section", 351, 0), (91, (5, 18, .long, false), "SectionGarden$Section", 355, 0), (105, (5, 19, .int, false), "SectionGarden$Section", 358, 0)],
  [(9, (6, 0, .int, true), "SectionGarden$Symbol", 537, 0), (15, (6, 1, .int, true), "SectionGarden$Symbol", 539, 0), (18, (6, 2, .object "SectionGarden$Section", true), "SectionGarden$Symbol", 541, 0), (22, (6, 3, .int, true), "SectionGarden$Symbol", 543, 0), (25, (6, 4, .int, true), "SectionGarden$Symbol", 544, 0), (28, (6, 5, .int, true), "SectionGarden$Symbol", 547, 0), (31, (6, 6, .int, true), "SectionGarden$Symbol", 549, 0), (34, (5, 11, .boolean, false), "SectionGarden$Section", 338, 0), (40, (6, 7, .object "SectionGarden$Section", false), "SectionGarden$Symbol", 551, 0), (47, (6, 8, .int, false), "SectionGarden$Symbol", 556, 0)],
  [(12, (7, 0, .object "java/util/ArrayList", true), "SectionGarden$Told", 133, 0), (18, (7, 1, .object "java/util/ArrayList", true), "SectionGarden$Told", 138, 0), (21, (7, 2, .object "java/util/ArrayList", true), "SectionGarden$Told", 141, 0), (24, (7, 3, .array .int, true), "SectionGarden$Told", 144, 0), (28, (7, 4, .array .int, true), "SectionGarden$Told", 147, 0), (31, (7, 5, .int, false), "SectionGarden$Told", 151, 0), (47, (7, 6, .int, false), "SectionGarden$Told", 154, 0)],
  [(10, (8, 0, .object "SectionGarden$Told", true), "SectionGarden", 248, 0), (19, (8, 1, .object "SectionGarden$Names", true), "SectionGarden", 249, 0), (26, (8, 2, .object "SectionGarden$Keeping", true), "SectionGarden", 250, 0), (33, (8, 3, .object "SectionGarden$Folding", true), "SectionGarden", 251, 0), (40, (8, 4, .object "SectionGarden$Placing", true), "SectionGarden", 252, 0), (44, (8, 7, .int, false), "SectionGarden", 255, 0), (48, (7, 5, .int, false), "SectionGarden$Told", 150, 0), (62, (7, 0, .object "java/util/ArrayList", true), "SectionGarden$Told", 137, 0), (72, (7, 7, .int, false), "SectionGarden$Told", 156, 0), (85, (5, 0, .int, true), "SectionGarden$Section", 306, 0), (92, (5, 2, .int, true), "SectionGarden$Section", 312, 0), (95, (5, 3, .int, true), "SectionGarden$Section", 315, 0), (113, (5, 1, .int, true), "SectionGarden$Section", 309, 0), (119, (7, 1, .object "java/util/ArrayList", true), "SectionGarden$Told", 140, 0), (131, (6, 0, .int, true), "SectionGarden$Symbol", 538, 0), (145, (7, 2, .object "java/util/ArrayList", true), "SectionGarden$Told", 143, 0), (153, (5, 6, .object "java/util/ArrayList", true), "SectionGarden$Section", 325, 0), (157, (7, 6, .int, false), "SectionGarden$Told", 155, 0), (161, (7, 4, .array .int, true), "SectionGarden$Told", 149, 0), (176, (8, 5, .boolean, false), "SectionGarden", 253, 0), (190, (8, 6, .boolean, false), "SectionGarden", 254, 0), (197, (5, 13, .object "SectionGarden$Section", false), "SectionGarden$Section", 346, 0), (205, (5, 17, .object "SectionGarden$Section", false), "SectionGarden$Section", 352, 0), (208, (5, 11, .boolean, false), "SectionGarden$Section", 341, 0), (211, (5, 12, .int, false), "SectionGarden$Section", 344, 0), (232, (6, 7, .object "SectionGarden$Section", false), "SectionGarden$Symbol", 555, 0), (248, (5, 18, .long, false), "SectionGarden$Section", 356, 0), (263, (3, 1, .array .long, true), "SectionGarden$Placing", 223, 0), (267, (3, 0, .array .long, true), "SectionGarden$Placing", 221, 0), (270, (5, 19, .int, false), "SectionGarden$Section", 359, 0), (273, (1, 0, .object "java/util/ArrayList", true), "SectionGarden$Keeping", 199, 0), (276, (0, 0, .int, false), "SectionGarden$Folding", 210, 0), (279, (3, 5, .int, false), "SectionGarden$Placing", 228, 0), (282, (3, 6, .int, false), "SectionGarden$Placing", 230, 0)],
  [(1, (9, 0, .int, false), "SectionGardenModel", 1102, 0), (13, (9, 3, .array .int, true), "SectionGardenModel", 1105, 0), (17, (9, 4, .array .int, true), "SectionGardenModel", 1106, 0), (20, (9, 5, .array .int, true), "SectionGardenModel", 1107, 0), (23, (9, 6, .array .int, true), "SectionGardenModel", 1108, 0), (26, (9, 7, .array .int, true), "SectionGardenModel", 1109, 0), (29, (9, 8, .array .boolean, true), "SectionGardenModel", 1110, 0), (33, (9, 9, .array .int, true), "SectionGardenModel", 1111, 0), (36, (9, 10, .array .int, true), "SectionGardenModel", 1112, 0), (40, (9, 11, .array .int, true), "SectionGardenModel", 1113, 0), (43, (9, 15, .array .int, true), "SectionGardenModel", 1117, 0), (46, (9, 16, .array .int, true), "SectionGardenModel", 1118, 0), (49, (9, 17, .array .int, true), "SectionGardenModel", 1119, 0), (52, (9, 18, .array .int, true), "SectionGardenModel", 1120, 0), (55, (9, 19, .array .int, true), "SectionGardenModel", 1121, 0), (58, (9, 21, .array .int, true), "SectionGardenModel", 1123, 0), (61, (9, 22, .array .int, true), "SectionGardenModel", 1124, 0), (64, (9, 23, .array .int, true), "SectionGardenModel", 1125, 0), (67, (9, 24, .array .int, true), "SectionGardenModel", 1126, 0), (70, (9, 25, .array .int, true), "SectionGardenModel", 1127, 0), (73, (9, 27, .array .int, true), "SectionGardenModel", 1129, 0), (78, (9, 28, .array .long, true), "SectionGardenModel", 1130, 0), (82, (9, 32, .int, false), "SectionGardenModel", 1134, 0), (85, (9, 33, .array .boolean, true), "SectionGardenModel", 1135, 0), (88, (9, 34, .array .int, true), "SectionGardenModel", 1136, 0), (91, (9, 35, .array .int, true), "SectionGardenModel", 1137, 0), (94, (9, 36, .array .int, true), "SectionGardenModel", 1138, 0), (97, (9, 37, .array .int, true), "SectionGardenModel", 1139, 0), (100, (9, 38, .array .int, true), "SectionGardenModel", 1140, 0), (103, (9, 40, .array .boolean, true), "SectionGardenModel", 1142, 0), (106, (9, 41, .array .int, true), "SectionGardenModel", 1143, 0), (109, (9, 42, .array .int, true), "SectionGardenModel", 1144, 0), (112, (9, 43, .array .int, true), "SectionGardenModel", 1145, 0), (115, (9, 44, .array .boolean, true), "SectionGardenModel", 1146, 0), (118, (9, 45, .array .boolean, true), "SectionGardenModel", 1147, 0), (121, (9, 46, .array .long, true), "SectionGardenModel", 1148, 0), (124, (9, 47, .array .long, true), "SectionGardenModel", 1149, 0), (127, (9, 48, .array .long, true), "SectionGardenModel", 1150, 0), (130, (9, 51, .array .int, true), "SectionGardenModel", 1153, 0), (133, (9, 52, .array .int, true), "SectionGardenModel", 1154, 0), (136, (9, 53, .array .int, true), "SectionGardenModel", 1155, 0), (139, (9, 29, .boolean, false), "SectionGardenModel", 1131, 0), (143, (9, 30, .boolean, false), "SectionGardenModel", 1132, 0), (146, (9, 31, .int, false), "SectionGardenModel", 1133, 0), (149, (9, 1, .int, false), "SectionGardenModel", 1103, 0), (165, (9, 2, .int, false), "SectionGardenModel", 1104, 0), (168, (9, 13, .int, false), "SectionGardenModel", 1115, 0), (171, (9, 12, .int, false), "SectionGardenModel", 1114, 0), (186, (9, 14, .int, false), "SectionGardenModel", 1116, 0), (195, (9, 20, .int, false), "SectionGardenModel", 1122, 0), (198, (9, 26, .int, false), "SectionGardenModel", 1128, 0), (203, (9, 39, .int, false), "SectionGardenModel", 1141, 0), (227, (9, 50, .int, false), "SectionGardenModel", 1152, 0), (230, (9, 49, .int, false), "SectionGardenModel", 1151, 0)],
  [(9, (10, 1, .array (.object "java/lang/Object"), false), "java/util/ArrayList", 121, 0), (48, (10, 2, .int, false), "java/util/ArrayList", 122, 0), (63, (10, 0, .int, false), "java/util/ArrayList", 124, 125)],
  [(7, (11, 0, .int, true), "SectionGarden$Patch", 503, 0), (13, (11, 1, .int, false), "SectionGarden$Patch", 505, 0)],
  [],
  [],
  [],
  [],
  [(7, (10, 0, .int, false), "java/util/AbstractList", 123, 0)],
  [],
  [],
  [],
  []]
def gt_k : List (List (Nat × Option Value × Nat)) := [
  [],
  [],
  [],
  [(121, some (.long (8)), 965), (136, some (.long (4096)), 831), (163, some (.long (-1)), 863)],
  [],
  [(103, some (.long (8)), 858), (112, some (.long (-1)), 844)],
  [],
  [],
  [(75, some (.int (60000)), 296), (160, some (.int (2000000000)), 640)],
  [(39, some (.int (60000)), 1100), (76, some (.long (-1)), 1101), (159, some (.long (3)), 1280), (161, some (.long (20000)), 1281), (163, some (.long (8)), 1282), (178, some (.long (2)), 1295), (180, some (.long (7)), 1296), (182, some (.long (15)), 1297), (184, some (.long (63)), 1302), (189, some (.long (4)), 1307), (201, some (.long (2000000000)), 1319), (233, some (.long (4096)), 1372), (252, some (.long (-32768)), 1400), (254, some (.long (32767)), 1401), (298, some (.long (4294967295)), 1422), (300, some (.long (65535)), 1423), (302, some (.long (-2147483648)), 1424), (304, some (.long (2147483647)), 1425), (306, some (.long (-128)), 1426), (308, some (.long (255)), 1427)],
  [],
  [],
  [(90, some (.long (4294967295)), 1468)],
  [],
  [],
  [],
  [],
  [(110, none, 452)],
  [],
  [(200, some (.int (2147483639)), 423)],
  []]
def gt_n : List (List (Nat × (Nat × List Value) × Nat × Nat × Nat)) := [
  [],
  [(9, (10, [.int 0, .null, .int 0]), 196, 108, 70)],
  [],
  [],
  [],
  [(9, (10, [.int 0, .null, .int 0]), 303, 108, 70), (56, (11, [.int 0, .int 0]), 493, 498, 83)],
  [],
  [(9, (10, [.int 0, .null, .int 0]), 107, 108, 70)],
  [(7, (7, [.null, .null, .null, .null, .null, .int 0, .int 0, .int 0]), 101, 102, 67), (16, (2, [.null, .null]), 175, 176, 71), (23, (1, [.null]), 190, 191, 72), (30, (0, [.int 0]), 203, 204, 73), (37, (3, [.null, .null, .null, .null, .null, .int 0, .int 0]), 214, 215, 74), (76, (5, [.int 0, .int 0, .int 0, .int 0, .int 0, .int 0, .null, .null, .int 0, .int 0, .int 0, .int 0, .int 0, .null, .int 0, .null, .null, .null, .long 0, .int 0]), 297, 298, 76), (122, (6, [.int 0, .int 0, .null, .int 0, .int 0, .int 0, .int 0, .null, .int 0]), 531, 532, 84), (148, (4, [.null, .int 0, .null, .null, .int 0, .int 0]), 593, 594, 87)],
  [],
  [],
  [],
  [(8, (8, [.null, .null, .null, .null, .null, .int 0, .int 0, .int 0]), 93, 94, 66), (25, (9, [.int 0, .int 0, .int 0, .null, .null, .null, .null, .null, .null, .null, .null, .null, .int 0, .int 0, .int 0, .null, .null, .null, .null, .null, .int 0, .null, .null, .null, .null, .null, .int 0, .null, .null, .int 0, .int 0, .int 0, .int 0, .null, .null, .null, .null, .null, .null, .int 0, .null, .null, .null, .null, .null, .null, .null, .null, .null, .int 0, .int 0, .null, .null, .null]), 1094, 1095, 75)],
  [],
  [],
  [],
  [],
  [],
  [],
  [],
  []]
def gt_a : List (List (Nat × Nat × String × Nat)) := [
  [],
  [],
  [(15, 5, "SectionGarden$Symbol", 181)],
  [],
  [],
  [],
  [],
  [],
  [],
  [],
  [(7, 4, "java/lang/Object", 462)],
  [],
  [],
  [],
  [],
  [],
  [],
  [(2, 4, "java/lang/Object", 454)],
  [],
  [],
  []]
def gt_q : List (List (Nat × Nat × String × Nat)) := [
  [(25, 5, "SectionGarden$Section", 737), (70, 4, "SectionGarden$Relocation", 747)],
  [(59, 5, "SectionGarden$Section", 706), (65, 4, "SectionGarden$Relocation", 721)],
  [(15, 6, "SectionGarden$Symbol", 181), (68, 5, "SectionGarden$Section", 658)],
  [(62, 4, "SectionGarden$Relocation", 826), (69, 5, "SectionGarden$Section", 825)],
  [],
  [(56, 11, "SectionGarden$Patch", 493)],
  [],
  [(43, 5, "SectionGarden$Section", 486), (45, 6, "SectionGarden$Symbol", 585)],
  [(76, 5, "SectionGarden$Section", 297)],
  [],
  [],
  [],
  [],
  [],
  [],
  [],
  [],
  [],
  [],
  [],
  []]
def gt_s : List (List (Nat × Nat × String × String × String × Nat)) := [
  [(76, 3, "SectionGarden$Type", "BRANCH", "LSectionGarden$Type;", 748)],
  [],
  [],
  [(197, 3, "SectionGarden$Type", "BRANCH", "LSectionGarden$Type;", 890)],
  [],
  [],
  [],
  [],
  [(141, 3, "SectionGarden$Type", "BRANCH", "LSectionGarden$Type;", 591), (301, 5, "SectionGarden", "TYPES", "[LSectionGarden$Type;", 589)],
  [],
  [(39, 6, "java/util/ArrayList", "DEFAULTCAPACITY_EMPTY_ELEMENTDATA", "[Ljava/lang/Object;", 119)],
  [],
  [],
  [],
  [],
  [],
  [],
  [],
  [],
  [],
  []]
def gt_e : List (List (Nat × Nat × String × String × String × Nat)) := [
  [],
  [],
  [],
  [(218, 1, "SectionGarden$Type", "relative", "Z", 1491)],
  [(39, 0, "SectionGarden$Type", "width", "I", 1494)],
  [],
  [],
  [],
  [(136, 0, "SectionGarden$Type", "width", "I", 1490)],
  [],
  [],
  [],
  [],
  [(46, 2, "SectionGarden$Type", "least", "J", 1492), (50, 3, "SectionGarden$Type", "most", "J", 1493)],
  [],
  [],
  [],
  [],
  [],
  [],
  []]
def gt_ms0 : List mx_M := [mX0_init, mX0_find, mX0_findWhatMayFold, mX0_forbidWhatItTakesPlacesOf, mX0_joinKin, mX0_looksLike, mX0_relocationsLookLike, mX0_partKin, mX0_firstOfTheSameKin, mX0_targetsAreKin, mX0_foldKin, mX1_init, mX1_find, mX1_firstNowhere, mX1_firstIntoLost, mX1_begin]
def gt_ms1 : List mx_M := [mX1_admit, mX1_follow, mX1_admitSet, mX1_admitGroup, mX2_init, mX2_resolve, mX2_definitionOf, mX2_firstRootNowhere, mX2_findLost, mX2_hasGroup, mX2_findDefinitions, mX2_takeDefinition, mX2_findTargets, mX12_init, mX3_init, mX3_run]
def gt_ms2 : List mx_M := [mX3_firstKindOverAnother, mX3_firstMisfit, mX3_targetValue, mX3_imageByte, mX3_dropVeneers, mX3_layOut, mX3_layOutKind, mX3_findSetEdges, mX3_widenSet, mX3_addVeneers, mX3_addVeneersOf, mX3_veneerFor, mX3_amountWritten, mX3_sectionByte, mX3_veneerByte, mX3_byteOf]
def gt_ms3 : List mx_M := [mX4_init, mX4_ownPlace, mX4_covers, mX4_isWrittenLike, mX5_init, mX5_byteAt, mX5_setByte, mX5_hasBytesOf, mX5_agreesWherePatched, mX5_exchangeMark, mX5_isKept, mX5_isPlaced, mX5_finalPlace, mX5_endWithoutVeneers, mX5_placeOfVeneer, mX5_endWithVeneers]
def gt_ms4 : List mx_M := [mX5_alignedUp, mX6_init, mX6_isDefinition, mX6_targetSet, mX6_isNowhere, mX6_aimAt, mX6_hasSetAndOffsetOf, mX6_hasTargetOf, mX7_init, mX7_hasObject, mX7_sectionAt, mX7_symbolAt, mX7_addRoot, mX8_fits, mX9_init, mX9_object]
def gt_ms5 : List mx_M := [mX9_section, mX9_patch, mX9_mark, mX9_symbol, mX9_relocation, mX9_root, mX9_base, mX9_link, mX9_fault, mX9_kept, mX9_place, mX9_value, mX9_octet, mX9_range, mX9_veneers, mX9_count]
def gt_ms6 : List mx_M := [mX9_forgetLink, mX9_faultBeforePlacing, mX9_faultOfPlaces, mX9_isWithin, mX9_isMark, mX9_isSortFor, mX9_typeAt, mX9_numberOf, mX10_thrown, mX10_init, mX10_in, mX10_told, mX10_object, mX10_section, mX10_hasBytes, mX10_patch]
def gt_ms7 : List mx_M := [mX10_mark, mX10_symbol, mX10_wide, mX10_relocation, mX10_root, mX10_base, mX10_names, mX10_keeps, mX10_keepAll, mX10_comesBy, mX10_relocationsOf, mX10_nth, mX10_startsAlike, mX10_staysAlike, mX10_foldAll, mX10_isPlaced]
def gt_ms8 : List mx_M := [mX10_veneersOf, mX10_up, mX10_placeAll, mX10_veneerPlace, mX10_placeOf, mX10_valueOf, mX10_v, mX10_isBranchNear, mX10_sameAim, mX10_veneerAll, mX10_bad, mX10_link, mX10_hasPlaced, mX10_written, mX10_fits, mX10_fault]
def gt_ms9 : List mx_M := [mX10_kept, mX10_place, mX10_value, mX10_octet, mX10_byteOf, mX10_range, mX10_veneers, mX10_found, mX10_count, mJxa1e45_init_da8c8, mJxc12de_init_da8c8, mJx4a65c_init_da8c8, mJx4a65c_grow_92f84, mJx4a65c_grow_d5877, mJx4a65c_size_8abf5, mJx4a65c_elementData_915e3]
def gt_ms10 : List mx_M := [mJx4a65c_get_915e3, mJx4a65c_add_72be8, mJx4a65c_add_9ea2d, mJx4a65c_clear_da8c8, mJ7_fill_d0a16, mJ7_fill_53178, mJ7_copyOf_1904c, mJ7_copyOf_6403c, mJ15_checkIndex_7cf53, mJ8_newLength_cabcc, mJ8_hugeLength_7cf53, mJ3_checkIndex_8e157]
def gt_ms : List mx_M := gt_ms0 ++ (gt_ms1 ++ (gt_ms2 ++ (gt_ms3 ++ (gt_ms4 ++ (gt_ms5 ++ (gt_ms6 ++ (gt_ms7 ++ (gt_ms8 ++ (gt_ms9 ++ (gt_ms10))))))))))
def gt_m : List (List (Nat × (Nat × Nat × Nat) × List Nat × String)) := [
  [(3, (3, 0, 999), [208, 99, 100], ""), (15, (0, 0, 158), [70, 735, 293, 294], ""), (21, (0, 1, 160), [70, 736, 473, 474], ""), (31, (0, 1, 2), [73, 738, 740, 14], ""), (35, (0, 1, 4), [73, 749, 751, 16], ""), (38, (0, 1, 7), [73, 778, 780, 20], ""), (42, (0, 1, 10), [73, 790, 792, 23], ""), (48, (0, 0, 58), [76, 742, 712, 713], ""), (62, (0, 1, 3), [73, 743, 745, 15], ""), (93, (0, 2, 5), [73, 753, 755, 17], ""), (102, (0, 2, 6), [73, 757, 759, 18], ""), (106, (0, 1, 55), [76, 769, 770, 771], ""), (110, (0, 1, 51), [87, 761, 762, 763], ""), (114, (0, 1, 70), [84, 765, 766, 767], ""), (118, (0, 3, 8), [73, 782, 784, 21], ""), (125, (0, 2, 9), [73, 786, 788, 22], "")],
  [(3, (3, 0, 999), [195, 99, 100], ""), (11, (1, 0, 155), [70, 197, 110], ""), (23, (0, 1, 15), [72, 696, 698, 9], ""), (35, (0, 1, 22), [71, 716, 677, 678], ""), (47, (0, 2, 16), [72, 707, 709, 10], ""), (51, (0, 0, 158), [70, 704, 293, 294], ""), (55, (0, 1, 160), [70, 705, 473, 474], ""), (61, (0, 2, 17), [72, 717, 719, 11], ""), (72, (0, 0, 58), [76, 711, 712, 713], ""), (79, (0, 0, 68), [84, 806, 807, 808], ""), (89, (0, 0, 163), [70, 700, 701, 702], ""), (101, (0, 1, 162), [70, 715, 402, 403], ""), (108, (0, 0, 67), [84, 722, 685, 686], ""), (111, (0, 3, 18), [72, 723, 725, 12], ""), (118, (0, 2, 19), [72, 727, 729, 13], "")],
  [(3, (3, 0, 999), [180, 99, 100], ""), (27, (0, 1, 24), [71, 649, 651, 4], ""), (34, (0, 1, 26), [71, 664, 666, 6], ""), (38, (0, 1, 28), [71, 680, 682, 8], ""), (48, (0, 1, 22), [71, 676, 677, 678], ""), (52, (2, 2, 165), [79, 653, 654], ""), (58, (0, 0, 158), [70, 656, 293, 294], ""), (64, (0, 1, 160), [70, 657, 473, 474], ""), (70, (0, 1, 25), [71, 659, 661, 5], ""), (80, (22, 2, 999), [663, 456, 78, 457], ""), (90, (0, 0, 66), [84, 668, 669, 670], ""), (94, (0, 1, 27), [71, 672, 674, 7], ""), (104, (0, 0, 67), [84, 684, 685, 686], ""), (107, (0, 1, 69), [84, 688, 689, 690], "")],
  [(3, (3, 0, 999), [219, 99, 100], ""), (35, (0, 1, 36), [74, 819, 821, 25], ""), (39, (0, 1, 37), [74, 827, 829, 26], ""), (48, (0, 1, 41), [74, 882, 884, 30], ""), (52, (0, 0, 158), [70, 823, 293, 294], ""), (58, (0, 1, 160), [70, 824, 473, 474], ""), (68, (0, 0, 59), [76, 836, 837, 838], ""), (78, (0, 1, 44), [74, 891, 893, 32], ""), (82, (0, 1, 77), [86, 904, 905, 906], ""), (99, (0, 0, 60), [76, 868, 869, 870], ""), (106, (0, 0, 61), [76, 952, 850, 851], ""), (113, (0, 2, 45), [74, 953, 955, 35], ""), (117, (0, 1, 62), [76, 895, 854, 855], ""), (123, (0, 3, 46), [74, 966, 968, 36], ""), (142, (0, 3, 38), [74, 832, 834, 27], ""), (146, (0, 1, 39), [74, 859, 861, 28], ""), (156, (2, 2, 64), [76, 841, 842], ""), (160, (0, 0, 63), [76, 845, 846, 847], ""), (165, (2, 2, 164), [79, 864, 865], ""), (171, (0, 0, 58), [76, 867, 712, 713], ""), (179, (0, 3, 40), [74, 872, 874, 29], ""), (183, (24, 2, 999), [876, 877, 78, 878], ""), (189, (25, 2, 999), [879, 880, 78, 881], ""), (192, (0, 1, 42), [74, 886, 888, 31], ""), (200, (0, 2, 43), [74, 908, 910, 33], ""), (211, (0, 1, 71), [84, 912, 913, 914], ""), (215, (0, 0, 49), [87, 896, 897, 898], ""), (222, (0, 1, 34), [74, 900, 901, 902], ""), (226, (0, 1, 50), [87, 957, 958, 959], ""), (233, (2, 2, 47), [74, 961, 962], ""), (237, (0, 1, 53), [76, 964, 488, 489], "")],
  [(3, (3, 0, 999), [598, 99, 100], "")],
  [(3, (3, 0, 999), [302, 99, 100], ""), (11, (1, 0, 155), [70, 304, 110], ""), (49, (0, 0, 158), [70, 491, 293, 294], ""), (52, (0, 1, 160), [70, 492, 473, 474], ""), (64, (1, 2, 29), [83, 499, 500], ""), (67, (0, 1, 162), [70, 512, 402, 403], ""), (71, (0, 1, 56), [76, 773, 775, 19], ""), (75, (0, 1, 53), [76, 777, 488, 489], ""), (83, (0, 0, 58), [76, 840, 712, 713], ""), (95, (0, 0, 61), [76, 849, 850, 851], ""), (99, (2, 2, 64), [76, 857, 842], ""), (108, (0, 1, 62), [76, 853, 854, 855], "")],
  [(3, (3, 0, 999), [536, 99, 100], ""), (43, (0, 0, 67), [84, 810, 685, 686], ""), (50, (0, 1, 70), [84, 916, 766, 767], "")],
  [(3, (3, 0, 999), [106, 99, 100], ""), (11, (1, 0, 155), [70, 109, 110], ""), (35, (0, 0, 158), [70, 471, 293, 294], ""), (39, (0, 1, 160), [70, 472, 473, 474], "")],
  [(1, (3, 0, 999), [98, 99, 100], ""), (9, (11, 0, 72), [67, 103, 104], "SectionGarden"), (18, (11, 0, 20), [71, 177, 178], "SectionGarden"), (25, (11, 0, 11), [72, 192, 193], "SectionGarden"), (32, (11, 0, 0), [73, 205, 206], "SectionGarden"), (39, (11, 0, 30), [74, 216, 217], "SectionGarden"), (51, (0, 0, 96), [66, 277, 279, 0], ""), (54, (0, 1, 73), [67, 285, 286, 287], ""), (58, (2, 3, 99), [66, 289, 290], ""), (66, (0, 0, 158), [70, 292, 293, 294], ""), (78, (1, 6, 52), [76, 299, 300], ""), (81, (0, 1, 162), [70, 401, 402, 403], ""), (88, (0, 1, 74), [67, 467, 468, 469], ""), (97, (0, 1, 53), [76, 487, 488, 489], ""), (101, (0, 2, 54), [76, 494, 495, 496], ""), (105, (2, 2, 100), [66, 517, 518], ""), (109, (0, 2, 57), [76, 520, 521, 522], ""), (116, (2, 2, 101), [66, 528, 529], ""), (124, (1, 6, 65), [84, 533, 534], ""), (127, (0, 1, 75), [67, 581, 582, 583], ""), (132, (2, 1, 102), [66, 586, 587], ""), (150, (1, 5, 48), [87, 595, 596], ""), (154, (0, 1, 76), [67, 632, 633, 634], ""), (165, (0, 1, 21), [71, 645, 646, 647], ""), (169, (0, 2, 12), [72, 692, 693, 694], ""), (173, (0, 2, 1), [73, 731, 732, 733], ""), (180, (0, 0, 97), [66, 794, 796, 24], ""), (183, (0, 1, 31), [74, 815, 816, 817], ""), (187, (0, 0, 98), [66, 917, 919, 34], ""), (193, (0, 0, 58), [76, 937, 712, 713], ""), (201, (2, 1, 103), [66, 938, 939], ""), (226, (0, 0, 60), [76, 1070, 869, 870], ""), (237, (0, 1, 34), [74, 1080, 901, 902], ""), (241, (0, 1, 160), [70, 945, 473, 474], ""), (245, (0, 0, 59), [76, 946, 837, 838], ""), (252, (0, 0, 63), [76, 947, 846, 847], ""), (255, (0, 2, 35), [74, 948, 949, 950], ""), (285, (0, 1, 23), [71, 798, 799, 800], ""), (288, (0, 1, 13), [72, 802, 803, 804], ""), (292, (0, 1, 14), [72, 811, 812, 813], ""), (295, (0, 0, 32), [74, 921, 922, 923], ""), (298, (0, 1, 33), [74, 925, 926, 927], "")],
  [(7, (3, 0, 999), [1099, 99, 100], ""), (152, (0, 0, 107), [75, 1269, 1271, 38], ""), (155, (2, 3, 106), [75, 1277, 1278], ""), (174, (0, 1, 110), [75, 1287, 1289, 39], ""), (191, (2, 1, 114), [75, 1308, 1309], ""), (206, (0, 2, 119), [75, 1336, 1338, 43], ""), (210, (0, 2, 121), [75, 1340, 1342, 44], ""), (213, (0, 1, 122), [75, 1352, 1354, 47], ""), (216, (0, 2, 123), [75, 1360, 1362, 49], ""), (220, (0, 2, 124), [75, 1348, 1350, 46], ""), (224, (0, 2, 125), [75, 1356, 1358, 48], ""), (235, (0, 1, 127), [75, 1373, 1375, 52], ""), (238, (2, 2, 129), [75, 1377, 1378], ""), (242, (0, 1, 128), [75, 1380, 1382, 53], ""), (245, (0, 1, 132), [75, 1392, 1394, 56], ""), (249, (0, 1, 133), [75, 1388, 1390, 55], ""), (256, (0, 0, 130), [75, 1368, 1370, 51], ""), (259, (0, 1, 134), [75, 1384, 1386, 54], ""), (262, (0, 1, 135), [75, 1396, 1398, 57], ""), (266, (0, 2, 136), [75, 1402, 1404, 58], ""), (269, (0, 0, 118), [75, 1324, 1326, 40], ""), (273, (0, 2, 138), [75, 1328, 1330, 41], ""), (276, (0, 0, 120), [75, 1332, 1334, 42], ""), (279, (0, 1, 126), [75, 1344, 1346, 45], ""), (283, (0, 0, 137), [75, 1364, 1366, 50], ""), (286, (0, 1, 140), [75, 1406, 1408, 59], ""), (289, (0, 1, 142), [75, 1410, 1412, 60], ""), (292, (0, 1, 131), [75, 1418, 1420, 62], ""), (295, (0, 1, 141), [75, 1414, 1416, 61], ""), (310, (0, 2, 148), [75, 1448, 1450, 63], ""), (313, (0, 1, 151), [75, 1464, 1466, 64], "")],
  [(1, (1, 0, 154), [69, 112, 113], ""), (66, (2, 2, 166), [79, 427, 428], ""), (69, (0, 1, 156), [70, 413, 415, 3], ""), (73, (2, 3, 169), [77, 417, 418], ""), (79, (23, 2, 999), [461, 421, 78, 422], ""), (118, (2, 2, 168), [81, 476, 477], ""), (123, (0, 1, 159), [70, 482, 483, 484], ""), (129, (0, 0, 157), [70, 409, 411, 2], ""), (131, (0, 3, 161), [70, 405, 407, 1], "")],
  [(1, (3, 0, 999), [502, 99, 100], "")],
  [(7, (0, 1, 90), [66, 983, 984, 985], ""), (17, (0, 1, 91), [66, 1074, 1075, 1076], ""), (20, (0, 2, 93), [66, 1084, 1085, 1086], ""), (24, (1, 0, 78), [66, 95, 96], ""), (27, (1, 0, 105), [75, 1096, 1097], ""), (28, (0, 0, 79), [66, 273, 274, 275], ""), (32, (0, 0, 108), [75, 1265, 1266, 1267], ""), (33, (0, 5, 80), [66, 281, 282, 283], ""), (37, (0, 5, 109), [75, 1273, 1274, 1275], ""), (38, (0, 3, 81), [66, 463, 464, 465], ""), (42, (0, 3, 111), [75, 1283, 1284, 1285], ""), (43, (0, 3, 82), [66, 513, 514, 515], ""), (46, (0, 3, 112), [75, 1291, 1292, 1293], ""), (47, (0, 5, 83), [66, 524, 525, 526], ""), (50, (0, 5, 113), [75, 1298, 1299, 1300], ""), (51, (0, 5, 84), [66, 577, 578, 579], ""), (54, (0, 5, 115), [75, 1303, 1304, 1305], ""), (55, (0, 1, 85), [66, 628, 629, 630], ""), (59, (0, 1, 116), [75, 1311, 1312, 1313], ""), (60, (0, 2, 86), [66, 636, 637, 638], ""), (64, (0, 2, 117), [75, 1315, 1316, 1317], ""), (65, (0, 1, 87), [66, 641, 642, 643], ""), (69, (0, 1, 139), [75, 1320, 1321, 1322], ""), (70, (0, 0, 88), [66, 929, 930, 931], ""), (73, (0, 0, 143), [75, 1428, 1429, 1430], ""), (74, (0, 2, 89), [66, 933, 934, 935], ""), (77, (0, 2, 144), [75, 1432, 1433, 1434], ""), (83, (0, 1, 145), [75, 1436, 1437, 1438], ""), (84, (0, 0, 104), [75, 1090, 1091, 1092], ""), (89, (0, 1, 146), [75, 1440, 1441, 1442], ""), (92, (0, 1, 92), [66, 941, 942, 943], ""), (96, (0, 1, 147), [75, 1444, 1445, 1446], ""), (100, (0, 2, 149), [75, 1452, 1453, 1454], ""), (101, (0, 1, 94), [66, 970, 971, 972], ""), (104, (0, 1, 150), [75, 1456, 1457, 1458], ""), (105, (0, 1, 95), [66, 974, 975, 976], ""), (108, (0, 1, 152), [75, 1460, 1461, 1462], "")],
  [],
  [],
  [(1, (3, 0, 999), [118, 99, 100], "")],
  [(1, (1, 0, 153), [68, 115, 116], "")],
  [(86, (21, 0, 999), [430, 1475, 431, 448], ""), (150, (20, 5, 999), [458, 460, 459, 80], ""), (300, (2, 3, 167), [79, 449, 450], ""), (304, (22, 2, 999), [455, 456, 78, 457], "")],
  [(105, (2, 3, 171), [82, 479, 480], "")],
  [(194, (23, 2, 999), [420, 421, 78, 422], ""), (201, (2, 2, 170), [77, 424, 425], "")],
  []]
def gt_ty : List FieldType := [.int, .long, .byte, .boolean, .object "java/lang/Object", .object "SectionGarden$Symbol"]
def gt_tg (t c : Nat) : Bool := (Nat.beq t 4 && (Nat.beq c 4 || Nat.beq c 5 || Nat.beq c 6 || Nat.beq c 11)) || (Nat.beq t 5 && Nat.beq c 6)
def gt_nw (w : Cond) : Bool := match w with
  | .methodLinkNest .. => true
  | .castable .. => true
  | _ => false
def gt_nst : List Cond := lw_tbl.filter gt_nw
def gt_ao : List String := ["java/lang/Object", "SectionGarden$Symbol"]
/-- what the constants of Type hold: width, relative, least, most -/
def gt_en : List (List Value) := [[.int 4, .int 0, .long 0, .long 4294967295], [.int 2, .int 0, .long 0, .long 65535], [.int 4, .int 1, .long (-2147483648), .long 2147483647], [.int 2, .int 1, .long (-32768), .long 32767], [.int 1, .int 0, .long (-128), .long 255]]
def gt_ev (E : Nat → Nat) (j a : Nat) : Option Value := ((List.range 5).find? (fun k => Nat.beq (E k) a)).bind (fun k => (gt_en.getD k [])[j]?)
def gt_eo (E : Nat → Nat) (a : Nat) : Option Nat := ((List.range 5).find? (fun k => Nat.beq (E k) a)).map (fun _ => 13)
/-- the program: base address, class object of Object[], addresses of what the statics hold -/
def gt_P (b0 mi : Nat) (E : Nat → Nat) : mx_T := (fun c i => (gt_lu gt_f c i).map (fun e => e.1), fun c i => (gt_lu gt_k c i).map (fun e => e.1.getD (.ref mi)), fun c i => (gt_lu gt_n c i).map (fun e => e.1), fun c i => (gt_lu gt_a c i).map (fun e => e.1), fun c i => (gt_lu gt_q c i).map (fun e => [e.1]), fun c i => (gt_lu gt_s c i).map (fun e => .ref (E e.1)), fun c i => (gt_lu gt_m c i).map (fun e => (e.1.1, e.1.2.1, gt_ms.getD e.1.2.2 mL_law)), gt_ty, gt_tg, b0, mi, (fun c i a => (gt_lu gt_e c i).bind (fun e => gt_ev E e.1 a)), gt_eo E)
