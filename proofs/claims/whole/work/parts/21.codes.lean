set_option maxRecDepth 100000 in
theorem gw_X0_init : Cond.code yX0_init cX0_init 1 none ∈ gt_tbl := List.mem_filter.mpr ⟨List.mem_of_getElem? (i := 207) (by rfl), rfl⟩
set_option maxRecDepth 100000 in
theorem gw_X0_find : Cond.code yX0_find cX0_find 5 none ∈ gt_tbl := List.mem_filter.mpr ⟨List.mem_of_getElem? (i := 734) (by rfl), rfl⟩
set_option maxRecDepth 100000 in
theorem gw_X0_findWhatMayFold : Cond.code yX0_findWhatMayFold cX0_findWhatMayFold 5 none ∈ gt_tbl := List.mem_filter.mpr ⟨List.mem_of_getElem? (i := 741) (by rfl), rfl⟩
set_option maxRecDepth 100000 in
theorem gw_X0_forbidWhatItTakesPlacesOf : Cond.code yX0_forbidWhatItTakesPlacesOf cX0_forbidWhatItTakesPlacesOf 4 none ∈ gt_tbl := List.mem_filter.mpr ⟨List.mem_of_getElem? (i := 746) (by rfl), rfl⟩
set_option maxRecDepth 100000 in
theorem gw_X0_joinKin : Cond.code yX0_joinKin cX0_joinKin 6 none ∈ gt_tbl := List.mem_filter.mpr ⟨List.mem_of_getElem? (i := 752) (by rfl), rfl⟩
set_option maxRecDepth 100000 in
theorem gw_X0_looksLike : Cond.code yX0_looksLike cX0_looksLike 3 (some .boolean) ∈ gt_tbl := List.mem_filter.mpr ⟨List.mem_of_getElem? (i := 756) (by rfl), rfl⟩
set_option maxRecDepth 100000 in
theorem gw_X0_relocationsLookLike : Cond.code yX0_relocationsLookLike cX0_relocationsLookLike 7 (some .boolean) ∈ gt_tbl := List.mem_filter.mpr ⟨List.mem_of_getElem? (i := 760) (by rfl), rfl⟩
set_option maxRecDepth 100000 in
theorem gw_X0_partKin : Cond.code yX0_partKin cX0_partKin 5 (some .boolean) ∈ gt_tbl := List.mem_filter.mpr ⟨List.mem_of_getElem? (i := 781) (by rfl), rfl⟩
set_option maxRecDepth 100000 in
theorem gw_X0_firstOfTheSameKin : Cond.code yX0_firstOfTheSameKin cX0_firstOfTheSameKin 6 (some (.object "SectionGarden$Section")) ∈ gt_tbl := List.mem_filter.mpr ⟨List.mem_of_getElem? (i := 785) (by rfl), rfl⟩
set_option maxRecDepth 100000 in
theorem gw_X0_targetsAreKin : Cond.code yX0_targetsAreKin cX0_targetsAreKin 6 (some .boolean) ∈ gt_tbl := List.mem_filter.mpr ⟨List.mem_of_getElem? (i := 789) (by rfl), rfl⟩
set_option maxRecDepth 100000 in
theorem gw_X0_foldKin : Cond.code yX0_foldKin cX0_foldKin 4 none ∈ gt_tbl := List.mem_filter.mpr ⟨List.mem_of_getElem? (i := 793) (by rfl), rfl⟩
set_option maxRecDepth 100000 in
theorem gw_X1_init : Cond.code yX1_init cX1_init 1 none ∈ gt_tbl := List.mem_filter.mpr ⟨List.mem_of_getElem? (i := 194) (by rfl), rfl⟩
set_option maxRecDepth 100000 in
theorem gw_X1_find : Cond.code yX1_find cX1_find 5 none ∈ gt_tbl := List.mem_filter.mpr ⟨List.mem_of_getElem? (i := 695) (by rfl), rfl⟩
set_option maxRecDepth 100000 in
theorem gw_X1_firstNowhere : Cond.code yX1_firstNowhere cX1_firstNowhere 5 (some .int) ∈ gt_tbl := List.mem_filter.mpr ⟨List.mem_of_getElem? (i := 805) (by rfl), rfl⟩
set_option maxRecDepth 100000 in
theorem gw_X1_firstIntoLost : Cond.code yX1_firstIntoLost cX1_firstIntoLost 5 (some .int) ∈ gt_tbl := List.mem_filter.mpr ⟨List.mem_of_getElem? (i := 814) (by rfl), rfl⟩
set_option maxRecDepth 100000 in
theorem gw_X1_begin : Cond.code yX1_begin cX1_begin 3 none ∈ gt_tbl := List.mem_filter.mpr ⟨List.mem_of_getElem? (i := 699) (by rfl), rfl⟩
set_option maxRecDepth 100000 in
theorem gw_X1_admit : Cond.code yX1_admit cX1_admit 3 none ∈ gt_tbl := List.mem_filter.mpr ⟨List.mem_of_getElem? (i := 710) (by rfl), rfl⟩
set_option maxRecDepth 100000 in
theorem gw_X1_follow : Cond.code yX1_follow cX1_follow 5 none ∈ gt_tbl := List.mem_filter.mpr ⟨List.mem_of_getElem? (i := 720) (by rfl), rfl⟩
set_option maxRecDepth 100000 in
theorem gw_X1_admitSet : Cond.code yX1_admitSet cX1_admitSet 5 none ∈ gt_tbl := List.mem_filter.mpr ⟨List.mem_of_getElem? (i := 726) (by rfl), rfl⟩
set_option maxRecDepth 100000 in
theorem gw_X1_admitGroup : Cond.code yX1_admitGroup cX1_admitGroup 4 none ∈ gt_tbl := List.mem_filter.mpr ⟨List.mem_of_getElem? (i := 730) (by rfl), rfl⟩
set_option maxRecDepth 100000 in
theorem gw_X2_init : Cond.code yX2_init cX2_init 1 none ∈ gt_tbl := List.mem_filter.mpr ⟨List.mem_of_getElem? (i := 179) (by rfl), rfl⟩
set_option maxRecDepth 100000 in
theorem gw_X2_resolve : Cond.code yX2_resolve cX2_resolve 3 (some .int) ∈ gt_tbl := List.mem_filter.mpr ⟨List.mem_of_getElem? (i := 648) (by rfl), rfl⟩
set_option maxRecDepth 100000 in
theorem gw_X2_definitionOf : Cond.code yX2_definitionOf cX2_definitionOf 2 (some (.object "SectionGarden$Symbol")) ∈ gt_tbl := List.mem_filter.mpr ⟨List.mem_of_getElem? (i := 679) (by rfl), rfl⟩
set_option maxRecDepth 100000 in
theorem gw_X2_firstRootNowhere : Cond.code yX2_firstRootNowhere cX2_firstRootNowhere 3 (some .int) ∈ gt_tbl := List.mem_filter.mpr ⟨List.mem_of_getElem? (i := 801) (by rfl), rfl⟩
set_option maxRecDepth 100000 in
theorem gw_X2_findLost : Cond.code yX2_findLost cX2_findLost 4 none ∈ gt_tbl := List.mem_filter.mpr ⟨List.mem_of_getElem? (i := 652) (by rfl), rfl⟩
set_option maxRecDepth 100000 in
theorem gw_X2_hasGroup : Cond.code yX2_hasGroup cX2_hasGroup 2 (some .boolean) ∈ gt_tbl := List.mem_filter.mpr ⟨List.mem_of_getElem? (i := 662) (by rfl), rfl⟩
set_option maxRecDepth 100000 in
theorem gw_X2_findDefinitions : Cond.code yX2_findDefinitions cX2_findDefinitions 4 (some .int) ∈ gt_tbl := List.mem_filter.mpr ⟨List.mem_of_getElem? (i := 667) (by rfl), rfl⟩
set_option maxRecDepth 100000 in
theorem gw_X2_takeDefinition : Cond.code yX2_takeDefinition cX2_takeDefinition 4 (some .boolean) ∈ gt_tbl := List.mem_filter.mpr ⟨List.mem_of_getElem? (i := 675) (by rfl), rfl⟩
set_option maxRecDepth 100000 in
theorem gw_X2_findTargets : Cond.code yX2_findTargets cX2_findTargets 4 none ∈ gt_tbl := List.mem_filter.mpr ⟨List.mem_of_getElem? (i := 683) (by rfl), rfl⟩
set_option maxRecDepth 100000 in
theorem gw_X12_init : Cond.code yX12_init cX12_init 3 none ∈ gt_tbl := List.mem_filter.mpr ⟨List.mem_of_getElem? (i := 501) (by rfl), rfl⟩
set_option maxRecDepth 100000 in
theorem gw_X3_init : Cond.code yX3_init cX3_init 1 none ∈ gt_tbl := List.mem_filter.mpr ⟨List.mem_of_getElem? (i := 218) (by rfl), rfl⟩
set_option maxRecDepth 100000 in
theorem gw_X3_run : Cond.code yX3_run cX3_run 4 none ∈ gt_tbl := List.mem_filter.mpr ⟨List.mem_of_getElem? (i := 818) (by rfl), rfl⟩
set_option maxRecDepth 100000 in
theorem gw_X3_firstKindOverAnother : Cond.code yX3_firstKindOverAnother cX3_firstKindOverAnother 4 (some .int) ∈ gt_tbl := List.mem_filter.mpr ⟨List.mem_of_getElem? (i := 924) (by rfl), rfl⟩
set_option maxRecDepth 100000 in
theorem gw_X3_firstMisfit : Cond.code yX3_firstMisfit cX3_firstMisfit 4 (some .int) ∈ gt_tbl := List.mem_filter.mpr ⟨List.mem_of_getElem? (i := 928) (by rfl), rfl⟩
set_option maxRecDepth 100000 in
theorem gw_X3_targetValue : Cond.code yX3_targetValue cX3_targetValue 2 (some .long) ∈ gt_tbl := List.mem_filter.mpr ⟨List.mem_of_getElem? (i := 903) (by rfl), rfl⟩
set_option maxRecDepth 100000 in
theorem gw_X3_imageByte : Cond.code yX3_imageByte cX3_imageByte 6 (some .int) ∈ gt_tbl := List.mem_filter.mpr ⟨List.mem_of_getElem? (i := 951) (by rfl), rfl⟩
set_option maxRecDepth 100000 in
theorem gw_X3_dropVeneers : Cond.code yX3_dropVeneers cX3_dropVeneers 3 none ∈ gt_tbl := List.mem_filter.mpr ⟨List.mem_of_getElem? (i := 822) (by rfl), rfl⟩
set_option maxRecDepth 100000 in
theorem gw_X3_layOut : Cond.code yX3_layOut cX3_layOut 5 none ∈ gt_tbl := List.mem_filter.mpr ⟨List.mem_of_getElem? (i := 830) (by rfl), rfl⟩
set_option maxRecDepth 100000 in
theorem gw_X3_layOutKind : Cond.code yX3_layOutKind cX3_layOutKind 9 (some .long) ∈ gt_tbl := List.mem_filter.mpr ⟨List.mem_of_getElem? (i := 835) (by rfl), rfl⟩
set_option maxRecDepth 100000 in
theorem gw_X3_findSetEdges : Cond.code yX3_findSetEdges cX3_findSetEdges 4 none ∈ gt_tbl := List.mem_filter.mpr ⟨List.mem_of_getElem? (i := 862) (by rfl), rfl⟩
set_option maxRecDepth 100000 in
theorem gw_X3_widenSet : Cond.code yX3_widenSet cX3_widenSet 6 none ∈ gt_tbl := List.mem_filter.mpr ⟨List.mem_of_getElem? (i := 875) (by rfl), rfl⟩
set_option maxRecDepth 100000 in
theorem gw_X3_addVeneers : Cond.code yX3_addVeneers cX3_addVeneers 4 (some .boolean) ∈ gt_tbl := List.mem_filter.mpr ⟨List.mem_of_getElem? (i := 885) (by rfl), rfl⟩
set_option maxRecDepth 100000 in
theorem gw_X3_addVeneersOf : Cond.code yX3_addVeneersOf cX3_addVeneersOf 5 none ∈ gt_tbl := List.mem_filter.mpr ⟨List.mem_of_getElem? (i := 889) (by rfl), rfl⟩
set_option maxRecDepth 100000 in
theorem gw_X3_veneerFor : Cond.code yX3_veneerFor cX3_veneerFor 6 (some .int) ∈ gt_tbl := List.mem_filter.mpr ⟨List.mem_of_getElem? (i := 911) (by rfl), rfl⟩
set_option maxRecDepth 100000 in
theorem gw_X3_amountWritten : Cond.code yX3_amountWritten cX3_amountWritten 4 (some .long) ∈ gt_tbl := List.mem_filter.mpr ⟨List.mem_of_getElem? (i := 894) (by rfl), rfl⟩
set_option maxRecDepth 100000 in
theorem gw_X3_sectionByte : Cond.code yX3_sectionByte cX3_sectionByte 5 (some .int) ∈ gt_tbl := List.mem_filter.mpr ⟨List.mem_of_getElem? (i := 956) (by rfl), rfl⟩
set_option maxRecDepth 100000 in
theorem gw_X3_veneerByte : Cond.code yX3_veneerByte cX3_veneerByte 6 (some .int) ∈ gt_tbl := List.mem_filter.mpr ⟨List.mem_of_getElem? (i := 969) (by rfl), rfl⟩
set_option maxRecDepth 100000 in
theorem gw_X3_byteOf : Cond.code yX3_byteOf cX3_byteOf 3 (some .int) ∈ gt_tbl := List.mem_filter.mpr ⟨List.mem_of_getElem? (i := 963) (by rfl), rfl⟩
set_option maxRecDepth 100000 in
theorem gw_X4_init : Cond.code yX4_init cX4_init 6 none ∈ gt_tbl := List.mem_filter.mpr ⟨List.mem_of_getElem? (i := 597) (by rfl), rfl⟩
set_option maxRecDepth 100000 in
theorem gw_X4_ownPlace : Cond.code yX4_ownPlace cX4_ownPlace 1 (some .long) ∈ gt_tbl := List.mem_filter.mpr ⟨List.mem_of_getElem? (i := 899) (by rfl), rfl⟩
set_option maxRecDepth 100000 in
theorem gw_X4_covers : Cond.code yX4_covers cX4_covers 2 (some .boolean) ∈ gt_tbl := List.mem_filter.mpr ⟨List.mem_of_getElem? (i := 960) (by rfl), rfl⟩
set_option maxRecDepth 100000 in
theorem gw_X4_isWrittenLike : Cond.code yX4_isWrittenLike cX4_isWrittenLike 2 (some .boolean) ∈ gt_tbl := List.mem_filter.mpr ⟨List.mem_of_getElem? (i := 764) (by rfl), rfl⟩
set_option maxRecDepth 100000 in
theorem gw_X5_init : Cond.code yX5_init cX5_init 7 none ∈ gt_tbl := List.mem_filter.mpr ⟨List.mem_of_getElem? (i := 301) (by rfl), rfl⟩
set_option maxRecDepth 100000 in
theorem gw_X5_byteAt : Cond.code yX5_byteAt cX5_byteAt 3 (some .int) ∈ gt_tbl := List.mem_filter.mpr ⟨List.mem_of_getElem? (i := 490) (by rfl), rfl⟩
set_option maxRecDepth 100000 in
theorem gw_X5_setByte : Cond.code yX5_setByte cX5_setByte 5 none ∈ gt_tbl := List.mem_filter.mpr ⟨List.mem_of_getElem? (i := 497) (by rfl), rfl⟩
set_option maxRecDepth 100000 in
theorem gw_X5_hasBytesOf : Cond.code yX5_hasBytesOf cX5_hasBytesOf 3 (some .boolean) ∈ gt_tbl := List.mem_filter.mpr ⟨List.mem_of_getElem? (i := 772) (by rfl), rfl⟩
set_option maxRecDepth 100000 in
theorem gw_X5_agreesWherePatched : Cond.code yX5_agreesWherePatched cX5_agreesWherePatched 4 (some .boolean) ∈ gt_tbl := List.mem_filter.mpr ⟨List.mem_of_getElem? (i := 776) (by rfl), rfl⟩
set_option maxRecDepth 100000 in
theorem gw_X5_exchangeMark : Cond.code yX5_exchangeMark cX5_exchangeMark 4 (some .int) ∈ gt_tbl := List.mem_filter.mpr ⟨List.mem_of_getElem? (i := 523) (by rfl), rfl⟩
set_option maxRecDepth 100000 in
theorem gw_X5_isKept : Cond.code yX5_isKept cX5_isKept 1 (some .boolean) ∈ gt_tbl := List.mem_filter.mpr ⟨List.mem_of_getElem? (i := 714) (by rfl), rfl⟩
set_option maxRecDepth 100000 in
theorem gw_X5_isPlaced : Cond.code yX5_isPlaced cX5_isPlaced 1 (some .boolean) ∈ gt_tbl := List.mem_filter.mpr ⟨List.mem_of_getElem? (i := 839) (by rfl), rfl⟩
set_option maxRecDepth 100000 in
theorem gw_X5_finalPlace : Cond.code yX5_finalPlace cX5_finalPlace 1 (some .long) ∈ gt_tbl := List.mem_filter.mpr ⟨List.mem_of_getElem? (i := 871) (by rfl), rfl⟩
set_option maxRecDepth 100000 in
theorem gw_X5_endWithoutVeneers : Cond.code yX5_endWithoutVeneers cX5_endWithoutVeneers 1 (some .long) ∈ gt_tbl := List.mem_filter.mpr ⟨List.mem_of_getElem? (i := 852) (by rfl), rfl⟩
set_option maxRecDepth 100000 in
theorem gw_X5_placeOfVeneer : Cond.code yX5_placeOfVeneer cX5_placeOfVeneer 2 (some .long) ∈ gt_tbl := List.mem_filter.mpr ⟨List.mem_of_getElem? (i := 856) (by rfl), rfl⟩
set_option maxRecDepth 100000 in
theorem gw_X5_endWithVeneers : Cond.code yX5_endWithVeneers cX5_endWithVeneers 1 (some .long) ∈ gt_tbl := List.mem_filter.mpr ⟨List.mem_of_getElem? (i := 848) (by rfl), rfl⟩
set_option maxRecDepth 100000 in
theorem gw_X5_alignedUp : Cond.code yX5_alignedUp cX5_alignedUp 5 (some .long) ∈ gt_tbl := List.mem_filter.mpr ⟨List.mem_of_getElem? (i := 843) (by rfl), rfl⟩
set_option maxRecDepth 100000 in
theorem gw_X6_init : Cond.code yX6_init cX6_init 9 none ∈ gt_tbl := List.mem_filter.mpr ⟨List.mem_of_getElem? (i := 535) (by rfl), rfl⟩
set_option maxRecDepth 100000 in
theorem gw_X6_isDefinition : Cond.code yX6_isDefinition cX6_isDefinition 1 (some .boolean) ∈ gt_tbl := List.mem_filter.mpr ⟨List.mem_of_getElem? (i := 671) (by rfl), rfl⟩
set_option maxRecDepth 100000 in
theorem gw_X6_targetSet : Cond.code yX6_targetSet cX6_targetSet 1 (some .int) ∈ gt_tbl := List.mem_filter.mpr ⟨List.mem_of_getElem? (i := 687) (by rfl), rfl⟩
set_option maxRecDepth 100000 in
theorem gw_X6_isNowhere : Cond.code yX6_isNowhere cX6_isNowhere 1 (some .boolean) ∈ gt_tbl := List.mem_filter.mpr ⟨List.mem_of_getElem? (i := 809) (by rfl), rfl⟩
set_option maxRecDepth 100000 in
theorem gw_X6_aimAt : Cond.code yX6_aimAt cX6_aimAt 2 none ∈ gt_tbl := List.mem_filter.mpr ⟨List.mem_of_getElem? (i := 691) (by rfl), rfl⟩
set_option maxRecDepth 100000 in
theorem gw_X6_hasSetAndOffsetOf : Cond.code yX6_hasSetAndOffsetOf cX6_hasSetAndOffsetOf 2 (some .boolean) ∈ gt_tbl := List.mem_filter.mpr ⟨List.mem_of_getElem? (i := 768) (by rfl), rfl⟩
set_option maxRecDepth 100000 in
theorem gw_X6_hasTargetOf : Cond.code yX6_hasTargetOf cX6_hasTargetOf 2 (some .boolean) ∈ gt_tbl := List.mem_filter.mpr ⟨List.mem_of_getElem? (i := 915) (by rfl), rfl⟩
set_option maxRecDepth 100000 in
theorem gw_X7_init : Cond.code yX7_init cX7_init 1 none ∈ gt_tbl := List.mem_filter.mpr ⟨List.mem_of_getElem? (i := 105) (by rfl), rfl⟩
set_option maxRecDepth 100000 in
theorem gw_X7_hasObject : Cond.code yX7_hasObject cX7_hasObject 2 (some .boolean) ∈ gt_tbl := List.mem_filter.mpr ⟨List.mem_of_getElem? (i := 288) (by rfl), rfl⟩
set_option maxRecDepth 100000 in
theorem gw_X7_sectionAt : Cond.code yX7_sectionAt cX7_sectionAt 2 (some (.object "SectionGarden$Section")) ∈ gt_tbl := List.mem_filter.mpr ⟨List.mem_of_getElem? (i := 470) (by rfl), rfl⟩
set_option maxRecDepth 100000 in
theorem gw_X7_symbolAt : Cond.code yX7_symbolAt cX7_symbolAt 2 (some (.object "SectionGarden$Symbol")) ∈ gt_tbl := List.mem_filter.mpr ⟨List.mem_of_getElem? (i := 584) (by rfl), rfl⟩
set_option maxRecDepth 100000 in
theorem gw_X7_addRoot : Cond.code yX7_addRoot cX7_addRoot 2 (some .boolean) ∈ gt_tbl := List.mem_filter.mpr ⟨List.mem_of_getElem? (i := 635) (by rfl), rfl⟩
set_option maxRecDepth 100000 in
theorem gw_X8_fits : Cond.code yX8_fits cX8_fits 3 (some .boolean) ∈ gt_tbl := List.mem_filter.mpr ⟨List.mem_of_getElem? (i := 907) (by rfl), rfl⟩
set_option maxRecDepth 100000 in
theorem gw_X9_init : Cond.code yX9_init cX9_init 1 none ∈ gt_tbl := List.mem_filter.mpr ⟨List.mem_of_getElem? (i := 97) (by rfl), rfl⟩
set_option maxRecDepth 100000 in
theorem gw_X9_object : Cond.code yX9_object cX9_object 1 (some .int) ∈ gt_tbl := List.mem_filter.mpr ⟨List.mem_of_getElem? (i := 276) (by rfl), rfl⟩
set_option maxRecDepth 100000 in
theorem gw_X9_section : Cond.code yX9_section cX9_section 7 (some .int) ∈ gt_tbl := List.mem_filter.mpr ⟨List.mem_of_getElem? (i := 284) (by rfl), rfl⟩
set_option maxRecDepth 100000 in
theorem gw_X9_patch : Cond.code yX9_patch cX9_patch 6 (some .int) ∈ gt_tbl := List.mem_filter.mpr ⟨List.mem_of_getElem? (i := 466) (by rfl), rfl⟩
set_option maxRecDepth 100000 in
theorem gw_X9_mark : Cond.code yX9_mark cX9_mark 5 (some .int) ∈ gt_tbl := List.mem_filter.mpr ⟨List.mem_of_getElem? (i := 516) (by rfl), rfl⟩
set_option maxRecDepth 100000 in
theorem gw_X9_symbol : Cond.code yX9_symbol cX9_symbol 9 (some .int) ∈ gt_tbl := List.mem_filter.mpr ⟨List.mem_of_getElem? (i := 527) (by rfl), rfl⟩
set_option maxRecDepth 100000 in
theorem gw_X9_relocation : Cond.code yX9_relocation cX9_relocation 10 (some .int) ∈ gt_tbl := List.mem_filter.mpr ⟨List.mem_of_getElem? (i := 580) (by rfl), rfl⟩
set_option maxRecDepth 100000 in
theorem gw_X9_root : Cond.code yX9_root cX9_root 2 (some .int) ∈ gt_tbl := List.mem_filter.mpr ⟨List.mem_of_getElem? (i := 631) (by rfl), rfl⟩
set_option maxRecDepth 100000 in
theorem gw_X9_base : Cond.code yX9_base cX9_base 4 (some .int) ∈ gt_tbl := List.mem_filter.mpr ⟨List.mem_of_getElem? (i := 639) (by rfl), rfl⟩
set_option maxRecDepth 100000 in
theorem gw_X9_link : Cond.code yX9_link cX9_link 3 (some .int) ∈ gt_tbl := List.mem_filter.mpr ⟨List.mem_of_getElem? (i := 644) (by rfl), rfl⟩
set_option maxRecDepth 100000 in
theorem gw_X9_fault : Cond.code yX9_fault cX9_fault 1 (some .int) ∈ gt_tbl := List.mem_filter.mpr ⟨List.mem_of_getElem? (i := 932) (by rfl), rfl⟩
set_option maxRecDepth 100000 in
theorem gw_X9_kept : Cond.code yX9_kept cX9_kept 4 (some .int) ∈ gt_tbl := List.mem_filter.mpr ⟨List.mem_of_getElem? (i := 936) (by rfl), rfl⟩
set_option maxRecDepth 100000 in
theorem gw_X9_place : Cond.code yX9_place cX9_place 3 (some .long) ∈ gt_tbl := List.mem_filter.mpr ⟨List.mem_of_getElem? (i := 986) (by rfl), rfl⟩
set_option maxRecDepth 100000 in
theorem gw_X9_value : Cond.code yX9_value cX9_value 3 (some .long) ∈ gt_tbl := List.mem_filter.mpr ⟨List.mem_of_getElem? (i := 1077) (by rfl), rfl⟩
set_option maxRecDepth 100000 in
theorem gw_X9_octet : Cond.code yX9_octet cX9_octet 5 (some .int) ∈ gt_tbl := List.mem_filter.mpr ⟨List.mem_of_getElem? (i := 944) (by rfl), rfl⟩
set_option maxRecDepth 100000 in
theorem gw_X9_range : Cond.code yX9_range cX9_range 3 (some .long) ∈ gt_tbl := List.mem_filter.mpr ⟨List.mem_of_getElem? (i := 1087) (by rfl), rfl⟩
set_option maxRecDepth 100000 in
theorem gw_X9_veneers : Cond.code yX9_veneers cX9_veneers 3 (some .int) ∈ gt_tbl := List.mem_filter.mpr ⟨List.mem_of_getElem? (i := 973) (by rfl), rfl⟩
set_option maxRecDepth 100000 in
theorem gw_X9_count : Cond.code yX9_count cX9_count 2 (some .int) ∈ gt_tbl := List.mem_filter.mpr ⟨List.mem_of_getElem? (i := 977) (by rfl), rfl⟩
set_option maxRecDepth 100000 in
theorem gw_X9_forgetLink : Cond.code yX9_forgetLink cX9_forgetLink 1 none ∈ gt_tbl := List.mem_filter.mpr ⟨List.mem_of_getElem? (i := 280) (by rfl), rfl⟩
set_option maxRecDepth 100000 in
theorem gw_X9_faultBeforePlacing : Cond.code yX9_faultBeforePlacing cX9_faultBeforePlacing 1 (some .int) ∈ gt_tbl := List.mem_filter.mpr ⟨List.mem_of_getElem? (i := 797) (by rfl), rfl⟩
set_option maxRecDepth 100000 in
theorem gw_X9_faultOfPlaces : Cond.code yX9_faultOfPlaces cX9_faultOfPlaces 1 (some .int) ∈ gt_tbl := List.mem_filter.mpr ⟨List.mem_of_getElem? (i := 920) (by rfl), rfl⟩
set_option maxRecDepth 100000 in
theorem gw_X9_isWithin : Cond.code yX9_isWithin cX9_isWithin 3 (some .boolean) ∈ gt_tbl := List.mem_filter.mpr ⟨List.mem_of_getElem? (i := 291) (by rfl), rfl⟩
set_option maxRecDepth 100000 in
theorem gw_X9_isMark : Cond.code yX9_isMark cX9_isMark 2 (some .boolean) ∈ gt_tbl := List.mem_filter.mpr ⟨List.mem_of_getElem? (i := 519) (by rfl), rfl⟩
set_option maxRecDepth 100000 in
theorem gw_X9_isSortFor : Cond.code yX9_isSortFor cX9_isSortFor 2 (some .boolean) ∈ gt_tbl := List.mem_filter.mpr ⟨List.mem_of_getElem? (i := 530) (by rfl), rfl⟩
set_option maxRecDepth 100000 in
theorem gw_X9_typeAt : Cond.code yX9_typeAt cX9_typeAt 1 (some (.object "SectionGarden$Type")) ∈ gt_tbl := List.mem_filter.mpr ⟨List.mem_of_getElem? (i := 588) (by rfl), rfl⟩
set_option maxRecDepth 100000 in
theorem gw_X9_numberOf : Cond.code yX9_numberOf cX9_numberOf 1 (some .int) ∈ gt_tbl := List.mem_filter.mpr ⟨List.mem_of_getElem? (i := 940) (by rfl), rfl⟩
set_option maxRecDepth 100000 in
theorem gw_X10_thrown : Cond.code yX10_thrown cX10_thrown 1 (some .int) ∈ gt_tbl := List.mem_filter.mpr ⟨List.mem_of_getElem? (i := 1093) (by rfl), rfl⟩
set_option maxRecDepth 100000 in
theorem gw_X10_init : Cond.code yX10_init cX10_init 1 none ∈ gt_tbl := List.mem_filter.mpr ⟨List.mem_of_getElem? (i := 1098) (by rfl), rfl⟩
set_option maxRecDepth 100000 in
theorem gw_X10_in : Cond.code yX10_in cX10_in 6 (some .boolean) ∈ gt_tbl := List.mem_filter.mpr ⟨List.mem_of_getElem? (i := 1279) (by rfl), rfl⟩
set_option maxRecDepth 100000 in
theorem gw_X10_told : Cond.code yX10_told cX10_told 1 none ∈ gt_tbl := List.mem_filter.mpr ⟨List.mem_of_getElem? (i := 1272) (by rfl), rfl⟩
set_option maxRecDepth 100000 in
theorem gw_X10_object : Cond.code yX10_object cX10_object 1 (some .int) ∈ gt_tbl := List.mem_filter.mpr ⟨List.mem_of_getElem? (i := 1268) (by rfl), rfl⟩
set_option maxRecDepth 100000 in
theorem gw_X10_section : Cond.code yX10_section cX10_section 8 (some .int) ∈ gt_tbl := List.mem_filter.mpr ⟨List.mem_of_getElem? (i := 1276) (by rfl), rfl⟩
set_option maxRecDepth 100000 in
theorem gw_X10_hasBytes : Cond.code yX10_hasBytes cX10_hasBytes 2 (some .boolean) ∈ gt_tbl := List.mem_filter.mpr ⟨List.mem_of_getElem? (i := 1290) (by rfl), rfl⟩
set_option maxRecDepth 100000 in
theorem gw_X10_patch : Cond.code yX10_patch cX10_patch 6 (some .int) ∈ gt_tbl := List.mem_filter.mpr ⟨List.mem_of_getElem? (i := 1286) (by rfl), rfl⟩
set_option maxRecDepth 100000 in
theorem gw_X10_mark : Cond.code yX10_mark cX10_mark 5 (some .int) ∈ gt_tbl := List.mem_filter.mpr ⟨List.mem_of_getElem? (i := 1294) (by rfl), rfl⟩
set_option maxRecDepth 100000 in
theorem gw_X10_symbol : Cond.code yX10_symbol cX10_symbol 9 (some .int) ∈ gt_tbl := List.mem_filter.mpr ⟨List.mem_of_getElem? (i := 1301) (by rfl), rfl⟩
set_option maxRecDepth 100000 in
theorem gw_X10_wide : Cond.code yX10_wide cX10_wide 1 (some .int) ∈ gt_tbl := List.mem_filter.mpr ⟨List.mem_of_getElem? (i := 1310) (by rfl), rfl⟩
set_option maxRecDepth 100000 in
theorem gw_X10_relocation : Cond.code yX10_relocation cX10_relocation 7 (some .int) ∈ gt_tbl := List.mem_filter.mpr ⟨List.mem_of_getElem? (i := 1306) (by rfl), rfl⟩
set_option maxRecDepth 100000 in
theorem gw_X10_root : Cond.code yX10_root cX10_root 2 (some .int) ∈ gt_tbl := List.mem_filter.mpr ⟨List.mem_of_getElem? (i := 1314) (by rfl), rfl⟩
set_option maxRecDepth 100000 in
theorem gw_X10_base : Cond.code yX10_base cX10_base 4 (some .int) ∈ gt_tbl := List.mem_filter.mpr ⟨List.mem_of_getElem? (i := 1318) (by rfl), rfl⟩
set_option maxRecDepth 100000 in
theorem gw_X10_names : Cond.code yX10_names cX10_names 6 (some .int) ∈ gt_tbl := List.mem_filter.mpr ⟨List.mem_of_getElem? (i := 1327) (by rfl), rfl⟩
set_option maxRecDepth 100000 in
theorem gw_X10_keeps : Cond.code yX10_keeps cX10_keeps 3 none ∈ gt_tbl := List.mem_filter.mpr ⟨List.mem_of_getElem? (i := 1339) (by rfl), rfl⟩
set_option maxRecDepth 100000 in
theorem gw_X10_keepAll : Cond.code yX10_keepAll cX10_keepAll 4 none ∈ gt_tbl := List.mem_filter.mpr ⟨List.mem_of_getElem? (i := 1335) (by rfl), rfl⟩
set_option maxRecDepth 100000 in
theorem gw_X10_comesBy : Cond.code yX10_comesBy cX10_comesBy 4 none ∈ gt_tbl := List.mem_filter.mpr ⟨List.mem_of_getElem? (i := 1343) (by rfl), rfl⟩
set_option maxRecDepth 100000 in
theorem gw_X10_relocationsOf : Cond.code yX10_relocationsOf cX10_relocationsOf 4 (some .int) ∈ gt_tbl := List.mem_filter.mpr ⟨List.mem_of_getElem? (i := 1355) (by rfl), rfl⟩
set_option maxRecDepth 100000 in
theorem gw_X10_nth : Cond.code yX10_nth cX10_nth 5 (some .int) ∈ gt_tbl := List.mem_filter.mpr ⟨List.mem_of_getElem? (i := 1363) (by rfl), rfl⟩
set_option maxRecDepth 100000 in
theorem gw_X10_startsAlike : Cond.code yX10_startsAlike cX10_startsAlike 4 (some .boolean) ∈ gt_tbl := List.mem_filter.mpr ⟨List.mem_of_getElem? (i := 1351) (by rfl), rfl⟩
set_option maxRecDepth 100000 in
theorem gw_X10_staysAlike : Cond.code yX10_staysAlike cX10_staysAlike 10 (some .boolean) ∈ gt_tbl := List.mem_filter.mpr ⟨List.mem_of_getElem? (i := 1359) (by rfl), rfl⟩
set_option maxRecDepth 100000 in
theorem gw_X10_foldAll : Cond.code yX10_foldAll cX10_foldAll 5 none ∈ gt_tbl := List.mem_filter.mpr ⟨List.mem_of_getElem? (i := 1347) (by rfl), rfl⟩
set_option maxRecDepth 100000 in
theorem gw_X10_isPlaced : Cond.code yX10_isPlaced cX10_isPlaced 2 (some .boolean) ∈ gt_tbl := List.mem_filter.mpr ⟨List.mem_of_getElem? (i := 1376) (by rfl), rfl⟩
set_option maxRecDepth 100000 in
theorem gw_X10_veneersOf : Cond.code yX10_veneersOf cX10_veneersOf 4 (some .int) ∈ gt_tbl := List.mem_filter.mpr ⟨List.mem_of_getElem? (i := 1383) (by rfl), rfl⟩
set_option maxRecDepth 100000 in
theorem gw_X10_up : Cond.code yX10_up cX10_up 4 (some .long) ∈ gt_tbl := List.mem_filter.mpr ⟨List.mem_of_getElem? (i := 1379) (by rfl), rfl⟩
set_option maxRecDepth 100000 in
theorem gw_X10_placeAll : Cond.code yX10_placeAll cX10_placeAll 6 none ∈ gt_tbl := List.mem_filter.mpr ⟨List.mem_of_getElem? (i := 1371) (by rfl), rfl⟩
set_option maxRecDepth 100000 in
theorem gw_X10_veneerPlace : Cond.code yX10_veneerPlace cX10_veneerPlace 5 (some .long) ∈ gt_tbl := List.mem_filter.mpr ⟨List.mem_of_getElem? (i := 1421) (by rfl), rfl⟩
set_option maxRecDepth 100000 in
theorem gw_X10_placeOf : Cond.code yX10_placeOf cX10_placeOf 2 (some .long) ∈ gt_tbl := List.mem_filter.mpr ⟨List.mem_of_getElem? (i := 1395) (by rfl), rfl⟩
set_option maxRecDepth 100000 in
theorem gw_X10_valueOf : Cond.code yX10_valueOf cX10_valueOf 10 (some .long) ∈ gt_tbl := List.mem_filter.mpr ⟨List.mem_of_getElem? (i := 1391) (by rfl), rfl⟩
set_option maxRecDepth 100000 in
theorem gw_X10_v : Cond.code yX10_v cX10_v 2 (some .long) ∈ gt_tbl := List.mem_filter.mpr ⟨List.mem_of_getElem? (i := 1387) (by rfl), rfl⟩
set_option maxRecDepth 100000 in
theorem gw_X10_isBranchNear : Cond.code yX10_isBranchNear cX10_isBranchNear 3 (some .boolean) ∈ gt_tbl := List.mem_filter.mpr ⟨List.mem_of_getElem? (i := 1399) (by rfl), rfl⟩
set_option maxRecDepth 100000 in
theorem gw_X10_sameAim : Cond.code yX10_sameAim cX10_sameAim 3 (some .boolean) ∈ gt_tbl := List.mem_filter.mpr ⟨List.mem_of_getElem? (i := 1405) (by rfl), rfl⟩
set_option maxRecDepth 100000 in
theorem gw_X10_veneerAll : Cond.code yX10_veneerAll cX10_veneerAll 7 none ∈ gt_tbl := List.mem_filter.mpr ⟨List.mem_of_getElem? (i := 1367) (by rfl), rfl⟩
set_option maxRecDepth 100000 in
theorem gw_X10_bad : Cond.code yX10_bad cX10_bad 3 none ∈ gt_tbl := List.mem_filter.mpr ⟨List.mem_of_getElem? (i := 1331) (by rfl), rfl⟩
set_option maxRecDepth 100000 in
theorem gw_X10_link : Cond.code yX10_link cX10_link 5 (some .int) ∈ gt_tbl := List.mem_filter.mpr ⟨List.mem_of_getElem? (i := 1323) (by rfl), rfl⟩
set_option maxRecDepth 100000 in
theorem gw_X10_hasPlaced : Cond.code yX10_hasPlaced cX10_hasPlaced 3 (some .boolean) ∈ gt_tbl := List.mem_filter.mpr ⟨List.mem_of_getElem? (i := 1409) (by rfl), rfl⟩
set_option maxRecDepth 100000 in
theorem gw_X10_written : Cond.code yX10_written cX10_written 6 (some .long) ∈ gt_tbl := List.mem_filter.mpr ⟨List.mem_of_getElem? (i := 1417) (by rfl), rfl⟩
set_option maxRecDepth 100000 in
theorem gw_X10_fits : Cond.code yX10_fits cX10_fits 4 (some .boolean) ∈ gt_tbl := List.mem_filter.mpr ⟨List.mem_of_getElem? (i := 1413) (by rfl), rfl⟩
set_option maxRecDepth 100000 in
theorem gw_X10_fault : Cond.code yX10_fault cX10_fault 1 (some .int) ∈ gt_tbl := List.mem_filter.mpr ⟨List.mem_of_getElem? (i := 1431) (by rfl), rfl⟩
set_option maxRecDepth 100000 in
theorem gw_X10_kept : Cond.code yX10_kept cX10_kept 3 (some .int) ∈ gt_tbl := List.mem_filter.mpr ⟨List.mem_of_getElem? (i := 1435) (by rfl), rfl⟩
set_option maxRecDepth 100000 in
theorem gw_X10_place : Cond.code yX10_place cX10_place 2 (some .long) ∈ gt_tbl := List.mem_filter.mpr ⟨List.mem_of_getElem? (i := 1439) (by rfl), rfl⟩
set_option maxRecDepth 100000 in
theorem gw_X10_value : Cond.code yX10_value cX10_value 2 (some .long) ∈ gt_tbl := List.mem_filter.mpr ⟨List.mem_of_getElem? (i := 1443) (by rfl), rfl⟩
set_option maxRecDepth 100000 in
theorem gw_X10_octet : Cond.code yX10_octet cX10_octet 7 (some .int) ∈ gt_tbl := List.mem_filter.mpr ⟨List.mem_of_getElem? (i := 1447) (by rfl), rfl⟩
set_option maxRecDepth 100000 in
theorem gw_X10_byteOf : Cond.code yX10_byteOf cX10_byteOf 6 (some .int) ∈ gt_tbl := List.mem_filter.mpr ⟨List.mem_of_getElem? (i := 1451) (by rfl), rfl⟩
set_option maxRecDepth 100000 in
theorem gw_X10_range : Cond.code yX10_range cX10_range 3 (some .long) ∈ gt_tbl := List.mem_filter.mpr ⟨List.mem_of_getElem? (i := 1455) (by rfl), rfl⟩
set_option maxRecDepth 100000 in
theorem gw_X10_veneers : Cond.code yX10_veneers cX10_veneers 2 (some .int) ∈ gt_tbl := List.mem_filter.mpr ⟨List.mem_of_getElem? (i := 1459) (by rfl), rfl⟩
set_option maxRecDepth 100000 in
theorem gw_X10_found : Cond.code yX10_found cX10_found 4 (some .int) ∈ gt_tbl := List.mem_filter.mpr ⟨List.mem_of_getElem? (i := 1467) (by rfl), rfl⟩
set_option maxRecDepth 100000 in
theorem gw_X10_count : Cond.code yX10_count cX10_count 2 (some .int) ∈ gt_tbl := List.mem_filter.mpr ⟨List.mem_of_getElem? (i := 1463) (by rfl), rfl⟩
set_option maxRecDepth 100000 in
theorem gw_Jxa1e45_init_da8c8 : Cond.code yJxa1e45_init_da8c8 cJxa1e45_init_da8c8 1 none ∈ gt_tbl := List.mem_filter.mpr ⟨List.mem_of_getElem? (i := 117) (by rfl), rfl⟩
set_option maxRecDepth 100000 in
theorem gw_Jxc12de_init_da8c8 : Cond.code yJxc12de_init_da8c8 cJxc12de_init_da8c8 1 none ∈ gt_tbl := List.mem_filter.mpr ⟨List.mem_of_getElem? (i := 114) (by rfl), rfl⟩
set_option maxRecDepth 100000 in
theorem gw_Jx4a65c_init_da8c8 : Cond.code yJx4a65c_init_da8c8 cJx4a65c_init_da8c8 1 none ∈ gt_tbl := List.mem_filter.mpr ⟨List.mem_of_getElem? (i := 111) (by rfl), rfl⟩
set_option maxRecDepth 100000 in
theorem gw_Jx4a65c_grow_92f84 : Cond.code yJx4a65c_grow_92f84 cJx4a65c_grow_92f84 4 (some (.array (.object "java/lang/Object"))) ∈ gt_tbl := List.mem_filter.mpr ⟨List.mem_of_getElem? (i := 416) (by rfl), rfl⟩
set_option maxRecDepth 100000 in
theorem gw_Jx4a65c_grow_d5877 : Cond.code yJx4a65c_grow_d5877 cJx4a65c_grow_d5877 1 (some (.array (.object "java/lang/Object"))) ∈ gt_tbl := List.mem_filter.mpr ⟨List.mem_of_getElem? (i := 412) (by rfl), rfl⟩
set_option maxRecDepth 100000 in
theorem gw_Jx4a65c_size_8abf5 : Cond.code yJx4a65c_size_8abf5 cJx4a65c_size_8abf5 1 (some .int) ∈ gt_tbl := List.mem_filter.mpr ⟨List.mem_of_getElem? (i := 295) (by rfl), rfl⟩
set_option maxRecDepth 100000 in
theorem gw_Jx4a65c_elementData_915e3 : Cond.code yJx4a65c_elementData_915e3 cJx4a65c_elementData_915e3 2 (some (.object "java/lang/Object")) ∈ gt_tbl := List.mem_filter.mpr ⟨List.mem_of_getElem? (i := 485) (by rfl), rfl⟩
set_option maxRecDepth 100000 in
theorem gw_Jx4a65c_get_915e3 : Cond.code yJx4a65c_get_915e3 cJx4a65c_get_915e3 2 (some (.object "java/lang/Object")) ∈ gt_tbl := List.mem_filter.mpr ⟨List.mem_of_getElem? (i := 475) (by rfl), rfl⟩
set_option maxRecDepth 100000 in
theorem gw_Jx4a65c_add_72be8 : Cond.code yJx4a65c_add_72be8 cJx4a65c_add_72be8 4 none ∈ gt_tbl := List.mem_filter.mpr ⟨List.mem_of_getElem? (i := 408) (by rfl), rfl⟩
set_option maxRecDepth 100000 in
theorem gw_Jx4a65c_add_9ea2d : Cond.code yJx4a65c_add_9ea2d cJx4a65c_add_9ea2d 2 (some .boolean) ∈ gt_tbl := List.mem_filter.mpr ⟨List.mem_of_getElem? (i := 404) (by rfl), rfl⟩
set_option maxRecDepth 100000 in
theorem gw_Jx4a65c_clear_da8c8 : Cond.code yJx4a65c_clear_da8c8 cJx4a65c_clear_da8c8 4 none ∈ gt_tbl := List.mem_filter.mpr ⟨List.mem_of_getElem? (i := 703) (by rfl), rfl⟩
set_option maxRecDepth 100000 in
theorem gw_J7_fill_d0a16 : Cond.code yJ7_fill_d0a16 cJ7_fill_d0a16 5 none ∈ gt_tbl := List.mem_filter.mpr ⟨List.mem_of_getElem? (i := 866) (by rfl), rfl⟩
set_option maxRecDepth 100000 in
theorem gw_J7_fill_53178 : Cond.code yJ7_fill_53178 cJ7_fill_53178 4 none ∈ gt_tbl := List.mem_filter.mpr ⟨List.mem_of_getElem? (i := 655) (by rfl), rfl⟩
set_option maxRecDepth 100000 in
theorem gw_J7_copyOf_1904c : Cond.code yJ7_copyOf_1904c cJ7_copyOf_1904c 2 (some (.array (.object "java/lang/Object"))) ∈ gt_tbl := List.mem_filter.mpr ⟨List.mem_of_getElem? (i := 429) (by rfl), rfl⟩
set_option maxRecDepth 100000 in
theorem gw_J7_copyOf_6403c : Cond.code yJ7_copyOf_6403c cJ7_copyOf_6403c 4 (some (.array (.object "java/lang/Object"))) ∈ gt_tbl := List.mem_filter.mpr ⟨List.mem_of_getElem? (i := 451) (by rfl), rfl⟩
set_option maxRecDepth 100000 in
theorem gw_J15_checkIndex_7cf53 : Cond.code yJ15_checkIndex_7cf53 cJ15_checkIndex_7cf53 2 (some .int) ∈ gt_tbl := List.mem_filter.mpr ⟨List.mem_of_getElem? (i := 478) (by rfl), rfl⟩
set_option maxRecDepth 100000 in
theorem gw_J8_newLength_cabcc : Cond.code yJ8_newLength_cabcc cJ8_newLength_cabcc 4 (some .int) ∈ gt_tbl := List.mem_filter.mpr ⟨List.mem_of_getElem? (i := 419) (by rfl), rfl⟩
set_option maxRecDepth 100000 in
theorem gw_J8_hugeLength_7cf53 : Cond.code yJ8_hugeLength_7cf53 cJ8_hugeLength_7cf53 3 (some .int) ∈ gt_tbl := List.mem_filter.mpr ⟨List.mem_of_getElem? (i := 426) (by rfl), rfl⟩
set_option maxRecDepth 100000 in
theorem gw_J3_checkIndex_8e157 : Cond.code yJ3_checkIndex_8e157 cJ3_checkIndex_8e157 3 (some .int) ∈ gt_tbl := List.mem_filter.mpr ⟨List.mem_of_getElem? (i := 481) (by rfl), rfl⟩
theorem gt_cw0 : ∀ M ∈ gt_ms0, Cond.code (mx_my M) (mx_mb M) (mx_ml M) (mx_mr M) ∈ gt_tbl := List.forall_mem_cons.mpr ⟨gw_X0_init, List.forall_mem_cons.mpr ⟨gw_X0_find, List.forall_mem_cons.mpr ⟨gw_X0_findWhatMayFold, List.forall_mem_cons.mpr ⟨gw_X0_forbidWhatItTakesPlacesOf, List.forall_mem_cons.mpr ⟨gw_X0_joinKin, List.forall_mem_cons.mpr ⟨gw_X0_looksLike, List.forall_mem_cons.mpr ⟨gw_X0_relocationsLookLike, List.forall_mem_cons.mpr ⟨gw_X0_partKin, List.forall_mem_cons.mpr ⟨gw_X0_firstOfTheSameKin, List.forall_mem_cons.mpr ⟨gw_X0_targetsAreKin, List.forall_mem_cons.mpr ⟨gw_X0_foldKin, List.forall_mem_cons.mpr ⟨gw_X1_init, List.forall_mem_cons.mpr ⟨gw_X1_find, List.forall_mem_cons.mpr ⟨gw_X1_firstNowhere, List.forall_mem_cons.mpr ⟨gw_X1_firstIntoLost, List.forall_mem_cons.mpr ⟨gw_X1_begin, fun _ h => absurd h List.not_mem_nil⟩⟩⟩⟩⟩⟩⟩⟩⟩⟩⟩⟩⟩⟩⟩⟩
theorem gt_cw1 : ∀ M ∈ gt_ms1, Cond.code (mx_my M) (mx_mb M) (mx_ml M) (mx_mr M) ∈ gt_tbl := List.forall_mem_cons.mpr ⟨gw_X1_admit, List.forall_mem_cons.mpr ⟨gw_X1_follow, List.forall_mem_cons.mpr ⟨gw_X1_admitSet, List.forall_mem_cons.mpr ⟨gw_X1_admitGroup, List.forall_mem_cons.mpr ⟨gw_X2_init, List.forall_mem_cons.mpr ⟨gw_X2_resolve, List.forall_mem_cons.mpr ⟨gw_X2_definitionOf, List.forall_mem_cons.mpr ⟨gw_X2_firstRootNowhere, List.forall_mem_cons.mpr ⟨gw_X2_findLost, List.forall_mem_cons.mpr ⟨gw_X2_hasGroup, List.forall_mem_cons.mpr ⟨gw_X2_findDefinitions, List.forall_mem_cons.mpr ⟨gw_X2_takeDefinition, List.forall_mem_cons.mpr ⟨gw_X2_findTargets, List.forall_mem_cons.mpr ⟨gw_X12_init, List.forall_mem_cons.mpr ⟨gw_X3_init, List.forall_mem_cons.mpr ⟨gw_X3_run, fun _ h => absurd h List.not_mem_nil⟩⟩⟩⟩⟩⟩⟩⟩⟩⟩⟩⟩⟩⟩⟩⟩
theorem gt_cw2 : ∀ M ∈ gt_ms2, Cond.code (mx_my M) (mx_mb M) (mx_ml M) (mx_mr M) ∈ gt_tbl := List.forall_mem_cons.mpr ⟨gw_X3_firstKindOverAnother, List.forall_mem_cons.mpr ⟨gw_X3_firstMisfit, List.forall_mem_cons.mpr ⟨gw_X3_targetValue, List.forall_mem_cons.mpr ⟨gw_X3_imageByte, List.forall_mem_cons.mpr ⟨gw_X3_dropVeneers, List.forall_mem_cons.mpr ⟨gw_X3_layOut, List.forall_mem_cons.mpr ⟨gw_X3_layOutKind, List.forall_mem_cons.mpr ⟨gw_X3_findSetEdges, List.forall_mem_cons.mpr ⟨gw_X3_widenSet, List.forall_mem_cons.mpr ⟨gw_X3_addVeneers, List.forall_mem_cons.mpr ⟨gw_X3_addVeneersOf, List.forall_mem_cons.mpr ⟨gw_X3_veneerFor, List.forall_mem_cons.mpr ⟨gw_X3_amountWritten, List.forall_mem_cons.mpr ⟨gw_X3_sectionByte, List.forall_mem_cons.mpr ⟨gw_X3_veneerByte, List.forall_mem_cons.mpr ⟨gw_X3_byteOf, fun _ h => absurd h List.not_mem_nil⟩⟩⟩⟩⟩⟩⟩⟩⟩⟩⟩⟩⟩⟩⟩⟩
theorem gt_cw3 : ∀ M ∈ gt_ms3, Cond.code (mx_my M) (mx_mb M) (mx_ml M) (mx_mr M) ∈ gt_tbl := List.forall_mem_cons.mpr ⟨gw_X4_init, List.forall_mem_cons.mpr ⟨gw_X4_ownPlace, List.forall_mem_cons.mpr ⟨gw_X4_covers, List.forall_mem_cons.mpr ⟨gw_X4_isWrittenLike, List.forall_mem_cons.mpr ⟨gw_X5_init, List.forall_mem_cons.mpr ⟨gw_X5_byteAt, List.forall_mem_cons.mpr ⟨gw_X5_setByte, List.forall_mem_cons.mpr ⟨gw_X5_hasBytesOf, List.forall_mem_cons.mpr ⟨gw_X5_agreesWherePatched, List.forall_mem_cons.mpr ⟨gw_X5_exchangeMark, List.forall_mem_cons.mpr ⟨gw_X5_isKept, List.forall_mem_cons.mpr ⟨gw_X5_isPlaced, List.forall_mem_cons.mpr ⟨gw_X5_finalPlace, List.forall_mem_cons.mpr ⟨gw_X5_endWithoutVeneers, List.forall_mem_cons.mpr ⟨gw_X5_placeOfVeneer, List.forall_mem_cons.mpr ⟨gw_X5_endWithVeneers, fun _ h => absurd h List.not_mem_nil⟩⟩⟩⟩⟩⟩⟩⟩⟩⟩⟩⟩⟩⟩⟩⟩
theorem gt_cw4 : ∀ M ∈ gt_ms4, Cond.code (mx_my M) (mx_mb M) (mx_ml M) (mx_mr M) ∈ gt_tbl := List.forall_mem_cons.mpr ⟨gw_X5_alignedUp, List.forall_mem_cons.mpr ⟨gw_X6_init, List.forall_mem_cons.mpr ⟨gw_X6_isDefinition, List.forall_mem_cons.mpr ⟨gw_X6_targetSet, List.forall_mem_cons.mpr ⟨gw_X6_isNowhere, List.forall_mem_cons.mpr ⟨gw_X6_aimAt, List.forall_mem_cons.mpr ⟨gw_X6_hasSetAndOffsetOf, List.forall_mem_cons.mpr ⟨gw_X6_hasTargetOf, List.forall_mem_cons.mpr ⟨gw_X7_init, List.forall_mem_cons.mpr ⟨gw_X7_hasObject, List.forall_mem_cons.mpr ⟨gw_X7_sectionAt, List.forall_mem_cons.mpr ⟨gw_X7_symbolAt, List.forall_mem_cons.mpr ⟨gw_X7_addRoot, List.forall_mem_cons.mpr ⟨gw_X8_fits, List.forall_mem_cons.mpr ⟨gw_X9_init, List.forall_mem_cons.mpr ⟨gw_X9_object, fun _ h => absurd h List.not_mem_nil⟩⟩⟩⟩⟩⟩⟩⟩⟩⟩⟩⟩⟩⟩⟩⟩
theorem gt_cw5 : ∀ M ∈ gt_ms5, Cond.code (mx_my M) (mx_mb M) (mx_ml M) (mx_mr M) ∈ gt_tbl := List.forall_mem_cons.mpr ⟨gw_X9_section, List.forall_mem_cons.mpr ⟨gw_X9_patch, List.forall_mem_cons.mpr ⟨gw_X9_mark, List.forall_mem_cons.mpr ⟨gw_X9_symbol, List.forall_mem_cons.mpr ⟨gw_X9_relocation, List.forall_mem_cons.mpr ⟨gw_X9_root, List.forall_mem_cons.mpr ⟨gw_X9_base, List.forall_mem_cons.mpr ⟨gw_X9_link, List.forall_mem_cons.mpr ⟨gw_X9_fault, List.forall_mem_cons.mpr ⟨gw_X9_kept, List.forall_mem_cons.mpr ⟨gw_X9_place, List.forall_mem_cons.mpr ⟨gw_X9_value, List.forall_mem_cons.mpr ⟨gw_X9_octet, List.forall_mem_cons.mpr ⟨gw_X9_range, List.forall_mem_cons.mpr ⟨gw_X9_veneers, List.forall_mem_cons.mpr ⟨gw_X9_count, fun _ h => absurd h List.not_mem_nil⟩⟩⟩⟩⟩⟩⟩⟩⟩⟩⟩⟩⟩⟩⟩⟩
theorem gt_cw6 : ∀ M ∈ gt_ms6, Cond.code (mx_my M) (mx_mb M) (mx_ml M) (mx_mr M) ∈ gt_tbl := List.forall_mem_cons.mpr ⟨gw_X9_forgetLink, List.forall_mem_cons.mpr ⟨gw_X9_faultBeforePlacing, List.forall_mem_cons.mpr ⟨gw_X9_faultOfPlaces, List.forall_mem_cons.mpr ⟨gw_X9_isWithin, List.forall_mem_cons.mpr ⟨gw_X9_isMark, List.forall_mem_cons.mpr ⟨gw_X9_isSortFor, List.forall_mem_cons.mpr ⟨gw_X9_typeAt, List.forall_mem_cons.mpr ⟨gw_X9_numberOf, List.forall_mem_cons.mpr ⟨gw_X10_thrown, List.forall_mem_cons.mpr ⟨gw_X10_init, List.forall_mem_cons.mpr ⟨gw_X10_in, List.forall_mem_cons.mpr ⟨gw_X10_told, List.forall_mem_cons.mpr ⟨gw_X10_object, List.forall_mem_cons.mpr ⟨gw_X10_section, List.forall_mem_cons.mpr ⟨gw_X10_hasBytes, List.forall_mem_cons.mpr ⟨gw_X10_patch, fun _ h => absurd h List.not_mem_nil⟩⟩⟩⟩⟩⟩⟩⟩⟩⟩⟩⟩⟩⟩⟩⟩
theorem gt_cw7 : ∀ M ∈ gt_ms7, Cond.code (mx_my M) (mx_mb M) (mx_ml M) (mx_mr M) ∈ gt_tbl := List.forall_mem_cons.mpr ⟨gw_X10_mark, List.forall_mem_cons.mpr ⟨gw_X10_symbol, List.forall_mem_cons.mpr ⟨gw_X10_wide, List.forall_mem_cons.mpr ⟨gw_X10_relocation, List.forall_mem_cons.mpr ⟨gw_X10_root, List.forall_mem_cons.mpr ⟨gw_X10_base, List.forall_mem_cons.mpr ⟨gw_X10_names, List.forall_mem_cons.mpr ⟨gw_X10_keeps, List.forall_mem_cons.mpr ⟨gw_X10_keepAll, List.forall_mem_cons.mpr ⟨gw_X10_comesBy, List.forall_mem_cons.mpr ⟨gw_X10_relocationsOf, List.forall_mem_cons.mpr ⟨gw_X10_nth, List.forall_mem_cons.mpr ⟨gw_X10_startsAlike, List.forall_mem_cons.mpr ⟨gw_X10_staysAlike, List.forall_mem_cons.mpr ⟨gw_X10_foldAll, List.forall_mem_cons.mpr ⟨gw_X10_isPlaced, fun _ h => absurd h List.not_mem_nil⟩⟩⟩⟩⟩⟩⟩⟩⟩⟩⟩⟩⟩⟩⟩⟩
theorem gt_cw8 : ∀ M ∈ gt_ms8, Cond.code (mx_my M) (mx_mb M) (mx_ml M) (mx_mr M) ∈ gt_tbl := List.forall_mem_cons.mpr ⟨gw_X10_veneersOf, List.forall_mem_cons.mpr ⟨gw_X10_up, List.forall_mem_cons.mpr ⟨gw_X10_placeAll, List.forall_mem_cons.mpr ⟨gw_X10_veneerPlace, List.forall_mem_cons.mpr ⟨gw_X10_placeOf, List.forall_mem_cons.mpr ⟨gw_X10_valueOf, List.forall_mem_cons.mpr ⟨gw_X10_v, List.forall_mem_cons.mpr ⟨gw_X10_isBranchNear, List.forall_mem_cons.mpr ⟨gw_X10_sameAim, List.forall_mem_cons.mpr ⟨gw_X10_veneerAll, List.forall_mem_cons.mpr ⟨gw_X10_bad, List.forall_mem_cons.mpr ⟨gw_X10_link, List.forall_mem_cons.mpr ⟨gw_X10_hasPlaced, List.forall_mem_cons.mpr ⟨gw_X10_written, List.forall_mem_cons.mpr ⟨gw_X10_fits, List.forall_mem_cons.mpr ⟨gw_X10_fault, fun _ h => absurd h List.not_mem_nil⟩⟩⟩⟩⟩⟩⟩⟩⟩⟩⟩⟩⟩⟩⟩⟩
theorem gt_cw9 : ∀ M ∈ gt_ms9, Cond.code (mx_my M) (mx_mb M) (mx_ml M) (mx_mr M) ∈ gt_tbl := List.forall_mem_cons.mpr ⟨gw_X10_kept, List.forall_mem_cons.mpr ⟨gw_X10_place, List.forall_mem_cons.mpr ⟨gw_X10_value, List.forall_mem_cons.mpr ⟨gw_X10_octet, List.forall_mem_cons.mpr ⟨gw_X10_byteOf, List.forall_mem_cons.mpr ⟨gw_X10_range, List.forall_mem_cons.mpr ⟨gw_X10_veneers, List.forall_mem_cons.mpr ⟨gw_X10_found, List.forall_mem_cons.mpr ⟨gw_X10_count, List.forall_mem_cons.mpr ⟨gw_Jxa1e45_init_da8c8, List.forall_mem_cons.mpr ⟨gw_Jxc12de_init_da8c8, List.forall_mem_cons.mpr ⟨gw_Jx4a65c_init_da8c8, List.forall_mem_cons.mpr ⟨gw_Jx4a65c_grow_92f84, List.forall_mem_cons.mpr ⟨gw_Jx4a65c_grow_d5877, List.forall_mem_cons.mpr ⟨gw_Jx4a65c_size_8abf5, List.forall_mem_cons.mpr ⟨gw_Jx4a65c_elementData_915e3, fun _ h => absurd h List.not_mem_nil⟩⟩⟩⟩⟩⟩⟩⟩⟩⟩⟩⟩⟩⟩⟩⟩
theorem gt_cw10 : ∀ M ∈ gt_ms10, Cond.code (mx_my M) (mx_mb M) (mx_ml M) (mx_mr M) ∈ gt_tbl := List.forall_mem_cons.mpr ⟨gw_Jx4a65c_get_915e3, List.forall_mem_cons.mpr ⟨gw_Jx4a65c_add_72be8, List.forall_mem_cons.mpr ⟨gw_Jx4a65c_add_9ea2d, List.forall_mem_cons.mpr ⟨gw_Jx4a65c_clear_da8c8, List.forall_mem_cons.mpr ⟨gw_J7_fill_d0a16, List.forall_mem_cons.mpr ⟨gw_J7_fill_53178, List.forall_mem_cons.mpr ⟨gw_J7_copyOf_1904c, List.forall_mem_cons.mpr ⟨gw_J7_copyOf_6403c, List.forall_mem_cons.mpr ⟨gw_J15_checkIndex_7cf53, List.forall_mem_cons.mpr ⟨gw_J8_newLength_cabcc, List.forall_mem_cons.mpr ⟨gw_J8_hugeLength_7cf53, List.forall_mem_cons.mpr ⟨gw_J3_checkIndex_8e157, fun _ h => absurd h List.not_mem_nil⟩⟩⟩⟩⟩⟩⟩⟩⟩⟩⟩⟩
theorem gt_code (M : mx_M) (h : M ∈ gt_ms) : Cond.code (mx_my M) (mx_mb M) (mx_ml M) (mx_mr M) ∈ gt_tbl := by
  unfold gt_ms at h
  simp only [List.mem_append] at h
  rcases h with h | h | h | h | h | h | h | h | h | h | h
  · exact gt_cw0 M h
  · exact gt_cw1 M h
  · exact gt_cw2 M h
  · exact gt_cw3 M h
  · exact gt_cw4 M h
  · exact gt_cw5 M h
  · exact gt_cw6 M h
  · exact gt_cw7 M h
  · exact gt_cw8 M h
  · exact gt_cw9 M h
  · exact gt_cw10 M h
