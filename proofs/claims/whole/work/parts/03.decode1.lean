theorem dX0_init_0 : decode cX0_init 0 = .ok (.aload_n 0, 1) := by decide +kernel
theorem dX0_init_1 : decode cX0_init 1 = .ok (.invokespecial 3, 3) := by decide +kernel
theorem dX0_init_4 : decode cX0_init 4 = .ok (.return_, 1) := by decide +kernel
theorem dX0_find_0 : decode cX0_find 0 = .ok (.aload_n 0, 1) := by decide +kernel
theorem dX0_find_1 : decode cX0_find 1 = .ok (.iconst 0, 1) := by decide +kernel
theorem dX0_find_2 : decode cX0_find 2 = .ok (.putfield 9, 3) := by decide +kernel
theorem dX0_find_5 : decode cX0_find 5 = .ok (.iconst 0, 1) := by decide +kernel
theorem dX0_find_6 : decode cX0_find 6 = .ok (.istore_n 3, 1) := by decide +kernel
theorem dX0_find_7 : decode cX0_find 7 = .ok (.iload_n 3, 1) := by decide +kernel
theorem dX0_find_8 : decode cX0_find 8 = .ok (.aload_n 1, 1) := by decide +kernel
theorem dX0_find_9 : decode cX0_find 9 = .ok (.invokevirtual 15, 3) := by decide +kernel
theorem dX0_find_12 : decode cX0_find 12 = .ok (.if_icmp .ge 21, 3) := by decide +kernel
theorem dX0_find_15 : decode cX0_find 15 = .ok (.aload_n 1, 1) := by decide +kernel
theorem dX0_find_16 : decode cX0_find 16 = .ok (.iload_n 3, 1) := by decide +kernel
theorem dX0_find_17 : decode cX0_find 17 = .ok (.invokevirtual 21, 3) := by decide +kernel
theorem dX0_find_20 : decode cX0_find 20 = .ok (.checkcast 25, 3) := by decide +kernel
theorem dX0_find_23 : decode cX0_find 23 = .ok (.aconst_null, 1) := by decide +kernel
theorem dX0_find_24 : decode cX0_find 24 = .ok (.putfield 27, 3) := by decide +kernel
theorem dX0_find_27 : decode cX0_find 27 = .ok (.iinc 3 1, 3) := by decide +kernel
theorem dX0_find_30 : decode cX0_find 30 = .ok (.goto (-23), 3) := by decide +kernel
theorem dX0_find_33 : decode cX0_find 33 = .ok (.iload_n 2, 1) := by decide +kernel
theorem dX0_find_34 : decode cX0_find 34 = .ok (.ifCond .ne 4, 3) := by decide +kernel
theorem dX0_find_37 : decode cX0_find 37 = .ok (.return_, 1) := by decide +kernel
theorem dX0_find_38 : decode cX0_find 38 = .ok (.aload_n 0, 1) := by decide +kernel
theorem dX0_find_39 : decode cX0_find 39 = .ok (.aload_n 1, 1) := by decide +kernel
theorem dX0_find_40 : decode cX0_find 40 = .ok (.invokevirtual 31, 3) := by decide +kernel
theorem dX0_find_43 : decode cX0_find 43 = .ok (.aload_n 0, 1) := by decide +kernel
theorem dX0_find_44 : decode cX0_find 44 = .ok (.aload_n 1, 1) := by decide +kernel
theorem dX0_find_45 : decode cX0_find 45 = .ok (.invokevirtual 35, 3) := by decide +kernel
theorem dX0_find_48 : decode cX0_find 48 = .ok (.iconst 1, 1) := by decide +kernel
theorem dX0_find_49 : decode cX0_find 49 = .ok (.istore_n 3, 1) := by decide +kernel
theorem dX0_find_50 : decode cX0_find 50 = .ok (.iconst 0, 1) := by decide +kernel
theorem dX0_find_51 : decode cX0_find 51 = .ok (.istore 4, 2) := by decide +kernel
theorem dX0_find_53 : decode cX0_find 53 = .ok (.iload_n 3, 1) := by decide +kernel
theorem dX0_find_54 : decode cX0_find 54 = .ok (.ifCond .eq 22, 3) := by decide +kernel
theorem dX0_find_57 : decode cX0_find 57 = .ok (.iload 4, 2) := by decide +kernel
theorem dX0_find_59 : decode cX0_find 59 = .ok (.bipush 60, 2) := by decide +kernel
theorem dX0_find_61 : decode cX0_find 61 = .ok (.if_icmp .gt 15, 3) := by decide +kernel
theorem dX0_find_64 : decode cX0_find 64 = .ok (.aload_n 0, 1) := by decide +kernel
theorem dX0_find_65 : decode cX0_find 65 = .ok (.aload_n 1, 1) := by decide +kernel
theorem dX0_find_66 : decode cX0_find 66 = .ok (.invokevirtual 38, 3) := by decide +kernel
theorem dX0_find_69 : decode cX0_find 69 = .ok (.istore_n 3, 1) := by decide +kernel
theorem dX0_find_70 : decode cX0_find 70 = .ok (.iinc 4 1, 3) := by decide +kernel
theorem dX0_find_73 : decode cX0_find 73 = .ok (.goto (-20), 3) := by decide +kernel
theorem dX0_find_76 : decode cX0_find 76 = .ok (.aload_n 0, 1) := by decide +kernel
theorem dX0_find_77 : decode cX0_find 77 = .ok (.aload_n 1, 1) := by decide +kernel
theorem dX0_find_78 : decode cX0_find 78 = .ok (.invokevirtual 42, 3) := by decide +kernel
theorem dX0_find_81 : decode cX0_find 81 = .ok (.return_, 1) := by decide +kernel
theorem dX0_findWhatMayFold_0 : decode cX0_findWhatMayFold 0 = .ok (.iconst 0, 1) := by decide +kernel
theorem dX0_findWhatMayFold_1 : decode cX0_findWhatMayFold 1 = .ok (.istore_n 2, 1) := by decide +kernel
theorem dX0_findWhatMayFold_2 : decode cX0_findWhatMayFold 2 = .ok (.iload_n 2, 1) := by decide +kernel
theorem dX0_findWhatMayFold_3 : decode cX0_findWhatMayFold 3 = .ok (.aload_n 1, 1) := by decide +kernel
theorem dX0_findWhatMayFold_4 : decode cX0_findWhatMayFold 4 = .ok (.invokevirtual 15, 3) := by decide +kernel
theorem dX0_findWhatMayFold_7 : decode cX0_findWhatMayFold 7 = .ok (.if_icmp .ge 76, 3) := by decide +kernel
theorem dX0_findWhatMayFold_10 : decode cX0_findWhatMayFold 10 = .ok (.aload_n 1, 1) := by decide +kernel
theorem dX0_findWhatMayFold_11 : decode cX0_findWhatMayFold 11 = .ok (.iload_n 2, 1) := by decide +kernel
theorem dX0_findWhatMayFold_12 : decode cX0_findWhatMayFold 12 = .ok (.invokevirtual 21, 3) := by decide +kernel
theorem dX0_findWhatMayFold_15 : decode cX0_findWhatMayFold 15 = .ok (.checkcast 25, 3) := by decide +kernel
theorem dX0_findWhatMayFold_18 : decode cX0_findWhatMayFold 18 = .ok (.astore_n 3, 1) := by decide +kernel
theorem dX0_findWhatMayFold_19 : decode cX0_findWhatMayFold 19 = .ok (.aload_n 3, 1) := by decide +kernel
theorem dX0_findWhatMayFold_20 : decode cX0_findWhatMayFold 20 = .ok (.getfield 45, 3) := by decide +kernel
theorem dX0_findWhatMayFold_23 : decode cX0_findWhatMayFold 23 = .ok (.ifCond .eq 11, 3) := by decide +kernel
theorem dX0_findWhatMayFold_26 : decode cX0_findWhatMayFold 26 = .ok (.aload_n 3, 1) := by decide +kernel
theorem dX0_findWhatMayFold_27 : decode cX0_findWhatMayFold 27 = .ok (.getfield 45, 3) := by decide +kernel
theorem dX0_findWhatMayFold_30 : decode cX0_findWhatMayFold 30 = .ok (.iconst 1, 1) := by decide +kernel
theorem dX0_findWhatMayFold_31 : decode cX0_findWhatMayFold 31 = .ok (.if_icmp .ne 7, 3) := by decide +kernel
theorem dX0_findWhatMayFold_34 : decode cX0_findWhatMayFold 34 = .ok (.iconst 1, 1) := by decide +kernel
theorem dX0_findWhatMayFold_35 : decode cX0_findWhatMayFold 35 = .ok (.goto 4, 3) := by decide +kernel
theorem dX0_findWhatMayFold_38 : decode cX0_findWhatMayFold 38 = .ok (.iconst 0, 1) := by decide +kernel
theorem dX0_findWhatMayFold_39 : decode cX0_findWhatMayFold 39 = .ok (.istore 4, 2) := by decide +kernel
theorem dX0_findWhatMayFold_41 : decode cX0_findWhatMayFold 41 = .ok (.aload_n 3, 1) := by decide +kernel
theorem dX0_findWhatMayFold_42 : decode cX0_findWhatMayFold 42 = .ok (.aload_n 3, 1) := by decide +kernel
theorem dX0_findWhatMayFold_43 : decode cX0_findWhatMayFold 43 = .ok (.invokevirtual 48, 3) := by decide +kernel
theorem dX0_findWhatMayFold_46 : decode cX0_findWhatMayFold 46 = .ok (.ifCond .eq 27, 3) := by decide +kernel
theorem dX0_findWhatMayFold_49 : decode cX0_findWhatMayFold 49 = .ok (.iload 4, 2) := by decide +kernel
theorem dX0_findWhatMayFold_51 : decode cX0_findWhatMayFold 51 = .ok (.ifCond .eq 22, 3) := by decide +kernel
theorem dX0_findWhatMayFold_54 : decode cX0_findWhatMayFold 54 = .ok (.aload_n 3, 1) := by decide +kernel
theorem dX0_findWhatMayFold_55 : decode cX0_findWhatMayFold 55 = .ok (.getfield 52, 3) := by decide +kernel
theorem dX0_findWhatMayFold_58 : decode cX0_findWhatMayFold 58 = .ok (.ifCond .ne 15, 3) := by decide +kernel
theorem dX0_findWhatMayFold_61 : decode cX0_findWhatMayFold 61 = .ok (.aload_n 3, 1) := by decide +kernel
theorem dX0_findWhatMayFold_62 : decode cX0_findWhatMayFold 62 = .ok (.getfield 56, 3) := by decide +kernel
theorem dX0_findWhatMayFold_65 : decode cX0_findWhatMayFold 65 = .ok (.iconst (-1), 1) := by decide +kernel
theorem dX0_findWhatMayFold_66 : decode cX0_findWhatMayFold 66 = .ok (.if_icmp .ne 7, 3) := by decide +kernel
theorem dX0_findWhatMayFold_69 : decode cX0_findWhatMayFold 69 = .ok (.iconst 1, 1) := by decide +kernel
theorem dX0_findWhatMayFold_70 : decode cX0_findWhatMayFold 70 = .ok (.goto 4, 3) := by decide +kernel
theorem dX0_findWhatMayFold_73 : decode cX0_findWhatMayFold 73 = .ok (.iconst 0, 1) := by decide +kernel
theorem dX0_findWhatMayFold_74 : decode cX0_findWhatMayFold 74 = .ok (.putfield 59, 3) := by decide +kernel
theorem dX0_findWhatMayFold_77 : decode cX0_findWhatMayFold 77 = .ok (.iinc 2 1, 3) := by decide +kernel
theorem dX0_findWhatMayFold_80 : decode cX0_findWhatMayFold 80 = .ok (.goto (-78), 3) := by decide +kernel
theorem dX0_findWhatMayFold_83 : decode cX0_findWhatMayFold 83 = .ok (.iconst 0, 1) := by decide +kernel
theorem dX0_findWhatMayFold_84 : decode cX0_findWhatMayFold 84 = .ok (.istore_n 2, 1) := by decide +kernel
theorem dX0_findWhatMayFold_85 : decode cX0_findWhatMayFold 85 = .ok (.iload_n 2, 1) := by decide +kernel
theorem dX0_findWhatMayFold_86 : decode cX0_findWhatMayFold 86 = .ok (.aload_n 1, 1) := by decide +kernel
theorem dX0_findWhatMayFold_87 : decode cX0_findWhatMayFold 87 = .ok (.invokevirtual 15, 3) := by decide +kernel
theorem dX0_findWhatMayFold_90 : decode cX0_findWhatMayFold 90 = .ok (.if_icmp .ge 35, 3) := by decide +kernel
theorem dX0_findWhatMayFold_93 : decode cX0_findWhatMayFold 93 = .ok (.aload_n 1, 1) := by decide +kernel
theorem dX0_findWhatMayFold_94 : decode cX0_findWhatMayFold 94 = .ok (.iload_n 2, 1) := by decide +kernel
theorem dX0_findWhatMayFold_95 : decode cX0_findWhatMayFold 95 = .ok (.invokevirtual 21, 3) := by decide +kernel
theorem dX0_findWhatMayFold_98 : decode cX0_findWhatMayFold 98 = .ok (.checkcast 25, 3) := by decide +kernel
theorem dX0_findWhatMayFold_101 : decode cX0_findWhatMayFold 101 = .ok (.invokevirtual 48, 3) := by decide +kernel
theorem dX0_findWhatMayFold_104 : decode cX0_findWhatMayFold 104 = .ok (.ifCond .eq 15, 3) := by decide +kernel
theorem dX0_findWhatMayFold_107 : decode cX0_findWhatMayFold 107 = .ok (.aload_n 0, 1) := by decide +kernel
theorem dX0_findWhatMayFold_108 : decode cX0_findWhatMayFold 108 = .ok (.aload_n 1, 1) := by decide +kernel
theorem dX0_findWhatMayFold_109 : decode cX0_findWhatMayFold 109 = .ok (.iload_n 2, 1) := by decide +kernel
theorem dX0_findWhatMayFold_110 : decode cX0_findWhatMayFold 110 = .ok (.invokevirtual 21, 3) := by decide +kernel
theorem dX0_findWhatMayFold_113 : decode cX0_findWhatMayFold 113 = .ok (.checkcast 25, 3) := by decide +kernel
theorem dX0_findWhatMayFold_116 : decode cX0_findWhatMayFold 116 = .ok (.invokevirtual 62, 3) := by decide +kernel
theorem dX0_findWhatMayFold_119 : decode cX0_findWhatMayFold 119 = .ok (.iinc 2 1, 3) := by decide +kernel
theorem dX0_findWhatMayFold_122 : decode cX0_findWhatMayFold 122 = .ok (.goto (-37), 3) := by decide +kernel
theorem dX0_findWhatMayFold_125 : decode cX0_findWhatMayFold 125 = .ok (.return_, 1) := by decide +kernel
theorem dX0_forbidWhatItTakesPlacesOf_0 : decode cX0_forbidWhatItTakesPlacesOf 0 = .ok (.iconst 0, 1) := by decide +kernel
theorem dX0_forbidWhatItTakesPlacesOf_1 : decode cX0_forbidWhatItTakesPlacesOf 1 = .ok (.istore_n 2, 1) := by decide +kernel
theorem dX0_forbidWhatItTakesPlacesOf_2 : decode cX0_forbidWhatItTakesPlacesOf 2 = .ok (.iload_n 2, 1) := by decide +kernel
theorem dX0_forbidWhatItTakesPlacesOf_3 : decode cX0_forbidWhatItTakesPlacesOf 3 = .ok (.aload_n 1, 1) := by decide +kernel
theorem dX0_forbidWhatItTakesPlacesOf_4 : decode cX0_forbidWhatItTakesPlacesOf 4 = .ok (.getfield 66, 3) := by decide +kernel
theorem dX0_forbidWhatItTakesPlacesOf_7 : decode cX0_forbidWhatItTakesPlacesOf 7 = .ok (.invokevirtual 15, 3) := by decide +kernel
theorem dX0_forbidWhatItTakesPlacesOf_10 : decode cX0_forbidWhatItTakesPlacesOf 10 = .ok (.if_icmp .ge 52, 3) := by decide +kernel
theorem dX0_forbidWhatItTakesPlacesOf_13 : decode cX0_forbidWhatItTakesPlacesOf 13 = .ok (.aload_n 1, 1) := by decide +kernel
theorem dX0_forbidWhatItTakesPlacesOf_14 : decode cX0_forbidWhatItTakesPlacesOf 14 = .ok (.getfield 66, 3) := by decide +kernel
theorem dX0_forbidWhatItTakesPlacesOf_17 : decode cX0_forbidWhatItTakesPlacesOf 17 = .ok (.iload_n 2, 1) := by decide +kernel
theorem dX0_forbidWhatItTakesPlacesOf_18 : decode cX0_forbidWhatItTakesPlacesOf 18 = .ok (.invokevirtual 21, 3) := by decide +kernel
theorem dX0_forbidWhatItTakesPlacesOf_21 : decode cX0_forbidWhatItTakesPlacesOf 21 = .ok (.checkcast 70, 3) := by decide +kernel
theorem dX0_forbidWhatItTakesPlacesOf_24 : decode cX0_forbidWhatItTakesPlacesOf 24 = .ok (.astore_n 3, 1) := by decide +kernel
theorem dX0_forbidWhatItTakesPlacesOf_25 : decode cX0_forbidWhatItTakesPlacesOf 25 = .ok (.aload_n 3, 1) := by decide +kernel
theorem dX0_forbidWhatItTakesPlacesOf_26 : decode cX0_forbidWhatItTakesPlacesOf 26 = .ok (.getfield 72, 3) := by decide +kernel
theorem dX0_forbidWhatItTakesPlacesOf_29 : decode cX0_forbidWhatItTakesPlacesOf 29 = .ok (.getstatic 76, 3) := by decide +kernel
theorem dX0_forbidWhatItTakesPlacesOf_32 : decode cX0_forbidWhatItTakesPlacesOf 32 = .ok (.if_acmp .eq 24, 3) := by decide +kernel
theorem dX0_forbidWhatItTakesPlacesOf_35 : decode cX0_forbidWhatItTakesPlacesOf 35 = .ok (.aload_n 3, 1) := by decide +kernel
theorem dX0_forbidWhatItTakesPlacesOf_36 : decode cX0_forbidWhatItTakesPlacesOf 36 = .ok (.getfield 81, 3) := by decide +kernel
theorem dX0_forbidWhatItTakesPlacesOf_39 : decode cX0_forbidWhatItTakesPlacesOf 39 = .ok (.getfield 85, 3) := by decide +kernel
theorem dX0_forbidWhatItTakesPlacesOf_42 : decode cX0_forbidWhatItTakesPlacesOf 42 = .ok (.ifnull 14, 3) := by decide +kernel
theorem dX0_forbidWhatItTakesPlacesOf_45 : decode cX0_forbidWhatItTakesPlacesOf 45 = .ok (.aload_n 3, 1) := by decide +kernel
theorem dX0_forbidWhatItTakesPlacesOf_46 : decode cX0_forbidWhatItTakesPlacesOf 46 = .ok (.getfield 81, 3) := by decide +kernel
theorem dX0_forbidWhatItTakesPlacesOf_49 : decode cX0_forbidWhatItTakesPlacesOf 49 = .ok (.getfield 85, 3) := by decide +kernel
theorem dX0_forbidWhatItTakesPlacesOf_52 : decode cX0_forbidWhatItTakesPlacesOf 52 = .ok (.iconst 0, 1) := by decide +kernel
theorem dX0_forbidWhatItTakesPlacesOf_53 : decode cX0_forbidWhatItTakesPlacesOf 53 = .ok (.putfield 59, 3) := by decide +kernel
theorem dX0_forbidWhatItTakesPlacesOf_56 : decode cX0_forbidWhatItTakesPlacesOf 56 = .ok (.iinc 2 1, 3) := by decide +kernel
theorem dX0_forbidWhatItTakesPlacesOf_59 : decode cX0_forbidWhatItTakesPlacesOf 59 = .ok (.goto (-57), 3) := by decide +kernel
theorem dX0_forbidWhatItTakesPlacesOf_62 : decode cX0_forbidWhatItTakesPlacesOf 62 = .ok (.return_, 1) := by decide +kernel
theorem dX0_joinKin_0 : decode cX0_joinKin 0 = .ok (.iconst 0, 1) := by decide +kernel
theorem dX0_joinKin_1 : decode cX0_joinKin 1 = .ok (.istore_n 2, 1) := by decide +kernel
theorem dX0_joinKin_2 : decode cX0_joinKin 2 = .ok (.iload_n 2, 1) := by decide +kernel
theorem dX0_joinKin_3 : decode cX0_joinKin 3 = .ok (.aload_n 1, 1) := by decide +kernel
theorem dX0_joinKin_4 : decode cX0_joinKin 4 = .ok (.invokevirtual 15, 3) := by decide +kernel
theorem dX0_joinKin_7 : decode cX0_joinKin 7 = .ok (.if_icmp .ge 98, 3) := by decide +kernel
theorem dX0_joinKin_10 : decode cX0_joinKin 10 = .ok (.aload_n 1, 1) := by decide +kernel
theorem dX0_joinKin_11 : decode cX0_joinKin 11 = .ok (.iload_n 2, 1) := by decide +kernel
theorem dX0_joinKin_12 : decode cX0_joinKin 12 = .ok (.invokevirtual 21, 3) := by decide +kernel
theorem dX0_joinKin_15 : decode cX0_joinKin 15 = .ok (.checkcast 25, 3) := by decide +kernel
theorem dX0_joinKin_18 : decode cX0_joinKin 18 = .ok (.astore_n 3, 1) := by decide +kernel
theorem dX0_joinKin_19 : decode cX0_joinKin 19 = .ok (.aload_n 3, 1) := by decide +kernel
theorem dX0_joinKin_20 : decode cX0_joinKin 20 = .ok (.aload_n 3, 1) := by decide +kernel
theorem dX0_joinKin_21 : decode cX0_joinKin 21 = .ok (.putfield 90, 3) := by decide +kernel
theorem dX0_joinKin_24 : decode cX0_joinKin 24 = .ok (.iconst 0, 1) := by decide +kernel
theorem dX0_joinKin_25 : decode cX0_joinKin 25 = .ok (.istore 4, 2) := by decide +kernel
theorem dX0_joinKin_27 : decode cX0_joinKin 27 = .ok (.iload 4, 2) := by decide +kernel
theorem dX0_joinKin_29 : decode cX0_joinKin 29 = .ok (.iload_n 2, 1) := by decide +kernel
theorem dX0_joinKin_30 : decode cX0_joinKin 30 = .ok (.if_icmp .ge 69, 3) := by decide +kernel
theorem dX0_joinKin_33 : decode cX0_joinKin 33 = .ok (.aload_n 3, 1) := by decide +kernel
theorem dX0_joinKin_34 : decode cX0_joinKin 34 = .ok (.getfield 90, 3) := by decide +kernel
theorem dX0_joinKin_37 : decode cX0_joinKin 37 = .ok (.aload_n 3, 1) := by decide +kernel
theorem dX0_joinKin_38 : decode cX0_joinKin 38 = .ok (.if_acmp .ne 61, 3) := by decide +kernel
theorem dX0_joinKin_41 : decode cX0_joinKin 41 = .ok (.aload_n 3, 1) := by decide +kernel
theorem dX0_joinKin_42 : decode cX0_joinKin 42 = .ok (.getfield 59, 3) := by decide +kernel
theorem dX0_joinKin_45 : decode cX0_joinKin 45 = .ok (.ifCond .eq 54, 3) := by decide +kernel
theorem dX0_joinKin_48 : decode cX0_joinKin 48 = .ok (.aload_n 1, 1) := by decide +kernel
theorem dX0_joinKin_49 : decode cX0_joinKin 49 = .ok (.iload 4, 2) := by decide +kernel
theorem dX0_joinKin_51 : decode cX0_joinKin 51 = .ok (.invokevirtual 21, 3) := by decide +kernel
theorem dX0_joinKin_54 : decode cX0_joinKin 54 = .ok (.checkcast 25, 3) := by decide +kernel
theorem dX0_joinKin_57 : decode cX0_joinKin 57 = .ok (.astore 5, 2) := by decide +kernel
theorem dX0_joinKin_59 : decode cX0_joinKin 59 = .ok (.aload 5, 2) := by decide +kernel
theorem dX0_joinKin_61 : decode cX0_joinKin 61 = .ok (.getfield 90, 3) := by decide +kernel
theorem dX0_joinKin_64 : decode cX0_joinKin 64 = .ok (.aload 5, 2) := by decide +kernel
theorem dX0_joinKin_66 : decode cX0_joinKin 66 = .ok (.if_acmp .ne 27, 3) := by decide +kernel
theorem dX0_joinKin_69 : decode cX0_joinKin 69 = .ok (.aload 5, 2) := by decide +kernel
theorem dX0_joinKin_71 : decode cX0_joinKin 71 = .ok (.getfield 59, 3) := by decide +kernel
theorem dX0_joinKin_74 : decode cX0_joinKin 74 = .ok (.ifCond .eq 19, 3) := by decide +kernel
theorem dX0_joinKin_77 : decode cX0_joinKin 77 = .ok (.aload_n 0, 1) := by decide +kernel
theorem dX0_joinKin_78 : decode cX0_joinKin 78 = .ok (.aload 5, 2) := by decide +kernel
theorem dX0_joinKin_80 : decode cX0_joinKin 80 = .ok (.aload_n 3, 1) := by decide +kernel
theorem dX0_joinKin_81 : decode cX0_joinKin 81 = .ok (.invokevirtual 93, 3) := by decide +kernel
theorem dX0_joinKin_84 : decode cX0_joinKin 84 = .ok (.ifCond .eq 9, 3) := by decide +kernel
theorem dX0_joinKin_87 : decode cX0_joinKin 87 = .ok (.aload_n 3, 1) := by decide +kernel
theorem dX0_joinKin_88 : decode cX0_joinKin 88 = .ok (.aload 5, 2) := by decide +kernel
theorem dX0_joinKin_90 : decode cX0_joinKin 90 = .ok (.putfield 90, 3) := by decide +kernel
theorem dX0_joinKin_93 : decode cX0_joinKin 93 = .ok (.iinc 4 1, 3) := by decide +kernel
theorem dX0_joinKin_96 : decode cX0_joinKin 96 = .ok (.goto (-69), 3) := by decide +kernel
theorem dX0_joinKin_99 : decode cX0_joinKin 99 = .ok (.iinc 2 1, 3) := by decide +kernel
theorem dX0_joinKin_102 : decode cX0_joinKin 102 = .ok (.goto (-100), 3) := by decide +kernel
theorem dX0_joinKin_105 : decode cX0_joinKin 105 = .ok (.return_, 1) := by decide +kernel
theorem dX0_looksLike_0 : decode cX0_looksLike 0 = .ok (.aload_n 1, 1) := by decide +kernel
theorem dX0_looksLike_1 : decode cX0_looksLike 1 = .ok (.getfield 45, 3) := by decide +kernel
theorem dX0_looksLike_4 : decode cX0_looksLike 4 = .ok (.aload_n 2, 1) := by decide +kernel
theorem dX0_looksLike_5 : decode cX0_looksLike 5 = .ok (.getfield 45, 3) := by decide +kernel
theorem dX0_looksLike_8 : decode cX0_looksLike 8 = .ok (.if_icmp .ne 52, 3) := by decide +kernel
theorem dX0_looksLike_11 : decode cX0_looksLike 11 = .ok (.aload_n 1, 1) := by decide +kernel
theorem dX0_looksLike_12 : decode cX0_looksLike 12 = .ok (.getfield 97, 3) := by decide +kernel
theorem dX0_looksLike_15 : decode cX0_looksLike 15 = .ok (.aload_n 2, 1) := by decide +kernel
theorem dX0_looksLike_16 : decode cX0_looksLike 16 = .ok (.getfield 97, 3) := by decide +kernel
theorem dX0_looksLike_19 : decode cX0_looksLike 19 = .ok (.if_icmp .ne 41, 3) := by decide +kernel
theorem dX0_looksLike_22 : decode cX0_looksLike 22 = .ok (.aload_n 1, 1) := by decide +kernel
theorem dX0_looksLike_23 : decode cX0_looksLike 23 = .ok (.getfield 99, 3) := by decide +kernel
theorem dX0_looksLike_26 : decode cX0_looksLike 26 = .ok (.aload_n 2, 1) := by decide +kernel
theorem dX0_looksLike_27 : decode cX0_looksLike 27 = .ok (.getfield 99, 3) := by decide +kernel
theorem dX0_looksLike_30 : decode cX0_looksLike 30 = .ok (.if_icmp .ne 30, 3) := by decide +kernel
theorem dX0_looksLike_33 : decode cX0_looksLike 33 = .ok (.aload_n 0, 1) := by decide +kernel
theorem dX0_looksLike_34 : decode cX0_looksLike 34 = .ok (.aload_n 1, 1) := by decide +kernel
theorem dX0_looksLike_35 : decode cX0_looksLike 35 = .ok (.getfield 66, 3) := by decide +kernel
theorem dX0_looksLike_38 : decode cX0_looksLike 38 = .ok (.aload_n 2, 1) := by decide +kernel
theorem dX0_looksLike_39 : decode cX0_looksLike 39 = .ok (.getfield 66, 3) := by decide +kernel
theorem dX0_looksLike_42 : decode cX0_looksLike 42 = .ok (.invokevirtual 102, 3) := by decide +kernel
theorem dX0_looksLike_45 : decode cX0_looksLike 45 = .ok (.ifCond .eq 15, 3) := by decide +kernel
theorem dX0_looksLike_48 : decode cX0_looksLike 48 = .ok (.aload_n 1, 1) := by decide +kernel
theorem dX0_looksLike_49 : decode cX0_looksLike 49 = .ok (.aload_n 2, 1) := by decide +kernel
theorem dX0_looksLike_50 : decode cX0_looksLike 50 = .ok (.invokevirtual 106, 3) := by decide +kernel
theorem dX0_looksLike_53 : decode cX0_looksLike 53 = .ok (.ifCond .eq 7, 3) := by decide +kernel
theorem dX0_looksLike_56 : decode cX0_looksLike 56 = .ok (.iconst 1, 1) := by decide +kernel
theorem dX0_looksLike_57 : decode cX0_looksLike 57 = .ok (.goto 4, 3) := by decide +kernel
theorem dX0_looksLike_60 : decode cX0_looksLike 60 = .ok (.iconst 0, 1) := by decide +kernel
theorem dX0_looksLike_61 : decode cX0_looksLike 61 = .ok (.ireturn, 1) := by decide +kernel
theorem dX0_relocationsLookLike_0 : decode cX0_relocationsLookLike 0 = .ok (.aload_n 1, 1) := by decide +kernel
theorem dX0_relocationsLookLike_1 : decode cX0_relocationsLookLike 1 = .ok (.invokevirtual 15, 3) := by decide +kernel
theorem dX0_relocationsLookLike_4 : decode cX0_relocationsLookLike 4 = .ok (.aload_n 2, 1) := by decide +kernel
theorem dX0_relocationsLookLike_5 : decode cX0_relocationsLookLike 5 = .ok (.invokevirtual 15, 3) := by decide +kernel
theorem dX0_relocationsLookLike_8 : decode cX0_relocationsLookLike 8 = .ok (.if_icmp .eq 5, 3) := by decide +kernel
theorem dX0_relocationsLookLike_11 : decode cX0_relocationsLookLike 11 = .ok (.iconst 0, 1) := by decide +kernel
theorem dX0_relocationsLookLike_12 : decode cX0_relocationsLookLike 12 = .ok (.ireturn, 1) := by decide +kernel
theorem dX0_relocationsLookLike_13 : decode cX0_relocationsLookLike 13 = .ok (.iconst 0, 1) := by decide +kernel
theorem dX0_relocationsLookLike_14 : decode cX0_relocationsLookLike 14 = .ok (.istore_n 3, 1) := by decide +kernel
theorem dX0_relocationsLookLike_15 : decode cX0_relocationsLookLike 15 = .ok (.iload_n 3, 1) := by decide +kernel
theorem dX0_relocationsLookLike_16 : decode cX0_relocationsLookLike 16 = .ok (.aload_n 1, 1) := by decide +kernel
theorem dX0_relocationsLookLike_17 : decode cX0_relocationsLookLike 17 = .ok (.invokevirtual 15, 3) := by decide +kernel
theorem dX0_relocationsLookLike_20 : decode cX0_relocationsLookLike 20 = .ok (.if_icmp .ge 112, 3) := by decide +kernel
theorem dX0_relocationsLookLike_23 : decode cX0_relocationsLookLike 23 = .ok (.iload_n 3, 1) := by decide +kernel
theorem dX0_relocationsLookLike_24 : decode cX0_relocationsLookLike 24 = .ok (.aload_n 2, 1) := by decide +kernel
theorem dX0_relocationsLookLike_25 : decode cX0_relocationsLookLike 25 = .ok (.invokevirtual 15, 3) := by decide +kernel
theorem dX0_relocationsLookLike_28 : decode cX0_relocationsLookLike 28 = .ok (.if_icmp .ge 104, 3) := by decide +kernel
theorem dX0_relocationsLookLike_31 : decode cX0_relocationsLookLike 31 = .ok (.aload_n 1, 1) := by decide +kernel
theorem dX0_relocationsLookLike_32 : decode cX0_relocationsLookLike 32 = .ok (.iload_n 3, 1) := by decide +kernel
theorem dX0_relocationsLookLike_33 : decode cX0_relocationsLookLike 33 = .ok (.invokevirtual 21, 3) := by decide +kernel
theorem dX0_relocationsLookLike_36 : decode cX0_relocationsLookLike 36 = .ok (.checkcast 70, 3) := by decide +kernel
theorem dX0_relocationsLookLike_39 : decode cX0_relocationsLookLike 39 = .ok (.astore 4, 2) := by decide +kernel
theorem dX0_relocationsLookLike_41 : decode cX0_relocationsLookLike 41 = .ok (.aload_n 2, 1) := by decide +kernel
theorem dX0_relocationsLookLike_42 : decode cX0_relocationsLookLike 42 = .ok (.iload_n 3, 1) := by decide +kernel
theorem dX0_relocationsLookLike_43 : decode cX0_relocationsLookLike 43 = .ok (.invokevirtual 21, 3) := by decide +kernel
theorem dX0_relocationsLookLike_46 : decode cX0_relocationsLookLike 46 = .ok (.checkcast 70, 3) := by decide +kernel
theorem dX0_relocationsLookLike_49 : decode cX0_relocationsLookLike 49 = .ok (.astore 5, 2) := by decide +kernel
theorem dX0_relocationsLookLike_51 : decode cX0_relocationsLookLike 51 = .ok (.aload 4, 2) := by decide +kernel
theorem dX0_relocationsLookLike_53 : decode cX0_relocationsLookLike 53 = .ok (.getfield 81, 3) := by decide +kernel
theorem dX0_relocationsLookLike_56 : decode cX0_relocationsLookLike 56 = .ok (.getfield 85, 3) := by decide +kernel
theorem dX0_relocationsLookLike_59 : decode cX0_relocationsLookLike 59 = .ok (.ifnonnull 7, 3) := by decide +kernel
theorem dX0_relocationsLookLike_62 : decode cX0_relocationsLookLike 62 = .ok (.iconst 1, 1) := by decide +kernel
theorem dX0_relocationsLookLike_63 : decode cX0_relocationsLookLike 63 = .ok (.goto 4, 3) := by decide +kernel
theorem dX0_relocationsLookLike_66 : decode cX0_relocationsLookLike 66 = .ok (.iconst 0, 1) := by decide +kernel
theorem dX0_relocationsLookLike_67 : decode cX0_relocationsLookLike 67 = .ok (.aload 5, 2) := by decide +kernel
theorem dX0_relocationsLookLike_69 : decode cX0_relocationsLookLike 69 = .ok (.getfield 81, 3) := by decide +kernel
theorem dX0_relocationsLookLike_72 : decode cX0_relocationsLookLike 72 = .ok (.getfield 85, 3) := by decide +kernel
theorem dX0_relocationsLookLike_75 : decode cX0_relocationsLookLike 75 = .ok (.ifnonnull 7, 3) := by decide +kernel
theorem dX0_relocationsLookLike_78 : decode cX0_relocationsLookLike 78 = .ok (.iconst 1, 1) := by decide +kernel
theorem dX0_relocationsLookLike_79 : decode cX0_relocationsLookLike 79 = .ok (.goto 4, 3) := by decide +kernel
theorem dX0_relocationsLookLike_82 : decode cX0_relocationsLookLike 82 = .ok (.iconst 0, 1) := by decide +kernel
theorem dX0_relocationsLookLike_83 : decode cX0_relocationsLookLike 83 = .ok (.if_icmp .ne 7, 3) := by decide +kernel
theorem dX0_relocationsLookLike_86 : decode cX0_relocationsLookLike 86 = .ok (.iconst 1, 1) := by decide +kernel
theorem dX0_relocationsLookLike_87 : decode cX0_relocationsLookLike 87 = .ok (.goto 4, 3) := by decide +kernel
theorem dX0_relocationsLookLike_90 : decode cX0_relocationsLookLike 90 = .ok (.iconst 0, 1) := by decide +kernel
theorem dX0_relocationsLookLike_91 : decode cX0_relocationsLookLike 91 = .ok (.istore 6, 2) := by decide +kernel
theorem dX0_relocationsLookLike_93 : decode cX0_relocationsLookLike 93 = .ok (.iload 6, 2) := by decide +kernel
theorem dX0_relocationsLookLike_95 : decode cX0_relocationsLookLike 95 = .ok (.ifCond .eq 29, 3) := by decide +kernel
theorem dX0_relocationsLookLike_98 : decode cX0_relocationsLookLike 98 = .ok (.aload 4, 2) := by decide +kernel
theorem dX0_relocationsLookLike_100 : decode cX0_relocationsLookLike 100 = .ok (.aload 5, 2) := by decide +kernel
theorem dX0_relocationsLookLike_102 : decode cX0_relocationsLookLike 102 = .ok (.invokevirtual 110, 3) := by decide +kernel
theorem dX0_relocationsLookLike_105 : decode cX0_relocationsLookLike 105 = .ok (.ifCond .eq 19, 3) := by decide +kernel
theorem dX0_relocationsLookLike_108 : decode cX0_relocationsLookLike 108 = .ok (.aload 4, 2) := by decide +kernel
theorem dX0_relocationsLookLike_110 : decode cX0_relocationsLookLike 110 = .ok (.getfield 81, 3) := by decide +kernel
theorem dX0_relocationsLookLike_113 : decode cX0_relocationsLookLike 113 = .ok (.aload 5, 2) := by decide +kernel
theorem dX0_relocationsLookLike_115 : decode cX0_relocationsLookLike 115 = .ok (.getfield 81, 3) := by decide +kernel
theorem dX0_relocationsLookLike_118 : decode cX0_relocationsLookLike 118 = .ok (.invokevirtual 114, 3) := by decide +kernel
theorem dX0_relocationsLookLike_121 : decode cX0_relocationsLookLike 121 = .ok (.ifCond .ne 5, 3) := by decide +kernel
theorem dX0_relocationsLookLike_124 : decode cX0_relocationsLookLike 124 = .ok (.iconst 0, 1) := by decide +kernel
theorem dX0_relocationsLookLike_125 : decode cX0_relocationsLookLike 125 = .ok (.ireturn, 1) := by decide +kernel
theorem dX0_relocationsLookLike_126 : decode cX0_relocationsLookLike 126 = .ok (.iinc 3 1, 3) := by decide +kernel
theorem dX0_relocationsLookLike_129 : decode cX0_relocationsLookLike 129 = .ok (.goto (-114), 3) := by decide +kernel
theorem dX0_relocationsLookLike_132 : decode cX0_relocationsLookLike 132 = .ok (.iconst 1, 1) := by decide +kernel
theorem dX0_relocationsLookLike_133 : decode cX0_relocationsLookLike 133 = .ok (.ireturn, 1) := by decide +kernel
theorem dX0_partKin_0 : decode cX0_partKin 0 = .ok (.iconst 0, 1) := by decide +kernel
theorem dX0_partKin_1 : decode cX0_partKin 1 = .ok (.istore_n 2, 1) := by decide +kernel
theorem dX0_partKin_2 : decode cX0_partKin 2 = .ok (.iconst 0, 1) := by decide +kernel
theorem dX0_partKin_3 : decode cX0_partKin 3 = .ok (.istore_n 3, 1) := by decide +kernel
theorem dX0_partKin_4 : decode cX0_partKin 4 = .ok (.iload_n 3, 1) := by decide +kernel
theorem dX0_partKin_5 : decode cX0_partKin 5 = .ok (.aload_n 1, 1) := by decide +kernel
theorem dX0_partKin_6 : decode cX0_partKin 6 = .ok (.invokevirtual 15, 3) := by decide +kernel
theorem dX0_partKin_9 : decode cX0_partKin 9 = .ok (.if_icmp .ge 55, 3) := by decide +kernel
theorem dX0_partKin_12 : decode cX0_partKin 12 = .ok (.aload_n 1, 1) := by decide +kernel
theorem dX0_partKin_13 : decode cX0_partKin 13 = .ok (.iload_n 3, 1) := by decide +kernel
theorem dX0_partKin_14 : decode cX0_partKin 14 = .ok (.invokevirtual 21, 3) := by decide +kernel
theorem dX0_partKin_17 : decode cX0_partKin 17 = .ok (.checkcast 25, 3) := by decide +kernel
theorem dX0_partKin_20 : decode cX0_partKin 20 = .ok (.astore 4, 2) := by decide +kernel
theorem dX0_partKin_22 : decode cX0_partKin 22 = .ok (.aload 4, 2) := by decide +kernel
theorem dX0_partKin_24 : decode cX0_partKin 24 = .ok (.aload_n 0, 1) := by decide +kernel
theorem dX0_partKin_25 : decode cX0_partKin 25 = .ok (.aload_n 1, 1) := by decide +kernel
theorem dX0_partKin_26 : decode cX0_partKin 26 = .ok (.iload_n 3, 1) := by decide +kernel
theorem dX0_partKin_27 : decode cX0_partKin 27 = .ok (.aload 4, 2) := by decide +kernel
theorem dX0_partKin_29 : decode cX0_partKin 29 = .ok (.invokevirtual 118, 3) := by decide +kernel
theorem dX0_partKin_32 : decode cX0_partKin 32 = .ok (.putfield 122, 3) := by decide +kernel
theorem dX0_partKin_35 : decode cX0_partKin 35 = .ok (.iload_n 2, 1) := by decide +kernel
theorem dX0_partKin_36 : decode cX0_partKin 36 = .ok (.ifCond .ne 16, 3) := by decide +kernel
theorem dX0_partKin_39 : decode cX0_partKin 39 = .ok (.aload 4, 2) := by decide +kernel
theorem dX0_partKin_41 : decode cX0_partKin 41 = .ok (.getfield 122, 3) := by decide +kernel
theorem dX0_partKin_44 : decode cX0_partKin 44 = .ok (.aload 4, 2) := by decide +kernel
theorem dX0_partKin_46 : decode cX0_partKin 46 = .ok (.getfield 90, 3) := by decide +kernel
theorem dX0_partKin_49 : decode cX0_partKin 49 = .ok (.if_acmp .eq 7, 3) := by decide +kernel
theorem dX0_partKin_52 : decode cX0_partKin 52 = .ok (.iconst 1, 1) := by decide +kernel
theorem dX0_partKin_53 : decode cX0_partKin 53 = .ok (.goto 4, 3) := by decide +kernel
theorem dX0_partKin_56 : decode cX0_partKin 56 = .ok (.iconst 0, 1) := by decide +kernel
theorem dX0_partKin_57 : decode cX0_partKin 57 = .ok (.istore_n 2, 1) := by decide +kernel
theorem dX0_partKin_58 : decode cX0_partKin 58 = .ok (.iinc 3 1, 3) := by decide +kernel
theorem dX0_partKin_61 : decode cX0_partKin 61 = .ok (.goto (-57), 3) := by decide +kernel
theorem dX0_partKin_64 : decode cX0_partKin 64 = .ok (.iconst 0, 1) := by decide +kernel
theorem dX0_partKin_65 : decode cX0_partKin 65 = .ok (.istore_n 3, 1) := by decide +kernel
theorem dX0_partKin_66 : decode cX0_partKin 66 = .ok (.iload_n 3, 1) := by decide +kernel
theorem dX0_partKin_67 : decode cX0_partKin 67 = .ok (.aload_n 1, 1) := by decide +kernel
theorem dX0_partKin_68 : decode cX0_partKin 68 = .ok (.invokevirtual 15, 3) := by decide +kernel
theorem dX0_partKin_71 : decode cX0_partKin 71 = .ok (.if_icmp .ge 31, 3) := by decide +kernel
theorem dX0_partKin_74 : decode cX0_partKin 74 = .ok (.aload_n 1, 1) := by decide +kernel
theorem dX0_partKin_75 : decode cX0_partKin 75 = .ok (.iload_n 3, 1) := by decide +kernel
theorem dX0_partKin_76 : decode cX0_partKin 76 = .ok (.invokevirtual 21, 3) := by decide +kernel
theorem dX0_partKin_79 : decode cX0_partKin 79 = .ok (.checkcast 25, 3) := by decide +kernel
theorem dX0_partKin_82 : decode cX0_partKin 82 = .ok (.aload_n 1, 1) := by decide +kernel
theorem dX0_partKin_83 : decode cX0_partKin 83 = .ok (.iload_n 3, 1) := by decide +kernel
theorem dX0_partKin_84 : decode cX0_partKin 84 = .ok (.invokevirtual 21, 3) := by decide +kernel
theorem dX0_partKin_87 : decode cX0_partKin 87 = .ok (.checkcast 25, 3) := by decide +kernel
theorem dX0_partKin_90 : decode cX0_partKin 90 = .ok (.getfield 122, 3) := by decide +kernel
theorem dX0_partKin_93 : decode cX0_partKin 93 = .ok (.putfield 90, 3) := by decide +kernel
theorem dX0_partKin_96 : decode cX0_partKin 96 = .ok (.iinc 3 1, 3) := by decide +kernel
theorem dX0_partKin_99 : decode cX0_partKin 99 = .ok (.goto (-33), 3) := by decide +kernel
theorem dX0_partKin_102 : decode cX0_partKin 102 = .ok (.iload_n 2, 1) := by decide +kernel
theorem dX0_partKin_103 : decode cX0_partKin 103 = .ok (.ireturn, 1) := by decide +kernel
theorem dX0_firstOfTheSameKin_0 : decode cX0_firstOfTheSameKin 0 = .ok (.iconst 0, 1) := by decide +kernel
theorem dX0_firstOfTheSameKin_1 : decode cX0_firstOfTheSameKin 1 = .ok (.istore 4, 2) := by decide +kernel
theorem dX0_firstOfTheSameKin_3 : decode cX0_firstOfTheSameKin 3 = .ok (.iload 4, 2) := by decide +kernel
theorem dX0_firstOfTheSameKin_5 : decode cX0_firstOfTheSameKin 5 = .ok (.iload_n 2, 1) := by decide +kernel
theorem dX0_firstOfTheSameKin_6 : decode cX0_firstOfTheSameKin 6 = .ok (.if_icmp .ge 64, 3) := by decide +kernel
theorem dX0_firstOfTheSameKin_9 : decode cX0_firstOfTheSameKin 9 = .ok (.iload 4, 2) := by decide +kernel
theorem dX0_firstOfTheSameKin_11 : decode cX0_firstOfTheSameKin 11 = .ok (.aload_n 1, 1) := by decide +kernel
theorem dX0_firstOfTheSameKin_12 : decode cX0_firstOfTheSameKin 12 = .ok (.invokevirtual 15, 3) := by decide +kernel
theorem dX0_firstOfTheSameKin_15 : decode cX0_firstOfTheSameKin 15 = .ok (.if_icmp .ge 55, 3) := by decide +kernel
theorem dX0_firstOfTheSameKin_18 : decode cX0_firstOfTheSameKin 18 = .ok (.aload_n 1, 1) := by decide +kernel
theorem dX0_firstOfTheSameKin_19 : decode cX0_firstOfTheSameKin 19 = .ok (.iload 4, 2) := by decide +kernel
theorem dX0_firstOfTheSameKin_21 : decode cX0_firstOfTheSameKin 21 = .ok (.invokevirtual 21, 3) := by decide +kernel
theorem dX0_firstOfTheSameKin_24 : decode cX0_firstOfTheSameKin 24 = .ok (.checkcast 25, 3) := by decide +kernel
theorem dX0_firstOfTheSameKin_27 : decode cX0_firstOfTheSameKin 27 = .ok (.astore 5, 2) := by decide +kernel
theorem dX0_firstOfTheSameKin_29 : decode cX0_firstOfTheSameKin 29 = .ok (.aload 5, 2) := by decide +kernel
theorem dX0_firstOfTheSameKin_31 : decode cX0_firstOfTheSameKin 31 = .ok (.getfield 122, 3) := by decide +kernel
theorem dX0_firstOfTheSameKin_34 : decode cX0_firstOfTheSameKin 34 = .ok (.aload 5, 2) := by decide +kernel
theorem dX0_firstOfTheSameKin_36 : decode cX0_firstOfTheSameKin 36 = .ok (.if_acmp .ne 28, 3) := by decide +kernel
theorem dX0_firstOfTheSameKin_39 : decode cX0_firstOfTheSameKin 39 = .ok (.aload 5, 2) := by decide +kernel
theorem dX0_firstOfTheSameKin_41 : decode cX0_firstOfTheSameKin 41 = .ok (.getfield 90, 3) := by decide +kernel
theorem dX0_firstOfTheSameKin_44 : decode cX0_firstOfTheSameKin 44 = .ok (.aload_n 3, 1) := by decide +kernel
theorem dX0_firstOfTheSameKin_45 : decode cX0_firstOfTheSameKin 45 = .ok (.getfield 90, 3) := by decide +kernel
theorem dX0_firstOfTheSameKin_48 : decode cX0_firstOfTheSameKin 48 = .ok (.if_acmp .ne 16, 3) := by decide +kernel
theorem dX0_firstOfTheSameKin_51 : decode cX0_firstOfTheSameKin 51 = .ok (.aload_n 0, 1) := by decide +kernel
theorem dX0_firstOfTheSameKin_52 : decode cX0_firstOfTheSameKin 52 = .ok (.aload 5, 2) := by decide +kernel
theorem dX0_firstOfTheSameKin_54 : decode cX0_firstOfTheSameKin 54 = .ok (.aload_n 3, 1) := by decide +kernel
theorem dX0_firstOfTheSameKin_55 : decode cX0_firstOfTheSameKin 55 = .ok (.invokevirtual 125, 3) := by decide +kernel
theorem dX0_firstOfTheSameKin_58 : decode cX0_firstOfTheSameKin 58 = .ok (.ifCond .eq 6, 3) := by decide +kernel
theorem dX0_firstOfTheSameKin_61 : decode cX0_firstOfTheSameKin 61 = .ok (.aload 5, 2) := by decide +kernel
theorem dX0_firstOfTheSameKin_63 : decode cX0_firstOfTheSameKin 63 = .ok (.areturn, 1) := by decide +kernel
theorem dX0_firstOfTheSameKin_64 : decode cX0_firstOfTheSameKin 64 = .ok (.iinc 4 1, 3) := by decide +kernel
theorem dX0_firstOfTheSameKin_67 : decode cX0_firstOfTheSameKin 67 = .ok (.goto (-64), 3) := by decide +kernel
theorem dX0_firstOfTheSameKin_70 : decode cX0_firstOfTheSameKin 70 = .ok (.aload_n 3, 1) := by decide +kernel
theorem dX0_firstOfTheSameKin_71 : decode cX0_firstOfTheSameKin 71 = .ok (.areturn, 1) := by decide +kernel
theorem dX0_targetsAreKin_0 : decode cX0_targetsAreKin 0 = .ok (.iconst 0, 1) := by decide +kernel
theorem dX0_targetsAreKin_1 : decode cX0_targetsAreKin 1 = .ok (.istore_n 3, 1) := by decide +kernel
theorem dX0_targetsAreKin_2 : decode cX0_targetsAreKin 2 = .ok (.iload_n 3, 1) := by decide +kernel
theorem dX0_targetsAreKin_3 : decode cX0_targetsAreKin 3 = .ok (.aload_n 1, 1) := by decide +kernel
theorem dX0_targetsAreKin_4 : decode cX0_targetsAreKin 4 = .ok (.getfield 66, 3) := by decide +kernel
theorem dX0_targetsAreKin_7 : decode cX0_targetsAreKin 7 = .ok (.invokevirtual 15, 3) := by decide +kernel
theorem dX0_targetsAreKin_10 : decode cX0_targetsAreKin 10 = .ok (.if_icmp .ge 83, 3) := by decide +kernel
theorem dX0_targetsAreKin_13 : decode cX0_targetsAreKin 13 = .ok (.iload_n 3, 1) := by decide +kernel
theorem dX0_targetsAreKin_14 : decode cX0_targetsAreKin 14 = .ok (.aload_n 2, 1) := by decide +kernel
theorem dX0_targetsAreKin_15 : decode cX0_targetsAreKin 15 = .ok (.getfield 66, 3) := by decide +kernel
theorem dX0_targetsAreKin_18 : decode cX0_targetsAreKin 18 = .ok (.invokevirtual 15, 3) := by decide +kernel
theorem dX0_targetsAreKin_21 : decode cX0_targetsAreKin 21 = .ok (.if_icmp .ge 72, 3) := by decide +kernel
theorem dX0_targetsAreKin_24 : decode cX0_targetsAreKin 24 = .ok (.aload_n 1, 1) := by decide +kernel
theorem dX0_targetsAreKin_25 : decode cX0_targetsAreKin 25 = .ok (.getfield 66, 3) := by decide +kernel
theorem dX0_targetsAreKin_28 : decode cX0_targetsAreKin 28 = .ok (.iload_n 3, 1) := by decide +kernel
theorem dX0_targetsAreKin_29 : decode cX0_targetsAreKin 29 = .ok (.invokevirtual 21, 3) := by decide +kernel
theorem dX0_targetsAreKin_32 : decode cX0_targetsAreKin 32 = .ok (.checkcast 70, 3) := by decide +kernel
theorem dX0_targetsAreKin_35 : decode cX0_targetsAreKin 35 = .ok (.getfield 81, 3) := by decide +kernel
theorem dX0_targetsAreKin_38 : decode cX0_targetsAreKin 38 = .ok (.getfield 85, 3) := by decide +kernel
theorem dX0_targetsAreKin_41 : decode cX0_targetsAreKin 41 = .ok (.astore 4, 2) := by decide +kernel
theorem dX0_targetsAreKin_43 : decode cX0_targetsAreKin 43 = .ok (.aload_n 2, 1) := by decide +kernel
theorem dX0_targetsAreKin_44 : decode cX0_targetsAreKin 44 = .ok (.getfield 66, 3) := by decide +kernel
theorem dX0_targetsAreKin_47 : decode cX0_targetsAreKin 47 = .ok (.iload_n 3, 1) := by decide +kernel
theorem dX0_targetsAreKin_48 : decode cX0_targetsAreKin 48 = .ok (.invokevirtual 21, 3) := by decide +kernel
theorem dX0_targetsAreKin_51 : decode cX0_targetsAreKin 51 = .ok (.checkcast 70, 3) := by decide +kernel
theorem dX0_targetsAreKin_54 : decode cX0_targetsAreKin 54 = .ok (.getfield 81, 3) := by decide +kernel
theorem dX0_targetsAreKin_57 : decode cX0_targetsAreKin 57 = .ok (.getfield 85, 3) := by decide +kernel
theorem dX0_targetsAreKin_60 : decode cX0_targetsAreKin 60 = .ok (.astore 5, 2) := by decide +kernel
theorem dX0_targetsAreKin_62 : decode cX0_targetsAreKin 62 = .ok (.aload 4, 2) := by decide +kernel
theorem dX0_targetsAreKin_64 : decode cX0_targetsAreKin 64 = .ok (.ifnull 23, 3) := by decide +kernel
theorem dX0_targetsAreKin_67 : decode cX0_targetsAreKin 67 = .ok (.aload 5, 2) := by decide +kernel
theorem dX0_targetsAreKin_69 : decode cX0_targetsAreKin 69 = .ok (.ifnull 18, 3) := by decide +kernel
theorem dX0_targetsAreKin_72 : decode cX0_targetsAreKin 72 = .ok (.aload 4, 2) := by decide +kernel
theorem dX0_targetsAreKin_74 : decode cX0_targetsAreKin 74 = .ok (.getfield 90, 3) := by decide +kernel
theorem dX0_targetsAreKin_77 : decode cX0_targetsAreKin 77 = .ok (.aload 5, 2) := by decide +kernel
theorem dX0_targetsAreKin_79 : decode cX0_targetsAreKin 79 = .ok (.getfield 90, 3) := by decide +kernel
theorem dX0_targetsAreKin_82 : decode cX0_targetsAreKin 82 = .ok (.if_acmp .eq 5, 3) := by decide +kernel
theorem dX0_targetsAreKin_85 : decode cX0_targetsAreKin 85 = .ok (.iconst 0, 1) := by decide +kernel
theorem dX0_targetsAreKin_86 : decode cX0_targetsAreKin 86 = .ok (.ireturn, 1) := by decide +kernel
theorem dX0_targetsAreKin_87 : decode cX0_targetsAreKin 87 = .ok (.iinc 3 1, 3) := by decide +kernel
theorem dX0_targetsAreKin_90 : decode cX0_targetsAreKin 90 = .ok (.goto (-88), 3) := by decide +kernel
theorem dX0_targetsAreKin_93 : decode cX0_targetsAreKin 93 = .ok (.iconst 1, 1) := by decide +kernel
theorem dX0_targetsAreKin_94 : decode cX0_targetsAreKin 94 = .ok (.ireturn, 1) := by decide +kernel
theorem dX0_foldKin_0 : decode cX0_foldKin 0 = .ok (.iconst 0, 1) := by decide +kernel
theorem dX0_foldKin_1 : decode cX0_foldKin 1 = .ok (.istore_n 2, 1) := by decide +kernel
theorem dX0_foldKin_2 : decode cX0_foldKin 2 = .ok (.iload_n 2, 1) := by decide +kernel
theorem dX0_foldKin_3 : decode cX0_foldKin 3 = .ok (.aload_n 1, 1) := by decide +kernel
theorem dX0_foldKin_4 : decode cX0_foldKin 4 = .ok (.invokevirtual 15, 3) := by decide +kernel
theorem dX0_foldKin_7 : decode cX0_foldKin 7 = .ok (.if_icmp .ge 44, 3) := by decide +kernel
theorem dX0_foldKin_10 : decode cX0_foldKin 10 = .ok (.aload_n 1, 1) := by decide +kernel
theorem dX0_foldKin_11 : decode cX0_foldKin 11 = .ok (.iload_n 2, 1) := by decide +kernel
theorem dX0_foldKin_12 : decode cX0_foldKin 12 = .ok (.invokevirtual 21, 3) := by decide +kernel
theorem dX0_foldKin_15 : decode cX0_foldKin 15 = .ok (.checkcast 25, 3) := by decide +kernel
theorem dX0_foldKin_18 : decode cX0_foldKin 18 = .ok (.astore_n 3, 1) := by decide +kernel
theorem dX0_foldKin_19 : decode cX0_foldKin 19 = .ok (.aload_n 3, 1) := by decide +kernel
theorem dX0_foldKin_20 : decode cX0_foldKin 20 = .ok (.getfield 90, 3) := by decide +kernel
theorem dX0_foldKin_23 : decode cX0_foldKin 23 = .ok (.aload_n 3, 1) := by decide +kernel
theorem dX0_foldKin_24 : decode cX0_foldKin 24 = .ok (.if_acmp .eq 21, 3) := by decide +kernel
theorem dX0_foldKin_27 : decode cX0_foldKin 27 = .ok (.aload_n 3, 1) := by decide +kernel
theorem dX0_foldKin_28 : decode cX0_foldKin 28 = .ok (.aload_n 3, 1) := by decide +kernel
theorem dX0_foldKin_29 : decode cX0_foldKin 29 = .ok (.getfield 90, 3) := by decide +kernel
theorem dX0_foldKin_32 : decode cX0_foldKin 32 = .ok (.putfield 27, 3) := by decide +kernel
theorem dX0_foldKin_35 : decode cX0_foldKin 35 = .ok (.aload_n 0, 1) := by decide +kernel
theorem dX0_foldKin_36 : decode cX0_foldKin 36 = .ok (.dup, 1) := by decide +kernel
theorem dX0_foldKin_37 : decode cX0_foldKin 37 = .ok (.getfield 9, 3) := by decide +kernel
theorem dX0_foldKin_40 : decode cX0_foldKin 40 = .ok (.iconst 1, 1) := by decide +kernel
theorem dX0_foldKin_41 : decode cX0_foldKin 41 = .ok (.iadd, 1) := by decide +kernel
theorem dX0_foldKin_42 : decode cX0_foldKin 42 = .ok (.putfield 9, 3) := by decide +kernel
theorem dX0_foldKin_45 : decode cX0_foldKin 45 = .ok (.iinc 2 1, 3) := by decide +kernel
theorem dX0_foldKin_48 : decode cX0_foldKin 48 = .ok (.goto (-46), 3) := by decide +kernel
theorem dX0_foldKin_51 : decode cX0_foldKin 51 = .ok (.return_, 1) := by decide +kernel
theorem dX1_init_0 : decode cX1_init 0 = .ok (.aload_n 0, 1) := by decide +kernel
theorem dX1_init_1 : decode cX1_init 1 = .ok (.invokespecial 3, 3) := by decide +kernel
theorem dX1_init_4 : decode cX1_init 4 = .ok (.aload_n 0, 1) := by decide +kernel
theorem dX1_init_5 : decode cX1_init 5 = .ok (.new 9, 3) := by decide +kernel
theorem dX1_init_8 : decode cX1_init 8 = .ok (.dup, 1) := by decide +kernel
theorem dX1_init_9 : decode cX1_init 9 = .ok (.invokespecial 11, 3) := by decide +kernel
theorem dX1_init_12 : decode cX1_init 12 = .ok (.putfield 12, 3) := by decide +kernel
theorem dX1_init_15 : decode cX1_init 15 = .ok (.return_, 1) := by decide +kernel
theorem dX1_find_0 : decode cX1_find 0 = .ok (.aload_n 0, 1) := by decide +kernel
theorem dX1_find_1 : decode cX1_find 1 = .ok (.aload_n 1, 1) := by decide +kernel
theorem dX1_find_2 : decode cX1_find 2 = .ok (.getfield 18, 3) := by decide +kernel
theorem dX1_find_5 : decode cX1_find 5 = .ok (.invokevirtual 23, 3) := by decide +kernel
theorem dX1_find_8 : decode cX1_find 8 = .ok (.iconst 0, 1) := by decide +kernel
theorem dX1_find_9 : decode cX1_find 9 = .ok (.istore_n 3, 1) := by decide +kernel
theorem dX1_find_10 : decode cX1_find 10 = .ok (.iload_n 3, 1) := by decide +kernel
theorem dX1_find_11 : decode cX1_find 11 = .ok (.aload_n 1, 1) := by decide +kernel
theorem dX1_find_12 : decode cX1_find 12 = .ok (.getfield 27, 3) := by decide +kernel
theorem dX1_find_15 : decode cX1_find 15 = .ok (.if_icmp .ge 45, 3) := by decide +kernel
theorem dX1_find_18 : decode cX1_find 18 = .ok (.iload_n 3, 1) := by decide +kernel
theorem dX1_find_19 : decode cX1_find 19 = .ok (.aload_n 1, 1) := by decide +kernel
theorem dX1_find_20 : decode cX1_find 20 = .ok (.getfield 31, 3) := by decide +kernel
theorem dX1_find_23 : decode cX1_find 23 = .ok (.arraylength, 1) := by decide +kernel
theorem dX1_find_24 : decode cX1_find 24 = .ok (.if_icmp .ge 36, 3) := by decide +kernel
theorem dX1_find_27 : decode cX1_find 27 = .ok (.aload_n 2, 1) := by decide +kernel
theorem dX1_find_28 : decode cX1_find 28 = .ok (.aload_n 1, 1) := by decide +kernel
theorem dX1_find_29 : decode cX1_find 29 = .ok (.getfield 31, 3) := by decide +kernel
theorem dX1_find_32 : decode cX1_find 32 = .ok (.iload_n 3, 1) := by decide +kernel
theorem dX1_find_33 : decode cX1_find 33 = .ok (.iaload, 1) := by decide +kernel
theorem dX1_find_34 : decode cX1_find 34 = .ok (.invokevirtual 35, 3) := by decide +kernel
theorem dX1_find_37 : decode cX1_find 37 = .ok (.astore 4, 2) := by decide +kernel
theorem dX1_find_39 : decode cX1_find 39 = .ok (.aload 4, 2) := by decide +kernel
theorem dX1_find_41 : decode cX1_find 41 = .ok (.ifnull 13, 3) := by decide +kernel
theorem dX1_find_44 : decode cX1_find 44 = .ok (.aload_n 0, 1) := by decide +kernel
theorem dX1_find_45 : decode cX1_find 45 = .ok (.aload 4, 2) := by decide +kernel
theorem dX1_find_47 : decode cX1_find 47 = .ok (.getfield 41, 3) := by decide +kernel
theorem dX1_find_50 : decode cX1_find 50 = .ok (.aconst_null, 1) := by decide +kernel
theorem dX1_find_51 : decode cX1_find 51 = .ok (.invokevirtual 47, 3) := by decide +kernel
theorem dX1_find_54 : decode cX1_find 54 = .ok (.iinc 3 1, 3) := by decide +kernel
theorem dX1_find_57 : decode cX1_find 57 = .ok (.goto (-47), 3) := by decide +kernel
theorem dX1_find_60 : decode cX1_find 60 = .ok (.iconst 0, 1) := by decide +kernel
theorem dX1_find_61 : decode cX1_find 61 = .ok (.istore_n 3, 1) := by decide +kernel
theorem dX1_find_62 : decode cX1_find 62 = .ok (.iload_n 3, 1) := by decide +kernel
theorem dX1_find_63 : decode cX1_find 63 = .ok (.aload_n 0, 1) := by decide +kernel
theorem dX1_find_64 : decode cX1_find 64 = .ok (.getfield 12, 3) := by decide +kernel
theorem dX1_find_67 : decode cX1_find 67 = .ok (.invokevirtual 51, 3) := by decide +kernel
theorem dX1_find_70 : decode cX1_find 70 = .ok (.if_icmp .ge 34, 3) := by decide +kernel
theorem dX1_find_73 : decode cX1_find 73 = .ok (.iload_n 3, 1) := by decide +kernel
theorem dX1_find_74 : decode cX1_find 74 = .ok (.bipush 60, 2) := by decide +kernel
theorem dX1_find_76 : decode cX1_find 76 = .ok (.if_icmp .ge 28, 3) := by decide +kernel
theorem dX1_find_79 : decode cX1_find 79 = .ok (.aload_n 0, 1) := by decide +kernel
theorem dX1_find_80 : decode cX1_find 80 = .ok (.aload_n 0, 1) := by decide +kernel
theorem dX1_find_81 : decode cX1_find 81 = .ok (.getfield 12, 3) := by decide +kernel
theorem dX1_find_84 : decode cX1_find 84 = .ok (.iload_n 3, 1) := by decide +kernel
theorem dX1_find_85 : decode cX1_find 85 = .ok (.invokevirtual 55, 3) := by decide +kernel
theorem dX1_find_88 : decode cX1_find 88 = .ok (.checkcast 59, 3) := by decide +kernel
theorem dX1_find_91 : decode cX1_find 91 = .ok (.aload_n 1, 1) := by decide +kernel
theorem dX1_find_92 : decode cX1_find 92 = .ok (.getfield 18, 3) := by decide +kernel
theorem dX1_find_95 : decode cX1_find 95 = .ok (.invokevirtual 61, 3) := by decide +kernel
theorem dX1_find_98 : decode cX1_find 98 = .ok (.iinc 3 1, 3) := by decide +kernel
theorem dX1_find_101 : decode cX1_find 101 = .ok (.goto (-39), 3) := by decide +kernel
theorem dX1_find_104 : decode cX1_find 104 = .ok (.return_, 1) := by decide +kernel
theorem dX1_firstNowhere_0 : decode cX1_firstNowhere 0 = .ok (.iconst 0, 1) := by decide +kernel
theorem dX1_firstNowhere_1 : decode cX1_firstNowhere 1 = .ok (.istore_n 2, 1) := by decide +kernel
theorem dX1_firstNowhere_2 : decode cX1_firstNowhere 2 = .ok (.iload_n 2, 1) := by decide +kernel
theorem dX1_firstNowhere_3 : decode cX1_firstNowhere 3 = .ok (.aload_n 1, 1) := by decide +kernel
theorem dX1_firstNowhere_4 : decode cX1_firstNowhere 4 = .ok (.invokevirtual 51, 3) := by decide +kernel
theorem dX1_firstNowhere_7 : decode cX1_firstNowhere 7 = .ok (.if_icmp .ge 53, 3) := by decide +kernel
theorem dX1_firstNowhere_10 : decode cX1_firstNowhere 10 = .ok (.aload_n 1, 1) := by decide +kernel
theorem dX1_firstNowhere_11 : decode cX1_firstNowhere 11 = .ok (.iload_n 2, 1) := by decide +kernel
theorem dX1_firstNowhere_12 : decode cX1_firstNowhere 12 = .ok (.invokevirtual 55, 3) := by decide +kernel
theorem dX1_firstNowhere_15 : decode cX1_firstNowhere 15 = .ok (.checkcast 65, 3) := by decide +kernel
theorem dX1_firstNowhere_18 : decode cX1_firstNowhere 18 = .ok (.astore_n 3, 1) := by decide +kernel
theorem dX1_firstNowhere_19 : decode cX1_firstNowhere 19 = .ok (.aload_n 3, 1) := by decide +kernel
theorem dX1_firstNowhere_20 : decode cX1_firstNowhere 20 = .ok (.getfield 67, 3) := by decide +kernel
theorem dX1_firstNowhere_23 : decode cX1_firstNowhere 23 = .ok (.astore 4, 2) := by decide +kernel
theorem dX1_firstNowhere_25 : decode cX1_firstNowhere 25 = .ok (.aload_n 3, 1) := by decide +kernel
theorem dX1_firstNowhere_26 : decode cX1_firstNowhere 26 = .ok (.getfield 71, 3) := by decide +kernel
theorem dX1_firstNowhere_29 : decode cX1_firstNowhere 29 = .ok (.invokevirtual 72, 3) := by decide +kernel
theorem dX1_firstNowhere_32 : decode cX1_firstNowhere 32 = .ok (.ifCond .eq 22, 3) := by decide +kernel
theorem dX1_firstNowhere_35 : decode cX1_firstNowhere 35 = .ok (.aload 4, 2) := by decide +kernel
theorem dX1_firstNowhere_37 : decode cX1_firstNowhere 37 = .ok (.getfield 76, 3) := by decide +kernel
theorem dX1_firstNowhere_40 : decode cX1_firstNowhere 40 = .ok (.iconst 2, 1) := by decide +kernel
theorem dX1_firstNowhere_41 : decode cX1_firstNowhere 41 = .ok (.if_icmp .eq 13, 3) := by decide +kernel
theorem dX1_firstNowhere_44 : decode cX1_firstNowhere 44 = .ok (.aload 4, 2) := by decide +kernel
theorem dX1_firstNowhere_46 : decode cX1_firstNowhere 46 = .ok (.invokevirtual 79, 3) := by decide +kernel
theorem dX1_firstNowhere_49 : decode cX1_firstNowhere 49 = .ok (.ifCond .eq 5, 3) := by decide +kernel
theorem dX1_firstNowhere_52 : decode cX1_firstNowhere 52 = .ok (.iload_n 2, 1) := by decide +kernel
theorem dX1_firstNowhere_53 : decode cX1_firstNowhere 53 = .ok (.ireturn, 1) := by decide +kernel
theorem dX1_firstNowhere_54 : decode cX1_firstNowhere 54 = .ok (.iinc 2 1, 3) := by decide +kernel
theorem dX1_firstNowhere_57 : decode cX1_firstNowhere 57 = .ok (.goto (-55), 3) := by decide +kernel
theorem dX1_firstNowhere_60 : decode cX1_firstNowhere 60 = .ok (.iconst (-1), 1) := by decide +kernel
theorem dX1_firstNowhere_61 : decode cX1_firstNowhere 61 = .ok (.ireturn, 1) := by decide +kernel
theorem dX1_firstIntoLost_0 : decode cX1_firstIntoLost 0 = .ok (.iconst 0, 1) := by decide +kernel
theorem dX1_firstIntoLost_1 : decode cX1_firstIntoLost 1 = .ok (.istore_n 2, 1) := by decide +kernel
theorem dX1_firstIntoLost_2 : decode cX1_firstIntoLost 2 = .ok (.iload_n 2, 1) := by decide +kernel
theorem dX1_firstIntoLost_3 : decode cX1_firstIntoLost 3 = .ok (.aload_n 1, 1) := by decide +kernel
theorem dX1_firstIntoLost_4 : decode cX1_firstIntoLost 4 = .ok (.invokevirtual 51, 3) := by decide +kernel
theorem dX1_firstIntoLost_7 : decode cX1_firstIntoLost 7 = .ok (.if_icmp .ge 52, 3) := by decide +kernel
theorem dX1_firstIntoLost_10 : decode cX1_firstIntoLost 10 = .ok (.aload_n 1, 1) := by decide +kernel
theorem dX1_firstIntoLost_11 : decode cX1_firstIntoLost 11 = .ok (.iload_n 2, 1) := by decide +kernel
theorem dX1_firstIntoLost_12 : decode cX1_firstIntoLost 12 = .ok (.invokevirtual 55, 3) := by decide +kernel
theorem dX1_firstIntoLost_15 : decode cX1_firstIntoLost 15 = .ok (.checkcast 65, 3) := by decide +kernel
theorem dX1_firstIntoLost_18 : decode cX1_firstIntoLost 18 = .ok (.astore_n 3, 1) := by decide +kernel
theorem dX1_firstIntoLost_19 : decode cX1_firstIntoLost 19 = .ok (.aload_n 3, 1) := by decide +kernel
theorem dX1_firstIntoLost_20 : decode cX1_firstIntoLost 20 = .ok (.getfield 67, 3) := by decide +kernel
theorem dX1_firstIntoLost_23 : decode cX1_firstIntoLost 23 = .ok (.getfield 82, 3) := by decide +kernel
theorem dX1_firstIntoLost_26 : decode cX1_firstIntoLost 26 = .ok (.astore 4, 2) := by decide +kernel
theorem dX1_firstIntoLost_28 : decode cX1_firstIntoLost 28 = .ok (.aload_n 3, 1) := by decide +kernel
theorem dX1_firstIntoLost_29 : decode cX1_firstIntoLost 29 = .ok (.getfield 71, 3) := by decide +kernel
theorem dX1_firstIntoLost_32 : decode cX1_firstIntoLost 32 = .ok (.invokevirtual 72, 3) := by decide +kernel
theorem dX1_firstIntoLost_35 : decode cX1_firstIntoLost 35 = .ok (.ifCond .eq 18, 3) := by decide +kernel
theorem dX1_firstIntoLost_38 : decode cX1_firstIntoLost 38 = .ok (.aload 4, 2) := by decide +kernel
theorem dX1_firstIntoLost_40 : decode cX1_firstIntoLost 40 = .ok (.ifnull 13, 3) := by decide +kernel
theorem dX1_firstIntoLost_43 : decode cX1_firstIntoLost 43 = .ok (.aload 4, 2) := by decide +kernel
theorem dX1_firstIntoLost_45 : decode cX1_firstIntoLost 45 = .ok (.getfield 85, 3) := by decide +kernel
theorem dX1_firstIntoLost_48 : decode cX1_firstIntoLost 48 = .ok (.ifCond .eq 5, 3) := by decide +kernel
theorem dX1_firstIntoLost_51 : decode cX1_firstIntoLost 51 = .ok (.iload_n 2, 1) := by decide +kernel
theorem dX1_firstIntoLost_52 : decode cX1_firstIntoLost 52 = .ok (.ireturn, 1) := by decide +kernel
theorem dX1_firstIntoLost_53 : decode cX1_firstIntoLost 53 = .ok (.iinc 2 1, 3) := by decide +kernel
theorem dX1_firstIntoLost_56 : decode cX1_firstIntoLost 56 = .ok (.goto (-54), 3) := by decide +kernel
theorem dX1_firstIntoLost_59 : decode cX1_firstIntoLost 59 = .ok (.iconst (-1), 1) := by decide +kernel
theorem dX1_firstIntoLost_60 : decode cX1_firstIntoLost 60 = .ok (.ireturn, 1) := by decide +kernel
theorem dX1_begin_0 : decode cX1_begin 0 = .ok (.aload_n 0, 1) := by decide +kernel
theorem dX1_begin_1 : decode cX1_begin 1 = .ok (.getfield 12, 3) := by decide +kernel
theorem dX1_begin_4 : decode cX1_begin 4 = .ok (.invokevirtual 89, 3) := by decide +kernel
theorem dX1_begin_7 : decode cX1_begin 7 = .ok (.iconst 0, 1) := by decide +kernel
theorem dX1_begin_8 : decode cX1_begin 8 = .ok (.istore_n 2, 1) := by decide +kernel
theorem dX1_begin_9 : decode cX1_begin 9 = .ok (.iload_n 2, 1) := by decide +kernel
theorem dX1_begin_10 : decode cX1_begin 10 = .ok (.aload_n 1, 1) := by decide +kernel
theorem dX1_begin_11 : decode cX1_begin 11 = .ok (.invokevirtual 51, 3) := by decide +kernel
theorem dX1_begin_14 : decode cX1_begin 14 = .ok (.if_icmp .ge 33, 3) := by decide +kernel
theorem dX1_begin_17 : decode cX1_begin 17 = .ok (.aload_n 1, 1) := by decide +kernel
theorem dX1_begin_18 : decode cX1_begin 18 = .ok (.iload_n 2, 1) := by decide +kernel
theorem dX1_begin_19 : decode cX1_begin 19 = .ok (.invokevirtual 55, 3) := by decide +kernel
theorem dX1_begin_22 : decode cX1_begin 22 = .ok (.checkcast 59, 3) := by decide +kernel
theorem dX1_begin_25 : decode cX1_begin 25 = .ok (.iconst (-1), 1) := by decide +kernel
theorem dX1_begin_26 : decode cX1_begin 26 = .ok (.putfield 92, 3) := by decide +kernel
theorem dX1_begin_29 : decode cX1_begin 29 = .ok (.aload_n 1, 1) := by decide +kernel
theorem dX1_begin_30 : decode cX1_begin 30 = .ok (.iload_n 2, 1) := by decide +kernel
theorem dX1_begin_31 : decode cX1_begin 31 = .ok (.invokevirtual 55, 3) := by decide +kernel
theorem dX1_begin_34 : decode cX1_begin 34 = .ok (.checkcast 59, 3) := by decide +kernel
theorem dX1_begin_37 : decode cX1_begin 37 = .ok (.aconst_null, 1) := by decide +kernel
theorem dX1_begin_38 : decode cX1_begin 38 = .ok (.putfield 95, 3) := by decide +kernel
theorem dX1_begin_41 : decode cX1_begin 41 = .ok (.iinc 2 1, 3) := by decide +kernel
theorem dX1_begin_44 : decode cX1_begin 44 = .ok (.goto (-35), 3) := by decide +kernel
theorem dX1_begin_47 : decode cX1_begin 47 = .ok (.iconst 0, 1) := by decide +kernel
theorem dX1_begin_48 : decode cX1_begin 48 = .ok (.istore_n 2, 1) := by decide +kernel
theorem dX1_begin_49 : decode cX1_begin 49 = .ok (.iload_n 2, 1) := by decide +kernel
theorem dX1_begin_50 : decode cX1_begin 50 = .ok (.aload_n 1, 1) := by decide +kernel
theorem dX1_begin_51 : decode cX1_begin 51 = .ok (.invokevirtual 51, 3) := by decide +kernel
theorem dX1_begin_54 : decode cX1_begin 54 = .ok (.if_icmp .ge 36, 3) := by decide +kernel
theorem dX1_begin_57 : decode cX1_begin 57 = .ok (.aload_n 1, 1) := by decide +kernel
theorem dX1_begin_58 : decode cX1_begin 58 = .ok (.iload_n 2, 1) := by decide +kernel
theorem dX1_begin_59 : decode cX1_begin 59 = .ok (.invokevirtual 55, 3) := by decide +kernel
theorem dX1_begin_62 : decode cX1_begin 62 = .ok (.checkcast 59, 3) := by decide +kernel
theorem dX1_begin_65 : decode cX1_begin 65 = .ok (.getfield 98, 3) := by decide +kernel
theorem dX1_begin_68 : decode cX1_begin 68 = .ok (.ifCond .eq 16, 3) := by decide +kernel
theorem dX1_begin_71 : decode cX1_begin 71 = .ok (.aload_n 0, 1) := by decide +kernel
theorem dX1_begin_72 : decode cX1_begin 72 = .ok (.aload_n 1, 1) := by decide +kernel
theorem dX1_begin_73 : decode cX1_begin 73 = .ok (.iload_n 2, 1) := by decide +kernel
theorem dX1_begin_74 : decode cX1_begin 74 = .ok (.invokevirtual 55, 3) := by decide +kernel
theorem dX1_begin_77 : decode cX1_begin 77 = .ok (.checkcast 59, 3) := by decide +kernel
theorem dX1_begin_80 : decode cX1_begin 80 = .ok (.aconst_null, 1) := by decide +kernel
theorem dX1_begin_81 : decode cX1_begin 81 = .ok (.invokevirtual 47, 3) := by decide +kernel
theorem dX1_begin_84 : decode cX1_begin 84 = .ok (.iinc 2 1, 3) := by decide +kernel
theorem dX1_begin_87 : decode cX1_begin 87 = .ok (.goto (-38), 3) := by decide +kernel
theorem dX1_begin_90 : decode cX1_begin 90 = .ok (.return_, 1) := by decide +kernel
theorem dX1_admit_0 : decode cX1_admit 0 = .ok (.aload_n 1, 1) := by decide +kernel
theorem dX1_admit_1 : decode cX1_admit 1 = .ok (.ifnull 42, 3) := by decide +kernel
theorem dX1_admit_4 : decode cX1_admit 4 = .ok (.aload_n 1, 1) := by decide +kernel
theorem dX1_admit_5 : decode cX1_admit 5 = .ok (.getfield 85, 3) := by decide +kernel
theorem dX1_admit_8 : decode cX1_admit 8 = .ok (.ifCond .ne 35, 3) := by decide +kernel
theorem dX1_admit_11 : decode cX1_admit 11 = .ok (.aload_n 1, 1) := by decide +kernel
theorem dX1_admit_12 : decode cX1_admit 12 = .ok (.invokevirtual 72, 3) := by decide +kernel
theorem dX1_admit_15 : decode cX1_admit 15 = .ok (.ifCond .ne 28, 3) := by decide +kernel
theorem dX1_admit_18 : decode cX1_admit 18 = .ok (.aload_n 1, 1) := by decide +kernel
theorem dX1_admit_19 : decode cX1_admit 19 = .ok (.aload_n 0, 1) := by decide +kernel
theorem dX1_admit_20 : decode cX1_admit 20 = .ok (.getfield 12, 3) := by decide +kernel
theorem dX1_admit_23 : decode cX1_admit 23 = .ok (.invokevirtual 51, 3) := by decide +kernel
theorem dX1_admit_26 : decode cX1_admit 26 = .ok (.putfield 92, 3) := by decide +kernel
theorem dX1_admit_29 : decode cX1_admit 29 = .ok (.aload_n 1, 1) := by decide +kernel
theorem dX1_admit_30 : decode cX1_admit 30 = .ok (.aload_n 2, 1) := by decide +kernel
theorem dX1_admit_31 : decode cX1_admit 31 = .ok (.putfield 95, 3) := by decide +kernel
theorem dX1_admit_34 : decode cX1_admit 34 = .ok (.aload_n 0, 1) := by decide +kernel
theorem dX1_admit_35 : decode cX1_admit 35 = .ok (.getfield 12, 3) := by decide +kernel
theorem dX1_admit_38 : decode cX1_admit 38 = .ok (.aload_n 1, 1) := by decide +kernel
theorem dX1_admit_39 : decode cX1_admit 39 = .ok (.invokevirtual 101, 3) := by decide +kernel
theorem dX1_admit_42 : decode cX1_admit 42 = .ok (.pop, 1) := by decide +kernel
theorem dX1_admit_43 : decode cX1_admit 43 = .ok (.return_, 1) := by decide +kernel
theorem dX1_follow_0 : decode cX1_follow 0 = .ok (.iconst 0, 1) := by decide +kernel
theorem dX1_follow_1 : decode cX1_follow 1 = .ok (.istore_n 3, 1) := by decide +kernel
theorem dX1_follow_2 : decode cX1_follow 2 = .ok (.iload_n 3, 1) := by decide +kernel
theorem dX1_follow_3 : decode cX1_follow 3 = .ok (.aload_n 1, 1) := by decide +kernel
theorem dX1_follow_4 : decode cX1_follow 4 = .ok (.getfield 105, 3) := by decide +kernel
theorem dX1_follow_7 : decode cX1_follow 7 = .ok (.invokevirtual 51, 3) := by decide +kernel
theorem dX1_follow_10 : decode cX1_follow 10 = .ok (.if_icmp .ge 55, 3) := by decide +kernel
theorem dX1_follow_13 : decode cX1_follow 13 = .ok (.aload_n 1, 1) := by decide +kernel
theorem dX1_follow_14 : decode cX1_follow 14 = .ok (.getfield 105, 3) := by decide +kernel
theorem dX1_follow_17 : decode cX1_follow 17 = .ok (.iload_n 3, 1) := by decide +kernel
theorem dX1_follow_18 : decode cX1_follow 18 = .ok (.invokevirtual 55, 3) := by decide +kernel
theorem dX1_follow_21 : decode cX1_follow 21 = .ok (.checkcast 65, 3) := by decide +kernel
theorem dX1_follow_24 : decode cX1_follow 24 = .ok (.getfield 67, 3) := by decide +kernel
theorem dX1_follow_27 : decode cX1_follow 27 = .ok (.astore 4, 2) := by decide +kernel
theorem dX1_follow_29 : decode cX1_follow 29 = .ok (.aload_n 0, 1) := by decide +kernel
theorem dX1_follow_30 : decode cX1_follow 30 = .ok (.aload 4, 2) := by decide +kernel
theorem dX1_follow_32 : decode cX1_follow 32 = .ok (.getfield 82, 3) := by decide +kernel
theorem dX1_follow_35 : decode cX1_follow 35 = .ok (.aload_n 1, 1) := by decide +kernel
theorem dX1_follow_36 : decode cX1_follow 36 = .ok (.invokevirtual 47, 3) := by decide +kernel
theorem dX1_follow_39 : decode cX1_follow 39 = .ok (.aload 4, 2) := by decide +kernel
theorem dX1_follow_41 : decode cX1_follow 41 = .ok (.invokevirtual 108, 3) := by decide +kernel
theorem dX1_follow_44 : decode cX1_follow 44 = .ok (.iconst (-1), 1) := by decide +kernel
theorem dX1_follow_45 : decode cX1_follow 45 = .ok (.if_icmp .eq 14, 3) := by decide +kernel
theorem dX1_follow_48 : decode cX1_follow 48 = .ok (.aload_n 0, 1) := by decide +kernel
theorem dX1_follow_49 : decode cX1_follow 49 = .ok (.aload 4, 2) := by decide +kernel
theorem dX1_follow_51 : decode cX1_follow 51 = .ok (.invokevirtual 108, 3) := by decide +kernel
theorem dX1_follow_54 : decode cX1_follow 54 = .ok (.aload_n 1, 1) := by decide +kernel
theorem dX1_follow_55 : decode cX1_follow 55 = .ok (.aload_n 2, 1) := by decide +kernel
theorem dX1_follow_56 : decode cX1_follow 56 = .ok (.invokevirtual 111, 3) := by decide +kernel
theorem dX1_follow_59 : decode cX1_follow 59 = .ok (.iinc 3 1, 3) := by decide +kernel
theorem dX1_follow_62 : decode cX1_follow 62 = .ok (.goto (-60), 3) := by decide +kernel
theorem dX1_follow_65 : decode cX1_follow 65 = .ok (.aload_n 1, 1) := by decide +kernel
theorem dX1_follow_66 : decode cX1_follow 66 = .ok (.getfield 115, 3) := by decide +kernel
theorem dX1_follow_69 : decode cX1_follow 69 = .ok (.iconst (-1), 1) := by decide +kernel
theorem dX1_follow_70 : decode cX1_follow 70 = .ok (.if_icmp .eq 9, 3) := by decide +kernel
theorem dX1_follow_73 : decode cX1_follow 73 = .ok (.aload_n 0, 1) := by decide +kernel
theorem dX1_follow_74 : decode cX1_follow 74 = .ok (.aload_n 1, 1) := by decide +kernel
theorem dX1_follow_75 : decode cX1_follow 75 = .ok (.aload_n 2, 1) := by decide +kernel
theorem dX1_follow_76 : decode cX1_follow 76 = .ok (.invokevirtual 118, 3) := by decide +kernel
theorem dX1_follow_79 : decode cX1_follow 79 = .ok (.return_, 1) := by decide +kernel
theorem dX1_admitSet_0 : decode cX1_admitSet 0 = .ok (.iconst 0, 1) := by decide +kernel
theorem dX1_admitSet_1 : decode cX1_admitSet 1 = .ok (.istore 4, 2) := by decide +kernel
theorem dX1_admitSet_3 : decode cX1_admitSet 3 = .ok (.iload 4, 2) := by decide +kernel
theorem dX1_admitSet_5 : decode cX1_admitSet 5 = .ok (.aload_n 3, 1) := by decide +kernel
theorem dX1_admitSet_6 : decode cX1_admitSet 6 = .ok (.invokevirtual 51, 3) := by decide +kernel
theorem dX1_admitSet_9 : decode cX1_admitSet 9 = .ok (.if_icmp .ge 39, 3) := by decide +kernel
theorem dX1_admitSet_12 : decode cX1_admitSet 12 = .ok (.aload_n 3, 1) := by decide +kernel
theorem dX1_admitSet_13 : decode cX1_admitSet 13 = .ok (.iload 4, 2) := by decide +kernel
theorem dX1_admitSet_15 : decode cX1_admitSet 15 = .ok (.invokevirtual 55, 3) := by decide +kernel
theorem dX1_admitSet_18 : decode cX1_admitSet 18 = .ok (.checkcast 59, 3) := by decide +kernel
theorem dX1_admitSet_21 : decode cX1_admitSet 21 = .ok (.getfield 121, 3) := by decide +kernel
theorem dX1_admitSet_24 : decode cX1_admitSet 24 = .ok (.iload_n 1, 1) := by decide +kernel
theorem dX1_admitSet_25 : decode cX1_admitSet 25 = .ok (.if_icmp .ne 17, 3) := by decide +kernel
theorem dX1_admitSet_28 : decode cX1_admitSet 28 = .ok (.aload_n 0, 1) := by decide +kernel
theorem dX1_admitSet_29 : decode cX1_admitSet 29 = .ok (.aload_n 3, 1) := by decide +kernel
theorem dX1_admitSet_30 : decode cX1_admitSet 30 = .ok (.iload 4, 2) := by decide +kernel
theorem dX1_admitSet_32 : decode cX1_admitSet 32 = .ok (.invokevirtual 55, 3) := by decide +kernel
theorem dX1_admitSet_35 : decode cX1_admitSet 35 = .ok (.checkcast 59, 3) := by decide +kernel
theorem dX1_admitSet_38 : decode cX1_admitSet 38 = .ok (.aload_n 2, 1) := by decide +kernel
theorem dX1_admitSet_39 : decode cX1_admitSet 39 = .ok (.invokevirtual 47, 3) := by decide +kernel
theorem dX1_admitSet_42 : decode cX1_admitSet 42 = .ok (.iinc 4 1, 3) := by decide +kernel
theorem dX1_admitSet_45 : decode cX1_admitSet 45 = .ok (.goto (-42), 3) := by decide +kernel
theorem dX1_admitSet_48 : decode cX1_admitSet 48 = .ok (.return_, 1) := by decide +kernel
theorem dX1_admitGroup_0 : decode cX1_admitGroup 0 = .ok (.iconst 0, 1) := by decide +kernel
theorem dX1_admitGroup_1 : decode cX1_admitGroup 1 = .ok (.istore_n 3, 1) := by decide +kernel
theorem dX1_admitGroup_2 : decode cX1_admitGroup 2 = .ok (.iload_n 3, 1) := by decide +kernel
theorem dX1_admitGroup_3 : decode cX1_admitGroup 3 = .ok (.aload_n 2, 1) := by decide +kernel
theorem dX1_admitGroup_4 : decode cX1_admitGroup 4 = .ok (.invokevirtual 51, 3) := by decide +kernel
theorem dX1_admitGroup_7 : decode cX1_admitGroup 7 = .ok (.if_icmp .ge 40, 3) := by decide +kernel
theorem dX1_admitGroup_10 : decode cX1_admitGroup 10 = .ok (.aload_n 2, 1) := by decide +kernel
theorem dX1_admitGroup_11 : decode cX1_admitGroup 11 = .ok (.iload_n 3, 1) := by decide +kernel
theorem dX1_admitGroup_12 : decode cX1_admitGroup 12 = .ok (.invokevirtual 55, 3) := by decide +kernel
theorem dX1_admitGroup_15 : decode cX1_admitGroup 15 = .ok (.checkcast 59, 3) := by decide +kernel
theorem dX1_admitGroup_18 : decode cX1_admitGroup 18 = .ok (.getfield 115, 3) := by decide +kernel
theorem dX1_admitGroup_21 : decode cX1_admitGroup 21 = .ok (.aload_n 1, 1) := by decide +kernel
theorem dX1_admitGroup_22 : decode cX1_admitGroup 22 = .ok (.getfield 115, 3) := by decide +kernel
theorem dX1_admitGroup_25 : decode cX1_admitGroup 25 = .ok (.if_icmp .ne 16, 3) := by decide +kernel
theorem dX1_admitGroup_28 : decode cX1_admitGroup 28 = .ok (.aload_n 0, 1) := by decide +kernel
theorem dX1_admitGroup_29 : decode cX1_admitGroup 29 = .ok (.aload_n 2, 1) := by decide +kernel
theorem dX1_admitGroup_30 : decode cX1_admitGroup 30 = .ok (.iload_n 3, 1) := by decide +kernel
theorem dX1_admitGroup_31 : decode cX1_admitGroup 31 = .ok (.invokevirtual 55, 3) := by decide +kernel
theorem dX1_admitGroup_34 : decode cX1_admitGroup 34 = .ok (.checkcast 59, 3) := by decide +kernel
theorem dX1_admitGroup_37 : decode cX1_admitGroup 37 = .ok (.aload_n 1, 1) := by decide +kernel
theorem dX1_admitGroup_38 : decode cX1_admitGroup 38 = .ok (.invokevirtual 47, 3) := by decide +kernel
theorem dX1_admitGroup_41 : decode cX1_admitGroup 41 = .ok (.iinc 3 1, 3) := by decide +kernel
theorem dX1_admitGroup_44 : decode cX1_admitGroup 44 = .ok (.goto (-42), 3) := by decide +kernel
theorem dX1_admitGroup_47 : decode cX1_admitGroup 47 = .ok (.return_, 1) := by decide +kernel
theorem dX2_init_0 : decode cX2_init 0 = .ok (.aload_n 0, 1) := by decide +kernel
theorem dX2_init_1 : decode cX2_init 1 = .ok (.invokespecial 3, 3) := by decide +kernel
theorem dX2_init_4 : decode cX2_init 4 = .ok (.aload_n 0, 1) := by decide +kernel
theorem dX2_init_5 : decode cX2_init 5 = .ok (.bipush 16, 2) := by decide +kernel
theorem dX2_init_7 : decode cX2_init 7 = .ok (.newarray .int, 2) := by decide +kernel
theorem dX2_init_9 : decode cX2_init 9 = .ok (.putfield 9, 3) := by decide +kernel
theorem dX2_init_12 : decode cX2_init 12 = .ok (.aload_n 0, 1) := by decide +kernel
theorem dX2_init_13 : decode cX2_init 13 = .ok (.bipush 64, 2) := by decide +kernel
theorem dX2_init_15 : decode cX2_init 15 = .ok (.anewarray 15, 3) := by decide +kernel
theorem dX2_init_18 : decode cX2_init 18 = .ok (.putfield 17, 3) := by decide +kernel
theorem dX2_init_21 : decode cX2_init 21 = .ok (.return_, 1) := by decide +kernel
theorem dX2_resolve_0 : decode cX2_resolve 0 = .ok (.aload_n 0, 1) := by decide +kernel
theorem dX2_resolve_1 : decode cX2_resolve 1 = .ok (.aload_n 1, 1) := by decide +kernel
theorem dX2_resolve_2 : decode cX2_resolve 2 = .ok (.getfield 21, 3) := by decide +kernel
theorem dX2_resolve_5 : decode cX2_resolve 5 = .ok (.invokevirtual 27, 3) := by decide +kernel
theorem dX2_resolve_8 : decode cX2_resolve 8 = .ok (.aload_n 0, 1) := by decide +kernel
theorem dX2_resolve_9 : decode cX2_resolve 9 = .ok (.aload_n 1, 1) := by decide +kernel
theorem dX2_resolve_10 : decode cX2_resolve 10 = .ok (.getfield 31, 3) := by decide +kernel
theorem dX2_resolve_13 : decode cX2_resolve 13 = .ok (.invokevirtual 34, 3) := by decide +kernel
theorem dX2_resolve_16 : decode cX2_resolve 16 = .ok (.istore_n 2, 1) := by decide +kernel
theorem dX2_resolve_17 : decode cX2_resolve 17 = .ok (.iload_n 2, 1) := by decide +kernel
theorem dX2_resolve_18 : decode cX2_resolve 18 = .ok (.iconst (-1), 1) := by decide +kernel
theorem dX2_resolve_19 : decode cX2_resolve 19 = .ok (.if_icmp .ne 11, 3) := by decide +kernel
theorem dX2_resolve_22 : decode cX2_resolve 22 = .ok (.aload_n 0, 1) := by decide +kernel
theorem dX2_resolve_23 : decode cX2_resolve 23 = .ok (.aload_n 1, 1) := by decide +kernel
theorem dX2_resolve_24 : decode cX2_resolve 24 = .ok (.getfield 31, 3) := by decide +kernel
theorem dX2_resolve_27 : decode cX2_resolve 27 = .ok (.invokevirtual 38, 3) := by decide +kernel
theorem dX2_resolve_30 : decode cX2_resolve 30 = .ok (.iload_n 2, 1) := by decide +kernel
theorem dX2_resolve_31 : decode cX2_resolve 31 = .ok (.ireturn, 1) := by decide +kernel
theorem dX2_definitionOf_0 : decode cX2_definitionOf 0 = .ok (.iload_n 1, 1) := by decide +kernel
theorem dX2_definitionOf_1 : decode cX2_definitionOf 1 = .ok (.ifCond .lt 21, 3) := by decide +kernel
theorem dX2_definitionOf_4 : decode cX2_definitionOf 4 = .ok (.iload_n 1, 1) := by decide +kernel
theorem dX2_definitionOf_5 : decode cX2_definitionOf 5 = .ok (.aload_n 0, 1) := by decide +kernel
theorem dX2_definitionOf_6 : decode cX2_definitionOf 6 = .ok (.getfield 17, 3) := by decide +kernel
theorem dX2_definitionOf_9 : decode cX2_definitionOf 9 = .ok (.arraylength, 1) := by decide +kernel
theorem dX2_definitionOf_10 : decode cX2_definitionOf 10 = .ok (.if_icmp .ge 12, 3) := by decide +kernel
theorem dX2_definitionOf_13 : decode cX2_definitionOf 13 = .ok (.aload_n 0, 1) := by decide +kernel
theorem dX2_definitionOf_14 : decode cX2_definitionOf 14 = .ok (.getfield 17, 3) := by decide +kernel
theorem dX2_definitionOf_17 : decode cX2_definitionOf 17 = .ok (.iload_n 1, 1) := by decide +kernel
theorem dX2_definitionOf_18 : decode cX2_definitionOf 18 = .ok (.aaload, 1) := by decide +kernel
theorem dX2_definitionOf_19 : decode cX2_definitionOf 19 = .ok (.goto 4, 3) := by decide +kernel
theorem dX2_definitionOf_22 : decode cX2_definitionOf 22 = .ok (.aconst_null, 1) := by decide +kernel
theorem dX2_definitionOf_23 : decode cX2_definitionOf 23 = .ok (.areturn, 1) := by decide +kernel
theorem dX2_firstRootNowhere_0 : decode cX2_firstRootNowhere 0 = .ok (.iconst 0, 1) := by decide +kernel
theorem dX2_firstRootNowhere_1 : decode cX2_firstRootNowhere 1 = .ok (.istore_n 2, 1) := by decide +kernel
theorem dX2_firstRootNowhere_2 : decode cX2_firstRootNowhere 2 = .ok (.iload_n 2, 1) := by decide +kernel
theorem dX2_firstRootNowhere_3 : decode cX2_firstRootNowhere 3 = .ok (.aload_n 1, 1) := by decide +kernel
theorem dX2_firstRootNowhere_4 : decode cX2_firstRootNowhere 4 = .ok (.getfield 41, 3) := by decide +kernel
theorem dX2_firstRootNowhere_7 : decode cX2_firstRootNowhere 7 = .ok (.if_icmp .ge 33, 3) := by decide +kernel
theorem dX2_firstRootNowhere_10 : decode cX2_firstRootNowhere 10 = .ok (.iload_n 2, 1) := by decide +kernel
theorem dX2_firstRootNowhere_11 : decode cX2_firstRootNowhere 11 = .ok (.aload_n 1, 1) := by decide +kernel
theorem dX2_firstRootNowhere_12 : decode cX2_firstRootNowhere 12 = .ok (.getfield 45, 3) := by decide +kernel
theorem dX2_firstRootNowhere_15 : decode cX2_firstRootNowhere 15 = .ok (.arraylength, 1) := by decide +kernel
theorem dX2_firstRootNowhere_16 : decode cX2_firstRootNowhere 16 = .ok (.if_icmp .ge 24, 3) := by decide +kernel
theorem dX2_firstRootNowhere_19 : decode cX2_firstRootNowhere 19 = .ok (.aload_n 0, 1) := by decide +kernel
theorem dX2_firstRootNowhere_20 : decode cX2_firstRootNowhere 20 = .ok (.aload_n 1, 1) := by decide +kernel
theorem dX2_firstRootNowhere_21 : decode cX2_firstRootNowhere 21 = .ok (.getfield 45, 3) := by decide +kernel
theorem dX2_firstRootNowhere_24 : decode cX2_firstRootNowhere 24 = .ok (.iload_n 2, 1) := by decide +kernel
theorem dX2_firstRootNowhere_25 : decode cX2_firstRootNowhere 25 = .ok (.iaload, 1) := by decide +kernel
theorem dX2_firstRootNowhere_26 : decode cX2_firstRootNowhere 26 = .ok (.invokevirtual 48, 3) := by decide +kernel
theorem dX2_firstRootNowhere_29 : decode cX2_firstRootNowhere 29 = .ok (.ifnonnull 5, 3) := by decide +kernel
theorem dX2_firstRootNowhere_32 : decode cX2_firstRootNowhere 32 = .ok (.iload_n 2, 1) := by decide +kernel
theorem dX2_firstRootNowhere_33 : decode cX2_firstRootNowhere 33 = .ok (.ireturn, 1) := by decide +kernel
theorem dX2_firstRootNowhere_34 : decode cX2_firstRootNowhere 34 = .ok (.iinc 2 1, 3) := by decide +kernel
theorem dX2_firstRootNowhere_37 : decode cX2_firstRootNowhere 37 = .ok (.goto (-35), 3) := by decide +kernel
theorem dX2_firstRootNowhere_40 : decode cX2_firstRootNowhere 40 = .ok (.iconst (-1), 1) := by decide +kernel
theorem dX2_firstRootNowhere_41 : decode cX2_firstRootNowhere 41 = .ok (.ireturn, 1) := by decide +kernel
theorem dX2_findLost_0 : decode cX2_findLost 0 = .ok (.aload_n 0, 1) := by decide +kernel
theorem dX2_findLost_1 : decode cX2_findLost 1 = .ok (.getfield 9, 3) := by decide +kernel
theorem dX2_findLost_4 : decode cX2_findLost 4 = .ok (.bipush 12, 2) := by decide +kernel
theorem dX2_findLost_6 : decode cX2_findLost 6 = .ok (.invokestatic 52, 3) := by decide +kernel
theorem dX2_findLost_9 : decode cX2_findLost 9 = .ok (.iconst 0, 1) := by decide +kernel
theorem dX2_findLost_10 : decode cX2_findLost 10 = .ok (.istore_n 2, 1) := by decide +kernel
theorem dX2_findLost_11 : decode cX2_findLost 11 = .ok (.iload_n 2, 1) := by decide +kernel
theorem dX2_findLost_12 : decode cX2_findLost 12 = .ok (.aload_n 1, 1) := by decide +kernel
theorem dX2_findLost_13 : decode cX2_findLost 13 = .ok (.invokevirtual 58, 3) := by decide +kernel
theorem dX2_findLost_16 : decode cX2_findLost 16 = .ok (.if_icmp .ge 51, 3) := by decide +kernel
theorem dX2_findLost_19 : decode cX2_findLost 19 = .ok (.aload_n 1, 1) := by decide +kernel
theorem dX2_findLost_20 : decode cX2_findLost 20 = .ok (.iload_n 2, 1) := by decide +kernel
theorem dX2_findLost_21 : decode cX2_findLost 21 = .ok (.invokevirtual 64, 3) := by decide +kernel
theorem dX2_findLost_24 : decode cX2_findLost 24 = .ok (.checkcast 68, 3) := by decide +kernel
theorem dX2_findLost_27 : decode cX2_findLost 27 = .ok (.astore_n 3, 1) := by decide +kernel
theorem dX2_findLost_28 : decode cX2_findLost 28 = .ok (.aload_n 0, 1) := by decide +kernel
theorem dX2_findLost_29 : decode cX2_findLost 29 = .ok (.aload_n 3, 1) := by decide +kernel
theorem dX2_findLost_30 : decode cX2_findLost 30 = .ok (.invokevirtual 70, 3) := by decide +kernel
theorem dX2_findLost_33 : decode cX2_findLost 33 = .ok (.ifCond .eq 28, 3) := by decide +kernel
theorem dX2_findLost_36 : decode cX2_findLost 36 = .ok (.aload_n 0, 1) := by decide +kernel
theorem dX2_findLost_37 : decode cX2_findLost 37 = .ok (.getfield 9, 3) := by decide +kernel
theorem dX2_findLost_40 : decode cX2_findLost 40 = .ok (.aload_n 3, 1) := by decide +kernel
theorem dX2_findLost_41 : decode cX2_findLost 41 = .ok (.getfield 74, 3) := by decide +kernel
theorem dX2_findLost_44 : decode cX2_findLost 44 = .ok (.aload_n 0, 1) := by decide +kernel
theorem dX2_findLost_45 : decode cX2_findLost 45 = .ok (.getfield 9, 3) := by decide +kernel
theorem dX2_findLost_48 : decode cX2_findLost 48 = .ok (.aload_n 3, 1) := by decide +kernel
theorem dX2_findLost_49 : decode cX2_findLost 49 = .ok (.getfield 74, 3) := by decide +kernel
theorem dX2_findLost_52 : decode cX2_findLost 52 = .ok (.iaload, 1) := by decide +kernel
theorem dX2_findLost_53 : decode cX2_findLost 53 = .ok (.aload_n 3, 1) := by decide +kernel
theorem dX2_findLost_54 : decode cX2_findLost 54 = .ok (.getfield 77, 3) := by decide +kernel
theorem dX2_findLost_57 : decode cX2_findLost 57 = .ok (.invokestatic 80, 3) := by decide +kernel
theorem dX2_findLost_60 : decode cX2_findLost 60 = .ok (.iastore, 1) := by decide +kernel
theorem dX2_findLost_61 : decode cX2_findLost 61 = .ok (.iinc 2 1, 3) := by decide +kernel
theorem dX2_findLost_64 : decode cX2_findLost 64 = .ok (.goto (-53), 3) := by decide +kernel
theorem dX2_findLost_67 : decode cX2_findLost 67 = .ok (.iconst 0, 1) := by decide +kernel
theorem dX2_findLost_68 : decode cX2_findLost 68 = .ok (.istore_n 2, 1) := by decide +kernel
theorem dX2_findLost_69 : decode cX2_findLost 69 = .ok (.iload_n 2, 1) := by decide +kernel
theorem dX2_findLost_70 : decode cX2_findLost 70 = .ok (.aload_n 1, 1) := by decide +kernel
theorem dX2_findLost_71 : decode cX2_findLost 71 = .ok (.invokevirtual 58, 3) := by decide +kernel
theorem dX2_findLost_74 : decode cX2_findLost 74 = .ok (.if_icmp .ge 51, 3) := by decide +kernel
theorem dX2_findLost_77 : decode cX2_findLost 77 = .ok (.aload_n 1, 1) := by decide +kernel
theorem dX2_findLost_78 : decode cX2_findLost 78 = .ok (.iload_n 2, 1) := by decide +kernel
theorem dX2_findLost_79 : decode cX2_findLost 79 = .ok (.invokevirtual 64, 3) := by decide +kernel
theorem dX2_findLost_82 : decode cX2_findLost 82 = .ok (.checkcast 68, 3) := by decide +kernel
theorem dX2_findLost_85 : decode cX2_findLost 85 = .ok (.astore_n 3, 1) := by decide +kernel
theorem dX2_findLost_86 : decode cX2_findLost 86 = .ok (.aload_n 3, 1) := by decide +kernel
theorem dX2_findLost_87 : decode cX2_findLost 87 = .ok (.aload_n 0, 1) := by decide +kernel
theorem dX2_findLost_88 : decode cX2_findLost 88 = .ok (.aload_n 3, 1) := by decide +kernel
theorem dX2_findLost_89 : decode cX2_findLost 89 = .ok (.invokevirtual 70, 3) := by decide +kernel
theorem dX2_findLost_92 : decode cX2_findLost 92 = .ok (.ifCond .eq 23, 3) := by decide +kernel
theorem dX2_findLost_95 : decode cX2_findLost 95 = .ok (.aload_n 0, 1) := by decide +kernel
theorem dX2_findLost_96 : decode cX2_findLost 96 = .ok (.getfield 9, 3) := by decide +kernel
theorem dX2_findLost_99 : decode cX2_findLost 99 = .ok (.aload_n 3, 1) := by decide +kernel
theorem dX2_findLost_100 : decode cX2_findLost 100 = .ok (.getfield 74, 3) := by decide +kernel
theorem dX2_findLost_103 : decode cX2_findLost 103 = .ok (.iaload, 1) := by decide +kernel
theorem dX2_findLost_104 : decode cX2_findLost 104 = .ok (.aload_n 3, 1) := by decide +kernel
theorem dX2_findLost_105 : decode cX2_findLost 105 = .ok (.getfield 77, 3) := by decide +kernel
theorem dX2_findLost_108 : decode cX2_findLost 108 = .ok (.if_icmp .ge 7, 3) := by decide +kernel
theorem dX2_findLost_111 : decode cX2_findLost 111 = .ok (.iconst 1, 1) := by decide +kernel
theorem dX2_findLost_112 : decode cX2_findLost 112 = .ok (.goto 4, 3) := by decide +kernel
theorem dX2_findLost_115 : decode cX2_findLost 115 = .ok (.iconst 0, 1) := by decide +kernel
theorem dX2_findLost_116 : decode cX2_findLost 116 = .ok (.putfield 86, 3) := by decide +kernel
theorem dX2_findLost_119 : decode cX2_findLost 119 = .ok (.iinc 2 1, 3) := by decide +kernel
theorem dX2_findLost_122 : decode cX2_findLost 122 = .ok (.goto (-53), 3) := by decide +kernel
theorem dX2_findLost_125 : decode cX2_findLost 125 = .ok (.return_, 1) := by decide +kernel
theorem dX2_hasGroup_0 : decode cX2_hasGroup 0 = .ok (.aload_n 1, 1) := by decide +kernel
theorem dX2_hasGroup_1 : decode cX2_hasGroup 1 = .ok (.getfield 74, 3) := by decide +kernel
theorem dX2_hasGroup_4 : decode cX2_hasGroup 4 = .ok (.ifCond .lt 19, 3) := by decide +kernel
theorem dX2_hasGroup_7 : decode cX2_hasGroup 7 = .ok (.aload_n 1, 1) := by decide +kernel
theorem dX2_hasGroup_8 : decode cX2_hasGroup 8 = .ok (.getfield 74, 3) := by decide +kernel
theorem dX2_hasGroup_11 : decode cX2_hasGroup 11 = .ok (.aload_n 0, 1) := by decide +kernel
theorem dX2_hasGroup_12 : decode cX2_hasGroup 12 = .ok (.getfield 9, 3) := by decide +kernel
theorem dX2_hasGroup_15 : decode cX2_hasGroup 15 = .ok (.arraylength, 1) := by decide +kernel
theorem dX2_hasGroup_16 : decode cX2_hasGroup 16 = .ok (.if_icmp .ge 7, 3) := by decide +kernel
theorem dX2_hasGroup_19 : decode cX2_hasGroup 19 = .ok (.iconst 1, 1) := by decide +kernel
theorem dX2_hasGroup_20 : decode cX2_hasGroup 20 = .ok (.goto 4, 3) := by decide +kernel
theorem dX2_hasGroup_23 : decode cX2_hasGroup 23 = .ok (.iconst 0, 1) := by decide +kernel
theorem dX2_hasGroup_24 : decode cX2_hasGroup 24 = .ok (.ireturn, 1) := by decide +kernel
theorem dX2_findDefinitions_0 : decode cX2_findDefinitions 0 = .ok (.iconst 0, 1) := by decide +kernel
theorem dX2_findDefinitions_1 : decode cX2_findDefinitions 1 = .ok (.istore_n 2, 1) := by decide +kernel
theorem dX2_findDefinitions_2 : decode cX2_findDefinitions 2 = .ok (.iload_n 2, 1) := by decide +kernel
theorem dX2_findDefinitions_3 : decode cX2_findDefinitions 3 = .ok (.aload_n 0, 1) := by decide +kernel
theorem dX2_findDefinitions_4 : decode cX2_findDefinitions 4 = .ok (.getfield 17, 3) := by decide +kernel
theorem dX2_findDefinitions_7 : decode cX2_findDefinitions 7 = .ok (.arraylength, 1) := by decide +kernel
theorem dX2_findDefinitions_8 : decode cX2_findDefinitions 8 = .ok (.if_icmp .ge 16, 3) := by decide +kernel
theorem dX2_findDefinitions_11 : decode cX2_findDefinitions 11 = .ok (.aload_n 0, 1) := by decide +kernel
theorem dX2_findDefinitions_12 : decode cX2_findDefinitions 12 = .ok (.getfield 17, 3) := by decide +kernel
theorem dX2_findDefinitions_15 : decode cX2_findDefinitions 15 = .ok (.iload_n 2, 1) := by decide +kernel
theorem dX2_findDefinitions_16 : decode cX2_findDefinitions 16 = .ok (.aconst_null, 1) := by decide +kernel
theorem dX2_findDefinitions_17 : decode cX2_findDefinitions 17 = .ok (.aastore, 1) := by decide +kernel
theorem dX2_findDefinitions_18 : decode cX2_findDefinitions 18 = .ok (.iinc 2 1, 3) := by decide +kernel
theorem dX2_findDefinitions_21 : decode cX2_findDefinitions 21 = .ok (.goto (-19), 3) := by decide +kernel
theorem dX2_findDefinitions_24 : decode cX2_findDefinitions 24 = .ok (.iconst 0, 1) := by decide +kernel
theorem dX2_findDefinitions_25 : decode cX2_findDefinitions 25 = .ok (.istore_n 2, 1) := by decide +kernel
theorem dX2_findDefinitions_26 : decode cX2_findDefinitions 26 = .ok (.iload_n 2, 1) := by decide +kernel
theorem dX2_findDefinitions_27 : decode cX2_findDefinitions 27 = .ok (.aload_n 1, 1) := by decide +kernel
theorem dX2_findDefinitions_28 : decode cX2_findDefinitions 28 = .ok (.invokevirtual 58, 3) := by decide +kernel
theorem dX2_findDefinitions_31 : decode cX2_findDefinitions 31 = .ok (.if_icmp .ge 35, 3) := by decide +kernel
theorem dX2_findDefinitions_34 : decode cX2_findDefinitions 34 = .ok (.aload_n 1, 1) := by decide +kernel
theorem dX2_findDefinitions_35 : decode cX2_findDefinitions 35 = .ok (.iload_n 2, 1) := by decide +kernel
theorem dX2_findDefinitions_36 : decode cX2_findDefinitions 36 = .ok (.invokevirtual 64, 3) := by decide +kernel
theorem dX2_findDefinitions_39 : decode cX2_findDefinitions 39 = .ok (.checkcast 15, 3) := by decide +kernel
theorem dX2_findDefinitions_42 : decode cX2_findDefinitions 42 = .ok (.astore_n 3, 1) := by decide +kernel
theorem dX2_findDefinitions_43 : decode cX2_findDefinitions 43 = .ok (.aload_n 3, 1) := by decide +kernel
theorem dX2_findDefinitions_44 : decode cX2_findDefinitions 44 = .ok (.invokevirtual 90, 3) := by decide +kernel
theorem dX2_findDefinitions_47 : decode cX2_findDefinitions 47 = .ok (.ifCond .eq 13, 3) := by decide +kernel
theorem dX2_findDefinitions_50 : decode cX2_findDefinitions 50 = .ok (.aload_n 0, 1) := by decide +kernel
theorem dX2_findDefinitions_51 : decode cX2_findDefinitions 51 = .ok (.aload_n 3, 1) := by decide +kernel
theorem dX2_findDefinitions_52 : decode cX2_findDefinitions 52 = .ok (.invokevirtual 94, 3) := by decide +kernel
theorem dX2_findDefinitions_55 : decode cX2_findDefinitions 55 = .ok (.ifCond .ne 5, 3) := by decide +kernel
theorem dX2_findDefinitions_58 : decode cX2_findDefinitions 58 = .ok (.iload_n 2, 1) := by decide +kernel
theorem dX2_findDefinitions_59 : decode cX2_findDefinitions 59 = .ok (.ireturn, 1) := by decide +kernel
theorem dX2_findDefinitions_60 : decode cX2_findDefinitions 60 = .ok (.iinc 2 1, 3) := by decide +kernel
theorem dX2_findDefinitions_63 : decode cX2_findDefinitions 63 = .ok (.goto (-37), 3) := by decide +kernel
theorem dX2_findDefinitions_66 : decode cX2_findDefinitions 66 = .ok (.iconst (-1), 1) := by decide +kernel
theorem dX2_findDefinitions_67 : decode cX2_findDefinitions 67 = .ok (.ireturn, 1) := by decide +kernel
theorem dX2_takeDefinition_0 : decode cX2_takeDefinition 0 = .ok (.aload_n 0, 1) := by decide +kernel
theorem dX2_takeDefinition_1 : decode cX2_takeDefinition 1 = .ok (.aload_n 1, 1) := by decide +kernel
theorem dX2_takeDefinition_2 : decode cX2_takeDefinition 2 = .ok (.getfield 98, 3) := by decide +kernel
theorem dX2_takeDefinition_5 : decode cX2_takeDefinition 5 = .ok (.invokevirtual 48, 3) := by decide +kernel
theorem dX2_takeDefinition_8 : decode cX2_takeDefinition 8 = .ok (.astore_n 2, 1) := by decide +kernel
theorem dX2_takeDefinition_9 : decode cX2_takeDefinition 9 = .ok (.aload_n 2, 1) := by decide +kernel
theorem dX2_takeDefinition_10 : decode cX2_takeDefinition 10 = .ok (.ifnull 19, 3) := by decide +kernel
theorem dX2_takeDefinition_13 : decode cX2_takeDefinition 13 = .ok (.aload_n 2, 1) := by decide +kernel
theorem dX2_takeDefinition_14 : decode cX2_takeDefinition 14 = .ok (.getfield 101, 3) := by decide +kernel
theorem dX2_takeDefinition_17 : decode cX2_takeDefinition 17 = .ok (.iconst 2, 1) := by decide +kernel
theorem dX2_takeDefinition_18 : decode cX2_takeDefinition 18 = .ok (.if_icmp .ne 15, 3) := by decide +kernel
theorem dX2_takeDefinition_21 : decode cX2_takeDefinition 21 = .ok (.aload_n 1, 1) := by decide +kernel
theorem dX2_takeDefinition_22 : decode cX2_takeDefinition 22 = .ok (.getfield 101, 3) := by decide +kernel
theorem dX2_takeDefinition_25 : decode cX2_takeDefinition 25 = .ok (.iconst 1, 1) := by decide +kernel
theorem dX2_takeDefinition_26 : decode cX2_takeDefinition 26 = .ok (.if_icmp .ne 7, 3) := by decide +kernel
theorem dX2_takeDefinition_29 : decode cX2_takeDefinition 29 = .ok (.iconst 1, 1) := by decide +kernel
theorem dX2_takeDefinition_30 : decode cX2_takeDefinition 30 = .ok (.goto 4, 3) := by decide +kernel
theorem dX2_takeDefinition_33 : decode cX2_takeDefinition 33 = .ok (.iconst 0, 1) := by decide +kernel
theorem dX2_takeDefinition_34 : decode cX2_takeDefinition 34 = .ok (.istore_n 3, 1) := by decide +kernel
theorem dX2_takeDefinition_35 : decode cX2_takeDefinition 35 = .ok (.iload_n 3, 1) := by decide +kernel
theorem dX2_takeDefinition_36 : decode cX2_takeDefinition 36 = .ok (.ifCond .eq 32, 3) := by decide +kernel
theorem dX2_takeDefinition_39 : decode cX2_takeDefinition 39 = .ok (.aload_n 1, 1) := by decide +kernel
theorem dX2_takeDefinition_40 : decode cX2_takeDefinition 40 = .ok (.getfield 98, 3) := by decide +kernel
theorem dX2_takeDefinition_43 : decode cX2_takeDefinition 43 = .ok (.ifCond .lt 25, 3) := by decide +kernel
theorem dX2_takeDefinition_46 : decode cX2_takeDefinition 46 = .ok (.aload_n 1, 1) := by decide +kernel
theorem dX2_takeDefinition_47 : decode cX2_takeDefinition 47 = .ok (.getfield 98, 3) := by decide +kernel
theorem dX2_takeDefinition_50 : decode cX2_takeDefinition 50 = .ok (.aload_n 0, 1) := by decide +kernel
theorem dX2_takeDefinition_51 : decode cX2_takeDefinition 51 = .ok (.getfield 17, 3) := by decide +kernel
theorem dX2_takeDefinition_54 : decode cX2_takeDefinition 54 = .ok (.arraylength, 1) := by decide +kernel
theorem dX2_takeDefinition_55 : decode cX2_takeDefinition 55 = .ok (.if_icmp .ge 13, 3) := by decide +kernel
theorem dX2_takeDefinition_58 : decode cX2_takeDefinition 58 = .ok (.aload_n 0, 1) := by decide +kernel
theorem dX2_takeDefinition_59 : decode cX2_takeDefinition 59 = .ok (.getfield 17, 3) := by decide +kernel
theorem dX2_takeDefinition_62 : decode cX2_takeDefinition 62 = .ok (.aload_n 1, 1) := by decide +kernel
theorem dX2_takeDefinition_63 : decode cX2_takeDefinition 63 = .ok (.getfield 98, 3) := by decide +kernel
theorem dX2_takeDefinition_66 : decode cX2_takeDefinition 66 = .ok (.aload_n 1, 1) := by decide +kernel
theorem dX2_takeDefinition_67 : decode cX2_takeDefinition 67 = .ok (.aastore, 1) := by decide +kernel
theorem dX2_takeDefinition_68 : decode cX2_takeDefinition 68 = .ok (.iload_n 3, 1) := by decide +kernel
theorem dX2_takeDefinition_69 : decode cX2_takeDefinition 69 = .ok (.ifCond .ne 11, 3) := by decide +kernel
theorem dX2_takeDefinition_72 : decode cX2_takeDefinition 72 = .ok (.aload_n 1, 1) := by decide +kernel
theorem dX2_takeDefinition_73 : decode cX2_takeDefinition 73 = .ok (.getfield 101, 3) := by decide +kernel
theorem dX2_takeDefinition_76 : decode cX2_takeDefinition 76 = .ok (.iconst 2, 1) := by decide +kernel
theorem dX2_takeDefinition_77 : decode cX2_takeDefinition 77 = .ok (.if_icmp .ne 7, 3) := by decide +kernel
theorem dX2_takeDefinition_80 : decode cX2_takeDefinition 80 = .ok (.iconst 1, 1) := by decide +kernel
theorem dX2_takeDefinition_81 : decode cX2_takeDefinition 81 = .ok (.goto 4, 3) := by decide +kernel
theorem dX2_takeDefinition_84 : decode cX2_takeDefinition 84 = .ok (.iconst 0, 1) := by decide +kernel
theorem dX2_takeDefinition_85 : decode cX2_takeDefinition 85 = .ok (.ireturn, 1) := by decide +kernel
theorem dX2_findTargets_0 : decode cX2_findTargets 0 = .ok (.iconst 0, 1) := by decide +kernel
theorem dX2_findTargets_1 : decode cX2_findTargets 1 = .ok (.istore_n 2, 1) := by decide +kernel
theorem dX2_findTargets_2 : decode cX2_findTargets 2 = .ok (.iload_n 2, 1) := by decide +kernel
theorem dX2_findTargets_3 : decode cX2_findTargets 3 = .ok (.aload_n 1, 1) := by decide +kernel
theorem dX2_findTargets_4 : decode cX2_findTargets 4 = .ok (.invokevirtual 58, 3) := by decide +kernel
theorem dX2_findTargets_7 : decode cX2_findTargets 7 = .ok (.if_icmp .ge 57, 3) := by decide +kernel
theorem dX2_findTargets_10 : decode cX2_findTargets 10 = .ok (.aload_n 1, 1) := by decide +kernel
theorem dX2_findTargets_11 : decode cX2_findTargets 11 = .ok (.iload_n 2, 1) := by decide +kernel
theorem dX2_findTargets_12 : decode cX2_findTargets 12 = .ok (.invokevirtual 64, 3) := by decide +kernel
theorem dX2_findTargets_15 : decode cX2_findTargets 15 = .ok (.checkcast 15, 3) := by decide +kernel
theorem dX2_findTargets_18 : decode cX2_findTargets 18 = .ok (.astore_n 3, 1) := by decide +kernel
theorem dX2_findTargets_19 : decode cX2_findTargets 19 = .ok (.aload_n 3, 1) := by decide +kernel
theorem dX2_findTargets_20 : decode cX2_findTargets 20 = .ok (.invokevirtual 104, 3) := by decide +kernel
theorem dX2_findTargets_23 : decode cX2_findTargets 23 = .ok (.iconst (-1), 1) := by decide +kernel
theorem dX2_findTargets_24 : decode cX2_findTargets 24 = .ok (.if_icmp .eq 11, 3) := by decide +kernel
theorem dX2_findTargets_27 : decode cX2_findTargets 27 = .ok (.aload_n 3, 1) := by decide +kernel
theorem dX2_findTargets_28 : decode cX2_findTargets 28 = .ok (.aconst_null, 1) := by decide +kernel
theorem dX2_findTargets_29 : decode cX2_findTargets 29 = .ok (.invokevirtual 107, 3) := by decide +kernel
theorem dX2_findTargets_32 : decode cX2_findTargets 32 = .ok (.goto 26, 3) := by decide +kernel
theorem dX2_findTargets_35 : decode cX2_findTargets 35 = .ok (.aload_n 3, 1) := by decide +kernel
theorem dX2_findTargets_36 : decode cX2_findTargets 36 = .ok (.aload_n 3, 1) := by decide +kernel
theorem dX2_findTargets_37 : decode cX2_findTargets 37 = .ok (.getfield 101, 3) := by decide +kernel
theorem dX2_findTargets_40 : decode cX2_findTargets 40 = .ok (.ifCond .ne 7, 3) := by decide +kernel
theorem dX2_findTargets_43 : decode cX2_findTargets 43 = .ok (.aload_n 3, 1) := by decide +kernel
theorem dX2_findTargets_44 : decode cX2_findTargets 44 = .ok (.goto 11, 3) := by decide +kernel
theorem dX2_findTargets_47 : decode cX2_findTargets 47 = .ok (.aload_n 0, 1) := by decide +kernel
theorem dX2_findTargets_48 : decode cX2_findTargets 48 = .ok (.aload_n 3, 1) := by decide +kernel
theorem dX2_findTargets_49 : decode cX2_findTargets 49 = .ok (.getfield 98, 3) := by decide +kernel
theorem dX2_findTargets_52 : decode cX2_findTargets 52 = .ok (.invokevirtual 48, 3) := by decide +kernel
theorem dX2_findTargets_55 : decode cX2_findTargets 55 = .ok (.invokevirtual 107, 3) := by decide +kernel
theorem dX2_findTargets_58 : decode cX2_findTargets 58 = .ok (.iinc 2 1, 3) := by decide +kernel
theorem dX2_findTargets_61 : decode cX2_findTargets 61 = .ok (.goto (-59), 3) := by decide +kernel
theorem dX2_findTargets_64 : decode cX2_findTargets 64 = .ok (.return_, 1) := by decide +kernel
theorem dX12_init_0 : decode cX12_init 0 = .ok (.aload_n 0, 1) := by decide +kernel
theorem dX12_init_1 : decode cX12_init 1 = .ok (.invokespecial 1, 3) := by decide +kernel
theorem dX12_init_4 : decode cX12_init 4 = .ok (.aload_n 0, 1) := by decide +kernel
theorem dX12_init_5 : decode cX12_init 5 = .ok (.iload_n 1, 1) := by decide +kernel
theorem dX12_init_6 : decode cX12_init 6 = .ok (.putfield 7, 3) := by decide +kernel
theorem dX12_init_9 : decode cX12_init 9 = .ok (.aload_n 0, 1) := by decide +kernel
theorem dX12_init_10 : decode cX12_init 10 = .ok (.iload_n 2, 1) := by decide +kernel
theorem dX12_init_11 : decode cX12_init 11 = .ok (.putfield 13, 3) := by decide +kernel
theorem dX12_init_14 : decode cX12_init 14 = .ok (.return_, 1) := by decide +kernel
theorem dX3_init_0 : decode cX3_init 0 = .ok (.aload_n 0, 1) := by decide +kernel
theorem dX3_init_1 : decode cX3_init 1 = .ok (.invokespecial 3, 3) := by decide +kernel
theorem dX3_init_4 : decode cX3_init 4 = .ok (.aload_n 0, 1) := by decide +kernel
theorem dX3_init_5 : decode cX3_init 5 = .ok (.iconst 4, 1) := by decide +kernel
theorem dX3_init_6 : decode cX3_init 6 = .ok (.newarray .long, 2) := by decide +kernel
theorem dX3_init_8 : decode cX3_init 8 = .ok (.putfield 9, 3) := by decide +kernel
theorem dX3_init_11 : decode cX3_init 11 = .ok (.aload_n 0, 1) := by decide +kernel
theorem dX3_init_12 : decode cX3_init 12 = .ok (.iconst 4, 1) := by decide +kernel
theorem dX3_init_13 : decode cX3_init 13 = .ok (.newarray .long, 2) := by decide +kernel
theorem dX3_init_15 : decode cX3_init 15 = .ok (.putfield 15, 3) := by decide +kernel
theorem dX3_init_18 : decode cX3_init 18 = .ok (.aload_n 0, 1) := by decide +kernel
theorem dX3_init_19 : decode cX3_init 19 = .ok (.iconst 4, 1) := by decide +kernel
theorem dX3_init_20 : decode cX3_init 20 = .ok (.newarray .boolean, 2) := by decide +kernel
theorem dX3_init_22 : decode cX3_init 22 = .ok (.putfield 18, 3) := by decide +kernel
theorem dX3_init_25 : decode cX3_init 25 = .ok (.aload_n 0, 1) := by decide +kernel
theorem dX3_init_26 : decode cX3_init 26 = .ok (.bipush 8, 2) := by decide +kernel
theorem dX3_init_28 : decode cX3_init 28 = .ok (.newarray .long, 2) := by decide +kernel
theorem dX3_init_30 : decode cX3_init 30 = .ok (.putfield 22, 3) := by decide +kernel
theorem dX3_init_33 : decode cX3_init 33 = .ok (.aload_n 0, 1) := by decide +kernel
theorem dX3_init_34 : decode cX3_init 34 = .ok (.bipush 8, 2) := by decide +kernel
theorem dX3_init_36 : decode cX3_init 36 = .ok (.newarray .long, 2) := by decide +kernel
theorem dX3_init_38 : decode cX3_init 38 = .ok (.putfield 25, 3) := by decide +kernel
theorem dX3_init_41 : decode cX3_init 41 = .ok (.return_, 1) := by decide +kernel
theorem dX3_run_0 : decode cX3_run 0 = .ok (.aload_n 0, 1) := by decide +kernel
theorem dX3_run_1 : decode cX3_run 1 = .ok (.iconst 0, 1) := by decide +kernel
theorem dX3_run_2 : decode cX3_run 2 = .ok (.putfield 28, 3) := by decide +kernel
theorem dX3_run_5 : decode cX3_run 5 = .ok (.aload_n 0, 1) := by decide +kernel
theorem dX3_run_6 : decode cX3_run 6 = .ok (.iconst 0, 1) := by decide +kernel
theorem dX3_run_7 : decode cX3_run 7 = .ok (.putfield 32, 3) := by decide +kernel
theorem dX3_run_10 : decode cX3_run 10 = .ok (.aload_n 0, 1) := by decide +kernel
theorem dX3_run_11 : decode cX3_run 11 = .ok (.aload_n 1, 1) := by decide +kernel
theorem dX3_run_12 : decode cX3_run 12 = .ok (.invokevirtual 35, 3) := by decide +kernel
theorem dX3_run_15 : decode cX3_run 15 = .ok (.iconst 1, 1) := by decide +kernel
theorem dX3_run_16 : decode cX3_run 16 = .ok (.istore_n 2, 1) := by decide +kernel
theorem dX3_run_17 : decode cX3_run 17 = .ok (.iconst 0, 1) := by decide +kernel
theorem dX3_run_18 : decode cX3_run 18 = .ok (.istore_n 3, 1) := by decide +kernel
theorem dX3_run_19 : decode cX3_run 19 = .ok (.iload_n 2, 1) := by decide +kernel
theorem dX3_run_20 : decode cX3_run 20 = .ok (.ifCond .eq 30, 3) := by decide +kernel
theorem dX3_run_23 : decode cX3_run 23 = .ok (.iload_n 3, 1) := by decide +kernel
theorem dX3_run_24 : decode cX3_run 24 = .ok (.sipush 200, 3) := by decide +kernel
theorem dX3_run_27 : decode cX3_run 27 = .ok (.if_icmp .gt 23, 3) := by decide +kernel
theorem dX3_run_30 : decode cX3_run 30 = .ok (.aload_n 0, 1) := by decide +kernel
theorem dX3_run_31 : decode cX3_run 31 = .ok (.aload_n 1, 1) := by decide +kernel
theorem dX3_run_32 : decode cX3_run 32 = .ok (.invokevirtual 39, 3) := by decide +kernel
theorem dX3_run_35 : decode cX3_run 35 = .ok (.aload_n 0, 1) := by decide +kernel
theorem dX3_run_36 : decode cX3_run 36 = .ok (.aload_n 1, 1) := by decide +kernel
theorem dX3_run_37 : decode cX3_run 37 = .ok (.getfield 42, 3) := by decide +kernel
theorem dX3_run_40 : decode cX3_run 40 = .ok (.invokevirtual 48, 3) := by decide +kernel
theorem dX3_run_43 : decode cX3_run 43 = .ok (.istore_n 2, 1) := by decide +kernel
theorem dX3_run_44 : decode cX3_run 44 = .ok (.iinc 3 1, 3) := by decide +kernel
theorem dX3_run_47 : decode cX3_run 47 = .ok (.goto (-28), 3) := by decide +kernel
theorem dX3_run_50 : decode cX3_run 50 = .ok (.return_, 1) := by decide +kernel
theorem dX3_firstKindOverAnother_0 : decode cX3_firstKindOverAnother 0 = .ok (.iconst 1, 1) := by decide +kernel
theorem dX3_firstKindOverAnother_1 : decode cX3_firstKindOverAnother 1 = .ok (.istore_n 1, 1) := by decide +kernel
theorem dX3_firstKindOverAnother_2 : decode cX3_firstKindOverAnother 2 = .ok (.iload_n 1, 1) := by decide +kernel
theorem dX3_firstKindOverAnother_3 : decode cX3_firstKindOverAnother 3 = .ok (.iconst 4, 1) := by decide +kernel
theorem dX3_firstKindOverAnother_4 : decode cX3_firstKindOverAnother 4 = .ok (.if_icmp .ge 84, 3) := by decide +kernel
theorem dX3_firstKindOverAnother_7 : decode cX3_firstKindOverAnother 7 = .ok (.iconst 0, 1) := by decide +kernel
theorem dX3_firstKindOverAnother_8 : decode cX3_firstKindOverAnother 8 = .ok (.istore_n 2, 1) := by decide +kernel
theorem dX3_firstKindOverAnother_9 : decode cX3_firstKindOverAnother 9 = .ok (.iload_n 2, 1) := by decide +kernel
theorem dX3_firstKindOverAnother_10 : decode cX3_firstKindOverAnother 10 = .ok (.iload_n 1, 1) := by decide +kernel
theorem dX3_firstKindOverAnother_11 : decode cX3_firstKindOverAnother 11 = .ok (.if_icmp .ge 71, 3) := by decide +kernel
theorem dX3_firstKindOverAnother_14 : decode cX3_firstKindOverAnother 14 = .ok (.aload_n 0, 1) := by decide +kernel
theorem dX3_firstKindOverAnother_15 : decode cX3_firstKindOverAnother 15 = .ok (.getfield 18, 3) := by decide +kernel
theorem dX3_firstKindOverAnother_18 : decode cX3_firstKindOverAnother 18 = .ok (.iload_n 1, 1) := by decide +kernel
theorem dX3_firstKindOverAnother_19 : decode cX3_firstKindOverAnother 19 = .ok (.baload, 1) := by decide +kernel
theorem dX3_firstKindOverAnother_20 : decode cX3_firstKindOverAnother 20 = .ok (.ifCond .eq 16, 3) := by decide +kernel
theorem dX3_firstKindOverAnother_23 : decode cX3_firstKindOverAnother 23 = .ok (.aload_n 0, 1) := by decide +kernel
theorem dX3_firstKindOverAnother_24 : decode cX3_firstKindOverAnother 24 = .ok (.getfield 18, 3) := by decide +kernel
theorem dX3_firstKindOverAnother_27 : decode cX3_firstKindOverAnother 27 = .ok (.iload_n 2, 1) := by decide +kernel
theorem dX3_firstKindOverAnother_28 : decode cX3_firstKindOverAnother 28 = .ok (.baload, 1) := by decide +kernel
theorem dX3_firstKindOverAnother_29 : decode cX3_firstKindOverAnother 29 = .ok (.ifCond .eq 7, 3) := by decide +kernel
theorem dX3_firstKindOverAnother_32 : decode cX3_firstKindOverAnother 32 = .ok (.iconst 1, 1) := by decide +kernel
theorem dX3_firstKindOverAnother_33 : decode cX3_firstKindOverAnother 33 = .ok (.goto 4, 3) := by decide +kernel
theorem dX3_firstKindOverAnother_36 : decode cX3_firstKindOverAnother 36 = .ok (.iconst 0, 1) := by decide +kernel
theorem dX3_firstKindOverAnother_37 : decode cX3_firstKindOverAnother 37 = .ok (.istore_n 3, 1) := by decide +kernel
theorem dX3_firstKindOverAnother_38 : decode cX3_firstKindOverAnother 38 = .ok (.iload_n 3, 1) := by decide +kernel
theorem dX3_firstKindOverAnother_39 : decode cX3_firstKindOverAnother 39 = .ok (.ifCond .eq 37, 3) := by decide +kernel
theorem dX3_firstKindOverAnother_42 : decode cX3_firstKindOverAnother 42 = .ok (.aload_n 0, 1) := by decide +kernel
theorem dX3_firstKindOverAnother_43 : decode cX3_firstKindOverAnother 43 = .ok (.getfield 9, 3) := by decide +kernel
theorem dX3_firstKindOverAnother_46 : decode cX3_firstKindOverAnother 46 = .ok (.iload_n 1, 1) := by decide +kernel
theorem dX3_firstKindOverAnother_47 : decode cX3_firstKindOverAnother 47 = .ok (.laload, 1) := by decide +kernel
theorem dX3_firstKindOverAnother_48 : decode cX3_firstKindOverAnother 48 = .ok (.aload_n 0, 1) := by decide +kernel
theorem dX3_firstKindOverAnother_49 : decode cX3_firstKindOverAnother 49 = .ok (.getfield 15, 3) := by decide +kernel
theorem dX3_firstKindOverAnother_52 : decode cX3_firstKindOverAnother 52 = .ok (.iload_n 2, 1) := by decide +kernel
theorem dX3_firstKindOverAnother_53 : decode cX3_firstKindOverAnother 53 = .ok (.laload, 1) := by decide +kernel
theorem dX3_firstKindOverAnother_54 : decode cX3_firstKindOverAnother 54 = .ok (.lcmp, 1) := by decide +kernel
theorem dX3_firstKindOverAnother_55 : decode cX3_firstKindOverAnother 55 = .ok (.ifCond .ge 21, 3) := by decide +kernel
theorem dX3_firstKindOverAnother_58 : decode cX3_firstKindOverAnother 58 = .ok (.aload_n 0, 1) := by decide +kernel
theorem dX3_firstKindOverAnother_59 : decode cX3_firstKindOverAnother 59 = .ok (.getfield 9, 3) := by decide +kernel
theorem dX3_firstKindOverAnother_62 : decode cX3_firstKindOverAnother 62 = .ok (.iload_n 2, 1) := by decide +kernel
theorem dX3_firstKindOverAnother_63 : decode cX3_firstKindOverAnother 63 = .ok (.laload, 1) := by decide +kernel
theorem dX3_firstKindOverAnother_64 : decode cX3_firstKindOverAnother 64 = .ok (.aload_n 0, 1) := by decide +kernel
theorem dX3_firstKindOverAnother_65 : decode cX3_firstKindOverAnother 65 = .ok (.getfield 15, 3) := by decide +kernel
theorem dX3_firstKindOverAnother_68 : decode cX3_firstKindOverAnother 68 = .ok (.iload_n 1, 1) := by decide +kernel
theorem dX3_firstKindOverAnother_69 : decode cX3_firstKindOverAnother 69 = .ok (.laload, 1) := by decide +kernel
theorem dX3_firstKindOverAnother_70 : decode cX3_firstKindOverAnother 70 = .ok (.lcmp, 1) := by decide +kernel
theorem dX3_firstKindOverAnother_71 : decode cX3_firstKindOverAnother 71 = .ok (.ifCond .ge 5, 3) := by decide +kernel
theorem dX3_firstKindOverAnother_74 : decode cX3_firstKindOverAnother 74 = .ok (.iload_n 1, 1) := by decide +kernel
theorem dX3_firstKindOverAnother_75 : decode cX3_firstKindOverAnother 75 = .ok (.ireturn, 1) := by decide +kernel
theorem dX3_firstKindOverAnother_76 : decode cX3_firstKindOverAnother 76 = .ok (.iinc 2 1, 3) := by decide +kernel
theorem dX3_firstKindOverAnother_79 : decode cX3_firstKindOverAnother 79 = .ok (.goto (-70), 3) := by decide +kernel
theorem dX3_firstKindOverAnother_82 : decode cX3_firstKindOverAnother 82 = .ok (.iinc 1 1, 3) := by decide +kernel
theorem dX3_firstKindOverAnother_85 : decode cX3_firstKindOverAnother 85 = .ok (.goto (-83), 3) := by decide +kernel
theorem dX3_firstKindOverAnother_88 : decode cX3_firstKindOverAnother 88 = .ok (.iconst (-1), 1) := by decide +kernel
theorem dX3_firstKindOverAnother_89 : decode cX3_firstKindOverAnother 89 = .ok (.ireturn, 1) := by decide +kernel
theorem dX3_firstMisfit_0 : decode cX3_firstMisfit 0 = .ok (.iconst 0, 1) := by decide +kernel
theorem dX3_firstMisfit_1 : decode cX3_firstMisfit 1 = .ok (.istore_n 2, 1) := by decide +kernel
theorem dX3_firstMisfit_2 : decode cX3_firstMisfit 2 = .ok (.iload_n 2, 1) := by decide +kernel
theorem dX3_firstMisfit_3 : decode cX3_firstMisfit 3 = .ok (.aload_n 1, 1) := by decide +kernel
theorem dX3_firstMisfit_4 : decode cX3_firstMisfit 4 = .ok (.invokevirtual 52, 3) := by decide +kernel
theorem dX3_firstMisfit_7 : decode cX3_firstMisfit 7 = .ok (.if_icmp .ge 45, 3) := by decide +kernel
theorem dX3_firstMisfit_10 : decode cX3_firstMisfit 10 = .ok (.aload_n 1, 1) := by decide +kernel
theorem dX3_firstMisfit_11 : decode cX3_firstMisfit 11 = .ok (.iload_n 2, 1) := by decide +kernel
theorem dX3_firstMisfit_12 : decode cX3_firstMisfit 12 = .ok (.invokevirtual 58, 3) := by decide +kernel
theorem dX3_firstMisfit_15 : decode cX3_firstMisfit 15 = .ok (.checkcast 62, 3) := by decide +kernel
theorem dX3_firstMisfit_18 : decode cX3_firstMisfit 18 = .ok (.astore_n 3, 1) := by decide +kernel
theorem dX3_firstMisfit_19 : decode cX3_firstMisfit 19 = .ok (.aload_n 3, 1) := by decide +kernel
theorem dX3_firstMisfit_20 : decode cX3_firstMisfit 20 = .ok (.getfield 64, 3) := by decide +kernel
theorem dX3_firstMisfit_23 : decode cX3_firstMisfit 23 = .ok (.invokevirtual 68, 3) := by decide +kernel
theorem dX3_firstMisfit_26 : decode cX3_firstMisfit 26 = .ok (.ifCond .eq 20, 3) := by decide +kernel
theorem dX3_firstMisfit_29 : decode cX3_firstMisfit 29 = .ok (.aload_n 3, 1) := by decide +kernel
theorem dX3_firstMisfit_30 : decode cX3_firstMisfit 30 = .ok (.getfield 74, 3) := by decide +kernel
theorem dX3_firstMisfit_33 : decode cX3_firstMisfit 33 = .ok (.aload_n 0, 1) := by decide +kernel
theorem dX3_firstMisfit_34 : decode cX3_firstMisfit 34 = .ok (.aload_n 3, 1) := by decide +kernel
theorem dX3_firstMisfit_35 : decode cX3_firstMisfit 35 = .ok (.invokevirtual 78, 3) := by decide +kernel
theorem dX3_firstMisfit_38 : decode cX3_firstMisfit 38 = .ok (.invokevirtual 82, 3) := by decide +kernel
theorem dX3_firstMisfit_41 : decode cX3_firstMisfit 41 = .ok (.ifCond .ne 5, 3) := by decide +kernel
theorem dX3_firstMisfit_44 : decode cX3_firstMisfit 44 = .ok (.iload_n 2, 1) := by decide +kernel
theorem dX3_firstMisfit_45 : decode cX3_firstMisfit 45 = .ok (.ireturn, 1) := by decide +kernel
theorem dX3_firstMisfit_46 : decode cX3_firstMisfit 46 = .ok (.iinc 2 1, 3) := by decide +kernel
theorem dX3_firstMisfit_49 : decode cX3_firstMisfit 49 = .ok (.goto (-47), 3) := by decide +kernel
theorem dX3_firstMisfit_52 : decode cX3_firstMisfit 52 = .ok (.iconst (-1), 1) := by decide +kernel
theorem dX3_firstMisfit_53 : decode cX3_firstMisfit 53 = .ok (.ireturn, 1) := by decide +kernel
theorem dX3_targetValue_0 : decode cX3_targetValue 0 = .ok (.aload_n 1, 1) := by decide +kernel
theorem dX3_targetValue_1 : decode cX3_targetValue 1 = .ok (.getfield 88, 3) := by decide +kernel
theorem dX3_targetValue_4 : decode cX3_targetValue 4 = .ok (.ifCond .lt 25, 3) := by decide +kernel
theorem dX3_targetValue_7 : decode cX3_targetValue 7 = .ok (.aload_n 1, 1) := by decide +kernel
theorem dX3_targetValue_8 : decode cX3_targetValue 8 = .ok (.getfield 88, 3) := by decide +kernel
theorem dX3_targetValue_11 : decode cX3_targetValue 11 = .ok (.aload_n 0, 1) := by decide +kernel
theorem dX3_targetValue_12 : decode cX3_targetValue 12 = .ok (.getfield 22, 3) := by decide +kernel
theorem dX3_targetValue_15 : decode cX3_targetValue 15 = .ok (.arraylength, 1) := by decide +kernel
theorem dX3_targetValue_16 : decode cX3_targetValue 16 = .ok (.if_icmp .ge 13, 3) := by decide +kernel
theorem dX3_targetValue_19 : decode cX3_targetValue 19 = .ok (.aload_n 0, 1) := by decide +kernel
theorem dX3_targetValue_20 : decode cX3_targetValue 20 = .ok (.getfield 22, 3) := by decide +kernel
theorem dX3_targetValue_23 : decode cX3_targetValue 23 = .ok (.aload_n 1, 1) := by decide +kernel
theorem dX3_targetValue_24 : decode cX3_targetValue 24 = .ok (.getfield 88, 3) := by decide +kernel
theorem dX3_targetValue_27 : decode cX3_targetValue 27 = .ok (.laload, 1) := by decide +kernel
theorem dX3_targetValue_28 : decode cX3_targetValue 28 = .ok (.lreturn, 1) := by decide +kernel
theorem dX3_targetValue_29 : decode cX3_targetValue 29 = .ok (.aload_n 1, 1) := by decide +kernel
theorem dX3_targetValue_30 : decode cX3_targetValue 30 = .ok (.getfield 93, 3) := by decide +kernel
theorem dX3_targetValue_33 : decode cX3_targetValue 33 = .ok (.ifCond .lt 25, 3) := by decide +kernel
theorem dX3_targetValue_36 : decode cX3_targetValue 36 = .ok (.aload_n 1, 1) := by decide +kernel
theorem dX3_targetValue_37 : decode cX3_targetValue 37 = .ok (.getfield 93, 3) := by decide +kernel
theorem dX3_targetValue_40 : decode cX3_targetValue 40 = .ok (.aload_n 0, 1) := by decide +kernel
theorem dX3_targetValue_41 : decode cX3_targetValue 41 = .ok (.getfield 25, 3) := by decide +kernel
theorem dX3_targetValue_44 : decode cX3_targetValue 44 = .ok (.arraylength, 1) := by decide +kernel
theorem dX3_targetValue_45 : decode cX3_targetValue 45 = .ok (.if_icmp .ge 13, 3) := by decide +kernel
theorem dX3_targetValue_48 : decode cX3_targetValue 48 = .ok (.aload_n 0, 1) := by decide +kernel
theorem dX3_targetValue_49 : decode cX3_targetValue 49 = .ok (.getfield 25, 3) := by decide +kernel
theorem dX3_targetValue_52 : decode cX3_targetValue 52 = .ok (.aload_n 1, 1) := by decide +kernel
theorem dX3_targetValue_53 : decode cX3_targetValue 53 = .ok (.getfield 93, 3) := by decide +kernel
theorem dX3_targetValue_56 : decode cX3_targetValue 56 = .ok (.laload, 1) := by decide +kernel
theorem dX3_targetValue_57 : decode cX3_targetValue 57 = .ok (.lreturn, 1) := by decide +kernel
theorem dX3_targetValue_58 : decode cX3_targetValue 58 = .ok (.aload_n 1, 1) := by decide +kernel
theorem dX3_targetValue_59 : decode cX3_targetValue 59 = .ok (.getfield 96, 3) := by decide +kernel
theorem dX3_targetValue_62 : decode cX3_targetValue 62 = .ok (.ifnonnull 7, 3) := by decide +kernel
theorem dX3_targetValue_65 : decode cX3_targetValue 65 = .ok (.lconst 0, 1) := by decide +kernel
theorem dX3_targetValue_66 : decode cX3_targetValue 66 = .ok (.goto 16, 3) := by decide +kernel
theorem dX3_targetValue_69 : decode cX3_targetValue 69 = .ok (.aload_n 1, 1) := by decide +kernel
theorem dX3_targetValue_70 : decode cX3_targetValue 70 = .ok (.getfield 96, 3) := by decide +kernel
theorem dX3_targetValue_73 : decode cX3_targetValue 73 = .ok (.invokevirtual 99, 3) := by decide +kernel
theorem dX3_targetValue_76 : decode cX3_targetValue 76 = .ok (.aload_n 1, 1) := by decide +kernel
theorem dX3_targetValue_77 : decode cX3_targetValue 77 = .ok (.getfield 103, 3) := by decide +kernel
theorem dX3_targetValue_80 : decode cX3_targetValue 80 = .ok (.i2l, 1) := by decide +kernel
theorem dX3_targetValue_81 : decode cX3_targetValue 81 = .ok (.ladd, 1) := by decide +kernel
theorem dX3_targetValue_82 : decode cX3_targetValue 82 = .ok (.lreturn, 1) := by decide +kernel
theorem dX3_imageByte_0 : decode cX3_imageByte 0 = .ok (.lload_n 2, 1) := by decide +kernel
theorem dX3_imageByte_1 : decode cX3_imageByte 1 = .ok (.aload_n 1, 1) := by decide +kernel
theorem dX3_imageByte_2 : decode cX3_imageByte 2 = .ok (.invokevirtual 106, 3) := by decide +kernel
theorem dX3_imageByte_5 : decode cX3_imageByte 5 = .ok (.lcmp, 1) := by decide +kernel
theorem dX3_imageByte_6 : decode cX3_imageByte 6 = .ok (.ifCond .ge 16, 3) := by decide +kernel
theorem dX3_imageByte_9 : decode cX3_imageByte 9 = .ok (.aload_n 0, 1) := by decide +kernel
theorem dX3_imageByte_10 : decode cX3_imageByte 10 = .ok (.aload_n 1, 1) := by decide +kernel
theorem dX3_imageByte_11 : decode cX3_imageByte 11 = .ok (.lload_n 2, 1) := by decide +kernel
theorem dX3_imageByte_12 : decode cX3_imageByte 12 = .ok (.aload_n 1, 1) := by decide +kernel
theorem dX3_imageByte_13 : decode cX3_imageByte 13 = .ok (.getfield 109, 3) := by decide +kernel
theorem dX3_imageByte_16 : decode cX3_imageByte 16 = .ok (.lsub, 1) := by decide +kernel
theorem dX3_imageByte_17 : decode cX3_imageByte 17 = .ok (.l2i, 1) := by decide +kernel
theorem dX3_imageByte_18 : decode cX3_imageByte 18 = .ok (.invokevirtual 113, 3) := by decide +kernel
theorem dX3_imageByte_21 : decode cX3_imageByte 21 = .ok (.ireturn, 1) := by decide +kernel
theorem dX3_imageByte_22 : decode cX3_imageByte 22 = .ok (.lload_n 2, 1) := by decide +kernel
theorem dX3_imageByte_23 : decode cX3_imageByte 23 = .ok (.aload_n 1, 1) := by decide +kernel
theorem dX3_imageByte_24 : decode cX3_imageByte 24 = .ok (.iconst 0, 1) := by decide +kernel
theorem dX3_imageByte_25 : decode cX3_imageByte 25 = .ok (.invokevirtual 117, 3) := by decide +kernel
theorem dX3_imageByte_28 : decode cX3_imageByte 28 = .ok (.lsub, 1) := by decide +kernel
theorem dX3_imageByte_29 : decode cX3_imageByte 29 = .ok (.lstore 4, 2) := by decide +kernel
theorem dX3_imageByte_31 : decode cX3_imageByte 31 = .ok (.lload 4, 2) := by decide +kernel
theorem dX3_imageByte_33 : decode cX3_imageByte 33 = .ok (.lconst 0, 1) := by decide +kernel
theorem dX3_imageByte_34 : decode cX3_imageByte 34 = .ok (.lcmp, 1) := by decide +kernel
theorem dX3_imageByte_35 : decode cX3_imageByte 35 = .ok (.ifCond .ge 7, 3) := by decide +kernel
theorem dX3_imageByte_38 : decode cX3_imageByte 38 = .ok (.iconst (-1), 1) := by decide +kernel
theorem dX3_imageByte_39 : decode cX3_imageByte 39 = .ok (.goto 22, 3) := by decide +kernel
theorem dX3_imageByte_42 : decode cX3_imageByte 42 = .ok (.aload_n 0, 1) := by decide +kernel
theorem dX3_imageByte_43 : decode cX3_imageByte 43 = .ok (.aload_n 1, 1) := by decide +kernel
theorem dX3_imageByte_44 : decode cX3_imageByte 44 = .ok (.lload 4, 2) := by decide +kernel
theorem dX3_imageByte_46 : decode cX3_imageByte 46 = .ok (.ldc2_w 121, 3) := by decide +kernel
theorem dX3_imageByte_49 : decode cX3_imageByte 49 = .ok (.ldiv, 1) := by decide +kernel
theorem dX3_imageByte_50 : decode cX3_imageByte 50 = .ok (.l2i, 1) := by decide +kernel
theorem dX3_imageByte_51 : decode cX3_imageByte 51 = .ok (.lload 4, 2) := by decide +kernel
theorem dX3_imageByte_53 : decode cX3_imageByte 53 = .ok (.ldc2_w 121, 3) := by decide +kernel
theorem dX3_imageByte_56 : decode cX3_imageByte 56 = .ok (.lrem, 1) := by decide +kernel
theorem dX3_imageByte_57 : decode cX3_imageByte 57 = .ok (.l2i, 1) := by decide +kernel
theorem dX3_imageByte_58 : decode cX3_imageByte 58 = .ok (.invokevirtual 123, 3) := by decide +kernel
theorem dX3_imageByte_61 : decode cX3_imageByte 61 = .ok (.ireturn, 1) := by decide +kernel
theorem dX3_dropVeneers_0 : decode cX3_dropVeneers 0 = .ok (.iconst 0, 1) := by decide +kernel
theorem dX3_dropVeneers_1 : decode cX3_dropVeneers 1 = .ok (.istore_n 2, 1) := by decide +kernel
theorem dX3_dropVeneers_2 : decode cX3_dropVeneers 2 = .ok (.iload_n 2, 1) := by decide +kernel
theorem dX3_dropVeneers_3 : decode cX3_dropVeneers 3 = .ok (.aload_n 1, 1) := by decide +kernel
theorem dX3_dropVeneers_4 : decode cX3_dropVeneers 4 = .ok (.getfield 42, 3) := by decide +kernel
theorem dX3_dropVeneers_7 : decode cX3_dropVeneers 7 = .ok (.invokevirtual 52, 3) := by decide +kernel
theorem dX3_dropVeneers_10 : decode cX3_dropVeneers 10 = .ok (.if_icmp .ge 24, 3) := by decide +kernel
theorem dX3_dropVeneers_13 : decode cX3_dropVeneers 13 = .ok (.aload_n 1, 1) := by decide +kernel
theorem dX3_dropVeneers_14 : decode cX3_dropVeneers 14 = .ok (.getfield 42, 3) := by decide +kernel
theorem dX3_dropVeneers_17 : decode cX3_dropVeneers 17 = .ok (.iload_n 2, 1) := by decide +kernel
theorem dX3_dropVeneers_18 : decode cX3_dropVeneers 18 = .ok (.invokevirtual 58, 3) := by decide +kernel
theorem dX3_dropVeneers_21 : decode cX3_dropVeneers 21 = .ok (.checkcast 69, 3) := by decide +kernel
theorem dX3_dropVeneers_24 : decode cX3_dropVeneers 24 = .ok (.iconst 0, 1) := by decide +kernel
theorem dX3_dropVeneers_25 : decode cX3_dropVeneers 25 = .ok (.putfield 127, 3) := by decide +kernel
theorem dX3_dropVeneers_28 : decode cX3_dropVeneers 28 = .ok (.iinc 2 1, 3) := by decide +kernel
theorem dX3_dropVeneers_31 : decode cX3_dropVeneers 31 = .ok (.goto (-29), 3) := by decide +kernel
theorem dX3_dropVeneers_34 : decode cX3_dropVeneers 34 = .ok (.iconst 0, 1) := by decide +kernel
theorem dX3_dropVeneers_35 : decode cX3_dropVeneers 35 = .ok (.istore_n 2, 1) := by decide +kernel
theorem dX3_dropVeneers_36 : decode cX3_dropVeneers 36 = .ok (.iload_n 2, 1) := by decide +kernel
theorem dX3_dropVeneers_37 : decode cX3_dropVeneers 37 = .ok (.aload_n 1, 1) := by decide +kernel
theorem dX3_dropVeneers_38 : decode cX3_dropVeneers 38 = .ok (.getfield 130, 3) := by decide +kernel
theorem dX3_dropVeneers_41 : decode cX3_dropVeneers 41 = .ok (.invokevirtual 52, 3) := by decide +kernel
theorem dX3_dropVeneers_44 : decode cX3_dropVeneers 44 = .ok (.if_icmp .ge 24, 3) := by decide +kernel
theorem dX3_dropVeneers_47 : decode cX3_dropVeneers 47 = .ok (.aload_n 1, 1) := by decide +kernel
theorem dX3_dropVeneers_48 : decode cX3_dropVeneers 48 = .ok (.getfield 130, 3) := by decide +kernel
theorem dX3_dropVeneers_51 : decode cX3_dropVeneers 51 = .ok (.iload_n 2, 1) := by decide +kernel
theorem dX3_dropVeneers_52 : decode cX3_dropVeneers 52 = .ok (.invokevirtual 58, 3) := by decide +kernel
theorem dX3_dropVeneers_55 : decode cX3_dropVeneers 55 = .ok (.checkcast 62, 3) := by decide +kernel
theorem dX3_dropVeneers_58 : decode cX3_dropVeneers 58 = .ok (.iconst (-1), 1) := by decide +kernel
theorem dX3_dropVeneers_59 : decode cX3_dropVeneers 59 = .ok (.putfield 133, 3) := by decide +kernel
theorem dX3_dropVeneers_62 : decode cX3_dropVeneers 62 = .ok (.iinc 2 1, 3) := by decide +kernel
theorem dX3_dropVeneers_65 : decode cX3_dropVeneers 65 = .ok (.goto (-29), 3) := by decide +kernel
theorem dX3_dropVeneers_68 : decode cX3_dropVeneers 68 = .ok (.return_, 1) := by decide +kernel
theorem dX3_layOut_0 : decode cX3_layOut 0 = .ok (.aload_n 0, 1) := by decide +kernel
theorem dX3_layOut_1 : decode cX3_layOut 1 = .ok (.dup, 1) := by decide +kernel
theorem dX3_layOut_2 : decode cX3_layOut 2 = .ok (.getfield 28, 3) := by decide +kernel
theorem dX3_layOut_5 : decode cX3_layOut 5 = .ok (.iconst 1, 1) := by decide +kernel
theorem dX3_layOut_6 : decode cX3_layOut 6 = .ok (.iadd, 1) := by decide +kernel
theorem dX3_layOut_7 : decode cX3_layOut 7 = .ok (.putfield 28, 3) := by decide +kernel
theorem dX3_layOut_10 : decode cX3_layOut 10 = .ok (.ldc2_w 136, 3) := by decide +kernel
theorem dX3_layOut_13 : decode cX3_layOut 13 = .ok (.lstore_n 2, 1) := by decide +kernel
theorem dX3_layOut_14 : decode cX3_layOut 14 = .ok (.iconst 0, 1) := by decide +kernel
theorem dX3_layOut_15 : decode cX3_layOut 15 = .ok (.istore 4, 2) := by decide +kernel
theorem dX3_layOut_17 : decode cX3_layOut 17 = .ok (.iload 4, 2) := by decide +kernel
theorem dX3_layOut_19 : decode cX3_layOut 19 = .ok (.iconst 4, 1) := by decide +kernel
theorem dX3_layOut_20 : decode cX3_layOut 20 = .ok (.if_icmp .ge 65, 3) := by decide +kernel
theorem dX3_layOut_23 : decode cX3_layOut 23 = .ok (.aload_n 1, 1) := by decide +kernel
theorem dX3_layOut_24 : decode cX3_layOut 24 = .ok (.getfield 138, 3) := by decide +kernel
theorem dX3_layOut_27 : decode cX3_layOut 27 = .ok (.iload 4, 2) := by decide +kernel
theorem dX3_layOut_29 : decode cX3_layOut 29 = .ok (.iaload, 1) := by decide +kernel
theorem dX3_layOut_30 : decode cX3_layOut 30 = .ok (.iconst (-1), 1) := by decide +kernel
theorem dX3_layOut_31 : decode cX3_layOut 31 = .ok (.if_icmp .eq 12, 3) := by decide +kernel
theorem dX3_layOut_34 : decode cX3_layOut 34 = .ok (.aload_n 1, 1) := by decide +kernel
theorem dX3_layOut_35 : decode cX3_layOut 35 = .ok (.getfield 138, 3) := by decide +kernel
theorem dX3_layOut_38 : decode cX3_layOut 38 = .ok (.iload 4, 2) := by decide +kernel
theorem dX3_layOut_40 : decode cX3_layOut 40 = .ok (.iaload, 1) := by decide +kernel
theorem dX3_layOut_41 : decode cX3_layOut 41 = .ok (.i2l, 1) := by decide +kernel
theorem dX3_layOut_42 : decode cX3_layOut 42 = .ok (.lstore_n 2, 1) := by decide +kernel
theorem dX3_layOut_43 : decode cX3_layOut 43 = .ok (.aload_n 0, 1) := by decide +kernel
theorem dX3_layOut_44 : decode cX3_layOut 44 = .ok (.getfield 9, 3) := by decide +kernel
theorem dX3_layOut_47 : decode cX3_layOut 47 = .ok (.iload 4, 2) := by decide +kernel
theorem dX3_layOut_49 : decode cX3_layOut 49 = .ok (.lload_n 2, 1) := by decide +kernel
theorem dX3_layOut_50 : decode cX3_layOut 50 = .ok (.lastore, 1) := by decide +kernel
theorem dX3_layOut_51 : decode cX3_layOut 51 = .ok (.aload_n 0, 1) := by decide +kernel
theorem dX3_layOut_52 : decode cX3_layOut 52 = .ok (.getfield 18, 3) := by decide +kernel
theorem dX3_layOut_55 : decode cX3_layOut 55 = .ok (.iload 4, 2) := by decide +kernel
theorem dX3_layOut_57 : decode cX3_layOut 57 = .ok (.iconst 0, 1) := by decide +kernel
theorem dX3_layOut_58 : decode cX3_layOut 58 = .ok (.bastore, 1) := by decide +kernel
theorem dX3_layOut_59 : decode cX3_layOut 59 = .ok (.aload_n 0, 1) := by decide +kernel
theorem dX3_layOut_60 : decode cX3_layOut 60 = .ok (.iload 4, 2) := by decide +kernel
theorem dX3_layOut_62 : decode cX3_layOut 62 = .ok (.lload_n 2, 1) := by decide +kernel
theorem dX3_layOut_63 : decode cX3_layOut 63 = .ok (.aload_n 1, 1) := by decide +kernel
theorem dX3_layOut_64 : decode cX3_layOut 64 = .ok (.getfield 42, 3) := by decide +kernel
theorem dX3_layOut_67 : decode cX3_layOut 67 = .ok (.invokevirtual 142, 3) := by decide +kernel
theorem dX3_layOut_70 : decode cX3_layOut 70 = .ok (.lstore_n 2, 1) := by decide +kernel
theorem dX3_layOut_71 : decode cX3_layOut 71 = .ok (.aload_n 0, 1) := by decide +kernel
theorem dX3_layOut_72 : decode cX3_layOut 72 = .ok (.getfield 15, 3) := by decide +kernel
theorem dX3_layOut_75 : decode cX3_layOut 75 = .ok (.iload 4, 2) := by decide +kernel
theorem dX3_layOut_77 : decode cX3_layOut 77 = .ok (.lload_n 2, 1) := by decide +kernel
theorem dX3_layOut_78 : decode cX3_layOut 78 = .ok (.lastore, 1) := by decide +kernel
theorem dX3_layOut_79 : decode cX3_layOut 79 = .ok (.iinc 4 1, 3) := by decide +kernel
theorem dX3_layOut_82 : decode cX3_layOut 82 = .ok (.goto (-65), 3) := by decide +kernel
theorem dX3_layOut_85 : decode cX3_layOut 85 = .ok (.aload_n 0, 1) := by decide +kernel
theorem dX3_layOut_86 : decode cX3_layOut 86 = .ok (.aload_n 1, 1) := by decide +kernel
theorem dX3_layOut_87 : decode cX3_layOut 87 = .ok (.getfield 42, 3) := by decide +kernel
theorem dX3_layOut_90 : decode cX3_layOut 90 = .ok (.invokevirtual 146, 3) := by decide +kernel
theorem dX3_layOut_93 : decode cX3_layOut 93 = .ok (.return_, 1) := by decide +kernel
theorem dX3_layOutKind_0 : decode cX3_layOutKind 0 = .ok (.lload_n 2, 1) := by decide +kernel
theorem dX3_layOutKind_1 : decode cX3_layOutKind 1 = .ok (.lstore 5, 2) := by decide +kernel
theorem dX3_layOutKind_3 : decode cX3_layOutKind 3 = .ok (.iconst 0, 1) := by decide +kernel
theorem dX3_layOutKind_4 : decode cX3_layOutKind 4 = .ok (.istore 7, 2) := by decide +kernel
theorem dX3_layOutKind_6 : decode cX3_layOutKind 6 = .ok (.iload 7, 2) := by decide +kernel
theorem dX3_layOutKind_8 : decode cX3_layOutKind 8 = .ok (.aload 4, 2) := by decide +kernel
theorem dX3_layOutKind_10 : decode cX3_layOutKind 10 = .ok (.invokevirtual 52, 3) := by decide +kernel
theorem dX3_layOutKind_13 : decode cX3_layOutKind 13 = .ok (.if_icmp .ge 67, 3) := by decide +kernel
theorem dX3_layOutKind_16 : decode cX3_layOutKind 16 = .ok (.aload 4, 2) := by decide +kernel
theorem dX3_layOutKind_18 : decode cX3_layOutKind 18 = .ok (.iload 7, 2) := by decide +kernel
theorem dX3_layOutKind_20 : decode cX3_layOutKind 20 = .ok (.invokevirtual 58, 3) := by decide +kernel
theorem dX3_layOutKind_23 : decode cX3_layOutKind 23 = .ok (.checkcast 69, 3) := by decide +kernel
theorem dX3_layOutKind_26 : decode cX3_layOutKind 26 = .ok (.astore 8, 2) := by decide +kernel
theorem dX3_layOutKind_28 : decode cX3_layOutKind 28 = .ok (.aload 8, 2) := by decide +kernel
theorem dX3_layOutKind_30 : decode cX3_layOutKind 30 = .ok (.getfield 150, 3) := by decide +kernel
theorem dX3_layOutKind_33 : decode cX3_layOutKind 33 = .ok (.iload_n 1, 1) := by decide +kernel
theorem dX3_layOutKind_34 : decode cX3_layOutKind 34 = .ok (.if_icmp .ne 40, 3) := by decide +kernel
theorem dX3_layOutKind_37 : decode cX3_layOutKind 37 = .ok (.aload 8, 2) := by decide +kernel
theorem dX3_layOutKind_39 : decode cX3_layOutKind 39 = .ok (.invokevirtual 68, 3) := by decide +kernel
theorem dX3_layOutKind_42 : decode cX3_layOutKind 42 = .ok (.ifCond .eq 32, 3) := by decide +kernel
theorem dX3_layOutKind_45 : decode cX3_layOutKind 45 = .ok (.aload 8, 2) := by decide +kernel
theorem dX3_layOutKind_47 : decode cX3_layOutKind 47 = .ok (.lload 5, 2) := by decide +kernel
theorem dX3_layOutKind_49 : decode cX3_layOutKind 49 = .ok (.aload 8, 2) := by decide +kernel
theorem dX3_layOutKind_51 : decode cX3_layOutKind 51 = .ok (.getfield 153, 3) := by decide +kernel
theorem dX3_layOutKind_54 : decode cX3_layOutKind 54 = .ok (.invokestatic 156, 3) := by decide +kernel
theorem dX3_layOutKind_57 : decode cX3_layOutKind 57 = .ok (.putfield 109, 3) := by decide +kernel
theorem dX3_layOutKind_60 : decode cX3_layOutKind 60 = .ok (.aload 8, 2) := by decide +kernel
theorem dX3_layOutKind_62 : decode cX3_layOutKind 62 = .ok (.invokevirtual 160, 3) := by decide +kernel
theorem dX3_layOutKind_65 : decode cX3_layOutKind 65 = .ok (.lstore 5, 2) := by decide +kernel
theorem dX3_layOutKind_67 : decode cX3_layOutKind 67 = .ok (.aload_n 0, 1) := by decide +kernel
theorem dX3_layOutKind_68 : decode cX3_layOutKind 68 = .ok (.getfield 18, 3) := by decide +kernel
theorem dX3_layOutKind_71 : decode cX3_layOutKind 71 = .ok (.iload_n 1, 1) := by decide +kernel
theorem dX3_layOutKind_72 : decode cX3_layOutKind 72 = .ok (.iconst 1, 1) := by decide +kernel
theorem dX3_layOutKind_73 : decode cX3_layOutKind 73 = .ok (.bastore, 1) := by decide +kernel
theorem dX3_layOutKind_74 : decode cX3_layOutKind 74 = .ok (.iinc 7 1, 3) := by decide +kernel
theorem dX3_layOutKind_77 : decode cX3_layOutKind 77 = .ok (.goto (-71), 3) := by decide +kernel
theorem dX3_layOutKind_80 : decode cX3_layOutKind 80 = .ok (.lload 5, 2) := by decide +kernel
theorem dX3_layOutKind_82 : decode cX3_layOutKind 82 = .ok (.lreturn, 1) := by decide +kernel
theorem dX3_findSetEdges_0 : decode cX3_findSetEdges 0 = .ok (.aload_n 0, 1) := by decide +kernel
theorem dX3_findSetEdges_1 : decode cX3_findSetEdges 1 = .ok (.getfield 22, 3) := by decide +kernel
theorem dX3_findSetEdges_4 : decode cX3_findSetEdges 4 = .ok (.ldc2_w 163, 3) := by decide +kernel
theorem dX3_findSetEdges_7 : decode cX3_findSetEdges 7 = .ok (.invokestatic 165, 3) := by decide +kernel
theorem dX3_findSetEdges_10 : decode cX3_findSetEdges 10 = .ok (.aload_n 0, 1) := by decide +kernel
theorem dX3_findSetEdges_11 : decode cX3_findSetEdges 11 = .ok (.getfield 25, 3) := by decide +kernel
theorem dX3_findSetEdges_14 : decode cX3_findSetEdges 14 = .ok (.lconst 0, 1) := by decide +kernel
theorem dX3_findSetEdges_15 : decode cX3_findSetEdges 15 = .ok (.invokestatic 165, 3) := by decide +kernel
theorem dX3_findSetEdges_18 : decode cX3_findSetEdges 18 = .ok (.iconst 0, 1) := by decide +kernel
theorem dX3_findSetEdges_19 : decode cX3_findSetEdges 19 = .ok (.istore_n 2, 1) := by decide +kernel
theorem dX3_findSetEdges_20 : decode cX3_findSetEdges 20 = .ok (.iload_n 2, 1) := by decide +kernel
theorem dX3_findSetEdges_21 : decode cX3_findSetEdges 21 = .ok (.aload_n 1, 1) := by decide +kernel
theorem dX3_findSetEdges_22 : decode cX3_findSetEdges 22 = .ok (.invokevirtual 52, 3) := by decide +kernel
theorem dX3_findSetEdges_25 : decode cX3_findSetEdges 25 = .ok (.if_icmp .ge 63, 3) := by decide +kernel
theorem dX3_findSetEdges_28 : decode cX3_findSetEdges 28 = .ok (.aload_n 1, 1) := by decide +kernel
theorem dX3_findSetEdges_29 : decode cX3_findSetEdges 29 = .ok (.iload_n 2, 1) := by decide +kernel
theorem dX3_findSetEdges_30 : decode cX3_findSetEdges 30 = .ok (.invokevirtual 58, 3) := by decide +kernel
theorem dX3_findSetEdges_33 : decode cX3_findSetEdges 33 = .ok (.checkcast 69, 3) := by decide +kernel
theorem dX3_findSetEdges_36 : decode cX3_findSetEdges 36 = .ok (.astore_n 3, 1) := by decide +kernel
theorem dX3_findSetEdges_37 : decode cX3_findSetEdges 37 = .ok (.aload_n 3, 1) := by decide +kernel
theorem dX3_findSetEdges_38 : decode cX3_findSetEdges 38 = .ok (.invokevirtual 171, 3) := by decide +kernel
theorem dX3_findSetEdges_41 : decode cX3_findSetEdges 41 = .ok (.ifCond .eq 41, 3) := by decide +kernel
theorem dX3_findSetEdges_44 : decode cX3_findSetEdges 44 = .ok (.aload_n 3, 1) := by decide +kernel
theorem dX3_findSetEdges_45 : decode cX3_findSetEdges 45 = .ok (.getfield 174, 3) := by decide +kernel
theorem dX3_findSetEdges_48 : decode cX3_findSetEdges 48 = .ok (.ifCond .lt 34, 3) := by decide +kernel
theorem dX3_findSetEdges_51 : decode cX3_findSetEdges 51 = .ok (.aload_n 3, 1) := by decide +kernel
theorem dX3_findSetEdges_52 : decode cX3_findSetEdges 52 = .ok (.getfield 174, 3) := by decide +kernel
theorem dX3_findSetEdges_55 : decode cX3_findSetEdges 55 = .ok (.bipush 8, 2) := by decide +kernel
theorem dX3_findSetEdges_57 : decode cX3_findSetEdges 57 = .ok (.if_icmp .ge 25, 3) := by decide +kernel
theorem dX3_findSetEdges_60 : decode cX3_findSetEdges 60 = .ok (.aload_n 0, 1) := by decide +kernel
theorem dX3_findSetEdges_61 : decode cX3_findSetEdges 61 = .ok (.aload_n 3, 1) := by decide +kernel
theorem dX3_findSetEdges_62 : decode cX3_findSetEdges 62 = .ok (.getfield 174, 3) := by decide +kernel
theorem dX3_findSetEdges_65 : decode cX3_findSetEdges 65 = .ok (.aload_n 3, 1) := by decide +kernel
theorem dX3_findSetEdges_66 : decode cX3_findSetEdges 66 = .ok (.invokevirtual 99, 3) := by decide +kernel
theorem dX3_findSetEdges_69 : decode cX3_findSetEdges 69 = .ok (.aload_n 3, 1) := by decide +kernel
theorem dX3_findSetEdges_70 : decode cX3_findSetEdges 70 = .ok (.invokevirtual 99, 3) := by decide +kernel
theorem dX3_findSetEdges_73 : decode cX3_findSetEdges 73 = .ok (.aload_n 3, 1) := by decide +kernel
theorem dX3_findSetEdges_74 : decode cX3_findSetEdges 74 = .ok (.getfield 177, 3) := by decide +kernel
theorem dX3_findSetEdges_77 : decode cX3_findSetEdges 77 = .ok (.i2l, 1) := by decide +kernel
theorem dX3_findSetEdges_78 : decode cX3_findSetEdges 78 = .ok (.ladd, 1) := by decide +kernel
theorem dX3_findSetEdges_79 : decode cX3_findSetEdges 79 = .ok (.invokevirtual 179, 3) := by decide +kernel
theorem dX3_findSetEdges_82 : decode cX3_findSetEdges 82 = .ok (.iinc 2 1, 3) := by decide +kernel
theorem dX3_findSetEdges_85 : decode cX3_findSetEdges 85 = .ok (.goto (-65), 3) := by decide +kernel
theorem dX3_findSetEdges_88 : decode cX3_findSetEdges 88 = .ok (.iconst 0, 1) := by decide +kernel
theorem dX3_findSetEdges_89 : decode cX3_findSetEdges 89 = .ok (.istore_n 2, 1) := by decide +kernel
theorem dX3_findSetEdges_90 : decode cX3_findSetEdges 90 = .ok (.iload_n 2, 1) := by decide +kernel
theorem dX3_findSetEdges_91 : decode cX3_findSetEdges 91 = .ok (.bipush 8, 2) := by decide +kernel
theorem dX3_findSetEdges_93 : decode cX3_findSetEdges 93 = .ok (.if_icmp .ge 38, 3) := by decide +kernel
theorem dX3_findSetEdges_96 : decode cX3_findSetEdges 96 = .ok (.aload_n 0, 1) := by decide +kernel
theorem dX3_findSetEdges_97 : decode cX3_findSetEdges 97 = .ok (.getfield 22, 3) := by decide +kernel
theorem dX3_findSetEdges_100 : decode cX3_findSetEdges 100 = .ok (.iload_n 2, 1) := by decide +kernel
theorem dX3_findSetEdges_101 : decode cX3_findSetEdges 101 = .ok (.aload_n 0, 1) := by decide +kernel
theorem dX3_findSetEdges_102 : decode cX3_findSetEdges 102 = .ok (.getfield 22, 3) := by decide +kernel
theorem dX3_findSetEdges_105 : decode cX3_findSetEdges 105 = .ok (.iload_n 2, 1) := by decide +kernel
theorem dX3_findSetEdges_106 : decode cX3_findSetEdges 106 = .ok (.laload, 1) := by decide +kernel
theorem dX3_findSetEdges_107 : decode cX3_findSetEdges 107 = .ok (.ldc2_w 163, 3) := by decide +kernel
theorem dX3_findSetEdges_110 : decode cX3_findSetEdges 110 = .ok (.lcmp, 1) := by decide +kernel
theorem dX3_findSetEdges_111 : decode cX3_findSetEdges 111 = .ok (.ifCond .ne 7, 3) := by decide +kernel
theorem dX3_findSetEdges_114 : decode cX3_findSetEdges 114 = .ok (.lconst 0, 1) := by decide +kernel
theorem dX3_findSetEdges_115 : decode cX3_findSetEdges 115 = .ok (.goto 9, 3) := by decide +kernel
theorem dX3_findSetEdges_118 : decode cX3_findSetEdges 118 = .ok (.aload_n 0, 1) := by decide +kernel
theorem dX3_findSetEdges_119 : decode cX3_findSetEdges 119 = .ok (.getfield 22, 3) := by decide +kernel
theorem dX3_findSetEdges_122 : decode cX3_findSetEdges 122 = .ok (.iload_n 2, 1) := by decide +kernel
theorem dX3_findSetEdges_123 : decode cX3_findSetEdges 123 = .ok (.laload, 1) := by decide +kernel
theorem dX3_findSetEdges_124 : decode cX3_findSetEdges 124 = .ok (.lastore, 1) := by decide +kernel
theorem dX3_findSetEdges_125 : decode cX3_findSetEdges 125 = .ok (.iinc 2 1, 3) := by decide +kernel
theorem dX3_findSetEdges_128 : decode cX3_findSetEdges 128 = .ok (.goto (-38), 3) := by decide +kernel
theorem dX3_findSetEdges_131 : decode cX3_findSetEdges 131 = .ok (.return_, 1) := by decide +kernel
theorem dX3_widenSet_0 : decode cX3_widenSet 0 = .ok (.aload_n 0, 1) := by decide +kernel
theorem dX3_widenSet_1 : decode cX3_widenSet 1 = .ok (.getfield 22, 3) := by decide +kernel
theorem dX3_widenSet_4 : decode cX3_widenSet 4 = .ok (.iload_n 1, 1) := by decide +kernel
theorem dX3_widenSet_5 : decode cX3_widenSet 5 = .ok (.aload_n 0, 1) := by decide +kernel
theorem dX3_widenSet_6 : decode cX3_widenSet 6 = .ok (.getfield 22, 3) := by decide +kernel
theorem dX3_widenSet_9 : decode cX3_widenSet 9 = .ok (.iload_n 1, 1) := by decide +kernel
theorem dX3_widenSet_10 : decode cX3_widenSet 10 = .ok (.laload, 1) := by decide +kernel
theorem dX3_widenSet_11 : decode cX3_widenSet 11 = .ok (.ldc2_w 163, 3) := by decide +kernel
theorem dX3_widenSet_14 : decode cX3_widenSet 14 = .ok (.lcmp, 1) := by decide +kernel
theorem dX3_widenSet_15 : decode cX3_widenSet 15 = .ok (.ifCond .ne 7, 3) := by decide +kernel
theorem dX3_widenSet_18 : decode cX3_widenSet 18 = .ok (.lload_n 2, 1) := by decide +kernel
theorem dX3_widenSet_19 : decode cX3_widenSet 19 = .ok (.goto 13, 3) := by decide +kernel
theorem dX3_widenSet_22 : decode cX3_widenSet 22 = .ok (.aload_n 0, 1) := by decide +kernel
theorem dX3_widenSet_23 : decode cX3_widenSet 23 = .ok (.getfield 22, 3) := by decide +kernel
theorem dX3_widenSet_26 : decode cX3_widenSet 26 = .ok (.iload_n 1, 1) := by decide +kernel
theorem dX3_widenSet_27 : decode cX3_widenSet 27 = .ok (.laload, 1) := by decide +kernel
theorem dX3_widenSet_28 : decode cX3_widenSet 28 = .ok (.lload_n 2, 1) := by decide +kernel
theorem dX3_widenSet_29 : decode cX3_widenSet 29 = .ok (.invokestatic 183, 3) := by decide +kernel
theorem dX3_widenSet_32 : decode cX3_widenSet 32 = .ok (.lastore, 1) := by decide +kernel
theorem dX3_widenSet_33 : decode cX3_widenSet 33 = .ok (.aload_n 0, 1) := by decide +kernel
theorem dX3_widenSet_34 : decode cX3_widenSet 34 = .ok (.getfield 25, 3) := by decide +kernel
theorem dX3_widenSet_37 : decode cX3_widenSet 37 = .ok (.iload_n 1, 1) := by decide +kernel
theorem dX3_widenSet_38 : decode cX3_widenSet 38 = .ok (.aload_n 0, 1) := by decide +kernel
theorem dX3_widenSet_39 : decode cX3_widenSet 39 = .ok (.getfield 25, 3) := by decide +kernel
theorem dX3_widenSet_42 : decode cX3_widenSet 42 = .ok (.iload_n 1, 1) := by decide +kernel
theorem dX3_widenSet_43 : decode cX3_widenSet 43 = .ok (.laload, 1) := by decide +kernel
theorem dX3_widenSet_44 : decode cX3_widenSet 44 = .ok (.lload 4, 2) := by decide +kernel
theorem dX3_widenSet_46 : decode cX3_widenSet 46 = .ok (.invokestatic 189, 3) := by decide +kernel
theorem dX3_widenSet_49 : decode cX3_widenSet 49 = .ok (.lastore, 1) := by decide +kernel
theorem dX3_widenSet_50 : decode cX3_widenSet 50 = .ok (.return_, 1) := by decide +kernel
theorem dX3_addVeneers_0 : decode cX3_addVeneers 0 = .ok (.aload_n 0, 1) := by decide +kernel
theorem dX3_addVeneers_1 : decode cX3_addVeneers 1 = .ok (.getfield 32, 3) := by decide +kernel
theorem dX3_addVeneers_4 : decode cX3_addVeneers 4 = .ok (.istore_n 2, 1) := by decide +kernel
theorem dX3_addVeneers_5 : decode cX3_addVeneers 5 = .ok (.iconst 0, 1) := by decide +kernel
theorem dX3_addVeneers_6 : decode cX3_addVeneers 6 = .ok (.istore_n 3, 1) := by decide +kernel
theorem dX3_addVeneers_7 : decode cX3_addVeneers 7 = .ok (.iload_n 3, 1) := by decide +kernel
theorem dX3_addVeneers_8 : decode cX3_addVeneers 8 = .ok (.aload_n 1, 1) := by decide +kernel
theorem dX3_addVeneers_9 : decode cX3_addVeneers 9 = .ok (.invokevirtual 52, 3) := by decide +kernel
theorem dX3_addVeneers_12 : decode cX3_addVeneers 12 = .ok (.if_icmp .ge 35, 3) := by decide +kernel
theorem dX3_addVeneers_15 : decode cX3_addVeneers 15 = .ok (.aload_n 1, 1) := by decide +kernel
theorem dX3_addVeneers_16 : decode cX3_addVeneers 16 = .ok (.iload_n 3, 1) := by decide +kernel
theorem dX3_addVeneers_17 : decode cX3_addVeneers 17 = .ok (.invokevirtual 58, 3) := by decide +kernel
theorem dX3_addVeneers_20 : decode cX3_addVeneers 20 = .ok (.checkcast 69, 3) := by decide +kernel
theorem dX3_addVeneers_23 : decode cX3_addVeneers 23 = .ok (.invokevirtual 68, 3) := by decide +kernel
theorem dX3_addVeneers_26 : decode cX3_addVeneers 26 = .ok (.ifCond .eq 15, 3) := by decide +kernel
theorem dX3_addVeneers_29 : decode cX3_addVeneers 29 = .ok (.aload_n 0, 1) := by decide +kernel
theorem dX3_addVeneers_30 : decode cX3_addVeneers 30 = .ok (.aload_n 1, 1) := by decide +kernel
theorem dX3_addVeneers_31 : decode cX3_addVeneers 31 = .ok (.iload_n 3, 1) := by decide +kernel
theorem dX3_addVeneers_32 : decode cX3_addVeneers 32 = .ok (.invokevirtual 58, 3) := by decide +kernel
theorem dX3_addVeneers_35 : decode cX3_addVeneers 35 = .ok (.checkcast 69, 3) := by decide +kernel
theorem dX3_addVeneers_38 : decode cX3_addVeneers 38 = .ok (.invokevirtual 192, 3) := by decide +kernel
theorem dX3_addVeneers_41 : decode cX3_addVeneers 41 = .ok (.iinc 3 1, 3) := by decide +kernel
theorem dX3_addVeneers_44 : decode cX3_addVeneers 44 = .ok (.goto (-37), 3) := by decide +kernel
theorem dX3_addVeneers_47 : decode cX3_addVeneers 47 = .ok (.aload_n 0, 1) := by decide +kernel
theorem dX3_addVeneers_48 : decode cX3_addVeneers 48 = .ok (.getfield 32, 3) := by decide +kernel
theorem dX3_addVeneers_51 : decode cX3_addVeneers 51 = .ok (.iload_n 2, 1) := by decide +kernel
theorem dX3_addVeneers_52 : decode cX3_addVeneers 52 = .ok (.if_icmp .eq 7, 3) := by decide +kernel
theorem dX3_addVeneers_55 : decode cX3_addVeneers 55 = .ok (.iconst 1, 1) := by decide +kernel
theorem dX3_addVeneers_56 : decode cX3_addVeneers 56 = .ok (.goto 4, 3) := by decide +kernel
theorem dX3_addVeneers_59 : decode cX3_addVeneers 59 = .ok (.iconst 0, 1) := by decide +kernel
theorem dX3_addVeneers_60 : decode cX3_addVeneers 60 = .ok (.ireturn, 1) := by decide +kernel
theorem dX3_addVeneersOf_0 : decode cX3_addVeneersOf 0 = .ok (.iconst 0, 1) := by decide +kernel
theorem dX3_addVeneersOf_1 : decode cX3_addVeneersOf 1 = .ok (.istore_n 2, 1) := by decide +kernel
theorem dX3_addVeneersOf_2 : decode cX3_addVeneersOf 2 = .ok (.iload_n 2, 1) := by decide +kernel
theorem dX3_addVeneersOf_3 : decode cX3_addVeneersOf 3 = .ok (.aload_n 1, 1) := by decide +kernel
theorem dX3_addVeneersOf_4 : decode cX3_addVeneersOf 4 = .ok (.getfield 196, 3) := by decide +kernel
theorem dX3_addVeneersOf_7 : decode cX3_addVeneersOf 7 = .ok (.invokevirtual 52, 3) := by decide +kernel
theorem dX3_addVeneersOf_10 : decode cX3_addVeneersOf 10 = .ok (.if_icmp .ge 76, 3) := by decide +kernel
theorem dX3_addVeneersOf_13 : decode cX3_addVeneersOf 13 = .ok (.aload_n 1, 1) := by decide +kernel
theorem dX3_addVeneersOf_14 : decode cX3_addVeneersOf 14 = .ok (.getfield 196, 3) := by decide +kernel
theorem dX3_addVeneersOf_17 : decode cX3_addVeneersOf 17 = .ok (.iload_n 2, 1) := by decide +kernel
theorem dX3_addVeneersOf_18 : decode cX3_addVeneersOf 18 = .ok (.invokevirtual 58, 3) := by decide +kernel
theorem dX3_addVeneersOf_21 : decode cX3_addVeneersOf 21 = .ok (.checkcast 62, 3) := by decide +kernel
theorem dX3_addVeneersOf_24 : decode cX3_addVeneersOf 24 = .ok (.astore_n 3, 1) := by decide +kernel
theorem dX3_addVeneersOf_25 : decode cX3_addVeneersOf 25 = .ok (.aload_n 3, 1) := by decide +kernel
theorem dX3_addVeneersOf_26 : decode cX3_addVeneersOf 26 = .ok (.getfield 74, 3) := by decide +kernel
theorem dX3_addVeneersOf_29 : decode cX3_addVeneersOf 29 = .ok (.getstatic 197, 3) := by decide +kernel
theorem dX3_addVeneersOf_32 : decode cX3_addVeneersOf 32 = .ok (.if_acmp .ne 15, 3) := by decide +kernel
theorem dX3_addVeneersOf_35 : decode cX3_addVeneersOf 35 = .ok (.aload_n 3, 1) := by decide +kernel
theorem dX3_addVeneersOf_36 : decode cX3_addVeneersOf 36 = .ok (.getfield 133, 3) := by decide +kernel
theorem dX3_addVeneersOf_39 : decode cX3_addVeneersOf 39 = .ok (.iconst (-1), 1) := by decide +kernel
theorem dX3_addVeneersOf_40 : decode cX3_addVeneersOf 40 = .ok (.if_icmp .ne 7, 3) := by decide +kernel
theorem dX3_addVeneersOf_43 : decode cX3_addVeneersOf 43 = .ok (.iconst 1, 1) := by decide +kernel
theorem dX3_addVeneersOf_44 : decode cX3_addVeneersOf 44 = .ok (.goto 4, 3) := by decide +kernel
theorem dX3_addVeneersOf_47 : decode cX3_addVeneersOf 47 = .ok (.iconst 0, 1) := by decide +kernel
theorem dX3_addVeneersOf_48 : decode cX3_addVeneersOf 48 = .ok (.istore 4, 2) := by decide +kernel
theorem dX3_addVeneersOf_50 : decode cX3_addVeneersOf 50 = .ok (.iload 4, 2) := by decide +kernel
theorem dX3_addVeneersOf_52 : decode cX3_addVeneersOf 52 = .ok (.ifCond .eq 28, 3) := by decide +kernel
theorem dX3_addVeneersOf_55 : decode cX3_addVeneersOf 55 = .ok (.aload_n 3, 1) := by decide +kernel
theorem dX3_addVeneersOf_56 : decode cX3_addVeneersOf 56 = .ok (.getfield 74, 3) := by decide +kernel
theorem dX3_addVeneersOf_59 : decode cX3_addVeneersOf 59 = .ok (.aload_n 0, 1) := by decide +kernel
theorem dX3_addVeneersOf_60 : decode cX3_addVeneersOf 60 = .ok (.aload_n 3, 1) := by decide +kernel
theorem dX3_addVeneersOf_61 : decode cX3_addVeneersOf 61 = .ok (.invokevirtual 78, 3) := by decide +kernel
theorem dX3_addVeneersOf_64 : decode cX3_addVeneersOf 64 = .ok (.invokevirtual 82, 3) := by decide +kernel
theorem dX3_addVeneersOf_67 : decode cX3_addVeneersOf 67 = .ok (.ifCond .ne 13, 3) := by decide +kernel
theorem dX3_addVeneersOf_70 : decode cX3_addVeneersOf 70 = .ok (.aload_n 3, 1) := by decide +kernel
theorem dX3_addVeneersOf_71 : decode cX3_addVeneersOf 71 = .ok (.aload_n 0, 1) := by decide +kernel
theorem dX3_addVeneersOf_72 : decode cX3_addVeneersOf 72 = .ok (.aload_n 1, 1) := by decide +kernel
theorem dX3_addVeneersOf_73 : decode cX3_addVeneersOf 73 = .ok (.aload_n 3, 1) := by decide +kernel
theorem dX3_addVeneersOf_74 : decode cX3_addVeneersOf 74 = .ok (.invokevirtual 200, 3) := by decide +kernel
theorem dX3_addVeneersOf_77 : decode cX3_addVeneersOf 77 = .ok (.putfield 133, 3) := by decide +kernel
theorem dX3_addVeneersOf_80 : decode cX3_addVeneersOf 80 = .ok (.iinc 2 1, 3) := by decide +kernel
theorem dX3_addVeneersOf_83 : decode cX3_addVeneersOf 83 = .ok (.goto (-81), 3) := by decide +kernel
theorem dX3_addVeneersOf_86 : decode cX3_addVeneersOf 86 = .ok (.return_, 1) := by decide +kernel
theorem dX3_veneerFor_0 : decode cX3_veneerFor 0 = .ok (.iconst 0, 1) := by decide +kernel
theorem dX3_veneerFor_1 : decode cX3_veneerFor 1 = .ok (.istore_n 3, 1) := by decide +kernel
theorem dX3_veneerFor_2 : decode cX3_veneerFor 2 = .ok (.iload_n 3, 1) := by decide +kernel
theorem dX3_veneerFor_3 : decode cX3_veneerFor 3 = .ok (.aload_n 1, 1) := by decide +kernel
theorem dX3_veneerFor_4 : decode cX3_veneerFor 4 = .ok (.getfield 196, 3) := by decide +kernel
theorem dX3_veneerFor_7 : decode cX3_veneerFor 7 = .ok (.invokevirtual 52, 3) := by decide +kernel
theorem dX3_veneerFor_10 : decode cX3_veneerFor 10 = .ok (.if_icmp .ge 76, 3) := by decide +kernel
theorem dX3_veneerFor_13 : decode cX3_veneerFor 13 = .ok (.aload_n 1, 1) := by decide +kernel
theorem dX3_veneerFor_14 : decode cX3_veneerFor 14 = .ok (.getfield 196, 3) := by decide +kernel
theorem dX3_veneerFor_17 : decode cX3_veneerFor 17 = .ok (.iload_n 3, 1) := by decide +kernel
theorem dX3_veneerFor_18 : decode cX3_veneerFor 18 = .ok (.invokevirtual 58, 3) := by decide +kernel
theorem dX3_veneerFor_21 : decode cX3_veneerFor 21 = .ok (.checkcast 62, 3) := by decide +kernel
theorem dX3_veneerFor_24 : decode cX3_veneerFor 24 = .ok (.astore 4, 2) := by decide +kernel
theorem dX3_veneerFor_26 : decode cX3_veneerFor 26 = .ok (.aload 4, 2) := by decide +kernel
theorem dX3_veneerFor_28 : decode cX3_veneerFor 28 = .ok (.getfield 204, 3) := by decide +kernel
theorem dX3_veneerFor_31 : decode cX3_veneerFor 31 = .ok (.aload_n 2, 1) := by decide +kernel
theorem dX3_veneerFor_32 : decode cX3_veneerFor 32 = .ok (.getfield 204, 3) := by decide +kernel
theorem dX3_veneerFor_35 : decode cX3_veneerFor 35 = .ok (.if_icmp .ne 22, 3) := by decide +kernel
theorem dX3_veneerFor_38 : decode cX3_veneerFor 38 = .ok (.aload 4, 2) := by decide +kernel
theorem dX3_veneerFor_40 : decode cX3_veneerFor 40 = .ok (.getfield 207, 3) := by decide +kernel
theorem dX3_veneerFor_43 : decode cX3_veneerFor 43 = .ok (.aload_n 2, 1) := by decide +kernel
theorem dX3_veneerFor_44 : decode cX3_veneerFor 44 = .ok (.getfield 207, 3) := by decide +kernel
theorem dX3_veneerFor_47 : decode cX3_veneerFor 47 = .ok (.invokevirtual 211, 3) := by decide +kernel
theorem dX3_veneerFor_50 : decode cX3_veneerFor 50 = .ok (.ifCond .eq 7, 3) := by decide +kernel
theorem dX3_veneerFor_53 : decode cX3_veneerFor 53 = .ok (.iconst 1, 1) := by decide +kernel
theorem dX3_veneerFor_54 : decode cX3_veneerFor 54 = .ok (.goto 4, 3) := by decide +kernel
theorem dX3_veneerFor_57 : decode cX3_veneerFor 57 = .ok (.iconst 0, 1) := by decide +kernel
theorem dX3_veneerFor_58 : decode cX3_veneerFor 58 = .ok (.istore 5, 2) := by decide +kernel
theorem dX3_veneerFor_60 : decode cX3_veneerFor 60 = .ok (.iload 5, 2) := by decide +kernel
theorem dX3_veneerFor_62 : decode cX3_veneerFor 62 = .ok (.ifCond .eq 18, 3) := by decide +kernel
theorem dX3_veneerFor_65 : decode cX3_veneerFor 65 = .ok (.aload 4, 2) := by decide +kernel
theorem dX3_veneerFor_67 : decode cX3_veneerFor 67 = .ok (.getfield 133, 3) := by decide +kernel
theorem dX3_veneerFor_70 : decode cX3_veneerFor 70 = .ok (.iconst (-1), 1) := by decide +kernel
theorem dX3_veneerFor_71 : decode cX3_veneerFor 71 = .ok (.if_icmp .eq 9, 3) := by decide +kernel
theorem dX3_veneerFor_74 : decode cX3_veneerFor 74 = .ok (.aload 4, 2) := by decide +kernel
theorem dX3_veneerFor_76 : decode cX3_veneerFor 76 = .ok (.getfield 133, 3) := by decide +kernel
theorem dX3_veneerFor_79 : decode cX3_veneerFor 79 = .ok (.ireturn, 1) := by decide +kernel
theorem dX3_veneerFor_80 : decode cX3_veneerFor 80 = .ok (.iinc 3 1, 3) := by decide +kernel
theorem dX3_veneerFor_83 : decode cX3_veneerFor 83 = .ok (.goto (-81), 3) := by decide +kernel
theorem dX3_veneerFor_86 : decode cX3_veneerFor 86 = .ok (.aload_n 1, 1) := by decide +kernel
theorem dX3_veneerFor_87 : decode cX3_veneerFor 87 = .ok (.dup, 1) := by decide +kernel
theorem dX3_veneerFor_88 : decode cX3_veneerFor 88 = .ok (.getfield 127, 3) := by decide +kernel
theorem dX3_veneerFor_91 : decode cX3_veneerFor 91 = .ok (.iconst 1, 1) := by decide +kernel
theorem dX3_veneerFor_92 : decode cX3_veneerFor 92 = .ok (.iadd, 1) := by decide +kernel
theorem dX3_veneerFor_93 : decode cX3_veneerFor 93 = .ok (.putfield 127, 3) := by decide +kernel
theorem dX3_veneerFor_96 : decode cX3_veneerFor 96 = .ok (.aload_n 0, 1) := by decide +kernel
theorem dX3_veneerFor_97 : decode cX3_veneerFor 97 = .ok (.dup, 1) := by decide +kernel
theorem dX3_veneerFor_98 : decode cX3_veneerFor 98 = .ok (.getfield 32, 3) := by decide +kernel
theorem dX3_veneerFor_101 : decode cX3_veneerFor 101 = .ok (.iconst 1, 1) := by decide +kernel
theorem dX3_veneerFor_102 : decode cX3_veneerFor 102 = .ok (.iadd, 1) := by decide +kernel
theorem dX3_veneerFor_103 : decode cX3_veneerFor 103 = .ok (.putfield 32, 3) := by decide +kernel
theorem dX3_veneerFor_106 : decode cX3_veneerFor 106 = .ok (.aload_n 1, 1) := by decide +kernel
theorem dX3_veneerFor_107 : decode cX3_veneerFor 107 = .ok (.getfield 127, 3) := by decide +kernel
theorem dX3_veneerFor_110 : decode cX3_veneerFor 110 = .ok (.iconst 1, 1) := by decide +kernel
theorem dX3_veneerFor_111 : decode cX3_veneerFor 111 = .ok (.isub, 1) := by decide +kernel
theorem dX3_veneerFor_112 : decode cX3_veneerFor 112 = .ok (.ireturn, 1) := by decide +kernel
theorem dX3_amountWritten_0 : decode cX3_amountWritten 0 = .ok (.aload_n 1, 1) := by decide +kernel
theorem dX3_amountWritten_1 : decode cX3_amountWritten 1 = .ok (.getfield 133, 3) := by decide +kernel
theorem dX3_amountWritten_4 : decode cX3_amountWritten 4 = .ok (.iconst (-1), 1) := by decide +kernel
theorem dX3_amountWritten_5 : decode cX3_amountWritten 5 = .ok (.if_icmp .eq 20, 3) := by decide +kernel
theorem dX3_amountWritten_8 : decode cX3_amountWritten 8 = .ok (.aload_n 1, 1) := by decide +kernel
theorem dX3_amountWritten_9 : decode cX3_amountWritten 9 = .ok (.getfield 64, 3) := by decide +kernel
theorem dX3_amountWritten_12 : decode cX3_amountWritten 12 = .ok (.aload_n 1, 1) := by decide +kernel
theorem dX3_amountWritten_13 : decode cX3_amountWritten 13 = .ok (.getfield 133, 3) := by decide +kernel
theorem dX3_amountWritten_16 : decode cX3_amountWritten 16 = .ok (.invokevirtual 117, 3) := by decide +kernel
theorem dX3_amountWritten_19 : decode cX3_amountWritten 19 = .ok (.aload_n 1, 1) := by decide +kernel
theorem dX3_amountWritten_20 : decode cX3_amountWritten 20 = .ok (.invokevirtual 215, 3) := by decide +kernel
theorem dX3_amountWritten_23 : decode cX3_amountWritten 23 = .ok (.lsub, 1) := by decide +kernel
theorem dX3_amountWritten_24 : decode cX3_amountWritten 24 = .ok (.lreturn, 1) := by decide +kernel
theorem dX3_amountWritten_25 : decode cX3_amountWritten 25 = .ok (.aload_n 1, 1) := by decide +kernel
theorem dX3_amountWritten_26 : decode cX3_amountWritten 26 = .ok (.getfield 74, 3) := by decide +kernel
theorem dX3_amountWritten_29 : decode cX3_amountWritten 29 = .ok (.getfield 218, 3) := by decide +kernel
theorem dX3_amountWritten_32 : decode cX3_amountWritten 32 = .ok (.ifCond .eq 10, 3) := by decide +kernel
theorem dX3_amountWritten_35 : decode cX3_amountWritten 35 = .ok (.aload_n 1, 1) := by decide +kernel
theorem dX3_amountWritten_36 : decode cX3_amountWritten 36 = .ok (.invokevirtual 215, 3) := by decide +kernel
theorem dX3_amountWritten_39 : decode cX3_amountWritten 39 = .ok (.goto 4, 3) := by decide +kernel
theorem dX3_amountWritten_42 : decode cX3_amountWritten 42 = .ok (.lconst 0, 1) := by decide +kernel
theorem dX3_amountWritten_43 : decode cX3_amountWritten 43 = .ok (.lstore_n 2, 1) := by decide +kernel
theorem dX3_amountWritten_44 : decode cX3_amountWritten 44 = .ok (.aload_n 0, 1) := by decide +kernel
theorem dX3_amountWritten_45 : decode cX3_amountWritten 45 = .ok (.aload_n 1, 1) := by decide +kernel
theorem dX3_amountWritten_46 : decode cX3_amountWritten 46 = .ok (.getfield 207, 3) := by decide +kernel
theorem dX3_amountWritten_49 : decode cX3_amountWritten 49 = .ok (.invokevirtual 222, 3) := by decide +kernel
theorem dX3_amountWritten_52 : decode cX3_amountWritten 52 = .ok (.aload_n 1, 1) := by decide +kernel
theorem dX3_amountWritten_53 : decode cX3_amountWritten 53 = .ok (.getfield 204, 3) := by decide +kernel
theorem dX3_amountWritten_56 : decode cX3_amountWritten 56 = .ok (.i2l, 1) := by decide +kernel
theorem dX3_amountWritten_57 : decode cX3_amountWritten 57 = .ok (.ladd, 1) := by decide +kernel
theorem dX3_amountWritten_58 : decode cX3_amountWritten 58 = .ok (.lload_n 2, 1) := by decide +kernel
theorem dX3_amountWritten_59 : decode cX3_amountWritten 59 = .ok (.lsub, 1) := by decide +kernel
theorem dX3_amountWritten_60 : decode cX3_amountWritten 60 = .ok (.lreturn, 1) := by decide +kernel
theorem dX3_sectionByte_0 : decode cX3_sectionByte 0 = .ok (.aload_n 1, 1) := by decide +kernel
theorem dX3_sectionByte_1 : decode cX3_sectionByte 1 = .ok (.getfield 150, 3) := by decide +kernel
theorem dX3_sectionByte_4 : decode cX3_sectionByte 4 = .ok (.iconst 3, 1) := by decide +kernel
theorem dX3_sectionByte_5 : decode cX3_sectionByte 5 = .ok (.if_icmp .ne 5, 3) := by decide +kernel
theorem dX3_sectionByte_8 : decode cX3_sectionByte 8 = .ok (.iconst 0, 1) := by decide +kernel
theorem dX3_sectionByte_9 : decode cX3_sectionByte 9 = .ok (.ireturn, 1) := by decide +kernel
theorem dX3_sectionByte_10 : decode cX3_sectionByte 10 = .ok (.aload_n 1, 1) := by decide +kernel
theorem dX3_sectionByte_11 : decode cX3_sectionByte 11 = .ok (.getfield 196, 3) := by decide +kernel
theorem dX3_sectionByte_14 : decode cX3_sectionByte 14 = .ok (.invokevirtual 52, 3) := by decide +kernel
theorem dX3_sectionByte_17 : decode cX3_sectionByte 17 = .ok (.iconst 1, 1) := by decide +kernel
theorem dX3_sectionByte_18 : decode cX3_sectionByte 18 = .ok (.isub, 1) := by decide +kernel
theorem dX3_sectionByte_19 : decode cX3_sectionByte 19 = .ok (.istore_n 3, 1) := by decide +kernel
theorem dX3_sectionByte_20 : decode cX3_sectionByte 20 = .ok (.iload_n 3, 1) := by decide +kernel
theorem dX3_sectionByte_21 : decode cX3_sectionByte 21 = .ok (.ifCond .lt 48, 3) := by decide +kernel
theorem dX3_sectionByte_24 : decode cX3_sectionByte 24 = .ok (.aload_n 1, 1) := by decide +kernel
theorem dX3_sectionByte_25 : decode cX3_sectionByte 25 = .ok (.getfield 196, 3) := by decide +kernel
theorem dX3_sectionByte_28 : decode cX3_sectionByte 28 = .ok (.iload_n 3, 1) := by decide +kernel
theorem dX3_sectionByte_29 : decode cX3_sectionByte 29 = .ok (.invokevirtual 58, 3) := by decide +kernel
theorem dX3_sectionByte_32 : decode cX3_sectionByte 32 = .ok (.checkcast 62, 3) := by decide +kernel
theorem dX3_sectionByte_35 : decode cX3_sectionByte 35 = .ok (.astore 4, 2) := by decide +kernel
theorem dX3_sectionByte_37 : decode cX3_sectionByte 37 = .ok (.aload 4, 2) := by decide +kernel
theorem dX3_sectionByte_39 : decode cX3_sectionByte 39 = .ok (.iload_n 2, 1) := by decide +kernel
theorem dX3_sectionByte_40 : decode cX3_sectionByte 40 = .ok (.invokevirtual 226, 3) := by decide +kernel
theorem dX3_sectionByte_43 : decode cX3_sectionByte 43 = .ok (.ifCond .eq 20, 3) := by decide +kernel
theorem dX3_sectionByte_46 : decode cX3_sectionByte 46 = .ok (.aload_n 0, 1) := by decide +kernel
theorem dX3_sectionByte_47 : decode cX3_sectionByte 47 = .ok (.aload 4, 2) := by decide +kernel
theorem dX3_sectionByte_49 : decode cX3_sectionByte 49 = .ok (.invokevirtual 78, 3) := by decide +kernel
theorem dX3_sectionByte_52 : decode cX3_sectionByte 52 = .ok (.iload_n 2, 1) := by decide +kernel
theorem dX3_sectionByte_53 : decode cX3_sectionByte 53 = .ok (.aload 4, 2) := by decide +kernel
theorem dX3_sectionByte_55 : decode cX3_sectionByte 55 = .ok (.getfield 230, 3) := by decide +kernel
theorem dX3_sectionByte_58 : decode cX3_sectionByte 58 = .ok (.isub, 1) := by decide +kernel
theorem dX3_sectionByte_59 : decode cX3_sectionByte 59 = .ok (.invokestatic 233, 3) := by decide +kernel
theorem dX3_sectionByte_62 : decode cX3_sectionByte 62 = .ok (.ireturn, 1) := by decide +kernel
theorem dX3_sectionByte_63 : decode cX3_sectionByte 63 = .ok (.iinc 3 (-1), 3) := by decide +kernel
theorem dX3_sectionByte_66 : decode cX3_sectionByte 66 = .ok (.goto (-46), 3) := by decide +kernel
theorem dX3_sectionByte_69 : decode cX3_sectionByte 69 = .ok (.aload_n 1, 1) := by decide +kernel
theorem dX3_sectionByte_70 : decode cX3_sectionByte 70 = .ok (.iload_n 2, 1) := by decide +kernel
theorem dX3_sectionByte_71 : decode cX3_sectionByte 71 = .ok (.invokevirtual 237, 3) := by decide +kernel
theorem dX3_sectionByte_74 : decode cX3_sectionByte 74 = .ok (.ireturn, 1) := by decide +kernel
theorem dX3_veneerByte_0 : decode cX3_veneerByte 0 = .ok (.iload_n 3, 1) := by decide +kernel
theorem dX3_veneerByte_1 : decode cX3_veneerByte 1 = .ok (.iconst 4, 1) := by decide +kernel
theorem dX3_veneerByte_2 : decode cX3_veneerByte 2 = .ok (.if_icmp .ge 15, 3) := by decide +kernel
theorem dX3_veneerByte_5 : decode cX3_veneerByte 5 = .ok (.iload_n 3, 1) := by decide +kernel
theorem dX3_veneerByte_6 : decode cX3_veneerByte 6 = .ok (.ifCond .ne 9, 3) := by decide +kernel
theorem dX3_veneerByte_9 : decode cX3_veneerByte 9 = .ok (.sipush 234, 3) := by decide +kernel
theorem dX3_veneerByte_12 : decode cX3_veneerByte 12 = .ok (.goto 4, 3) := by decide +kernel
theorem dX3_veneerByte_15 : decode cX3_veneerByte 15 = .ok (.iconst 0, 1) := by decide +kernel
theorem dX3_veneerByte_16 : decode cX3_veneerByte 16 = .ok (.ireturn, 1) := by decide +kernel
theorem dX3_veneerByte_17 : decode cX3_veneerByte 17 = .ok (.iconst 0, 1) := by decide +kernel
theorem dX3_veneerByte_18 : decode cX3_veneerByte 18 = .ok (.istore 4, 2) := by decide +kernel
theorem dX3_veneerByte_20 : decode cX3_veneerByte 20 = .ok (.iload 4, 2) := by decide +kernel
theorem dX3_veneerByte_22 : decode cX3_veneerByte 22 = .ok (.aload_n 1, 1) := by decide +kernel
theorem dX3_veneerByte_23 : decode cX3_veneerByte 23 = .ok (.getfield 196, 3) := by decide +kernel
theorem dX3_veneerByte_26 : decode cX3_veneerByte 26 = .ok (.invokevirtual 52, 3) := by decide +kernel
theorem dX3_veneerByte_29 : decode cX3_veneerByte 29 = .ok (.if_icmp .ge 55, 3) := by decide +kernel
theorem dX3_veneerByte_32 : decode cX3_veneerByte 32 = .ok (.aload_n 1, 1) := by decide +kernel
theorem dX3_veneerByte_33 : decode cX3_veneerByte 33 = .ok (.getfield 196, 3) := by decide +kernel
theorem dX3_veneerByte_36 : decode cX3_veneerByte 36 = .ok (.iload 4, 2) := by decide +kernel
theorem dX3_veneerByte_38 : decode cX3_veneerByte 38 = .ok (.invokevirtual 58, 3) := by decide +kernel
theorem dX3_veneerByte_41 : decode cX3_veneerByte 41 = .ok (.checkcast 62, 3) := by decide +kernel
theorem dX3_veneerByte_44 : decode cX3_veneerByte 44 = .ok (.astore 5, 2) := by decide +kernel
theorem dX3_veneerByte_46 : decode cX3_veneerByte 46 = .ok (.aload 5, 2) := by decide +kernel
theorem dX3_veneerByte_48 : decode cX3_veneerByte 48 = .ok (.getfield 133, 3) := by decide +kernel
theorem dX3_veneerByte_51 : decode cX3_veneerByte 51 = .ok (.iload_n 2, 1) := by decide +kernel
theorem dX3_veneerByte_52 : decode cX3_veneerByte 52 = .ok (.if_icmp .ne 26, 3) := by decide +kernel
theorem dX3_veneerByte_55 : decode cX3_veneerByte 55 = .ok (.aload_n 0, 1) := by decide +kernel
theorem dX3_veneerByte_56 : decode cX3_veneerByte 56 = .ok (.aload 5, 2) := by decide +kernel
theorem dX3_veneerByte_58 : decode cX3_veneerByte 58 = .ok (.getfield 207, 3) := by decide +kernel
theorem dX3_veneerByte_61 : decode cX3_veneerByte 61 = .ok (.invokevirtual 222, 3) := by decide +kernel
theorem dX3_veneerByte_64 : decode cX3_veneerByte 64 = .ok (.aload 5, 2) := by decide +kernel
theorem dX3_veneerByte_66 : decode cX3_veneerByte 66 = .ok (.getfield 204, 3) := by decide +kernel
theorem dX3_veneerByte_69 : decode cX3_veneerByte 69 = .ok (.i2l, 1) := by decide +kernel
theorem dX3_veneerByte_70 : decode cX3_veneerByte 70 = .ok (.ladd, 1) := by decide +kernel
theorem dX3_veneerByte_71 : decode cX3_veneerByte 71 = .ok (.iload_n 3, 1) := by decide +kernel
theorem dX3_veneerByte_72 : decode cX3_veneerByte 72 = .ok (.iconst 4, 1) := by decide +kernel
theorem dX3_veneerByte_73 : decode cX3_veneerByte 73 = .ok (.isub, 1) := by decide +kernel
theorem dX3_veneerByte_74 : decode cX3_veneerByte 74 = .ok (.invokestatic 233, 3) := by decide +kernel
theorem dX3_veneerByte_77 : decode cX3_veneerByte 77 = .ok (.ireturn, 1) := by decide +kernel
theorem dX3_veneerByte_78 : decode cX3_veneerByte 78 = .ok (.iinc 4 1, 3) := by decide +kernel
theorem dX3_veneerByte_81 : decode cX3_veneerByte 81 = .ok (.goto (-61), 3) := by decide +kernel
theorem dX3_veneerByte_84 : decode cX3_veneerByte 84 = .ok (.iconst 0, 1) := by decide +kernel
theorem dX3_veneerByte_85 : decode cX3_veneerByte 85 = .ok (.ireturn, 1) := by decide +kernel
theorem dX3_byteOf_0 : decode cX3_byteOf 0 = .ok (.lload_n 0, 1) := by decide +kernel
theorem dX3_byteOf_1 : decode cX3_byteOf 1 = .ok (.bipush 8, 2) := by decide +kernel
theorem dX3_byteOf_3 : decode cX3_byteOf 3 = .ok (.iload_n 2, 1) := by decide +kernel
theorem dX3_byteOf_4 : decode cX3_byteOf 4 = .ok (.imul, 1) := by decide +kernel
theorem dX3_byteOf_5 : decode cX3_byteOf 5 = .ok (.lshr, 1) := by decide +kernel
theorem dX3_byteOf_6 : decode cX3_byteOf 6 = .ok (.l2i, 1) := by decide +kernel
theorem dX3_byteOf_7 : decode cX3_byteOf 7 = .ok (.sipush 255, 3) := by decide +kernel
theorem dX3_byteOf_10 : decode cX3_byteOf 10 = .ok (.iand, 1) := by decide +kernel
theorem dX3_byteOf_11 : decode cX3_byteOf 11 = .ok (.ireturn, 1) := by decide +kernel
theorem dX4_init_0 : decode cX4_init 0 = .ok (.aload_n 0, 1) := by decide +kernel
theorem dX4_init_1 : decode cX4_init 1 = .ok (.invokespecial 3, 3) := by decide +kernel
theorem dX4_init_4 : decode cX4_init 4 = .ok (.aload_n 0, 1) := by decide +kernel
theorem dX4_init_5 : decode cX4_init 5 = .ok (.iconst (-1), 1) := by decide +kernel
theorem dX4_init_6 : decode cX4_init 6 = .ok (.putfield 9, 3) := by decide +kernel
theorem dX4_init_9 : decode cX4_init 9 = .ok (.aload_n 0, 1) := by decide +kernel
theorem dX4_init_10 : decode cX4_init 10 = .ok (.aload_n 1, 1) := by decide +kernel
theorem dX4_init_11 : decode cX4_init 11 = .ok (.putfield 15, 3) := by decide +kernel
theorem dX4_init_14 : decode cX4_init 14 = .ok (.aload_n 0, 1) := by decide +kernel
theorem dX4_init_15 : decode cX4_init 15 = .ok (.iload_n 2, 1) := by decide +kernel
theorem dX4_init_16 : decode cX4_init 16 = .ok (.putfield 19, 3) := by decide +kernel
theorem dX4_init_19 : decode cX4_init 19 = .ok (.aload_n 0, 1) := by decide +kernel
theorem dX4_init_20 : decode cX4_init 20 = .ok (.aload_n 3, 1) := by decide +kernel
theorem dX4_init_21 : decode cX4_init 21 = .ok (.putfield 22, 3) := by decide +kernel
theorem dX4_init_24 : decode cX4_init 24 = .ok (.aload_n 0, 1) := by decide +kernel
theorem dX4_init_25 : decode cX4_init 25 = .ok (.aload 4, 2) := by decide +kernel
theorem dX4_init_27 : decode cX4_init 27 = .ok (.putfield 26, 3) := by decide +kernel
theorem dX4_init_30 : decode cX4_init 30 = .ok (.aload_n 0, 1) := by decide +kernel
theorem dX4_init_31 : decode cX4_init 31 = .ok (.iload 5, 2) := by decide +kernel
theorem dX4_init_33 : decode cX4_init 33 = .ok (.putfield 30, 3) := by decide +kernel
theorem dX4_init_36 : decode cX4_init 36 = .ok (.return_, 1) := by decide +kernel
theorem dX4_ownPlace_0 : decode cX4_ownPlace 0 = .ok (.aload_n 0, 1) := by decide +kernel
theorem dX4_ownPlace_1 : decode cX4_ownPlace 1 = .ok (.getfield 15, 3) := by decide +kernel
theorem dX4_ownPlace_4 : decode cX4_ownPlace 4 = .ok (.getfield 33, 3) := by decide +kernel
theorem dX4_ownPlace_7 : decode cX4_ownPlace 7 = .ok (.aload_n 0, 1) := by decide +kernel
theorem dX4_ownPlace_8 : decode cX4_ownPlace 8 = .ok (.getfield 19, 3) := by decide +kernel
theorem dX4_ownPlace_11 : decode cX4_ownPlace 11 = .ok (.i2l, 1) := by decide +kernel
theorem dX4_ownPlace_12 : decode cX4_ownPlace 12 = .ok (.ladd, 1) := by decide +kernel
theorem dX4_ownPlace_13 : decode cX4_ownPlace 13 = .ok (.lreturn, 1) := by decide +kernel
theorem dX4_covers_0 : decode cX4_covers 0 = .ok (.iload_n 1, 1) := by decide +kernel
theorem dX4_covers_1 : decode cX4_covers 1 = .ok (.aload_n 0, 1) := by decide +kernel
theorem dX4_covers_2 : decode cX4_covers 2 = .ok (.getfield 19, 3) := by decide +kernel
theorem dX4_covers_5 : decode cX4_covers 5 = .ok (.if_icmp .lt 23, 3) := by decide +kernel
theorem dX4_covers_8 : decode cX4_covers 8 = .ok (.iload_n 1, 1) := by decide +kernel
theorem dX4_covers_9 : decode cX4_covers 9 = .ok (.aload_n 0, 1) := by decide +kernel
theorem dX4_covers_10 : decode cX4_covers 10 = .ok (.getfield 19, 3) := by decide +kernel
theorem dX4_covers_13 : decode cX4_covers 13 = .ok (.aload_n 0, 1) := by decide +kernel
theorem dX4_covers_14 : decode cX4_covers 14 = .ok (.getfield 22, 3) := by decide +kernel
theorem dX4_covers_17 : decode cX4_covers 17 = .ok (.getfield 39, 3) := by decide +kernel
theorem dX4_covers_20 : decode cX4_covers 20 = .ok (.iadd, 1) := by decide +kernel
theorem dX4_covers_21 : decode cX4_covers 21 = .ok (.if_icmp .ge 7, 3) := by decide +kernel
theorem dX4_covers_24 : decode cX4_covers 24 = .ok (.iconst 1, 1) := by decide +kernel
theorem dX4_covers_25 : decode cX4_covers 25 = .ok (.goto 4, 3) := by decide +kernel
theorem dX4_covers_28 : decode cX4_covers 28 = .ok (.iconst 0, 1) := by decide +kernel
theorem dX4_covers_29 : decode cX4_covers 29 = .ok (.ireturn, 1) := by decide +kernel
theorem dX4_isWrittenLike_0 : decode cX4_isWrittenLike 0 = .ok (.aload_n 0, 1) := by decide +kernel
theorem dX4_isWrittenLike_1 : decode cX4_isWrittenLike 1 = .ok (.getfield 19, 3) := by decide +kernel
theorem dX4_isWrittenLike_4 : decode cX4_isWrittenLike 4 = .ok (.aload_n 1, 1) := by decide +kernel
theorem dX4_isWrittenLike_5 : decode cX4_isWrittenLike 5 = .ok (.getfield 19, 3) := by decide +kernel
theorem dX4_isWrittenLike_8 : decode cX4_isWrittenLike 8 = .ok (.if_icmp .ne 29, 3) := by decide +kernel
theorem dX4_isWrittenLike_11 : decode cX4_isWrittenLike 11 = .ok (.aload_n 0, 1) := by decide +kernel
theorem dX4_isWrittenLike_12 : decode cX4_isWrittenLike 12 = .ok (.getfield 22, 3) := by decide +kernel
theorem dX4_isWrittenLike_15 : decode cX4_isWrittenLike 15 = .ok (.aload_n 1, 1) := by decide +kernel
theorem dX4_isWrittenLike_16 : decode cX4_isWrittenLike 16 = .ok (.getfield 22, 3) := by decide +kernel
theorem dX4_isWrittenLike_19 : decode cX4_isWrittenLike 19 = .ok (.if_acmp .ne 18, 3) := by decide +kernel
theorem dX4_isWrittenLike_22 : decode cX4_isWrittenLike 22 = .ok (.aload_n 0, 1) := by decide +kernel
theorem dX4_isWrittenLike_23 : decode cX4_isWrittenLike 23 = .ok (.getfield 30, 3) := by decide +kernel
theorem dX4_isWrittenLike_26 : decode cX4_isWrittenLike 26 = .ok (.aload_n 1, 1) := by decide +kernel
theorem dX4_isWrittenLike_27 : decode cX4_isWrittenLike 27 = .ok (.getfield 30, 3) := by decide +kernel
theorem dX4_isWrittenLike_30 : decode cX4_isWrittenLike 30 = .ok (.if_icmp .ne 7, 3) := by decide +kernel
theorem dX4_isWrittenLike_33 : decode cX4_isWrittenLike 33 = .ok (.iconst 1, 1) := by decide +kernel
theorem dX4_isWrittenLike_34 : decode cX4_isWrittenLike 34 = .ok (.goto 4, 3) := by decide +kernel
theorem dX4_isWrittenLike_37 : decode cX4_isWrittenLike 37 = .ok (.iconst 0, 1) := by decide +kernel
theorem dX4_isWrittenLike_38 : decode cX4_isWrittenLike 38 = .ok (.ireturn, 1) := by decide +kernel
theorem dX5_init_0 : decode cX5_init 0 = .ok (.aload_n 0, 1) := by decide +kernel
theorem dX5_init_1 : decode cX5_init 1 = .ok (.invokespecial 3, 3) := by decide +kernel
theorem dX5_init_4 : decode cX5_init 4 = .ok (.aload_n 0, 1) := by decide +kernel
theorem dX5_init_5 : decode cX5_init 5 = .ok (.new 9, 3) := by decide +kernel
theorem dX5_init_8 : decode cX5_init 8 = .ok (.dup, 1) := by decide +kernel
theorem dX5_init_9 : decode cX5_init 9 = .ok (.invokespecial 11, 3) := by decide +kernel
theorem dX5_init_12 : decode cX5_init 12 = .ok (.putfield 12, 3) := by decide +kernel
theorem dX5_init_15 : decode cX5_init 15 = .ok (.aload_n 0, 1) := by decide +kernel
theorem dX5_init_16 : decode cX5_init 16 = .ok (.new 9, 3) := by decide +kernel
theorem dX5_init_19 : decode cX5_init 19 = .ok (.dup, 1) := by decide +kernel
theorem dX5_init_20 : decode cX5_init 20 = .ok (.invokespecial 11, 3) := by decide +kernel
theorem dX5_init_23 : decode cX5_init 23 = .ok (.putfield 18, 3) := by decide +kernel
theorem dX5_init_26 : decode cX5_init 26 = .ok (.aload_n 0, 1) := by decide +kernel
theorem dX5_init_27 : decode cX5_init 27 = .ok (.iconst (-1), 1) := by decide +kernel
theorem dX5_init_28 : decode cX5_init 28 = .ok (.putfield 21, 3) := by decide +kernel
theorem dX5_init_31 : decode cX5_init 31 = .ok (.aload_n 0, 1) := by decide +kernel
theorem dX5_init_32 : decode cX5_init 32 = .ok (.iconst (-1), 1) := by decide +kernel
theorem dX5_init_33 : decode cX5_init 33 = .ok (.putfield 25, 3) := by decide +kernel
theorem dX5_init_36 : decode cX5_init 36 = .ok (.aload_n 0, 1) := by decide +kernel
theorem dX5_init_37 : decode cX5_init 37 = .ok (.iconst (-1), 1) := by decide +kernel
theorem dX5_init_38 : decode cX5_init 38 = .ok (.putfield 28, 3) := by decide +kernel
theorem dX5_init_41 : decode cX5_init 41 = .ok (.aload_n 0, 1) := by decide +kernel
theorem dX5_init_42 : decode cX5_init 42 = .ok (.iload_n 1, 1) := by decide +kernel
theorem dX5_init_43 : decode cX5_init 43 = .ok (.putfield 31, 3) := by decide +kernel
theorem dX5_init_46 : decode cX5_init 46 = .ok (.aload_n 0, 1) := by decide +kernel
theorem dX5_init_47 : decode cX5_init 47 = .ok (.iload_n 2, 1) := by decide +kernel
theorem dX5_init_48 : decode cX5_init 48 = .ok (.putfield 34, 3) := by decide +kernel
theorem dX5_init_51 : decode cX5_init 51 = .ok (.aload_n 0, 1) := by decide +kernel
theorem dX5_init_52 : decode cX5_init 52 = .ok (.iload_n 3, 1) := by decide +kernel
theorem dX5_init_53 : decode cX5_init 53 = .ok (.putfield 37, 3) := by decide +kernel
theorem dX5_init_56 : decode cX5_init 56 = .ok (.aload_n 0, 1) := by decide +kernel
theorem dX5_init_57 : decode cX5_init 57 = .ok (.iload 4, 2) := by decide +kernel
theorem dX5_init_59 : decode cX5_init 59 = .ok (.putfield 40, 3) := by decide +kernel
theorem dX5_init_62 : decode cX5_init 62 = .ok (.aload_n 0, 1) := by decide +kernel
theorem dX5_init_63 : decode cX5_init 63 = .ok (.iload 5, 2) := by decide +kernel
theorem dX5_init_65 : decode cX5_init 65 = .ok (.putfield 43, 3) := by decide +kernel
theorem dX5_init_68 : decode cX5_init 68 = .ok (.aload_n 0, 1) := by decide +kernel
theorem dX5_init_69 : decode cX5_init 69 = .ok (.iload 6, 2) := by decide +kernel
theorem dX5_init_71 : decode cX5_init 71 = .ok (.putfield 46, 3) := by decide +kernel
theorem dX5_init_74 : decode cX5_init 74 = .ok (.return_, 1) := by decide +kernel
theorem dX5_byteAt_0 : decode cX5_byteAt 0 = .ok (.iconst 0, 1) := by decide +kernel
theorem dX5_byteAt_1 : decode cX5_byteAt 1 = .ok (.istore_n 2, 1) := by decide +kernel
theorem dX5_byteAt_2 : decode cX5_byteAt 2 = .ok (.iload_n 2, 1) := by decide +kernel
theorem dX5_byteAt_3 : decode cX5_byteAt 3 = .ok (.aload_n 0, 1) := by decide +kernel
theorem dX5_byteAt_4 : decode cX5_byteAt 4 = .ok (.getfield 18, 3) := by decide +kernel
theorem dX5_byteAt_7 : decode cX5_byteAt 7 = .ok (.invokevirtual 49, 3) := by decide +kernel
theorem dX5_byteAt_10 : decode cX5_byteAt 10 = .ok (.if_icmp .ge 42, 3) := by decide +kernel
theorem dX5_byteAt_13 : decode cX5_byteAt 13 = .ok (.aload_n 0, 1) := by decide +kernel
theorem dX5_byteAt_14 : decode cX5_byteAt 14 = .ok (.getfield 18, 3) := by decide +kernel
theorem dX5_byteAt_17 : decode cX5_byteAt 17 = .ok (.iload_n 2, 1) := by decide +kernel
theorem dX5_byteAt_18 : decode cX5_byteAt 18 = .ok (.invokevirtual 52, 3) := by decide +kernel
theorem dX5_byteAt_21 : decode cX5_byteAt 21 = .ok (.checkcast 56, 3) := by decide +kernel
theorem dX5_byteAt_24 : decode cX5_byteAt 24 = .ok (.getfield 58, 3) := by decide +kernel
theorem dX5_byteAt_27 : decode cX5_byteAt 27 = .ok (.iload_n 1, 1) := by decide +kernel
theorem dX5_byteAt_28 : decode cX5_byteAt 28 = .ok (.if_icmp .ne 18, 3) := by decide +kernel
