theorem dX5_byteAt_31 : decode cX5_byteAt 31 = .ok (.aload_n 0, 1) := by decide +kernel
theorem dX5_byteAt_32 : decode cX5_byteAt 32 = .ok (.getfield 18, 3) := by decide +kernel
theorem dX5_byteAt_35 : decode cX5_byteAt 35 = .ok (.iload_n 2, 1) := by decide +kernel
theorem dX5_byteAt_36 : decode cX5_byteAt 36 = .ok (.invokevirtual 52, 3) := by decide +kernel
theorem dX5_byteAt_39 : decode cX5_byteAt 39 = .ok (.checkcast 56, 3) := by decide +kernel
theorem dX5_byteAt_42 : decode cX5_byteAt 42 = .ok (.getfield 61, 3) := by decide +kernel
theorem dX5_byteAt_45 : decode cX5_byteAt 45 = .ok (.ireturn, 1) := by decide +kernel
theorem dX5_byteAt_46 : decode cX5_byteAt 46 = .ok (.iinc 2 1, 3) := by decide +kernel
theorem dX5_byteAt_49 : decode cX5_byteAt 49 = .ok (.goto (-47), 3) := by decide +kernel
theorem dX5_byteAt_52 : decode cX5_byteAt 52 = .ok (.aload_n 0, 1) := by decide +kernel
theorem dX5_byteAt_53 : decode cX5_byteAt 53 = .ok (.getfield 46, 3) := by decide +kernel
theorem dX5_byteAt_56 : decode cX5_byteAt 56 = .ok (.iload_n 1, 1) := by decide +kernel
theorem dX5_byteAt_57 : decode cX5_byteAt 57 = .ok (.iadd, 1) := by decide +kernel
theorem dX5_byteAt_58 : decode cX5_byteAt 58 = .ok (.sipush 255, 3) := by decide +kernel
theorem dX5_byteAt_61 : decode cX5_byteAt 61 = .ok (.iand, 1) := by decide +kernel
theorem dX5_byteAt_62 : decode cX5_byteAt 62 = .ok (.ireturn, 1) := by decide +kernel
theorem dX5_setByte_0 : decode cX5_setByte 0 = .ok (.iload_n 2, 1) := by decide +kernel
theorem dX5_setByte_1 : decode cX5_setByte 1 = .ok (.sipush 255, 3) := by decide +kernel
theorem dX5_setByte_4 : decode cX5_setByte 4 = .ok (.iand, 1) := by decide +kernel
theorem dX5_setByte_5 : decode cX5_setByte 5 = .ok (.istore_n 3, 1) := by decide +kernel
theorem dX5_setByte_6 : decode cX5_setByte 6 = .ok (.iconst 0, 1) := by decide +kernel
theorem dX5_setByte_7 : decode cX5_setByte 7 = .ok (.istore 4, 2) := by decide +kernel
theorem dX5_setByte_9 : decode cX5_setByte 9 = .ok (.iload 4, 2) := by decide +kernel
theorem dX5_setByte_11 : decode cX5_setByte 11 = .ok (.aload_n 0, 1) := by decide +kernel
theorem dX5_setByte_12 : decode cX5_setByte 12 = .ok (.getfield 18, 3) := by decide +kernel
theorem dX5_setByte_15 : decode cX5_setByte 15 = .ok (.invokevirtual 49, 3) := by decide +kernel
theorem dX5_setByte_18 : decode cX5_setByte 18 = .ok (.if_icmp .ge 45, 3) := by decide +kernel
theorem dX5_setByte_21 : decode cX5_setByte 21 = .ok (.aload_n 0, 1) := by decide +kernel
theorem dX5_setByte_22 : decode cX5_setByte 22 = .ok (.getfield 18, 3) := by decide +kernel
theorem dX5_setByte_25 : decode cX5_setByte 25 = .ok (.iload 4, 2) := by decide +kernel
theorem dX5_setByte_27 : decode cX5_setByte 27 = .ok (.invokevirtual 52, 3) := by decide +kernel
theorem dX5_setByte_30 : decode cX5_setByte 30 = .ok (.checkcast 56, 3) := by decide +kernel
theorem dX5_setByte_33 : decode cX5_setByte 33 = .ok (.getfield 58, 3) := by decide +kernel
theorem dX5_setByte_36 : decode cX5_setByte 36 = .ok (.iload_n 1, 1) := by decide +kernel
theorem dX5_setByte_37 : decode cX5_setByte 37 = .ok (.if_icmp .ne 20, 3) := by decide +kernel
theorem dX5_setByte_40 : decode cX5_setByte 40 = .ok (.aload_n 0, 1) := by decide +kernel
theorem dX5_setByte_41 : decode cX5_setByte 41 = .ok (.getfield 18, 3) := by decide +kernel
theorem dX5_setByte_44 : decode cX5_setByte 44 = .ok (.iload 4, 2) := by decide +kernel
theorem dX5_setByte_46 : decode cX5_setByte 46 = .ok (.invokevirtual 52, 3) := by decide +kernel
theorem dX5_setByte_49 : decode cX5_setByte 49 = .ok (.checkcast 56, 3) := by decide +kernel
theorem dX5_setByte_52 : decode cX5_setByte 52 = .ok (.iload_n 3, 1) := by decide +kernel
theorem dX5_setByte_53 : decode cX5_setByte 53 = .ok (.putfield 61, 3) := by decide +kernel
theorem dX5_setByte_56 : decode cX5_setByte 56 = .ok (.return_, 1) := by decide +kernel
theorem dX5_setByte_57 : decode cX5_setByte 57 = .ok (.iinc 4 1, 3) := by decide +kernel
theorem dX5_setByte_60 : decode cX5_setByte 60 = .ok (.goto (-51), 3) := by decide +kernel
theorem dX5_setByte_63 : decode cX5_setByte 63 = .ok (.aload_n 0, 1) := by decide +kernel
theorem dX5_setByte_64 : decode cX5_setByte 64 = .ok (.getfield 18, 3) := by decide +kernel
theorem dX5_setByte_67 : decode cX5_setByte 67 = .ok (.new 56, 3) := by decide +kernel
theorem dX5_setByte_70 : decode cX5_setByte 70 = .ok (.dup, 1) := by decide +kernel
theorem dX5_setByte_71 : decode cX5_setByte 71 = .ok (.iload_n 1, 1) := by decide +kernel
theorem dX5_setByte_72 : decode cX5_setByte 72 = .ok (.iload_n 3, 1) := by decide +kernel
theorem dX5_setByte_73 : decode cX5_setByte 73 = .ok (.invokespecial 64, 3) := by decide +kernel
theorem dX5_setByte_76 : decode cX5_setByte 76 = .ok (.invokevirtual 67, 3) := by decide +kernel
theorem dX5_setByte_79 : decode cX5_setByte 79 = .ok (.pop, 1) := by decide +kernel
theorem dX5_setByte_80 : decode cX5_setByte 80 = .ok (.return_, 1) := by decide +kernel
theorem dX5_hasBytesOf_0 : decode cX5_hasBytesOf 0 = .ok (.aload_n 0, 1) := by decide +kernel
theorem dX5_hasBytesOf_1 : decode cX5_hasBytesOf 1 = .ok (.getfield 46, 3) := by decide +kernel
theorem dX5_hasBytesOf_4 : decode cX5_hasBytesOf 4 = .ok (.aload_n 1, 1) := by decide +kernel
theorem dX5_hasBytesOf_5 : decode cX5_hasBytesOf 5 = .ok (.getfield 46, 3) := by decide +kernel
theorem dX5_hasBytesOf_8 : decode cX5_hasBytesOf 8 = .ok (.ixor, 1) := by decide +kernel
theorem dX5_hasBytesOf_9 : decode cX5_hasBytesOf 9 = .ok (.sipush 255, 3) := by decide +kernel
theorem dX5_hasBytesOf_12 : decode cX5_hasBytesOf 12 = .ok (.iand, 1) := by decide +kernel
theorem dX5_hasBytesOf_13 : decode cX5_hasBytesOf 13 = .ok (.ifCond .ne 25, 3) := by decide +kernel
theorem dX5_hasBytesOf_16 : decode cX5_hasBytesOf 16 = .ok (.aload_n 0, 1) := by decide +kernel
theorem dX5_hasBytesOf_17 : decode cX5_hasBytesOf 17 = .ok (.aload_n 1, 1) := by decide +kernel
theorem dX5_hasBytesOf_18 : decode cX5_hasBytesOf 18 = .ok (.invokevirtual 71, 3) := by decide +kernel
theorem dX5_hasBytesOf_21 : decode cX5_hasBytesOf 21 = .ok (.ifCond .eq 15, 3) := by decide +kernel
theorem dX5_hasBytesOf_24 : decode cX5_hasBytesOf 24 = .ok (.aload_n 1, 1) := by decide +kernel
theorem dX5_hasBytesOf_25 : decode cX5_hasBytesOf 25 = .ok (.aload_n 0, 1) := by decide +kernel
theorem dX5_hasBytesOf_26 : decode cX5_hasBytesOf 26 = .ok (.invokevirtual 71, 3) := by decide +kernel
theorem dX5_hasBytesOf_29 : decode cX5_hasBytesOf 29 = .ok (.ifCond .eq 7, 3) := by decide +kernel
theorem dX5_hasBytesOf_32 : decode cX5_hasBytesOf 32 = .ok (.iconst 1, 1) := by decide +kernel
theorem dX5_hasBytesOf_33 : decode cX5_hasBytesOf 33 = .ok (.goto 4, 3) := by decide +kernel
theorem dX5_hasBytesOf_36 : decode cX5_hasBytesOf 36 = .ok (.iconst 0, 1) := by decide +kernel
theorem dX5_hasBytesOf_37 : decode cX5_hasBytesOf 37 = .ok (.ireturn, 1) := by decide +kernel
theorem dX5_hasBytesOf_38 : decode cX5_hasBytesOf 38 = .ok (.iconst 0, 1) := by decide +kernel
theorem dX5_hasBytesOf_39 : decode cX5_hasBytesOf 39 = .ok (.istore_n 2, 1) := by decide +kernel
theorem dX5_hasBytesOf_40 : decode cX5_hasBytesOf 40 = .ok (.iload_n 2, 1) := by decide +kernel
theorem dX5_hasBytesOf_41 : decode cX5_hasBytesOf 41 = .ok (.aload_n 0, 1) := by decide +kernel
theorem dX5_hasBytesOf_42 : decode cX5_hasBytesOf 42 = .ok (.getfield 40, 3) := by decide +kernel
theorem dX5_hasBytesOf_45 : decode cX5_hasBytesOf 45 = .ok (.if_icmp .ge 24, 3) := by decide +kernel
theorem dX5_hasBytesOf_48 : decode cX5_hasBytesOf 48 = .ok (.aload_n 0, 1) := by decide +kernel
theorem dX5_hasBytesOf_49 : decode cX5_hasBytesOf 49 = .ok (.iload_n 2, 1) := by decide +kernel
theorem dX5_hasBytesOf_50 : decode cX5_hasBytesOf 50 = .ok (.invokevirtual 75, 3) := by decide +kernel
theorem dX5_hasBytesOf_53 : decode cX5_hasBytesOf 53 = .ok (.aload_n 1, 1) := by decide +kernel
theorem dX5_hasBytesOf_54 : decode cX5_hasBytesOf 54 = .ok (.iload_n 2, 1) := by decide +kernel
theorem dX5_hasBytesOf_55 : decode cX5_hasBytesOf 55 = .ok (.invokevirtual 75, 3) := by decide +kernel
theorem dX5_hasBytesOf_58 : decode cX5_hasBytesOf 58 = .ok (.if_icmp .eq 5, 3) := by decide +kernel
theorem dX5_hasBytesOf_61 : decode cX5_hasBytesOf 61 = .ok (.iconst 0, 1) := by decide +kernel
theorem dX5_hasBytesOf_62 : decode cX5_hasBytesOf 62 = .ok (.ireturn, 1) := by decide +kernel
theorem dX5_hasBytesOf_63 : decode cX5_hasBytesOf 63 = .ok (.iinc 2 1, 3) := by decide +kernel
theorem dX5_hasBytesOf_66 : decode cX5_hasBytesOf 66 = .ok (.goto (-26), 3) := by decide +kernel
theorem dX5_hasBytesOf_69 : decode cX5_hasBytesOf 69 = .ok (.iconst 1, 1) := by decide +kernel
theorem dX5_hasBytesOf_70 : decode cX5_hasBytesOf 70 = .ok (.ireturn, 1) := by decide +kernel
theorem dX5_agreesWherePatched_0 : decode cX5_agreesWherePatched 0 = .ok (.iconst 0, 1) := by decide +kernel
theorem dX5_agreesWherePatched_1 : decode cX5_agreesWherePatched 1 = .ok (.istore_n 2, 1) := by decide +kernel
theorem dX5_agreesWherePatched_2 : decode cX5_agreesWherePatched 2 = .ok (.iload_n 2, 1) := by decide +kernel
theorem dX5_agreesWherePatched_3 : decode cX5_agreesWherePatched 3 = .ok (.aload_n 0, 1) := by decide +kernel
theorem dX5_agreesWherePatched_4 : decode cX5_agreesWherePatched 4 = .ok (.getfield 18, 3) := by decide +kernel
theorem dX5_agreesWherePatched_7 : decode cX5_agreesWherePatched 7 = .ok (.invokevirtual 49, 3) := by decide +kernel
theorem dX5_agreesWherePatched_10 : decode cX5_agreesWherePatched 10 = .ok (.if_icmp .ge 38, 3) := by decide +kernel
theorem dX5_agreesWherePatched_13 : decode cX5_agreesWherePatched 13 = .ok (.aload_n 0, 1) := by decide +kernel
theorem dX5_agreesWherePatched_14 : decode cX5_agreesWherePatched 14 = .ok (.getfield 18, 3) := by decide +kernel
theorem dX5_agreesWherePatched_17 : decode cX5_agreesWherePatched 17 = .ok (.iload_n 2, 1) := by decide +kernel
theorem dX5_agreesWherePatched_18 : decode cX5_agreesWherePatched 18 = .ok (.invokevirtual 52, 3) := by decide +kernel
theorem dX5_agreesWherePatched_21 : decode cX5_agreesWherePatched 21 = .ok (.checkcast 56, 3) := by decide +kernel
theorem dX5_agreesWherePatched_24 : decode cX5_agreesWherePatched 24 = .ok (.astore_n 3, 1) := by decide +kernel
theorem dX5_agreesWherePatched_25 : decode cX5_agreesWherePatched 25 = .ok (.aload_n 3, 1) := by decide +kernel
theorem dX5_agreesWherePatched_26 : decode cX5_agreesWherePatched 26 = .ok (.getfield 61, 3) := by decide +kernel
theorem dX5_agreesWherePatched_29 : decode cX5_agreesWherePatched 29 = .ok (.aload_n 1, 1) := by decide +kernel
theorem dX5_agreesWherePatched_30 : decode cX5_agreesWherePatched 30 = .ok (.aload_n 3, 1) := by decide +kernel
theorem dX5_agreesWherePatched_31 : decode cX5_agreesWherePatched 31 = .ok (.getfield 58, 3) := by decide +kernel
theorem dX5_agreesWherePatched_34 : decode cX5_agreesWherePatched 34 = .ok (.invokevirtual 75, 3) := by decide +kernel
theorem dX5_agreesWherePatched_37 : decode cX5_agreesWherePatched 37 = .ok (.if_icmp .eq 5, 3) := by decide +kernel
theorem dX5_agreesWherePatched_40 : decode cX5_agreesWherePatched 40 = .ok (.iconst 0, 1) := by decide +kernel
theorem dX5_agreesWherePatched_41 : decode cX5_agreesWherePatched 41 = .ok (.ireturn, 1) := by decide +kernel
theorem dX5_agreesWherePatched_42 : decode cX5_agreesWherePatched 42 = .ok (.iinc 2 1, 3) := by decide +kernel
theorem dX5_agreesWherePatched_45 : decode cX5_agreesWherePatched 45 = .ok (.goto (-43), 3) := by decide +kernel
theorem dX5_agreesWherePatched_48 : decode cX5_agreesWherePatched 48 = .ok (.iconst 1, 1) := by decide +kernel
theorem dX5_agreesWherePatched_49 : decode cX5_agreesWherePatched 49 = .ok (.ireturn, 1) := by decide +kernel
theorem dX5_exchangeMark_0 : decode cX5_exchangeMark 0 = .ok (.iload_n 1, 1) := by decide +kernel
theorem dX5_exchangeMark_1 : decode cX5_exchangeMark 1 = .ok (.ifCond .ne 33, 3) := by decide +kernel
theorem dX5_exchangeMark_4 : decode cX5_exchangeMark 4 = .ok (.aload_n 0, 1) := by decide +kernel
theorem dX5_exchangeMark_5 : decode cX5_exchangeMark 5 = .ok (.getfield 79, 3) := by decide +kernel
theorem dX5_exchangeMark_8 : decode cX5_exchangeMark 8 = .ok (.ifCond .eq 7, 3) := by decide +kernel
theorem dX5_exchangeMark_11 : decode cX5_exchangeMark 11 = .ok (.iconst 1, 1) := by decide +kernel
theorem dX5_exchangeMark_12 : decode cX5_exchangeMark 12 = .ok (.goto 4, 3) := by decide +kernel
theorem dX5_exchangeMark_15 : decode cX5_exchangeMark 15 = .ok (.iconst 0, 1) := by decide +kernel
theorem dX5_exchangeMark_16 : decode cX5_exchangeMark 16 = .ok (.istore_n 3, 1) := by decide +kernel
theorem dX5_exchangeMark_17 : decode cX5_exchangeMark 17 = .ok (.aload_n 0, 1) := by decide +kernel
theorem dX5_exchangeMark_18 : decode cX5_exchangeMark 18 = .ok (.iload_n 2, 1) := by decide +kernel
theorem dX5_exchangeMark_19 : decode cX5_exchangeMark 19 = .ok (.iconst 1, 1) := by decide +kernel
theorem dX5_exchangeMark_20 : decode cX5_exchangeMark 20 = .ok (.if_icmp .ne 7, 3) := by decide +kernel
theorem dX5_exchangeMark_23 : decode cX5_exchangeMark 23 = .ok (.iconst 1, 1) := by decide +kernel
theorem dX5_exchangeMark_24 : decode cX5_exchangeMark 24 = .ok (.goto 4, 3) := by decide +kernel
theorem dX5_exchangeMark_27 : decode cX5_exchangeMark 27 = .ok (.iconst 0, 1) := by decide +kernel
theorem dX5_exchangeMark_28 : decode cX5_exchangeMark 28 = .ok (.putfield 79, 3) := by decide +kernel
theorem dX5_exchangeMark_31 : decode cX5_exchangeMark 31 = .ok (.goto 31, 3) := by decide +kernel
theorem dX5_exchangeMark_34 : decode cX5_exchangeMark 34 = .ok (.iload_n 1, 1) := by decide +kernel
theorem dX5_exchangeMark_35 : decode cX5_exchangeMark 35 = .ok (.iconst 1, 1) := by decide +kernel
theorem dX5_exchangeMark_36 : decode cX5_exchangeMark 36 = .ok (.if_icmp .ne 16, 3) := by decide +kernel
theorem dX5_exchangeMark_39 : decode cX5_exchangeMark 39 = .ok (.aload_n 0, 1) := by decide +kernel
theorem dX5_exchangeMark_40 : decode cX5_exchangeMark 40 = .ok (.getfield 21, 3) := by decide +kernel
theorem dX5_exchangeMark_43 : decode cX5_exchangeMark 43 = .ok (.istore_n 3, 1) := by decide +kernel
theorem dX5_exchangeMark_44 : decode cX5_exchangeMark 44 = .ok (.aload_n 0, 1) := by decide +kernel
theorem dX5_exchangeMark_45 : decode cX5_exchangeMark 45 = .ok (.iload_n 2, 1) := by decide +kernel
theorem dX5_exchangeMark_46 : decode cX5_exchangeMark 46 = .ok (.putfield 21, 3) := by decide +kernel
theorem dX5_exchangeMark_49 : decode cX5_exchangeMark 49 = .ok (.goto 13, 3) := by decide +kernel
theorem dX5_exchangeMark_52 : decode cX5_exchangeMark 52 = .ok (.aload_n 0, 1) := by decide +kernel
theorem dX5_exchangeMark_53 : decode cX5_exchangeMark 53 = .ok (.getfield 25, 3) := by decide +kernel
theorem dX5_exchangeMark_56 : decode cX5_exchangeMark 56 = .ok (.istore_n 3, 1) := by decide +kernel
theorem dX5_exchangeMark_57 : decode cX5_exchangeMark 57 = .ok (.aload_n 0, 1) := by decide +kernel
theorem dX5_exchangeMark_58 : decode cX5_exchangeMark 58 = .ok (.iload_n 2, 1) := by decide +kernel
theorem dX5_exchangeMark_59 : decode cX5_exchangeMark 59 = .ok (.putfield 25, 3) := by decide +kernel
theorem dX5_exchangeMark_62 : decode cX5_exchangeMark 62 = .ok (.iload_n 3, 1) := by decide +kernel
theorem dX5_exchangeMark_63 : decode cX5_exchangeMark 63 = .ok (.ireturn, 1) := by decide +kernel
theorem dX5_isKept_0 : decode cX5_isKept 0 = .ok (.aload_n 0, 1) := by decide +kernel
theorem dX5_isKept_1 : decode cX5_isKept 1 = .ok (.getfield 28, 3) := by decide +kernel
theorem dX5_isKept_4 : decode cX5_isKept 4 = .ok (.iconst (-1), 1) := by decide +kernel
theorem dX5_isKept_5 : decode cX5_isKept 5 = .ok (.if_icmp .eq 7, 3) := by decide +kernel
theorem dX5_isKept_8 : decode cX5_isKept 8 = .ok (.iconst 1, 1) := by decide +kernel
theorem dX5_isKept_9 : decode cX5_isKept 9 = .ok (.goto 4, 3) := by decide +kernel
theorem dX5_isKept_12 : decode cX5_isKept 12 = .ok (.iconst 0, 1) := by decide +kernel
theorem dX5_isKept_13 : decode cX5_isKept 13 = .ok (.ireturn, 1) := by decide +kernel
theorem dX5_isPlaced_0 : decode cX5_isPlaced 0 = .ok (.aload_n 0, 1) := by decide +kernel
theorem dX5_isPlaced_1 : decode cX5_isPlaced 1 = .ok (.invokevirtual 83, 3) := by decide +kernel
theorem dX5_isPlaced_4 : decode cX5_isPlaced 4 = .ok (.ifCond .eq 14, 3) := by decide +kernel
theorem dX5_isPlaced_7 : decode cX5_isPlaced 7 = .ok (.aload_n 0, 1) := by decide +kernel
theorem dX5_isPlaced_8 : decode cX5_isPlaced 8 = .ok (.getfield 87, 3) := by decide +kernel
theorem dX5_isPlaced_11 : decode cX5_isPlaced 11 = .ok (.ifnonnull 7, 3) := by decide +kernel
theorem dX5_isPlaced_14 : decode cX5_isPlaced 14 = .ok (.iconst 1, 1) := by decide +kernel
theorem dX5_isPlaced_15 : decode cX5_isPlaced 15 = .ok (.goto 4, 3) := by decide +kernel
theorem dX5_isPlaced_18 : decode cX5_isPlaced 18 = .ok (.iconst 0, 1) := by decide +kernel
theorem dX5_isPlaced_19 : decode cX5_isPlaced 19 = .ok (.ireturn, 1) := by decide +kernel
theorem dX5_finalPlace_0 : decode cX5_finalPlace 0 = .ok (.aload_n 0, 1) := by decide +kernel
theorem dX5_finalPlace_1 : decode cX5_finalPlace 1 = .ok (.getfield 87, 3) := by decide +kernel
theorem dX5_finalPlace_4 : decode cX5_finalPlace 4 = .ok (.ifnonnull 10, 3) := by decide +kernel
theorem dX5_finalPlace_7 : decode cX5_finalPlace 7 = .ok (.aload_n 0, 1) := by decide +kernel
theorem dX5_finalPlace_8 : decode cX5_finalPlace 8 = .ok (.getfield 91, 3) := by decide +kernel
theorem dX5_finalPlace_11 : decode cX5_finalPlace 11 = .ok (.goto 10, 3) := by decide +kernel
theorem dX5_finalPlace_14 : decode cX5_finalPlace 14 = .ok (.aload_n 0, 1) := by decide +kernel
theorem dX5_finalPlace_15 : decode cX5_finalPlace 15 = .ok (.getfield 87, 3) := by decide +kernel
theorem dX5_finalPlace_18 : decode cX5_finalPlace 18 = .ok (.getfield 91, 3) := by decide +kernel
theorem dX5_finalPlace_21 : decode cX5_finalPlace 21 = .ok (.lreturn, 1) := by decide +kernel
theorem dX5_endWithoutVeneers_0 : decode cX5_endWithoutVeneers 0 = .ok (.aload_n 0, 1) := by decide +kernel
theorem dX5_endWithoutVeneers_1 : decode cX5_endWithoutVeneers 1 = .ok (.getfield 91, 3) := by decide +kernel
theorem dX5_endWithoutVeneers_4 : decode cX5_endWithoutVeneers 4 = .ok (.aload_n 0, 1) := by decide +kernel
theorem dX5_endWithoutVeneers_5 : decode cX5_endWithoutVeneers 5 = .ok (.getfield 40, 3) := by decide +kernel
theorem dX5_endWithoutVeneers_8 : decode cX5_endWithoutVeneers 8 = .ok (.i2l, 1) := by decide +kernel
theorem dX5_endWithoutVeneers_9 : decode cX5_endWithoutVeneers 9 = .ok (.ladd, 1) := by decide +kernel
theorem dX5_endWithoutVeneers_10 : decode cX5_endWithoutVeneers 10 = .ok (.lreturn, 1) := by decide +kernel
theorem dX5_placeOfVeneer_0 : decode cX5_placeOfVeneer 0 = .ok (.aload_n 0, 1) := by decide +kernel
theorem dX5_placeOfVeneer_1 : decode cX5_placeOfVeneer 1 = .ok (.invokevirtual 95, 3) := by decide +kernel
theorem dX5_placeOfVeneer_4 : decode cX5_placeOfVeneer 4 = .ok (.iconst 2, 1) := by decide +kernel
theorem dX5_placeOfVeneer_5 : decode cX5_placeOfVeneer 5 = .ok (.invokestatic 99, 3) := by decide +kernel
theorem dX5_placeOfVeneer_8 : decode cX5_placeOfVeneer 8 = .ok (.iload_n 1, 1) := by decide +kernel
theorem dX5_placeOfVeneer_9 : decode cX5_placeOfVeneer 9 = .ok (.i2l, 1) := by decide +kernel
theorem dX5_placeOfVeneer_10 : decode cX5_placeOfVeneer 10 = .ok (.ldc2_w 103, 3) := by decide +kernel
theorem dX5_placeOfVeneer_13 : decode cX5_placeOfVeneer 13 = .ok (.lmul, 1) := by decide +kernel
theorem dX5_placeOfVeneer_14 : decode cX5_placeOfVeneer 14 = .ok (.ladd, 1) := by decide +kernel
theorem dX5_placeOfVeneer_15 : decode cX5_placeOfVeneer 15 = .ok (.lreturn, 1) := by decide +kernel
theorem dX5_endWithVeneers_0 : decode cX5_endWithVeneers 0 = .ok (.aload_n 0, 1) := by decide +kernel
theorem dX5_endWithVeneers_1 : decode cX5_endWithVeneers 1 = .ok (.getfield 105, 3) := by decide +kernel
theorem dX5_endWithVeneers_4 : decode cX5_endWithVeneers 4 = .ok (.ifCond .ne 10, 3) := by decide +kernel
theorem dX5_endWithVeneers_7 : decode cX5_endWithVeneers 7 = .ok (.aload_n 0, 1) := by decide +kernel
theorem dX5_endWithVeneers_8 : decode cX5_endWithVeneers 8 = .ok (.invokevirtual 95, 3) := by decide +kernel
theorem dX5_endWithVeneers_11 : decode cX5_endWithVeneers 11 = .ok (.goto 11, 3) := by decide +kernel
theorem dX5_endWithVeneers_14 : decode cX5_endWithVeneers 14 = .ok (.aload_n 0, 1) := by decide +kernel
theorem dX5_endWithVeneers_15 : decode cX5_endWithVeneers 15 = .ok (.aload_n 0, 1) := by decide +kernel
theorem dX5_endWithVeneers_16 : decode cX5_endWithVeneers 16 = .ok (.getfield 105, 3) := by decide +kernel
theorem dX5_endWithVeneers_19 : decode cX5_endWithVeneers 19 = .ok (.invokevirtual 108, 3) := by decide +kernel
theorem dX5_endWithVeneers_22 : decode cX5_endWithVeneers 22 = .ok (.lreturn, 1) := by decide +kernel
theorem dX5_alignedUp_0 : decode cX5_alignedUp 0 = .ok (.lconst 1, 1) := by decide +kernel
theorem dX5_alignedUp_1 : decode cX5_alignedUp 1 = .ok (.iload_n 2, 1) := by decide +kernel
theorem dX5_alignedUp_2 : decode cX5_alignedUp 2 = .ok (.lshl, 1) := by decide +kernel
theorem dX5_alignedUp_3 : decode cX5_alignedUp 3 = .ok (.lconst 1, 1) := by decide +kernel
theorem dX5_alignedUp_4 : decode cX5_alignedUp 4 = .ok (.lsub, 1) := by decide +kernel
theorem dX5_alignedUp_5 : decode cX5_alignedUp 5 = .ok (.lstore_n 3, 1) := by decide +kernel
theorem dX5_alignedUp_6 : decode cX5_alignedUp 6 = .ok (.lload_n 0, 1) := by decide +kernel
theorem dX5_alignedUp_7 : decode cX5_alignedUp 7 = .ok (.lload_n 3, 1) := by decide +kernel
theorem dX5_alignedUp_8 : decode cX5_alignedUp 8 = .ok (.ladd, 1) := by decide +kernel
theorem dX5_alignedUp_9 : decode cX5_alignedUp 9 = .ok (.lload_n 3, 1) := by decide +kernel
theorem dX5_alignedUp_10 : decode cX5_alignedUp 10 = .ok (.ldc2_w 112, 3) := by decide +kernel
theorem dX5_alignedUp_13 : decode cX5_alignedUp 13 = .ok (.lxor, 1) := by decide +kernel
theorem dX5_alignedUp_14 : decode cX5_alignedUp 14 = .ok (.land, 1) := by decide +kernel
theorem dX5_alignedUp_15 : decode cX5_alignedUp 15 = .ok (.lreturn, 1) := by decide +kernel
theorem dX6_init_0 : decode cX6_init 0 = .ok (.aload_n 0, 1) := by decide +kernel
theorem dX6_init_1 : decode cX6_init 1 = .ok (.invokespecial 3, 3) := by decide +kernel
theorem dX6_init_4 : decode cX6_init 4 = .ok (.aload_n 0, 1) := by decide +kernel
theorem dX6_init_5 : decode cX6_init 5 = .ok (.iload_n 1, 1) := by decide +kernel
theorem dX6_init_6 : decode cX6_init 6 = .ok (.putfield 9, 3) := by decide +kernel
theorem dX6_init_9 : decode cX6_init 9 = .ok (.aload_n 0, 1) := by decide +kernel
theorem dX6_init_10 : decode cX6_init 10 = .ok (.iload_n 2, 1) := by decide +kernel
theorem dX6_init_11 : decode cX6_init 11 = .ok (.putfield 15, 3) := by decide +kernel
theorem dX6_init_14 : decode cX6_init 14 = .ok (.aload_n 0, 1) := by decide +kernel
theorem dX6_init_15 : decode cX6_init 15 = .ok (.aload_n 3, 1) := by decide +kernel
theorem dX6_init_16 : decode cX6_init 16 = .ok (.putfield 18, 3) := by decide +kernel
theorem dX6_init_19 : decode cX6_init 19 = .ok (.aload_n 0, 1) := by decide +kernel
theorem dX6_init_20 : decode cX6_init 20 = .ok (.iload 4, 2) := by decide +kernel
theorem dX6_init_22 : decode cX6_init 22 = .ok (.putfield 22, 3) := by decide +kernel
theorem dX6_init_25 : decode cX6_init 25 = .ok (.aload_n 0, 1) := by decide +kernel
theorem dX6_init_26 : decode cX6_init 26 = .ok (.iload 5, 2) := by decide +kernel
theorem dX6_init_28 : decode cX6_init 28 = .ok (.putfield 25, 3) := by decide +kernel
theorem dX6_init_31 : decode cX6_init 31 = .ok (.iload 6, 2) := by decide +kernel
theorem dX6_init_33 : decode cX6_init 33 = .ok (.bipush (-10), 2) := by decide +kernel
theorem dX6_init_35 : decode cX6_init 35 = .ok (.if_icmp .gt 7, 3) := by decide +kernel
theorem dX6_init_38 : decode cX6_init 38 = .ok (.iconst 1, 1) := by decide +kernel
theorem dX6_init_39 : decode cX6_init 39 = .ok (.goto 4, 3) := by decide +kernel
theorem dX6_init_42 : decode cX6_init 42 = .ok (.iconst 0, 1) := by decide +kernel
theorem dX6_init_43 : decode cX6_init 43 = .ok (.istore 7, 2) := by decide +kernel
theorem dX6_init_45 : decode cX6_init 45 = .ok (.iload 7, 2) := by decide +kernel
theorem dX6_init_47 : decode cX6_init 47 = .ok (.ifCond .ne 14, 3) := by decide +kernel
theorem dX6_init_50 : decode cX6_init 50 = .ok (.iload 6, 2) := by decide +kernel
theorem dX6_init_52 : decode cX6_init 52 = .ok (.bipush (-2), 2) := by decide +kernel
theorem dX6_init_54 : decode cX6_init 54 = .ok (.if_icmp .gt 7, 3) := by decide +kernel
theorem dX6_init_57 : decode cX6_init 57 = .ok (.iconst 1, 1) := by decide +kernel
theorem dX6_init_58 : decode cX6_init 58 = .ok (.goto 4, 3) := by decide +kernel
theorem dX6_init_61 : decode cX6_init 61 = .ok (.iconst 0, 1) := by decide +kernel
theorem dX6_init_62 : decode cX6_init 62 = .ok (.istore 8, 2) := by decide +kernel
theorem dX6_init_64 : decode cX6_init 64 = .ok (.aload_n 0, 1) := by decide +kernel
theorem dX6_init_65 : decode cX6_init 65 = .ok (.iload 8, 2) := by decide +kernel
theorem dX6_init_67 : decode cX6_init 67 = .ok (.ifCond .eq 11, 3) := by decide +kernel
theorem dX6_init_70 : decode cX6_init 70 = .ok (.bipush (-2), 2) := by decide +kernel
theorem dX6_init_72 : decode cX6_init 72 = .ok (.iload 6, 2) := by decide +kernel
theorem dX6_init_74 : decode cX6_init 74 = .ok (.isub, 1) := by decide +kernel
theorem dX6_init_75 : decode cX6_init 75 = .ok (.goto 4, 3) := by decide +kernel
theorem dX6_init_78 : decode cX6_init 78 = .ok (.iconst (-1), 1) := by decide +kernel
theorem dX6_init_79 : decode cX6_init 79 = .ok (.putfield 28, 3) := by decide +kernel
theorem dX6_init_82 : decode cX6_init 82 = .ok (.aload_n 0, 1) := by decide +kernel
theorem dX6_init_83 : decode cX6_init 83 = .ok (.iload 7, 2) := by decide +kernel
theorem dX6_init_85 : decode cX6_init 85 = .ok (.ifCond .eq 11, 3) := by decide +kernel
theorem dX6_init_88 : decode cX6_init 88 = .ok (.bipush (-10), 2) := by decide +kernel
theorem dX6_init_90 : decode cX6_init 90 = .ok (.iload 6, 2) := by decide +kernel
theorem dX6_init_92 : decode cX6_init 92 = .ok (.isub, 1) := by decide +kernel
theorem dX6_init_93 : decode cX6_init 93 = .ok (.goto 4, 3) := by decide +kernel
theorem dX6_init_96 : decode cX6_init 96 = .ok (.iconst (-1), 1) := by decide +kernel
theorem dX6_init_97 : decode cX6_init 97 = .ok (.putfield 31, 3) := by decide +kernel
theorem dX6_init_100 : decode cX6_init 100 = .ok (.return_, 1) := by decide +kernel
theorem dX6_isDefinition_0 : decode cX6_isDefinition 0 = .ok (.aload_n 0, 1) := by decide +kernel
theorem dX6_isDefinition_1 : decode cX6_isDefinition 1 = .ok (.getfield 25, 3) := by decide +kernel
theorem dX6_isDefinition_4 : decode cX6_isDefinition 4 = .ok (.ifCond .eq 24, 3) := by decide +kernel
theorem dX6_isDefinition_7 : decode cX6_isDefinition 7 = .ok (.aload_n 0, 1) := by decide +kernel
theorem dX6_isDefinition_8 : decode cX6_isDefinition 8 = .ok (.getfield 18, 3) := by decide +kernel
theorem dX6_isDefinition_11 : decode cX6_isDefinition 11 = .ok (.ifnull 17, 3) := by decide +kernel
theorem dX6_isDefinition_14 : decode cX6_isDefinition 14 = .ok (.aload_n 0, 1) := by decide +kernel
theorem dX6_isDefinition_15 : decode cX6_isDefinition 15 = .ok (.getfield 18, 3) := by decide +kernel
theorem dX6_isDefinition_18 : decode cX6_isDefinition 18 = .ok (.getfield 34, 3) := by decide +kernel
theorem dX6_isDefinition_21 : decode cX6_isDefinition 21 = .ok (.ifCond .ne 7, 3) := by decide +kernel
theorem dX6_isDefinition_24 : decode cX6_isDefinition 24 = .ok (.iconst 1, 1) := by decide +kernel
theorem dX6_isDefinition_25 : decode cX6_isDefinition 25 = .ok (.goto 4, 3) := by decide +kernel
theorem dX6_isDefinition_28 : decode cX6_isDefinition 28 = .ok (.iconst 0, 1) := by decide +kernel
theorem dX6_isDefinition_29 : decode cX6_isDefinition 29 = .ok (.ireturn, 1) := by decide +kernel
theorem dX6_targetSet_0 : decode cX6_targetSet 0 = .ok (.aload_n 0, 1) := by decide +kernel
theorem dX6_targetSet_1 : decode cX6_targetSet 1 = .ok (.getfield 28, 3) := by decide +kernel
theorem dX6_targetSet_4 : decode cX6_targetSet 4 = .ok (.iconst (-1), 1) := by decide +kernel
theorem dX6_targetSet_5 : decode cX6_targetSet 5 = .ok (.if_icmp .eq 10, 3) := by decide +kernel
theorem dX6_targetSet_8 : decode cX6_targetSet 8 = .ok (.aload_n 0, 1) := by decide +kernel
theorem dX6_targetSet_9 : decode cX6_targetSet 9 = .ok (.getfield 28, 3) := by decide +kernel
theorem dX6_targetSet_12 : decode cX6_targetSet 12 = .ok (.goto 7, 3) := by decide +kernel
theorem dX6_targetSet_15 : decode cX6_targetSet 15 = .ok (.aload_n 0, 1) := by decide +kernel
theorem dX6_targetSet_16 : decode cX6_targetSet 16 = .ok (.getfield 31, 3) := by decide +kernel
theorem dX6_targetSet_19 : decode cX6_targetSet 19 = .ok (.ireturn, 1) := by decide +kernel
theorem dX6_isNowhere_0 : decode cX6_isNowhere 0 = .ok (.aload_n 0, 1) := by decide +kernel
theorem dX6_isNowhere_1 : decode cX6_isNowhere 1 = .ok (.getfield 40, 3) := by decide +kernel
theorem dX6_isNowhere_4 : decode cX6_isNowhere 4 = .ok (.ifnonnull 15, 3) := by decide +kernel
theorem dX6_isNowhere_7 : decode cX6_isNowhere 7 = .ok (.aload_n 0, 1) := by decide +kernel
theorem dX6_isNowhere_8 : decode cX6_isNowhere 8 = .ok (.invokevirtual 43, 3) := by decide +kernel
theorem dX6_isNowhere_11 : decode cX6_isNowhere 11 = .ok (.iconst (-1), 1) := by decide +kernel
theorem dX6_isNowhere_12 : decode cX6_isNowhere 12 = .ok (.if_icmp .ne 7, 3) := by decide +kernel
theorem dX6_isNowhere_15 : decode cX6_isNowhere 15 = .ok (.iconst 1, 1) := by decide +kernel
theorem dX6_isNowhere_16 : decode cX6_isNowhere 16 = .ok (.goto 4, 3) := by decide +kernel
theorem dX6_isNowhere_19 : decode cX6_isNowhere 19 = .ok (.iconst 0, 1) := by decide +kernel
theorem dX6_isNowhere_20 : decode cX6_isNowhere 20 = .ok (.ireturn, 1) := by decide +kernel
theorem dX6_aimAt_0 : decode cX6_aimAt 0 = .ok (.aload_n 0, 1) := by decide +kernel
theorem dX6_aimAt_1 : decode cX6_aimAt 1 = .ok (.aload_n 1, 1) := by decide +kernel
theorem dX6_aimAt_2 : decode cX6_aimAt 2 = .ok (.ifnonnull 7, 3) := by decide +kernel
theorem dX6_aimAt_5 : decode cX6_aimAt 5 = .ok (.aconst_null, 1) := by decide +kernel
theorem dX6_aimAt_6 : decode cX6_aimAt 6 = .ok (.goto 7, 3) := by decide +kernel
theorem dX6_aimAt_9 : decode cX6_aimAt 9 = .ok (.aload_n 1, 1) := by decide +kernel
theorem dX6_aimAt_10 : decode cX6_aimAt 10 = .ok (.getfield 18, 3) := by decide +kernel
theorem dX6_aimAt_13 : decode cX6_aimAt 13 = .ok (.putfield 40, 3) := by decide +kernel
theorem dX6_aimAt_16 : decode cX6_aimAt 16 = .ok (.aload_n 0, 1) := by decide +kernel
theorem dX6_aimAt_17 : decode cX6_aimAt 17 = .ok (.aload_n 1, 1) := by decide +kernel
theorem dX6_aimAt_18 : decode cX6_aimAt 18 = .ok (.ifnonnull 7, 3) := by decide +kernel
theorem dX6_aimAt_21 : decode cX6_aimAt 21 = .ok (.iconst 0, 1) := by decide +kernel
theorem dX6_aimAt_22 : decode cX6_aimAt 22 = .ok (.goto 7, 3) := by decide +kernel
theorem dX6_aimAt_25 : decode cX6_aimAt 25 = .ok (.aload_n 1, 1) := by decide +kernel
theorem dX6_aimAt_26 : decode cX6_aimAt 26 = .ok (.getfield 22, 3) := by decide +kernel
theorem dX6_aimAt_29 : decode cX6_aimAt 29 = .ok (.putfield 47, 3) := by decide +kernel
theorem dX6_aimAt_32 : decode cX6_aimAt 32 = .ok (.return_, 1) := by decide +kernel
theorem dX6_hasSetAndOffsetOf_0 : decode cX6_hasSetAndOffsetOf 0 = .ok (.aload_n 0, 1) := by decide +kernel
theorem dX6_hasSetAndOffsetOf_1 : decode cX6_hasSetAndOffsetOf 1 = .ok (.getfield 28, 3) := by decide +kernel
theorem dX6_hasSetAndOffsetOf_4 : decode cX6_hasSetAndOffsetOf 4 = .ok (.aload_n 1, 1) := by decide +kernel
theorem dX6_hasSetAndOffsetOf_5 : decode cX6_hasSetAndOffsetOf 5 = .ok (.getfield 28, 3) := by decide +kernel
theorem dX6_hasSetAndOffsetOf_8 : decode cX6_hasSetAndOffsetOf 8 = .ok (.if_icmp .ne 29, 3) := by decide +kernel
theorem dX6_hasSetAndOffsetOf_11 : decode cX6_hasSetAndOffsetOf 11 = .ok (.aload_n 0, 1) := by decide +kernel
theorem dX6_hasSetAndOffsetOf_12 : decode cX6_hasSetAndOffsetOf 12 = .ok (.getfield 31, 3) := by decide +kernel
theorem dX6_hasSetAndOffsetOf_15 : decode cX6_hasSetAndOffsetOf 15 = .ok (.aload_n 1, 1) := by decide +kernel
theorem dX6_hasSetAndOffsetOf_16 : decode cX6_hasSetAndOffsetOf 16 = .ok (.getfield 31, 3) := by decide +kernel
theorem dX6_hasSetAndOffsetOf_19 : decode cX6_hasSetAndOffsetOf 19 = .ok (.if_icmp .ne 18, 3) := by decide +kernel
theorem dX6_hasSetAndOffsetOf_22 : decode cX6_hasSetAndOffsetOf 22 = .ok (.aload_n 0, 1) := by decide +kernel
theorem dX6_hasSetAndOffsetOf_23 : decode cX6_hasSetAndOffsetOf 23 = .ok (.getfield 47, 3) := by decide +kernel
theorem dX6_hasSetAndOffsetOf_26 : decode cX6_hasSetAndOffsetOf 26 = .ok (.aload_n 1, 1) := by decide +kernel
theorem dX6_hasSetAndOffsetOf_27 : decode cX6_hasSetAndOffsetOf 27 = .ok (.getfield 47, 3) := by decide +kernel
theorem dX6_hasSetAndOffsetOf_30 : decode cX6_hasSetAndOffsetOf 30 = .ok (.if_icmp .ne 7, 3) := by decide +kernel
theorem dX6_hasSetAndOffsetOf_33 : decode cX6_hasSetAndOffsetOf 33 = .ok (.iconst 1, 1) := by decide +kernel
theorem dX6_hasSetAndOffsetOf_34 : decode cX6_hasSetAndOffsetOf 34 = .ok (.goto 4, 3) := by decide +kernel
theorem dX6_hasSetAndOffsetOf_37 : decode cX6_hasSetAndOffsetOf 37 = .ok (.iconst 0, 1) := by decide +kernel
theorem dX6_hasSetAndOffsetOf_38 : decode cX6_hasSetAndOffsetOf 38 = .ok (.ireturn, 1) := by decide +kernel
theorem dX6_hasTargetOf_0 : decode cX6_hasTargetOf 0 = .ok (.aload_n 0, 1) := by decide +kernel
theorem dX6_hasTargetOf_1 : decode cX6_hasTargetOf 1 = .ok (.getfield 40, 3) := by decide +kernel
theorem dX6_hasTargetOf_4 : decode cX6_hasTargetOf 4 = .ok (.aload_n 1, 1) := by decide +kernel
theorem dX6_hasTargetOf_5 : decode cX6_hasTargetOf 5 = .ok (.getfield 40, 3) := by decide +kernel
theorem dX6_hasTargetOf_8 : decode cX6_hasTargetOf 8 = .ok (.if_acmp .ne 15, 3) := by decide +kernel
theorem dX6_hasTargetOf_11 : decode cX6_hasTargetOf 11 = .ok (.aload_n 0, 1) := by decide +kernel
theorem dX6_hasTargetOf_12 : decode cX6_hasTargetOf 12 = .ok (.aload_n 1, 1) := by decide +kernel
theorem dX6_hasTargetOf_13 : decode cX6_hasTargetOf 13 = .ok (.invokevirtual 50, 3) := by decide +kernel
theorem dX6_hasTargetOf_16 : decode cX6_hasTargetOf 16 = .ok (.ifCond .eq 7, 3) := by decide +kernel
theorem dX6_hasTargetOf_19 : decode cX6_hasTargetOf 19 = .ok (.iconst 1, 1) := by decide +kernel
theorem dX6_hasTargetOf_20 : decode cX6_hasTargetOf 20 = .ok (.goto 4, 3) := by decide +kernel
theorem dX6_hasTargetOf_23 : decode cX6_hasTargetOf 23 = .ok (.iconst 0, 1) := by decide +kernel
theorem dX6_hasTargetOf_24 : decode cX6_hasTargetOf 24 = .ok (.ireturn, 1) := by decide +kernel
theorem dX7_init_0 : decode cX7_init 0 = .ok (.aload_n 0, 1) := by decide +kernel
theorem dX7_init_1 : decode cX7_init 1 = .ok (.invokespecial 3, 3) := by decide +kernel
theorem dX7_init_4 : decode cX7_init 4 = .ok (.aload_n 0, 1) := by decide +kernel
theorem dX7_init_5 : decode cX7_init 5 = .ok (.new 9, 3) := by decide +kernel
theorem dX7_init_8 : decode cX7_init 8 = .ok (.dup, 1) := by decide +kernel
theorem dX7_init_9 : decode cX7_init 9 = .ok (.invokespecial 11, 3) := by decide +kernel
theorem dX7_init_12 : decode cX7_init 12 = .ok (.putfield 12, 3) := by decide +kernel
theorem dX7_init_15 : decode cX7_init 15 = .ok (.aload_n 0, 1) := by decide +kernel
theorem dX7_init_16 : decode cX7_init 16 = .ok (.new 9, 3) := by decide +kernel
theorem dX7_init_19 : decode cX7_init 19 = .ok (.dup, 1) := by decide +kernel
theorem dX7_init_20 : decode cX7_init 20 = .ok (.invokespecial 11, 3) := by decide +kernel
theorem dX7_init_23 : decode cX7_init 23 = .ok (.putfield 18, 3) := by decide +kernel
theorem dX7_init_26 : decode cX7_init 26 = .ok (.aload_n 0, 1) := by decide +kernel
theorem dX7_init_27 : decode cX7_init 27 = .ok (.new 9, 3) := by decide +kernel
theorem dX7_init_30 : decode cX7_init 30 = .ok (.dup, 1) := by decide +kernel
theorem dX7_init_31 : decode cX7_init 31 = .ok (.invokespecial 11, 3) := by decide +kernel
theorem dX7_init_34 : decode cX7_init 34 = .ok (.putfield 21, 3) := by decide +kernel
theorem dX7_init_37 : decode cX7_init 37 = .ok (.aload_n 0, 1) := by decide +kernel
theorem dX7_init_38 : decode cX7_init 38 = .ok (.bipush 8, 2) := by decide +kernel
theorem dX7_init_40 : decode cX7_init 40 = .ok (.newarray .int, 2) := by decide +kernel
theorem dX7_init_42 : decode cX7_init 42 = .ok (.putfield 24, 3) := by decide +kernel
theorem dX7_init_45 : decode cX7_init 45 = .ok (.aload_n 0, 1) := by decide +kernel
theorem dX7_init_46 : decode cX7_init 46 = .ok (.iconst 4, 1) := by decide +kernel
theorem dX7_init_47 : decode cX7_init 47 = .ok (.newarray .int, 2) := by decide +kernel
theorem dX7_init_49 : decode cX7_init 49 = .ok (.dup, 1) := by decide +kernel
theorem dX7_init_50 : decode cX7_init 50 = .ok (.iconst 0, 1) := by decide +kernel
theorem dX7_init_51 : decode cX7_init 51 = .ok (.iconst (-1), 1) := by decide +kernel
theorem dX7_init_52 : decode cX7_init 52 = .ok (.iastore, 1) := by decide +kernel
theorem dX7_init_53 : decode cX7_init 53 = .ok (.dup, 1) := by decide +kernel
theorem dX7_init_54 : decode cX7_init 54 = .ok (.iconst 1, 1) := by decide +kernel
theorem dX7_init_55 : decode cX7_init 55 = .ok (.iconst (-1), 1) := by decide +kernel
theorem dX7_init_56 : decode cX7_init 56 = .ok (.iastore, 1) := by decide +kernel
theorem dX7_init_57 : decode cX7_init 57 = .ok (.dup, 1) := by decide +kernel
theorem dX7_init_58 : decode cX7_init 58 = .ok (.iconst 2, 1) := by decide +kernel
theorem dX7_init_59 : decode cX7_init 59 = .ok (.iconst (-1), 1) := by decide +kernel
theorem dX7_init_60 : decode cX7_init 60 = .ok (.iastore, 1) := by decide +kernel
theorem dX7_init_61 : decode cX7_init 61 = .ok (.dup, 1) := by decide +kernel
theorem dX7_init_62 : decode cX7_init 62 = .ok (.iconst 3, 1) := by decide +kernel
theorem dX7_init_63 : decode cX7_init 63 = .ok (.iconst (-1), 1) := by decide +kernel
theorem dX7_init_64 : decode cX7_init 64 = .ok (.iastore, 1) := by decide +kernel
theorem dX7_init_65 : decode cX7_init 65 = .ok (.putfield 28, 3) := by decide +kernel
theorem dX7_init_68 : decode cX7_init 68 = .ok (.return_, 1) := by decide +kernel
theorem dX7_hasObject_0 : decode cX7_hasObject 0 = .ok (.iload_n 1, 1) := by decide +kernel
theorem dX7_hasObject_1 : decode cX7_hasObject 1 = .ok (.ifCond .lt 15, 3) := by decide +kernel
theorem dX7_hasObject_4 : decode cX7_hasObject 4 = .ok (.iload_n 1, 1) := by decide +kernel
theorem dX7_hasObject_5 : decode cX7_hasObject 5 = .ok (.aload_n 0, 1) := by decide +kernel
theorem dX7_hasObject_6 : decode cX7_hasObject 6 = .ok (.getfield 31, 3) := by decide +kernel
theorem dX7_hasObject_9 : decode cX7_hasObject 9 = .ok (.if_icmp .ge 7, 3) := by decide +kernel
theorem dX7_hasObject_12 : decode cX7_hasObject 12 = .ok (.iconst 1, 1) := by decide +kernel
theorem dX7_hasObject_13 : decode cX7_hasObject 13 = .ok (.goto 4, 3) := by decide +kernel
theorem dX7_hasObject_16 : decode cX7_hasObject 16 = .ok (.iconst 0, 1) := by decide +kernel
theorem dX7_hasObject_17 : decode cX7_hasObject 17 = .ok (.ireturn, 1) := by decide +kernel
theorem dX7_sectionAt_0 : decode cX7_sectionAt 0 = .ok (.iload_n 1, 1) := by decide +kernel
theorem dX7_sectionAt_1 : decode cX7_sectionAt 1 = .ok (.ifCond .lt 28, 3) := by decide +kernel
theorem dX7_sectionAt_4 : decode cX7_sectionAt 4 = .ok (.iload_n 1, 1) := by decide +kernel
theorem dX7_sectionAt_5 : decode cX7_sectionAt 5 = .ok (.aload_n 0, 1) := by decide +kernel
theorem dX7_sectionAt_6 : decode cX7_sectionAt 6 = .ok (.getfield 12, 3) := by decide +kernel
theorem dX7_sectionAt_9 : decode cX7_sectionAt 9 = .ok (.invokevirtual 35, 3) := by decide +kernel
theorem dX7_sectionAt_12 : decode cX7_sectionAt 12 = .ok (.if_icmp .ge 17, 3) := by decide +kernel
theorem dX7_sectionAt_15 : decode cX7_sectionAt 15 = .ok (.aload_n 0, 1) := by decide +kernel
theorem dX7_sectionAt_16 : decode cX7_sectionAt 16 = .ok (.getfield 12, 3) := by decide +kernel
theorem dX7_sectionAt_19 : decode cX7_sectionAt 19 = .ok (.iload_n 1, 1) := by decide +kernel
theorem dX7_sectionAt_20 : decode cX7_sectionAt 20 = .ok (.invokevirtual 39, 3) := by decide +kernel
theorem dX7_sectionAt_23 : decode cX7_sectionAt 23 = .ok (.checkcast 43, 3) := by decide +kernel
theorem dX7_sectionAt_26 : decode cX7_sectionAt 26 = .ok (.goto 4, 3) := by decide +kernel
theorem dX7_sectionAt_29 : decode cX7_sectionAt 29 = .ok (.aconst_null, 1) := by decide +kernel
theorem dX7_sectionAt_30 : decode cX7_sectionAt 30 = .ok (.areturn, 1) := by decide +kernel
theorem dX7_symbolAt_0 : decode cX7_symbolAt 0 = .ok (.iload_n 1, 1) := by decide +kernel
theorem dX7_symbolAt_1 : decode cX7_symbolAt 1 = .ok (.ifCond .lt 28, 3) := by decide +kernel
theorem dX7_symbolAt_4 : decode cX7_symbolAt 4 = .ok (.iload_n 1, 1) := by decide +kernel
theorem dX7_symbolAt_5 : decode cX7_symbolAt 5 = .ok (.aload_n 0, 1) := by decide +kernel
theorem dX7_symbolAt_6 : decode cX7_symbolAt 6 = .ok (.getfield 18, 3) := by decide +kernel
theorem dX7_symbolAt_9 : decode cX7_symbolAt 9 = .ok (.invokevirtual 35, 3) := by decide +kernel
theorem dX7_symbolAt_12 : decode cX7_symbolAt 12 = .ok (.if_icmp .ge 17, 3) := by decide +kernel
theorem dX7_symbolAt_15 : decode cX7_symbolAt 15 = .ok (.aload_n 0, 1) := by decide +kernel
theorem dX7_symbolAt_16 : decode cX7_symbolAt 16 = .ok (.getfield 18, 3) := by decide +kernel
theorem dX7_symbolAt_19 : decode cX7_symbolAt 19 = .ok (.iload_n 1, 1) := by decide +kernel
theorem dX7_symbolAt_20 : decode cX7_symbolAt 20 = .ok (.invokevirtual 39, 3) := by decide +kernel
theorem dX7_symbolAt_23 : decode cX7_symbolAt 23 = .ok (.checkcast 45, 3) := by decide +kernel
theorem dX7_symbolAt_26 : decode cX7_symbolAt 26 = .ok (.goto 4, 3) := by decide +kernel
theorem dX7_symbolAt_29 : decode cX7_symbolAt 29 = .ok (.aconst_null, 1) := by decide +kernel
theorem dX7_symbolAt_30 : decode cX7_symbolAt 30 = .ok (.areturn, 1) := by decide +kernel
theorem dX7_addRoot_0 : decode cX7_addRoot 0 = .ok (.aload_n 0, 1) := by decide +kernel
theorem dX7_addRoot_1 : decode cX7_addRoot 1 = .ok (.getfield 47, 3) := by decide +kernel
theorem dX7_addRoot_4 : decode cX7_addRoot 4 = .ok (.ifCond .lt 15, 3) := by decide +kernel
theorem dX7_addRoot_7 : decode cX7_addRoot 7 = .ok (.aload_n 0, 1) := by decide +kernel
theorem dX7_addRoot_8 : decode cX7_addRoot 8 = .ok (.getfield 47, 3) := by decide +kernel
theorem dX7_addRoot_11 : decode cX7_addRoot 11 = .ok (.aload_n 0, 1) := by decide +kernel
theorem dX7_addRoot_12 : decode cX7_addRoot 12 = .ok (.getfield 24, 3) := by decide +kernel
theorem dX7_addRoot_15 : decode cX7_addRoot 15 = .ok (.arraylength, 1) := by decide +kernel
theorem dX7_addRoot_16 : decode cX7_addRoot 16 = .ok (.if_icmp .lt 5, 3) := by decide +kernel
theorem dX7_addRoot_19 : decode cX7_addRoot 19 = .ok (.iconst 0, 1) := by decide +kernel
theorem dX7_addRoot_20 : decode cX7_addRoot 20 = .ok (.ireturn, 1) := by decide +kernel
theorem dX7_addRoot_21 : decode cX7_addRoot 21 = .ok (.aload_n 0, 1) := by decide +kernel
theorem dX7_addRoot_22 : decode cX7_addRoot 22 = .ok (.getfield 24, 3) := by decide +kernel
theorem dX7_addRoot_25 : decode cX7_addRoot 25 = .ok (.aload_n 0, 1) := by decide +kernel
theorem dX7_addRoot_26 : decode cX7_addRoot 26 = .ok (.getfield 47, 3) := by decide +kernel
theorem dX7_addRoot_29 : decode cX7_addRoot 29 = .ok (.iload_n 1, 1) := by decide +kernel
theorem dX7_addRoot_30 : decode cX7_addRoot 30 = .ok (.iastore, 1) := by decide +kernel
theorem dX7_addRoot_31 : decode cX7_addRoot 31 = .ok (.aload_n 0, 1) := by decide +kernel
theorem dX7_addRoot_32 : decode cX7_addRoot 32 = .ok (.dup, 1) := by decide +kernel
theorem dX7_addRoot_33 : decode cX7_addRoot 33 = .ok (.getfield 47, 3) := by decide +kernel
theorem dX7_addRoot_36 : decode cX7_addRoot 36 = .ok (.iconst 1, 1) := by decide +kernel
theorem dX7_addRoot_37 : decode cX7_addRoot 37 = .ok (.iadd, 1) := by decide +kernel
theorem dX7_addRoot_38 : decode cX7_addRoot 38 = .ok (.putfield 47, 3) := by decide +kernel
theorem dX7_addRoot_41 : decode cX7_addRoot 41 = .ok (.iconst 1, 1) := by decide +kernel
theorem dX7_addRoot_42 : decode cX7_addRoot 42 = .ok (.ireturn, 1) := by decide +kernel
theorem dX8_fits_0 : decode cX8_fits 0 = .ok (.lload_n 1, 1) := by decide +kernel
theorem dX8_fits_1 : decode cX8_fits 1 = .ok (.aload_n 0, 1) := by decide +kernel
theorem dX8_fits_2 : decode cX8_fits 2 = .ok (.getfield 46, 3) := by decide +kernel
theorem dX8_fits_5 : decode cX8_fits 5 = .ok (.lcmp, 1) := by decide +kernel
theorem dX8_fits_6 : decode cX8_fits 6 = .ok (.ifCond .lt 16, 3) := by decide +kernel
theorem dX8_fits_9 : decode cX8_fits 9 = .ok (.lload_n 1, 1) := by decide +kernel
theorem dX8_fits_10 : decode cX8_fits 10 = .ok (.aload_n 0, 1) := by decide +kernel
theorem dX8_fits_11 : decode cX8_fits 11 = .ok (.getfield 50, 3) := by decide +kernel
theorem dX8_fits_14 : decode cX8_fits 14 = .ok (.lcmp, 1) := by decide +kernel
theorem dX8_fits_15 : decode cX8_fits 15 = .ok (.ifCond .gt 7, 3) := by decide +kernel
theorem dX8_fits_18 : decode cX8_fits 18 = .ok (.iconst 1, 1) := by decide +kernel
theorem dX8_fits_19 : decode cX8_fits 19 = .ok (.goto 4, 3) := by decide +kernel
theorem dX8_fits_22 : decode cX8_fits 22 = .ok (.iconst 0, 1) := by decide +kernel
theorem dX8_fits_23 : decode cX8_fits 23 = .ok (.ireturn, 1) := by decide +kernel
theorem dX9_init_0 : decode cX9_init 0 = .ok (.aload_n 0, 1) := by decide +kernel
theorem dX9_init_1 : decode cX9_init 1 = .ok (.invokespecial 1, 3) := by decide +kernel
theorem dX9_init_4 : decode cX9_init 4 = .ok (.aload_n 0, 1) := by decide +kernel
theorem dX9_init_5 : decode cX9_init 5 = .ok (.new 7, 3) := by decide +kernel
theorem dX9_init_8 : decode cX9_init 8 = .ok (.dup, 1) := by decide +kernel
theorem dX9_init_9 : decode cX9_init 9 = .ok (.invokespecial 9, 3) := by decide +kernel
theorem dX9_init_12 : decode cX9_init 12 = .ok (.putfield 10, 3) := by decide +kernel
theorem dX9_init_15 : decode cX9_init 15 = .ok (.aload_n 0, 1) := by decide +kernel
theorem dX9_init_16 : decode cX9_init 16 = .ok (.new 16, 3) := by decide +kernel
theorem dX9_init_19 : decode cX9_init 19 = .ok (.dup, 1) := by decide +kernel
theorem dX9_init_20 : decode cX9_init 20 = .ok (.invokespecial 18, 3) := by decide +kernel
theorem dX9_init_23 : decode cX9_init 23 = .ok (.putfield 19, 3) := by decide +kernel
theorem dX9_init_26 : decode cX9_init 26 = .ok (.aload_n 0, 1) := by decide +kernel
theorem dX9_init_27 : decode cX9_init 27 = .ok (.new 23, 3) := by decide +kernel
theorem dX9_init_30 : decode cX9_init 30 = .ok (.dup, 1) := by decide +kernel
theorem dX9_init_31 : decode cX9_init 31 = .ok (.invokespecial 25, 3) := by decide +kernel
theorem dX9_init_34 : decode cX9_init 34 = .ok (.putfield 26, 3) := by decide +kernel
theorem dX9_init_37 : decode cX9_init 37 = .ok (.aload_n 0, 1) := by decide +kernel
theorem dX9_init_38 : decode cX9_init 38 = .ok (.new 30, 3) := by decide +kernel
theorem dX9_init_41 : decode cX9_init 41 = .ok (.dup, 1) := by decide +kernel
theorem dX9_init_42 : decode cX9_init 42 = .ok (.invokespecial 32, 3) := by decide +kernel
theorem dX9_init_45 : decode cX9_init 45 = .ok (.putfield 33, 3) := by decide +kernel
theorem dX9_init_48 : decode cX9_init 48 = .ok (.aload_n 0, 1) := by decide +kernel
theorem dX9_init_49 : decode cX9_init 49 = .ok (.new 37, 3) := by decide +kernel
theorem dX9_init_52 : decode cX9_init 52 = .ok (.dup, 1) := by decide +kernel
theorem dX9_init_53 : decode cX9_init 53 = .ok (.invokespecial 39, 3) := by decide +kernel
theorem dX9_init_56 : decode cX9_init 56 = .ok (.putfield 40, 3) := by decide +kernel
theorem dX9_init_59 : decode cX9_init 59 = .ok (.aload_n 0, 1) := by decide +kernel
theorem dX9_init_60 : decode cX9_init 60 = .ok (.iconst (-1), 1) := by decide +kernel
theorem dX9_init_61 : decode cX9_init 61 = .ok (.putfield 44, 3) := by decide +kernel
theorem dX9_init_64 : decode cX9_init 64 = .ok (.return_, 1) := by decide +kernel
theorem dX9_object_0 : decode cX9_object 0 = .ok (.aload_n 0, 1) := by decide +kernel
theorem dX9_object_1 : decode cX9_object 1 = .ok (.getfield 10, 3) := by decide +kernel
theorem dX9_object_4 : decode cX9_object 4 = .ok (.getfield 48, 3) := by decide +kernel
theorem dX9_object_7 : decode cX9_object 7 = .ok (.bipush 12, 2) := by decide +kernel
theorem dX9_object_9 : decode cX9_object 9 = .ok (.if_icmp .lt 6, 3) := by decide +kernel
theorem dX9_object_12 : decode cX9_object 12 = .ok (.bipush (-104), 2) := by decide +kernel
theorem dX9_object_14 : decode cX9_object 14 = .ok (.ireturn, 1) := by decide +kernel
theorem dX9_object_15 : decode cX9_object 15 = .ok (.aload_n 0, 1) := by decide +kernel
theorem dX9_object_16 : decode cX9_object 16 = .ok (.invokevirtual 51, 3) := by decide +kernel
theorem dX9_object_19 : decode cX9_object 19 = .ok (.aload_n 0, 1) := by decide +kernel
theorem dX9_object_20 : decode cX9_object 20 = .ok (.getfield 10, 3) := by decide +kernel
theorem dX9_object_23 : decode cX9_object 23 = .ok (.dup, 1) := by decide +kernel
theorem dX9_object_24 : decode cX9_object 24 = .ok (.getfield 48, 3) := by decide +kernel
theorem dX9_object_27 : decode cX9_object 27 = .ok (.iconst 1, 1) := by decide +kernel
theorem dX9_object_28 : decode cX9_object 28 = .ok (.iadd, 1) := by decide +kernel
theorem dX9_object_29 : decode cX9_object 29 = .ok (.putfield 48, 3) := by decide +kernel
theorem dX9_object_32 : decode cX9_object 32 = .ok (.aload_n 0, 1) := by decide +kernel
theorem dX9_object_33 : decode cX9_object 33 = .ok (.getfield 10, 3) := by decide +kernel
theorem dX9_object_36 : decode cX9_object 36 = .ok (.getfield 48, 3) := by decide +kernel
theorem dX9_object_39 : decode cX9_object 39 = .ok (.iconst 1, 1) := by decide +kernel
theorem dX9_object_40 : decode cX9_object 40 = .ok (.isub, 1) := by decide +kernel
theorem dX9_object_41 : decode cX9_object 41 = .ok (.ireturn, 1) := by decide +kernel
theorem dX9_section_0 : decode cX9_section 0 = .ok (.aload_n 0, 1) := by decide +kernel
theorem dX9_section_1 : decode cX9_section 1 = .ok (.getfield 10, 3) := by decide +kernel
theorem dX9_section_4 : decode cX9_section 4 = .ok (.iload_n 1, 1) := by decide +kernel
theorem dX9_section_5 : decode cX9_section 5 = .ok (.invokevirtual 54, 3) := by decide +kernel
theorem dX9_section_8 : decode cX9_section 8 = .ok (.ifCond .ne 6, 3) := by decide +kernel
theorem dX9_section_11 : decode cX9_section 11 = .ok (.bipush (-101), 2) := by decide +kernel
theorem dX9_section_13 : decode cX9_section 13 = .ok (.ireturn, 1) := by decide +kernel
theorem dX9_section_14 : decode cX9_section 14 = .ok (.iload_n 2, 1) := by decide +kernel
theorem dX9_section_15 : decode cX9_section 15 = .ok (.iconst 0, 1) := by decide +kernel
theorem dX9_section_16 : decode cX9_section 16 = .ok (.iconst 3, 1) := by decide +kernel
theorem dX9_section_17 : decode cX9_section 17 = .ok (.invokestatic 58, 3) := by decide +kernel
theorem dX9_section_20 : decode cX9_section 20 = .ok (.ifCond .eq 25, 3) := by decide +kernel
theorem dX9_section_23 : decode cX9_section 23 = .ok (.iload_n 3, 1) := by decide +kernel
theorem dX9_section_24 : decode cX9_section 24 = .ok (.iconst 0, 1) := by decide +kernel
theorem dX9_section_25 : decode cX9_section 25 = .ok (.sipush 20000, 3) := by decide +kernel
theorem dX9_section_28 : decode cX9_section 28 = .ok (.invokestatic 58, 3) := by decide +kernel
theorem dX9_section_31 : decode cX9_section 31 = .ok (.ifCond .eq 14, 3) := by decide +kernel
theorem dX9_section_34 : decode cX9_section 34 = .ok (.iload 4, 2) := by decide +kernel
theorem dX9_section_36 : decode cX9_section 36 = .ok (.iconst 0, 1) := by decide +kernel
theorem dX9_section_37 : decode cX9_section 37 = .ok (.bipush 8, 2) := by decide +kernel
theorem dX9_section_39 : decode cX9_section 39 = .ok (.invokestatic 58, 3) := by decide +kernel
theorem dX9_section_42 : decode cX9_section 42 = .ok (.ifCond .ne 6, 3) := by decide +kernel
theorem dX9_section_45 : decode cX9_section 45 = .ok (.bipush (-102), 2) := by decide +kernel
theorem dX9_section_47 : decode cX9_section 47 = .ok (.ireturn, 1) := by decide +kernel
theorem dX9_section_48 : decode cX9_section 48 = .ok (.aload_n 0, 1) := by decide +kernel
theorem dX9_section_49 : decode cX9_section 49 = .ok (.getfield 10, 3) := by decide +kernel
theorem dX9_section_52 : decode cX9_section 52 = .ok (.getfield 62, 3) := by decide +kernel
theorem dX9_section_55 : decode cX9_section 55 = .ok (.invokevirtual 66, 3) := by decide +kernel
theorem dX9_section_58 : decode cX9_section 58 = .ok (.bipush 60, 2) := by decide +kernel
theorem dX9_section_60 : decode cX9_section 60 = .ok (.if_icmp .ge 17, 3) := by decide +kernel
theorem dX9_section_63 : decode cX9_section 63 = .ok (.aload_n 0, 1) := by decide +kernel
theorem dX9_section_64 : decode cX9_section 64 = .ok (.getfield 10, 3) := by decide +kernel
theorem dX9_section_67 : decode cX9_section 67 = .ok (.getfield 72, 3) := by decide +kernel
theorem dX9_section_70 : decode cX9_section 70 = .ok (.iload_n 3, 1) := by decide +kernel
theorem dX9_section_71 : decode cX9_section 71 = .ok (.iadd, 1) := by decide +kernel
theorem dX9_section_72 : decode cX9_section 72 = .ok (.ldc 75, 2) := by decide +kernel
theorem dX9_section_74 : decode cX9_section 74 = .ok (.if_icmp .le 6, 3) := by decide +kernel
theorem dX9_section_77 : decode cX9_section 77 = .ok (.bipush (-104), 2) := by decide +kernel
theorem dX9_section_79 : decode cX9_section 79 = .ok (.ireturn, 1) := by decide +kernel
theorem dX9_section_80 : decode cX9_section 80 = .ok (.aload_n 0, 1) := by decide +kernel
theorem dX9_section_81 : decode cX9_section 81 = .ok (.invokevirtual 51, 3) := by decide +kernel
theorem dX9_section_84 : decode cX9_section 84 = .ok (.new 76, 3) := by decide +kernel
theorem dX9_section_87 : decode cX9_section 87 = .ok (.dup, 1) := by decide +kernel
theorem dX9_section_88 : decode cX9_section 88 = .ok (.aload_n 0, 1) := by decide +kernel
theorem dX9_section_89 : decode cX9_section 89 = .ok (.getfield 10, 3) := by decide +kernel
theorem dX9_section_92 : decode cX9_section 92 = .ok (.getfield 62, 3) := by decide +kernel
theorem dX9_section_95 : decode cX9_section 95 = .ok (.invokevirtual 66, 3) := by decide +kernel
theorem dX9_section_98 : decode cX9_section 98 = .ok (.iload_n 1, 1) := by decide +kernel
theorem dX9_section_99 : decode cX9_section 99 = .ok (.iload_n 2, 1) := by decide +kernel
theorem dX9_section_100 : decode cX9_section 100 = .ok (.iload_n 3, 1) := by decide +kernel
theorem dX9_section_101 : decode cX9_section 101 = .ok (.iload 4, 2) := by decide +kernel
theorem dX9_section_103 : decode cX9_section 103 = .ok (.iload 5, 2) := by decide +kernel
theorem dX9_section_105 : decode cX9_section 105 = .ok (.invokespecial 78, 3) := by decide +kernel
theorem dX9_section_108 : decode cX9_section 108 = .ok (.astore 6, 2) := by decide +kernel
theorem dX9_section_110 : decode cX9_section 110 = .ok (.aload_n 0, 1) := by decide +kernel
theorem dX9_section_111 : decode cX9_section 111 = .ok (.getfield 10, 3) := by decide +kernel
theorem dX9_section_114 : decode cX9_section 114 = .ok (.getfield 62, 3) := by decide +kernel
theorem dX9_section_117 : decode cX9_section 117 = .ok (.aload 6, 2) := by decide +kernel
theorem dX9_section_119 : decode cX9_section 119 = .ok (.invokevirtual 81, 3) := by decide +kernel
theorem dX9_section_122 : decode cX9_section 122 = .ok (.pop, 1) := by decide +kernel
theorem dX9_section_123 : decode cX9_section 123 = .ok (.aload_n 0, 1) := by decide +kernel
theorem dX9_section_124 : decode cX9_section 124 = .ok (.getfield 10, 3) := by decide +kernel
theorem dX9_section_127 : decode cX9_section 127 = .ok (.dup, 1) := by decide +kernel
theorem dX9_section_128 : decode cX9_section 128 = .ok (.getfield 72, 3) := by decide +kernel
theorem dX9_section_131 : decode cX9_section 131 = .ok (.iload_n 3, 1) := by decide +kernel
theorem dX9_section_132 : decode cX9_section 132 = .ok (.iadd, 1) := by decide +kernel
theorem dX9_section_133 : decode cX9_section 133 = .ok (.putfield 72, 3) := by decide +kernel
theorem dX9_section_136 : decode cX9_section 136 = .ok (.aload 6, 2) := by decide +kernel
theorem dX9_section_138 : decode cX9_section 138 = .ok (.getfield 85, 3) := by decide +kernel
theorem dX9_section_141 : decode cX9_section 141 = .ok (.ireturn, 1) := by decide +kernel
theorem dX9_patch_0 : decode cX9_patch 0 = .ok (.aload_n 0, 1) := by decide +kernel
theorem dX9_patch_1 : decode cX9_patch 1 = .ok (.getfield 10, 3) := by decide +kernel
theorem dX9_patch_4 : decode cX9_patch 4 = .ok (.iload_n 1, 1) := by decide +kernel
theorem dX9_patch_5 : decode cX9_patch 5 = .ok (.invokevirtual 88, 3) := by decide +kernel
theorem dX9_patch_8 : decode cX9_patch 8 = .ok (.astore 4, 2) := by decide +kernel
theorem dX9_patch_10 : decode cX9_patch 10 = .ok (.aload 4, 2) := by decide +kernel
theorem dX9_patch_12 : decode cX9_patch 12 = .ok (.ifnull 12, 3) := by decide +kernel
theorem dX9_patch_15 : decode cX9_patch 15 = .ok (.aload 4, 2) := by decide +kernel
theorem dX9_patch_17 : decode cX9_patch 17 = .ok (.getfield 92, 3) := by decide +kernel
theorem dX9_patch_20 : decode cX9_patch 20 = .ok (.iconst 3, 1) := by decide +kernel
theorem dX9_patch_21 : decode cX9_patch 21 = .ok (.if_icmp .ne 6, 3) := by decide +kernel
theorem dX9_patch_24 : decode cX9_patch 24 = .ok (.bipush (-101), 2) := by decide +kernel
theorem dX9_patch_26 : decode cX9_patch 26 = .ok (.ireturn, 1) := by decide +kernel
theorem dX9_patch_27 : decode cX9_patch 27 = .ok (.iload_n 2, 1) := by decide +kernel
theorem dX9_patch_28 : decode cX9_patch 28 = .ok (.iconst 0, 1) := by decide +kernel
theorem dX9_patch_29 : decode cX9_patch 29 = .ok (.aload 4, 2) := by decide +kernel
theorem dX9_patch_31 : decode cX9_patch 31 = .ok (.getfield 95, 3) := by decide +kernel
theorem dX9_patch_34 : decode cX9_patch 34 = .ok (.iconst 1, 1) := by decide +kernel
theorem dX9_patch_35 : decode cX9_patch 35 = .ok (.isub, 1) := by decide +kernel
theorem dX9_patch_36 : decode cX9_patch 36 = .ok (.invokestatic 58, 3) := by decide +kernel
theorem dX9_patch_39 : decode cX9_patch 39 = .ok (.ifCond .ne 6, 3) := by decide +kernel
theorem dX9_patch_42 : decode cX9_patch 42 = .ok (.bipush (-102), 2) := by decide +kernel
theorem dX9_patch_44 : decode cX9_patch 44 = .ok (.ireturn, 1) := by decide +kernel
theorem dX9_patch_45 : decode cX9_patch 45 = .ok (.aload_n 0, 1) := by decide +kernel
theorem dX9_patch_46 : decode cX9_patch 46 = .ok (.invokevirtual 51, 3) := by decide +kernel
theorem dX9_patch_49 : decode cX9_patch 49 = .ok (.aload 4, 2) := by decide +kernel
theorem dX9_patch_51 : decode cX9_patch 51 = .ok (.iload_n 2, 1) := by decide +kernel
theorem dX9_patch_52 : decode cX9_patch 52 = .ok (.invokevirtual 97, 3) := by decide +kernel
theorem dX9_patch_55 : decode cX9_patch 55 = .ok (.istore 5, 2) := by decide +kernel
theorem dX9_patch_57 : decode cX9_patch 57 = .ok (.aload 4, 2) := by decide +kernel
theorem dX9_patch_59 : decode cX9_patch 59 = .ok (.iload_n 2, 1) := by decide +kernel
theorem dX9_patch_60 : decode cX9_patch 60 = .ok (.iload_n 3, 1) := by decide +kernel
theorem dX9_patch_61 : decode cX9_patch 61 = .ok (.invokevirtual 101, 3) := by decide +kernel
theorem dX9_patch_64 : decode cX9_patch 64 = .ok (.iload 5, 2) := by decide +kernel
theorem dX9_patch_66 : decode cX9_patch 66 = .ok (.ireturn, 1) := by decide +kernel
theorem dX9_mark_0 : decode cX9_mark 0 = .ok (.aload_n 0, 1) := by decide +kernel
theorem dX9_mark_1 : decode cX9_mark 1 = .ok (.getfield 10, 3) := by decide +kernel
theorem dX9_mark_4 : decode cX9_mark 4 = .ok (.iload_n 1, 1) := by decide +kernel
theorem dX9_mark_5 : decode cX9_mark 5 = .ok (.invokevirtual 88, 3) := by decide +kernel
theorem dX9_mark_8 : decode cX9_mark 8 = .ok (.astore 4, 2) := by decide +kernel
theorem dX9_mark_10 : decode cX9_mark 10 = .ok (.aload 4, 2) := by decide +kernel
theorem dX9_mark_12 : decode cX9_mark 12 = .ok (.ifnonnull 6, 3) := by decide +kernel
theorem dX9_mark_15 : decode cX9_mark 15 = .ok (.bipush (-101), 2) := by decide +kernel
theorem dX9_mark_17 : decode cX9_mark 17 = .ok (.ireturn, 1) := by decide +kernel
theorem dX9_mark_18 : decode cX9_mark 18 = .ok (.iload_n 2, 1) := by decide +kernel
theorem dX9_mark_19 : decode cX9_mark 19 = .ok (.iload_n 3, 1) := by decide +kernel
theorem dX9_mark_20 : decode cX9_mark 20 = .ok (.invokestatic 105, 3) := by decide +kernel
theorem dX9_mark_23 : decode cX9_mark 23 = .ok (.ifCond .ne 6, 3) := by decide +kernel
theorem dX9_mark_26 : decode cX9_mark 26 = .ok (.bipush (-102), 2) := by decide +kernel
theorem dX9_mark_28 : decode cX9_mark 28 = .ok (.ireturn, 1) := by decide +kernel
theorem dX9_mark_29 : decode cX9_mark 29 = .ok (.aload_n 0, 1) := by decide +kernel
theorem dX9_mark_30 : decode cX9_mark 30 = .ok (.invokevirtual 51, 3) := by decide +kernel
theorem dX9_mark_33 : decode cX9_mark 33 = .ok (.aload 4, 2) := by decide +kernel
theorem dX9_mark_35 : decode cX9_mark 35 = .ok (.iload_n 2, 1) := by decide +kernel
theorem dX9_mark_36 : decode cX9_mark 36 = .ok (.iload_n 3, 1) := by decide +kernel
theorem dX9_mark_37 : decode cX9_mark 37 = .ok (.invokevirtual 109, 3) := by decide +kernel
theorem dX9_mark_40 : decode cX9_mark 40 = .ok (.ireturn, 1) := by decide +kernel
theorem dX9_symbol_0 : decode cX9_symbol 0 = .ok (.aload_n 0, 1) := by decide +kernel
theorem dX9_symbol_1 : decode cX9_symbol 1 = .ok (.getfield 10, 3) := by decide +kernel
theorem dX9_symbol_4 : decode cX9_symbol 4 = .ok (.iload_n 1, 1) := by decide +kernel
theorem dX9_symbol_5 : decode cX9_symbol 5 = .ok (.invokevirtual 54, 3) := by decide +kernel
theorem dX9_symbol_8 : decode cX9_symbol 8 = .ok (.ifCond .eq 9, 3) := by decide +kernel
theorem dX9_symbol_11 : decode cX9_symbol 11 = .ok (.iload_n 3, 1) := by decide +kernel
theorem dX9_symbol_12 : decode cX9_symbol 12 = .ok (.bipush (-17), 2) := by decide +kernel
theorem dX9_symbol_14 : decode cX9_symbol 14 = .ok (.if_icmp .ge 6, 3) := by decide +kernel
theorem dX9_symbol_17 : decode cX9_symbol 17 = .ok (.bipush (-101), 2) := by decide +kernel
theorem dX9_symbol_19 : decode cX9_symbol 19 = .ok (.ireturn, 1) := by decide +kernel
theorem dX9_symbol_20 : decode cX9_symbol 20 = .ok (.aload_n 0, 1) := by decide +kernel
theorem dX9_symbol_21 : decode cX9_symbol 21 = .ok (.getfield 10, 3) := by decide +kernel
theorem dX9_symbol_24 : decode cX9_symbol 24 = .ok (.iload_n 3, 1) := by decide +kernel
theorem dX9_symbol_25 : decode cX9_symbol 25 = .ok (.invokevirtual 88, 3) := by decide +kernel
theorem dX9_symbol_28 : decode cX9_symbol 28 = .ok (.astore 6, 2) := by decide +kernel
theorem dX9_symbol_30 : decode cX9_symbol 30 = .ok (.iload_n 3, 1) := by decide +kernel
theorem dX9_symbol_31 : decode cX9_symbol 31 = .ok (.ifCond .lt 20, 3) := by decide +kernel
theorem dX9_symbol_34 : decode cX9_symbol 34 = .ok (.aload 6, 2) := by decide +kernel
theorem dX9_symbol_36 : decode cX9_symbol 36 = .ok (.ifnull 12, 3) := by decide +kernel
theorem dX9_symbol_39 : decode cX9_symbol 39 = .ok (.aload 6, 2) := by decide +kernel
theorem dX9_symbol_41 : decode cX9_symbol 41 = .ok (.getfield 113, 3) := by decide +kernel
theorem dX9_symbol_44 : decode cX9_symbol 44 = .ok (.iload_n 1, 1) := by decide +kernel
theorem dX9_symbol_45 : decode cX9_symbol 45 = .ok (.if_icmp .eq 6, 3) := by decide +kernel
theorem dX9_symbol_48 : decode cX9_symbol 48 = .ok (.bipush (-101), 2) := by decide +kernel
theorem dX9_symbol_50 : decode cX9_symbol 50 = .ok (.ireturn, 1) := by decide +kernel
theorem dX9_symbol_51 : decode cX9_symbol 51 = .ok (.aload 6, 2) := by decide +kernel
theorem dX9_symbol_53 : decode cX9_symbol 53 = .ok (.ifnonnull 7, 3) := by decide +kernel
theorem dX9_symbol_56 : decode cX9_symbol 56 = .ok (.iconst 0, 1) := by decide +kernel
theorem dX9_symbol_57 : decode cX9_symbol 57 = .ok (.goto 8, 3) := by decide +kernel
theorem dX9_symbol_60 : decode cX9_symbol 60 = .ok (.aload 6, 2) := by decide +kernel
theorem dX9_symbol_62 : decode cX9_symbol 62 = .ok (.getfield 95, 3) := by decide +kernel
theorem dX9_symbol_65 : decode cX9_symbol 65 = .ok (.istore 7, 2) := by decide +kernel
theorem dX9_symbol_67 : decode cX9_symbol 67 = .ok (.iload_n 2, 1) := by decide +kernel
theorem dX9_symbol_68 : decode cX9_symbol 68 = .ok (.iconst 0, 1) := by decide +kernel
theorem dX9_symbol_69 : decode cX9_symbol 69 = .ok (.bipush 63, 2) := by decide +kernel
theorem dX9_symbol_71 : decode cX9_symbol 71 = .ok (.invokestatic 58, 3) := by decide +kernel
theorem dX9_symbol_74 : decode cX9_symbol 74 = .ok (.ifCond .eq 23, 3) := by decide +kernel
theorem dX9_symbol_77 : decode cX9_symbol 77 = .ok (.iload 4, 2) := by decide +kernel
theorem dX9_symbol_79 : decode cX9_symbol 79 = .ok (.iconst 0, 1) := by decide +kernel
theorem dX9_symbol_80 : decode cX9_symbol 80 = .ok (.iload 7, 2) := by decide +kernel
theorem dX9_symbol_82 : decode cX9_symbol 82 = .ok (.invokestatic 58, 3) := by decide +kernel
theorem dX9_symbol_85 : decode cX9_symbol 85 = .ok (.ifCond .eq 12, 3) := by decide +kernel
theorem dX9_symbol_88 : decode cX9_symbol 88 = .ok (.iload_n 3, 1) := by decide +kernel
theorem dX9_symbol_89 : decode cX9_symbol 89 = .ok (.iload 5, 2) := by decide +kernel
theorem dX9_symbol_91 : decode cX9_symbol 91 = .ok (.invokestatic 116, 3) := by decide +kernel
theorem dX9_symbol_94 : decode cX9_symbol 94 = .ok (.ifCond .ne 6, 3) := by decide +kernel
theorem dX9_symbol_97 : decode cX9_symbol 97 = .ok (.bipush (-102), 2) := by decide +kernel
theorem dX9_symbol_99 : decode cX9_symbol 99 = .ok (.ireturn, 1) := by decide +kernel
theorem dX9_symbol_100 : decode cX9_symbol 100 = .ok (.aload_n 0, 1) := by decide +kernel
theorem dX9_symbol_101 : decode cX9_symbol 101 = .ok (.getfield 10, 3) := by decide +kernel
theorem dX9_symbol_104 : decode cX9_symbol 104 = .ok (.getfield 119, 3) := by decide +kernel
theorem dX9_symbol_107 : decode cX9_symbol 107 = .ok (.invokevirtual 66, 3) := by decide +kernel
theorem dX9_symbol_110 : decode cX9_symbol 110 = .ok (.bipush 120, 2) := by decide +kernel
theorem dX9_symbol_112 : decode cX9_symbol 112 = .ok (.if_icmp .lt 6, 3) := by decide +kernel
theorem dX9_symbol_115 : decode cX9_symbol 115 = .ok (.bipush (-104), 2) := by decide +kernel
theorem dX9_symbol_117 : decode cX9_symbol 117 = .ok (.ireturn, 1) := by decide +kernel
theorem dX9_symbol_118 : decode cX9_symbol 118 = .ok (.aload_n 0, 1) := by decide +kernel
theorem dX9_symbol_119 : decode cX9_symbol 119 = .ok (.invokevirtual 51, 3) := by decide +kernel
theorem dX9_symbol_122 : decode cX9_symbol 122 = .ok (.new 122, 3) := by decide +kernel
theorem dX9_symbol_125 : decode cX9_symbol 125 = .ok (.dup, 1) := by decide +kernel
theorem dX9_symbol_126 : decode cX9_symbol 126 = .ok (.iload_n 1, 1) := by decide +kernel
theorem dX9_symbol_127 : decode cX9_symbol 127 = .ok (.iload_n 2, 1) := by decide +kernel
theorem dX9_symbol_128 : decode cX9_symbol 128 = .ok (.aload 6, 2) := by decide +kernel
theorem dX9_symbol_130 : decode cX9_symbol 130 = .ok (.iload 4, 2) := by decide +kernel
theorem dX9_symbol_132 : decode cX9_symbol 132 = .ok (.iload 5, 2) := by decide +kernel
theorem dX9_symbol_134 : decode cX9_symbol 134 = .ok (.iload_n 3, 1) := by decide +kernel
theorem dX9_symbol_135 : decode cX9_symbol 135 = .ok (.invokespecial 124, 3) := by decide +kernel
theorem dX9_symbol_138 : decode cX9_symbol 138 = .ok (.astore 8, 2) := by decide +kernel
theorem dX9_symbol_140 : decode cX9_symbol 140 = .ok (.aload_n 0, 1) := by decide +kernel
theorem dX9_symbol_141 : decode cX9_symbol 141 = .ok (.getfield 10, 3) := by decide +kernel
theorem dX9_symbol_144 : decode cX9_symbol 144 = .ok (.getfield 119, 3) := by decide +kernel
theorem dX9_symbol_147 : decode cX9_symbol 147 = .ok (.aload 8, 2) := by decide +kernel
theorem dX9_symbol_149 : decode cX9_symbol 149 = .ok (.invokevirtual 81, 3) := by decide +kernel
theorem dX9_symbol_152 : decode cX9_symbol 152 = .ok (.pop, 1) := by decide +kernel
theorem dX9_symbol_153 : decode cX9_symbol 153 = .ok (.aload_n 0, 1) := by decide +kernel
theorem dX9_symbol_154 : decode cX9_symbol 154 = .ok (.getfield 10, 3) := by decide +kernel
theorem dX9_symbol_157 : decode cX9_symbol 157 = .ok (.getfield 119, 3) := by decide +kernel
theorem dX9_symbol_160 : decode cX9_symbol 160 = .ok (.invokevirtual 66, 3) := by decide +kernel
theorem dX9_symbol_163 : decode cX9_symbol 163 = .ok (.iconst 1, 1) := by decide +kernel
theorem dX9_symbol_164 : decode cX9_symbol 164 = .ok (.isub, 1) := by decide +kernel
theorem dX9_symbol_165 : decode cX9_symbol 165 = .ok (.ireturn, 1) := by decide +kernel
theorem dX9_relocation_0 : decode cX9_relocation 0 = .ok (.aload_n 0, 1) := by decide +kernel
theorem dX9_relocation_1 : decode cX9_relocation 1 = .ok (.getfield 10, 3) := by decide +kernel
theorem dX9_relocation_4 : decode cX9_relocation 4 = .ok (.iload_n 1, 1) := by decide +kernel
theorem dX9_relocation_5 : decode cX9_relocation 5 = .ok (.invokevirtual 88, 3) := by decide +kernel
theorem dX9_relocation_8 : decode cX9_relocation 8 = .ok (.astore 6, 2) := by decide +kernel
theorem dX9_relocation_10 : decode cX9_relocation 10 = .ok (.aload_n 0, 1) := by decide +kernel
theorem dX9_relocation_11 : decode cX9_relocation 11 = .ok (.getfield 10, 3) := by decide +kernel
theorem dX9_relocation_14 : decode cX9_relocation 14 = .ok (.iload 4, 2) := by decide +kernel
theorem dX9_relocation_16 : decode cX9_relocation 16 = .ok (.invokevirtual 127, 3) := by decide +kernel
theorem dX9_relocation_19 : decode cX9_relocation 19 = .ok (.astore 7, 2) := by decide +kernel
theorem dX9_relocation_21 : decode cX9_relocation 21 = .ok (.aload 6, 2) := by decide +kernel
theorem dX9_relocation_23 : decode cX9_relocation 23 = .ok (.ifnull 30, 3) := by decide +kernel
theorem dX9_relocation_26 : decode cX9_relocation 26 = .ok (.aload 6, 2) := by decide +kernel
theorem dX9_relocation_28 : decode cX9_relocation 28 = .ok (.getfield 92, 3) := by decide +kernel
theorem dX9_relocation_31 : decode cX9_relocation 31 = .ok (.iconst 3, 1) := by decide +kernel
theorem dX9_relocation_32 : decode cX9_relocation 32 = .ok (.if_icmp .eq 21, 3) := by decide +kernel
theorem dX9_relocation_35 : decode cX9_relocation 35 = .ok (.aload 7, 2) := by decide +kernel
theorem dX9_relocation_37 : decode cX9_relocation 37 = .ok (.ifnull 16, 3) := by decide +kernel
theorem dX9_relocation_40 : decode cX9_relocation 40 = .ok (.aload 7, 2) := by decide +kernel
theorem dX9_relocation_42 : decode cX9_relocation 42 = .ok (.getfield 131, 3) := by decide +kernel
theorem dX9_relocation_45 : decode cX9_relocation 45 = .ok (.aload 6, 2) := by decide +kernel
theorem dX9_relocation_47 : decode cX9_relocation 47 = .ok (.getfield 113, 3) := by decide +kernel
theorem dX9_relocation_50 : decode cX9_relocation 50 = .ok (.if_icmp .eq 6, 3) := by decide +kernel
theorem dX9_relocation_53 : decode cX9_relocation 53 = .ok (.bipush (-101), 2) := by decide +kernel
theorem dX9_relocation_55 : decode cX9_relocation 55 = .ok (.ireturn, 1) := by decide +kernel
theorem dX9_relocation_56 : decode cX9_relocation 56 = .ok (.iload_n 3, 1) := by decide +kernel
theorem dX9_relocation_57 : decode cX9_relocation 57 = .ok (.invokestatic 132, 3) := by decide +kernel
theorem dX9_relocation_60 : decode cX9_relocation 60 = .ok (.astore 8, 2) := by decide +kernel
theorem dX9_relocation_62 : decode cX9_relocation 62 = .ok (.aload 8, 2) := by decide +kernel
theorem dX9_relocation_64 : decode cX9_relocation 64 = .ok (.ifnull 22, 3) := by decide +kernel
theorem dX9_relocation_67 : decode cX9_relocation 67 = .ok (.iload_n 2, 1) := by decide +kernel
theorem dX9_relocation_68 : decode cX9_relocation 68 = .ok (.iconst 0, 1) := by decide +kernel
theorem dX9_relocation_69 : decode cX9_relocation 69 = .ok (.aload 6, 2) := by decide +kernel
theorem dX9_relocation_71 : decode cX9_relocation 71 = .ok (.getfield 95, 3) := by decide +kernel
theorem dX9_relocation_74 : decode cX9_relocation 74 = .ok (.aload 8, 2) := by decide +kernel
theorem dX9_relocation_76 : decode cX9_relocation 76 = .ok (.getfield 136, 3) := by decide +kernel
theorem dX9_relocation_79 : decode cX9_relocation 79 = .ok (.isub, 1) := by decide +kernel
theorem dX9_relocation_80 : decode cX9_relocation 80 = .ok (.invokestatic 58, 3) := by decide +kernel
theorem dX9_relocation_83 : decode cX9_relocation 83 = .ok (.ifCond .ne 6, 3) := by decide +kernel
theorem dX9_relocation_86 : decode cX9_relocation 86 = .ok (.bipush (-102), 2) := by decide +kernel
theorem dX9_relocation_88 : decode cX9_relocation 88 = .ok (.ireturn, 1) := by decide +kernel
theorem dX9_relocation_89 : decode cX9_relocation 89 = .ok (.aload 8, 2) := by decide +kernel
theorem dX9_relocation_91 : decode cX9_relocation 91 = .ok (.getstatic 141, 3) := by decide +kernel
theorem dX9_relocation_94 : decode cX9_relocation 94 = .ok (.if_acmp .ne 14, 3) := by decide +kernel
theorem dX9_relocation_97 : decode cX9_relocation 97 = .ok (.aload 6, 2) := by decide +kernel
theorem dX9_relocation_99 : decode cX9_relocation 99 = .ok (.getfield 92, 3) := by decide +kernel
theorem dX9_relocation_102 : decode cX9_relocation 102 = .ok (.ifCond .eq 6, 3) := by decide +kernel
theorem dX9_relocation_105 : decode cX9_relocation 105 = .ok (.bipush (-102), 2) := by decide +kernel
theorem dX9_relocation_107 : decode cX9_relocation 107 = .ok (.ireturn, 1) := by decide +kernel
theorem dX9_relocation_108 : decode cX9_relocation 108 = .ok (.aload_n 0, 1) := by decide +kernel
theorem dX9_relocation_109 : decode cX9_relocation 109 = .ok (.getfield 10, 3) := by decide +kernel
theorem dX9_relocation_112 : decode cX9_relocation 112 = .ok (.getfield 145, 3) := by decide +kernel
theorem dX9_relocation_115 : decode cX9_relocation 115 = .ok (.invokevirtual 66, 3) := by decide +kernel
theorem dX9_relocation_118 : decode cX9_relocation 118 = .ok (.sipush 200, 3) := by decide +kernel
theorem dX9_relocation_121 : decode cX9_relocation 121 = .ok (.if_icmp .lt 6, 3) := by decide +kernel
theorem dX9_relocation_124 : decode cX9_relocation 124 = .ok (.bipush (-104), 2) := by decide +kernel
theorem dX9_relocation_126 : decode cX9_relocation 126 = .ok (.ireturn, 1) := by decide +kernel
theorem dX9_relocation_127 : decode cX9_relocation 127 = .ok (.aload_n 0, 1) := by decide +kernel
theorem dX9_relocation_128 : decode cX9_relocation 128 = .ok (.invokevirtual 51, 3) := by decide +kernel
theorem dX9_relocation_131 : decode cX9_relocation 131 = .ok (.new 148, 3) := by decide +kernel
theorem dX9_relocation_134 : decode cX9_relocation 134 = .ok (.dup, 1) := by decide +kernel
theorem dX9_relocation_135 : decode cX9_relocation 135 = .ok (.aload 6, 2) := by decide +kernel
theorem dX9_relocation_137 : decode cX9_relocation 137 = .ok (.iload_n 2, 1) := by decide +kernel
theorem dX9_relocation_138 : decode cX9_relocation 138 = .ok (.aload 8, 2) := by decide +kernel
theorem dX9_relocation_140 : decode cX9_relocation 140 = .ok (.aload 7, 2) := by decide +kernel
theorem dX9_relocation_142 : decode cX9_relocation 142 = .ok (.iload 5, 2) := by decide +kernel
theorem dX9_relocation_144 : decode cX9_relocation 144 = .ok (.invokespecial 150, 3) := by decide +kernel
theorem dX9_relocation_147 : decode cX9_relocation 147 = .ok (.astore 9, 2) := by decide +kernel
theorem dX9_relocation_149 : decode cX9_relocation 149 = .ok (.aload_n 0, 1) := by decide +kernel
theorem dX9_relocation_150 : decode cX9_relocation 150 = .ok (.getfield 10, 3) := by decide +kernel
theorem dX9_relocation_153 : decode cX9_relocation 153 = .ok (.getfield 145, 3) := by decide +kernel
theorem dX9_relocation_156 : decode cX9_relocation 156 = .ok (.aload 9, 2) := by decide +kernel
theorem dX9_relocation_158 : decode cX9_relocation 158 = .ok (.invokevirtual 81, 3) := by decide +kernel
theorem dX9_relocation_161 : decode cX9_relocation 161 = .ok (.pop, 1) := by decide +kernel
theorem dX9_relocation_162 : decode cX9_relocation 162 = .ok (.aload 6, 2) := by decide +kernel
theorem dX9_relocation_164 : decode cX9_relocation 164 = .ok (.getfield 153, 3) := by decide +kernel
theorem dX9_relocation_167 : decode cX9_relocation 167 = .ok (.aload 9, 2) := by decide +kernel
theorem dX9_relocation_169 : decode cX9_relocation 169 = .ok (.invokevirtual 81, 3) := by decide +kernel
theorem dX9_relocation_172 : decode cX9_relocation 172 = .ok (.pop, 1) := by decide +kernel
theorem dX9_relocation_173 : decode cX9_relocation 173 = .ok (.aload_n 0, 1) := by decide +kernel
theorem dX9_relocation_174 : decode cX9_relocation 174 = .ok (.getfield 10, 3) := by decide +kernel
theorem dX9_relocation_177 : decode cX9_relocation 177 = .ok (.getfield 145, 3) := by decide +kernel
theorem dX9_relocation_180 : decode cX9_relocation 180 = .ok (.invokevirtual 66, 3) := by decide +kernel
theorem dX9_relocation_183 : decode cX9_relocation 183 = .ok (.iconst 1, 1) := by decide +kernel
theorem dX9_relocation_184 : decode cX9_relocation 184 = .ok (.isub, 1) := by decide +kernel
theorem dX9_relocation_185 : decode cX9_relocation 185 = .ok (.ireturn, 1) := by decide +kernel
theorem dX9_root_0 : decode cX9_root 0 = .ok (.iload_n 1, 1) := by decide +kernel
theorem dX9_root_1 : decode cX9_root 1 = .ok (.iconst 0, 1) := by decide +kernel
theorem dX9_root_2 : decode cX9_root 2 = .ok (.bipush 63, 2) := by decide +kernel
theorem dX9_root_4 : decode cX9_root 4 = .ok (.invokestatic 58, 3) := by decide +kernel
theorem dX9_root_7 : decode cX9_root 7 = .ok (.ifCond .ne 6, 3) := by decide +kernel
theorem dX9_root_10 : decode cX9_root 10 = .ok (.bipush (-102), 2) := by decide +kernel
theorem dX9_root_12 : decode cX9_root 12 = .ok (.ireturn, 1) := by decide +kernel
theorem dX9_root_13 : decode cX9_root 13 = .ok (.aload_n 0, 1) := by decide +kernel
theorem dX9_root_14 : decode cX9_root 14 = .ok (.getfield 10, 3) := by decide +kernel
theorem dX9_root_17 : decode cX9_root 17 = .ok (.iload_n 1, 1) := by decide +kernel
theorem dX9_root_18 : decode cX9_root 18 = .ok (.invokevirtual 154, 3) := by decide +kernel
theorem dX9_root_21 : decode cX9_root 21 = .ok (.ifCond .ne 6, 3) := by decide +kernel
theorem dX9_root_24 : decode cX9_root 24 = .ok (.bipush (-104), 2) := by decide +kernel
theorem dX9_root_26 : decode cX9_root 26 = .ok (.ireturn, 1) := by decide +kernel
theorem dX9_root_27 : decode cX9_root 27 = .ok (.aload_n 0, 1) := by decide +kernel
theorem dX9_root_28 : decode cX9_root 28 = .ok (.invokevirtual 51, 3) := by decide +kernel
theorem dX9_root_31 : decode cX9_root 31 = .ok (.aload_n 0, 1) := by decide +kernel
theorem dX9_root_32 : decode cX9_root 32 = .ok (.getfield 10, 3) := by decide +kernel
theorem dX9_root_35 : decode cX9_root 35 = .ok (.getfield 157, 3) := by decide +kernel
theorem dX9_root_38 : decode cX9_root 38 = .ok (.ireturn, 1) := by decide +kernel
theorem dX9_base_0 : decode cX9_base 0 = .ok (.iload_n 1, 1) := by decide +kernel
theorem dX9_base_1 : decode cX9_base 1 = .ok (.iconst 0, 1) := by decide +kernel
theorem dX9_base_2 : decode cX9_base 2 = .ok (.iconst 3, 1) := by decide +kernel
theorem dX9_base_3 : decode cX9_base 3 = .ok (.invokestatic 58, 3) := by decide +kernel
theorem dX9_base_6 : decode cX9_base 6 = .ok (.ifCond .eq 13, 3) := by decide +kernel
theorem dX9_base_9 : decode cX9_base 9 = .ok (.iload_n 2, 1) := by decide +kernel
theorem dX9_base_10 : decode cX9_base 10 = .ok (.iconst (-1), 1) := by decide +kernel
theorem dX9_base_11 : decode cX9_base 11 = .ok (.ldc 160, 2) := by decide +kernel
theorem dX9_base_13 : decode cX9_base 13 = .ok (.invokestatic 58, 3) := by decide +kernel
theorem dX9_base_16 : decode cX9_base 16 = .ok (.ifCond .ne 6, 3) := by decide +kernel
theorem dX9_base_19 : decode cX9_base 19 = .ok (.bipush (-102), 2) := by decide +kernel
theorem dX9_base_21 : decode cX9_base 21 = .ok (.ireturn, 1) := by decide +kernel
theorem dX9_base_22 : decode cX9_base 22 = .ok (.aload_n 0, 1) := by decide +kernel
theorem dX9_base_23 : decode cX9_base 23 = .ok (.invokevirtual 51, 3) := by decide +kernel
theorem dX9_base_26 : decode cX9_base 26 = .ok (.aload_n 0, 1) := by decide +kernel
theorem dX9_base_27 : decode cX9_base 27 = .ok (.getfield 10, 3) := by decide +kernel
theorem dX9_base_30 : decode cX9_base 30 = .ok (.getfield 161, 3) := by decide +kernel
theorem dX9_base_33 : decode cX9_base 33 = .ok (.iload_n 1, 1) := by decide +kernel
theorem dX9_base_34 : decode cX9_base 34 = .ok (.iaload, 1) := by decide +kernel
theorem dX9_base_35 : decode cX9_base 35 = .ok (.istore_n 3, 1) := by decide +kernel
theorem dX9_base_36 : decode cX9_base 36 = .ok (.aload_n 0, 1) := by decide +kernel
theorem dX9_base_37 : decode cX9_base 37 = .ok (.getfield 10, 3) := by decide +kernel
theorem dX9_base_40 : decode cX9_base 40 = .ok (.getfield 161, 3) := by decide +kernel
theorem dX9_base_43 : decode cX9_base 43 = .ok (.iload_n 1, 1) := by decide +kernel
theorem dX9_base_44 : decode cX9_base 44 = .ok (.iload_n 2, 1) := by decide +kernel
theorem dX9_base_45 : decode cX9_base 45 = .ok (.iastore, 1) := by decide +kernel
theorem dX9_base_46 : decode cX9_base 46 = .ok (.iload_n 3, 1) := by decide +kernel
theorem dX9_base_47 : decode cX9_base 47 = .ok (.ireturn, 1) := by decide +kernel
theorem dX9_link_0 : decode cX9_link 0 = .ok (.aload_n 0, 1) := by decide +kernel
theorem dX9_link_1 : decode cX9_link 1 = .ok (.invokevirtual 51, 3) := by decide +kernel
theorem dX9_link_4 : decode cX9_link 4 = .ok (.aload_n 0, 1) := by decide +kernel
theorem dX9_link_5 : decode cX9_link 5 = .ok (.aload_n 0, 1) := by decide +kernel
theorem dX9_link_6 : decode cX9_link 6 = .ok (.getfield 19, 3) := by decide +kernel
theorem dX9_link_9 : decode cX9_link 9 = .ok (.aload_n 0, 1) := by decide +kernel
theorem dX9_link_10 : decode cX9_link 10 = .ok (.getfield 10, 3) := by decide +kernel
theorem dX9_link_13 : decode cX9_link 13 = .ok (.invokevirtual 165, 3) := by decide +kernel
theorem dX9_link_16 : decode cX9_link 16 = .ok (.putfield 44, 3) := by decide +kernel
theorem dX9_link_19 : decode cX9_link 19 = .ok (.aload_n 0, 1) := by decide +kernel
theorem dX9_link_20 : decode cX9_link 20 = .ok (.getfield 44, 3) := by decide +kernel
theorem dX9_link_23 : decode cX9_link 23 = .ok (.iconst (-1), 1) := by decide +kernel
theorem dX9_link_24 : decode cX9_link 24 = .ok (.if_icmp .eq 5, 3) := by decide +kernel
theorem dX9_link_27 : decode cX9_link 27 = .ok (.iconst 1, 1) := by decide +kernel
theorem dX9_link_28 : decode cX9_link 28 = .ok (.ireturn, 1) := by decide +kernel
theorem dX9_link_29 : decode cX9_link 29 = .ok (.aload_n 0, 1) := by decide +kernel
theorem dX9_link_30 : decode cX9_link 30 = .ok (.getfield 26, 3) := by decide +kernel
theorem dX9_link_33 : decode cX9_link 33 = .ok (.aload_n 0, 1) := by decide +kernel
theorem dX9_link_34 : decode cX9_link 34 = .ok (.getfield 10, 3) := by decide +kernel
theorem dX9_link_37 : decode cX9_link 37 = .ok (.aload_n 0, 1) := by decide +kernel
theorem dX9_link_38 : decode cX9_link 38 = .ok (.getfield 19, 3) := by decide +kernel
theorem dX9_link_41 : decode cX9_link 41 = .ok (.invokevirtual 169, 3) := by decide +kernel
theorem dX9_link_44 : decode cX9_link 44 = .ok (.aload_n 0, 1) := by decide +kernel
theorem dX9_link_45 : decode cX9_link 45 = .ok (.getfield 33, 3) := by decide +kernel
theorem dX9_link_48 : decode cX9_link 48 = .ok (.aload_n 0, 1) := by decide +kernel
theorem dX9_link_49 : decode cX9_link 49 = .ok (.getfield 10, 3) := by decide +kernel
theorem dX9_link_52 : decode cX9_link 52 = .ok (.getfield 62, 3) := by decide +kernel
theorem dX9_link_55 : decode cX9_link 55 = .ok (.iload_n 1, 1) := by decide +kernel
theorem dX9_link_56 : decode cX9_link 56 = .ok (.invokevirtual 173, 3) := by decide +kernel
theorem dX9_link_59 : decode cX9_link 59 = .ok (.aload_n 0, 1) := by decide +kernel
theorem dX9_link_60 : decode cX9_link 60 = .ok (.iconst 1, 1) := by decide +kernel
theorem dX9_link_61 : decode cX9_link 61 = .ok (.putfield 176, 3) := by decide +kernel
theorem dX9_link_64 : decode cX9_link 64 = .ok (.aload_n 0, 1) := by decide +kernel
theorem dX9_link_65 : decode cX9_link 65 = .ok (.invokevirtual 180, 3) := by decide +kernel
theorem dX9_link_68 : decode cX9_link 68 = .ok (.istore_n 2, 1) := by decide +kernel
theorem dX9_link_69 : decode cX9_link 69 = .ok (.iload_n 2, 1) := by decide +kernel
theorem dX9_link_70 : decode cX9_link 70 = .ok (.ifCond .eq 5, 3) := by decide +kernel
theorem dX9_link_73 : decode cX9_link 73 = .ok (.iload_n 2, 1) := by decide +kernel
theorem dX9_link_74 : decode cX9_link 74 = .ok (.ireturn, 1) := by decide +kernel
theorem dX9_link_75 : decode cX9_link 75 = .ok (.aload_n 0, 1) := by decide +kernel
theorem dX9_link_76 : decode cX9_link 76 = .ok (.getfield 40, 3) := by decide +kernel
theorem dX9_link_79 : decode cX9_link 79 = .ok (.aload_n 0, 1) := by decide +kernel
theorem dX9_link_80 : decode cX9_link 80 = .ok (.getfield 10, 3) := by decide +kernel
theorem dX9_link_83 : decode cX9_link 83 = .ok (.invokevirtual 183, 3) := by decide +kernel
theorem dX9_link_86 : decode cX9_link 86 = .ok (.aload_n 0, 1) := by decide +kernel
theorem dX9_link_87 : decode cX9_link 87 = .ok (.invokevirtual 187, 3) := by decide +kernel
theorem dX9_link_90 : decode cX9_link 90 = .ok (.istore_n 2, 1) := by decide +kernel
theorem dX9_link_91 : decode cX9_link 91 = .ok (.aload_n 0, 1) := by decide +kernel
theorem dX9_link_92 : decode cX9_link 92 = .ok (.iload_n 2, 1) := by decide +kernel
theorem dX9_link_93 : decode cX9_link 93 = .ok (.ifCond .ne 7, 3) := by decide +kernel
theorem dX9_link_96 : decode cX9_link 96 = .ok (.iconst 1, 1) := by decide +kernel
theorem dX9_link_97 : decode cX9_link 97 = .ok (.goto 4, 3) := by decide +kernel
theorem dX9_link_100 : decode cX9_link 100 = .ok (.iconst 0, 1) := by decide +kernel
theorem dX9_link_101 : decode cX9_link 101 = .ok (.putfield 190, 3) := by decide +kernel
theorem dX9_link_104 : decode cX9_link 104 = .ok (.iload_n 2, 1) := by decide +kernel
theorem dX9_link_105 : decode cX9_link 105 = .ok (.ireturn, 1) := by decide +kernel
theorem dX9_fault_0 : decode cX9_fault 0 = .ok (.aload_n 0, 1) := by decide +kernel
theorem dX9_fault_1 : decode cX9_fault 1 = .ok (.getfield 44, 3) := by decide +kernel
theorem dX9_fault_4 : decode cX9_fault 4 = .ok (.ireturn, 1) := by decide +kernel
theorem dX9_kept_0 : decode cX9_kept 0 = .ok (.aload_n 0, 1) := by decide +kernel
theorem dX9_kept_1 : decode cX9_kept 1 = .ok (.getfield 10, 3) := by decide +kernel
theorem dX9_kept_4 : decode cX9_kept 4 = .ok (.iload_n 1, 1) := by decide +kernel
theorem dX9_kept_5 : decode cX9_kept 5 = .ok (.invokevirtual 88, 3) := by decide +kernel
theorem dX9_kept_8 : decode cX9_kept 8 = .ok (.astore_n 3, 1) := by decide +kernel
theorem dX9_kept_9 : decode cX9_kept 9 = .ok (.aload_n 3, 1) := by decide +kernel
theorem dX9_kept_10 : decode cX9_kept 10 = .ok (.ifnonnull 6, 3) := by decide +kernel
theorem dX9_kept_13 : decode cX9_kept 13 = .ok (.bipush (-101), 2) := by decide +kernel
theorem dX9_kept_15 : decode cX9_kept 15 = .ok (.ireturn, 1) := by decide +kernel
theorem dX9_kept_16 : decode cX9_kept 16 = .ok (.iload_n 2, 1) := by decide +kernel
theorem dX9_kept_17 : decode cX9_kept 17 = .ok (.iconst 0, 1) := by decide +kernel
theorem dX9_kept_18 : decode cX9_kept 18 = .ok (.iconst 4, 1) := by decide +kernel
theorem dX9_kept_19 : decode cX9_kept 19 = .ok (.invokestatic 58, 3) := by decide +kernel
theorem dX9_kept_22 : decode cX9_kept 22 = .ok (.ifCond .ne 6, 3) := by decide +kernel
theorem dX9_kept_25 : decode cX9_kept 25 = .ok (.bipush (-102), 2) := by decide +kernel
theorem dX9_kept_27 : decode cX9_kept 27 = .ok (.ireturn, 1) := by decide +kernel
theorem dX9_kept_28 : decode cX9_kept 28 = .ok (.aload_n 0, 1) := by decide +kernel
theorem dX9_kept_29 : decode cX9_kept 29 = .ok (.getfield 176, 3) := by decide +kernel
theorem dX9_kept_32 : decode cX9_kept 32 = .ok (.ifCond .ne 6, 3) := by decide +kernel
theorem dX9_kept_35 : decode cX9_kept 35 = .ok (.bipush (-103), 2) := by decide +kernel
theorem dX9_kept_37 : decode cX9_kept 37 = .ok (.ireturn, 1) := by decide +kernel
theorem dX9_kept_38 : decode cX9_kept 38 = .ok (.iload_n 2, 1) := by decide +kernel
theorem dX9_kept_39 : decode cX9_kept 39 = .ok (.tableswitch 71 0 3 #[29, 42, 50, 58], 29) := by decide +kernel
theorem dX9_kept_68 : decode cX9_kept 68 = .ok (.aload_n 3, 1) := by decide +kernel
theorem dX9_kept_69 : decode cX9_kept 69 = .ok (.invokevirtual 193, 3) := by decide +kernel
theorem dX9_kept_72 : decode cX9_kept 72 = .ok (.ifCond .eq 7, 3) := by decide +kernel
theorem dX9_kept_75 : decode cX9_kept 75 = .ok (.iconst 1, 1) := by decide +kernel
theorem dX9_kept_76 : decode cX9_kept 76 = .ok (.goto 4, 3) := by decide +kernel
theorem dX9_kept_79 : decode cX9_kept 79 = .ok (.iconst 0, 1) := by decide +kernel
theorem dX9_kept_80 : decode cX9_kept 80 = .ok (.ireturn, 1) := by decide +kernel
theorem dX9_kept_81 : decode cX9_kept 81 = .ok (.aload_n 3, 1) := by decide +kernel
theorem dX9_kept_82 : decode cX9_kept 82 = .ok (.getfield 197, 3) := by decide +kernel
theorem dX9_kept_85 : decode cX9_kept 85 = .ok (.invokestatic 201, 3) := by decide +kernel
theorem dX9_kept_88 : decode cX9_kept 88 = .ok (.ireturn, 1) := by decide +kernel
theorem dX9_kept_89 : decode cX9_kept 89 = .ok (.aload_n 3, 1) := by decide +kernel
theorem dX9_kept_90 : decode cX9_kept 90 = .ok (.getfield 205, 3) := by decide +kernel
theorem dX9_kept_93 : decode cX9_kept 93 = .ok (.invokestatic 201, 3) := by decide +kernel
theorem dX9_kept_96 : decode cX9_kept 96 = .ok (.ireturn, 1) := by decide +kernel
theorem dX9_kept_97 : decode cX9_kept 97 = .ok (.aload_n 3, 1) := by decide +kernel
theorem dX9_kept_98 : decode cX9_kept 98 = .ok (.getfield 208, 3) := by decide +kernel
theorem dX9_kept_101 : decode cX9_kept 101 = .ok (.ifCond .eq 7, 3) := by decide +kernel
theorem dX9_kept_104 : decode cX9_kept 104 = .ok (.iconst 1, 1) := by decide +kernel
theorem dX9_kept_105 : decode cX9_kept 105 = .ok (.goto 4, 3) := by decide +kernel
theorem dX9_kept_108 : decode cX9_kept 108 = .ok (.iconst 0, 1) := by decide +kernel
theorem dX9_kept_109 : decode cX9_kept 109 = .ok (.ireturn, 1) := by decide +kernel
theorem dX9_kept_110 : decode cX9_kept 110 = .ok (.aload_n 3, 1) := by decide +kernel
theorem dX9_kept_111 : decode cX9_kept 111 = .ok (.getfield 211, 3) := by decide +kernel
theorem dX9_kept_114 : decode cX9_kept 114 = .ok (.ireturn, 1) := by decide +kernel
theorem dX9_place_0 : decode cX9_place 0 = .ok (.aload_n 0, 1) := by decide +kernel
theorem dX9_place_1 : decode cX9_place 1 = .ok (.getfield 10, 3) := by decide +kernel
theorem dX9_place_4 : decode cX9_place 4 = .ok (.iload_n 1, 1) := by decide +kernel
theorem dX9_place_5 : decode cX9_place 5 = .ok (.invokevirtual 88, 3) := by decide +kernel
theorem dX9_place_8 : decode cX9_place 8 = .ok (.astore_n 2, 1) := by decide +kernel
theorem dX9_place_9 : decode cX9_place 9 = .ok (.aload_n 2, 1) := by decide +kernel
theorem dX9_place_10 : decode cX9_place 10 = .ok (.ifnonnull 13, 3) := by decide +kernel
theorem dX9_place_13 : decode cX9_place 13 = .ok (.new 214, 3) := by decide +kernel
theorem dX9_place_16 : decode cX9_place 16 = .ok (.dup, 1) := by decide +kernel
theorem dX9_place_17 : decode cX9_place 17 = .ok (.ldc 216, 2) := by decide +kernel
theorem dX9_place_19 : decode cX9_place 19 = .ok (.invokespecial 218, 3) := by decide +kernel
theorem dX9_place_22 : decode cX9_place 22 = .ok (.athrow, 1) := by decide +kernel
theorem dX9_place_23 : decode cX9_place 23 = .ok (.aload_n 0, 1) := by decide +kernel
theorem dX9_place_24 : decode cX9_place 24 = .ok (.getfield 190, 3) := by decide +kernel
theorem dX9_place_27 : decode cX9_place 27 = .ok (.ifCond .eq 10, 3) := by decide +kernel
theorem dX9_place_30 : decode cX9_place 30 = .ok (.aload_n 2, 1) := by decide +kernel
theorem dX9_place_31 : decode cX9_place 31 = .ok (.invokevirtual 193, 3) := by decide +kernel
theorem dX9_place_34 : decode cX9_place 34 = .ok (.ifCond .ne 13, 3) := by decide +kernel
theorem dX9_place_37 : decode cX9_place 37 = .ok (.new 221, 3) := by decide +kernel
theorem dX9_place_40 : decode cX9_place 40 = .ok (.dup, 1) := by decide +kernel
theorem dX9_place_41 : decode cX9_place 41 = .ok (.ldc 223, 2) := by decide +kernel
theorem dX9_place_43 : decode cX9_place 43 = .ok (.invokespecial 225, 3) := by decide +kernel
theorem dX9_place_46 : decode cX9_place 46 = .ok (.athrow, 1) := by decide +kernel
theorem dX9_place_47 : decode cX9_place 47 = .ok (.aload_n 2, 1) := by decide +kernel
theorem dX9_place_48 : decode cX9_place 48 = .ok (.invokevirtual 226, 3) := by decide +kernel
theorem dX9_place_51 : decode cX9_place 51 = .ok (.lreturn, 1) := by decide +kernel
theorem dX9_value_0 : decode cX9_value 0 = .ok (.aload_n 0, 1) := by decide +kernel
theorem dX9_value_1 : decode cX9_value 1 = .ok (.getfield 10, 3) := by decide +kernel
theorem dX9_value_4 : decode cX9_value 4 = .ok (.iload_n 1, 1) := by decide +kernel
theorem dX9_value_5 : decode cX9_value 5 = .ok (.invokevirtual 127, 3) := by decide +kernel
theorem dX9_value_8 : decode cX9_value 8 = .ok (.astore_n 2, 1) := by decide +kernel
theorem dX9_value_9 : decode cX9_value 9 = .ok (.aload_n 2, 1) := by decide +kernel
theorem dX9_value_10 : decode cX9_value 10 = .ok (.ifnonnull 13, 3) := by decide +kernel
theorem dX9_value_13 : decode cX9_value 13 = .ok (.new 214, 3) := by decide +kernel
theorem dX9_value_16 : decode cX9_value 16 = .ok (.dup, 1) := by decide +kernel
theorem dX9_value_17 : decode cX9_value 17 = .ok (.ldc 230, 2) := by decide +kernel
theorem dX9_value_19 : decode cX9_value 19 = .ok (.invokespecial 218, 3) := by decide +kernel
theorem dX9_value_22 : decode cX9_value 22 = .ok (.athrow, 1) := by decide +kernel
theorem dX9_value_23 : decode cX9_value 23 = .ok (.aload_n 0, 1) := by decide +kernel
theorem dX9_value_24 : decode cX9_value 24 = .ok (.getfield 190, 3) := by decide +kernel
theorem dX9_value_27 : decode cX9_value 27 = .ok (.ifCond .eq 20, 3) := by decide +kernel
theorem dX9_value_30 : decode cX9_value 30 = .ok (.aload_n 2, 1) := by decide +kernel
theorem dX9_value_31 : decode cX9_value 31 = .ok (.getfield 232, 3) := by decide +kernel
theorem dX9_value_34 : decode cX9_value 34 = .ok (.ifnull 23, 3) := by decide +kernel
theorem dX9_value_37 : decode cX9_value 37 = .ok (.aload_n 2, 1) := by decide +kernel
theorem dX9_value_38 : decode cX9_value 38 = .ok (.getfield 232, 3) := by decide +kernel
theorem dX9_value_41 : decode cX9_value 41 = .ok (.invokevirtual 193, 3) := by decide +kernel
theorem dX9_value_44 : decode cX9_value 44 = .ok (.ifCond .ne 13, 3) := by decide +kernel
theorem dX9_value_47 : decode cX9_value 47 = .ok (.new 221, 3) := by decide +kernel
theorem dX9_value_50 : decode cX9_value 50 = .ok (.dup, 1) := by decide +kernel
theorem dX9_value_51 : decode cX9_value 51 = .ok (.ldc 235, 2) := by decide +kernel
theorem dX9_value_53 : decode cX9_value 53 = .ok (.invokespecial 225, 3) := by decide +kernel
theorem dX9_value_56 : decode cX9_value 56 = .ok (.athrow, 1) := by decide +kernel
theorem dX9_value_57 : decode cX9_value 57 = .ok (.aload_n 0, 1) := by decide +kernel
theorem dX9_value_58 : decode cX9_value 58 = .ok (.getfield 40, 3) := by decide +kernel
theorem dX9_value_61 : decode cX9_value 61 = .ok (.aload_n 2, 1) := by decide +kernel
theorem dX9_value_62 : decode cX9_value 62 = .ok (.invokevirtual 237, 3) := by decide +kernel
theorem dX9_value_65 : decode cX9_value 65 = .ok (.lreturn, 1) := by decide +kernel
theorem dX9_octet_0 : decode cX9_octet 0 = .ok (.aload_n 0, 1) := by decide +kernel
theorem dX9_octet_1 : decode cX9_octet 1 = .ok (.getfield 190, 3) := by decide +kernel
theorem dX9_octet_4 : decode cX9_octet 4 = .ok (.ifCond .ne 6, 3) := by decide +kernel
theorem dX9_octet_7 : decode cX9_octet 7 = .ok (.bipush (-103), 2) := by decide +kernel
theorem dX9_octet_9 : decode cX9_octet 9 = .ok (.ireturn, 1) := by decide +kernel
theorem dX9_octet_10 : decode cX9_octet 10 = .ok (.iconst 0, 1) := by decide +kernel
theorem dX9_octet_11 : decode cX9_octet 11 = .ok (.istore_n 3, 1) := by decide +kernel
theorem dX9_octet_12 : decode cX9_octet 12 = .ok (.iload_n 3, 1) := by decide +kernel
theorem dX9_octet_13 : decode cX9_octet 13 = .ok (.aload_n 0, 1) := by decide +kernel
theorem dX9_octet_14 : decode cX9_octet 14 = .ok (.getfield 10, 3) := by decide +kernel
theorem dX9_octet_17 : decode cX9_octet 17 = .ok (.getfield 62, 3) := by decide +kernel
theorem dX9_octet_20 : decode cX9_octet 20 = .ok (.invokevirtual 66, 3) := by decide +kernel
theorem dX9_octet_23 : decode cX9_octet 23 = .ok (.if_icmp .ge 64, 3) := by decide +kernel
theorem dX9_octet_26 : decode cX9_octet 26 = .ok (.aload_n 0, 1) := by decide +kernel
theorem dX9_octet_27 : decode cX9_octet 27 = .ok (.getfield 10, 3) := by decide +kernel
theorem dX9_octet_30 : decode cX9_octet 30 = .ok (.getfield 62, 3) := by decide +kernel
theorem dX9_octet_33 : decode cX9_octet 33 = .ok (.iload_n 3, 1) := by decide +kernel
theorem dX9_octet_34 : decode cX9_octet 34 = .ok (.invokevirtual 241, 3) := by decide +kernel
theorem dX9_octet_37 : decode cX9_octet 37 = .ok (.checkcast 76, 3) := by decide +kernel
theorem dX9_octet_40 : decode cX9_octet 40 = .ok (.astore 4, 2) := by decide +kernel
theorem dX9_octet_42 : decode cX9_octet 42 = .ok (.aload 4, 2) := by decide +kernel
theorem dX9_octet_44 : decode cX9_octet 44 = .ok (.invokevirtual 245, 3) := by decide +kernel
theorem dX9_octet_47 : decode cX9_octet 47 = .ok (.ifCond .eq 34, 3) := by decide +kernel
theorem dX9_octet_50 : decode cX9_octet 50 = .ok (.lload_n 1, 1) := by decide +kernel
theorem dX9_octet_51 : decode cX9_octet 51 = .ok (.aload 4, 2) := by decide +kernel
theorem dX9_octet_53 : decode cX9_octet 53 = .ok (.getfield 248, 3) := by decide +kernel
theorem dX9_octet_56 : decode cX9_octet 56 = .ok (.lcmp, 1) := by decide +kernel
theorem dX9_octet_57 : decode cX9_octet 57 = .ok (.ifCond .lt 24, 3) := by decide +kernel
theorem dX9_octet_60 : decode cX9_octet 60 = .ok (.lload_n 1, 1) := by decide +kernel
theorem dX9_octet_61 : decode cX9_octet 61 = .ok (.aload 4, 2) := by decide +kernel
theorem dX9_octet_63 : decode cX9_octet 63 = .ok (.invokevirtual 252, 3) := by decide +kernel
theorem dX9_octet_66 : decode cX9_octet 66 = .ok (.lcmp, 1) := by decide +kernel
theorem dX9_octet_67 : decode cX9_octet 67 = .ok (.ifCond .ge 14, 3) := by decide +kernel
theorem dX9_octet_70 : decode cX9_octet 70 = .ok (.aload_n 0, 1) := by decide +kernel
theorem dX9_octet_71 : decode cX9_octet 71 = .ok (.getfield 40, 3) := by decide +kernel
theorem dX9_octet_74 : decode cX9_octet 74 = .ok (.aload 4, 2) := by decide +kernel
theorem dX9_octet_76 : decode cX9_octet 76 = .ok (.lload_n 1, 1) := by decide +kernel
theorem dX9_octet_77 : decode cX9_octet 77 = .ok (.invokevirtual 255, 3) := by decide +kernel
theorem dX9_octet_80 : decode cX9_octet 80 = .ok (.ireturn, 1) := by decide +kernel
theorem dX9_octet_81 : decode cX9_octet 81 = .ok (.iinc 3 1, 3) := by decide +kernel
theorem dX9_octet_84 : decode cX9_octet 84 = .ok (.goto (-72), 3) := by decide +kernel
theorem dX9_octet_87 : decode cX9_octet 87 = .ok (.iconst (-1), 1) := by decide +kernel
theorem dX9_octet_88 : decode cX9_octet 88 = .ok (.ireturn, 1) := by decide +kernel
theorem dX9_range_0 : decode cX9_range 0 = .ok (.iload_n 1, 1) := by decide +kernel
theorem dX9_range_1 : decode cX9_range 1 = .ok (.iconst 0, 1) := by decide +kernel
theorem dX9_range_2 : decode cX9_range 2 = .ok (.iconst 3, 1) := by decide +kernel
theorem dX9_range_3 : decode cX9_range 3 = .ok (.invokestatic 58, 3) := by decide +kernel
theorem dX9_range_6 : decode cX9_range 6 = .ok (.ifCond .ne 14, 3) := by decide +kernel
theorem dX9_range_9 : decode cX9_range 9 = .ok (.new 214, 3) := by decide +kernel
theorem dX9_range_12 : decode cX9_range 12 = .ok (.dup, 1) := by decide +kernel
theorem dX9_range_13 : decode cX9_range 13 = .ok (.ldc_w 259, 3) := by decide +kernel
theorem dX9_range_16 : decode cX9_range 16 = .ok (.invokespecial 218, 3) := by decide +kernel
theorem dX9_range_19 : decode cX9_range 19 = .ok (.athrow, 1) := by decide +kernel
theorem dX9_range_20 : decode cX9_range 20 = .ok (.aload_n 0, 1) := by decide +kernel
theorem dX9_range_21 : decode cX9_range 21 = .ok (.getfield 190, 3) := by decide +kernel
theorem dX9_range_24 : decode cX9_range 24 = .ok (.ifCond .ne 14, 3) := by decide +kernel
theorem dX9_range_27 : decode cX9_range 27 = .ok (.new 221, 3) := by decide +kernel
theorem dX9_range_30 : decode cX9_range 30 = .ok (.dup, 1) := by decide +kernel
theorem dX9_range_31 : decode cX9_range 31 = .ok (.ldc_w 261, 3) := by decide +kernel
theorem dX9_range_34 : decode cX9_range 34 = .ok (.invokespecial 225, 3) := by decide +kernel
theorem dX9_range_37 : decode cX9_range 37 = .ok (.athrow, 1) := by decide +kernel
theorem dX9_range_38 : decode cX9_range 38 = .ok (.iload_n 2, 1) := by decide +kernel
theorem dX9_range_39 : decode cX9_range 39 = .ok (.ifCond .eq 15, 3) := by decide +kernel
theorem dX9_range_42 : decode cX9_range 42 = .ok (.aload_n 0, 1) := by decide +kernel
theorem dX9_range_43 : decode cX9_range 43 = .ok (.getfield 40, 3) := by decide +kernel
theorem dX9_range_46 : decode cX9_range 46 = .ok (.getfield 263, 3) := by decide +kernel
theorem dX9_range_49 : decode cX9_range 49 = .ok (.iload_n 1, 1) := by decide +kernel
theorem dX9_range_50 : decode cX9_range 50 = .ok (.laload, 1) := by decide +kernel
theorem dX9_range_51 : decode cX9_range 51 = .ok (.goto 12, 3) := by decide +kernel
theorem dX9_range_54 : decode cX9_range 54 = .ok (.aload_n 0, 1) := by decide +kernel
theorem dX9_range_55 : decode cX9_range 55 = .ok (.getfield 40, 3) := by decide +kernel
theorem dX9_range_58 : decode cX9_range 58 = .ok (.getfield 267, 3) := by decide +kernel
theorem dX9_range_61 : decode cX9_range 61 = .ok (.iload_n 1, 1) := by decide +kernel
theorem dX9_range_62 : decode cX9_range 62 = .ok (.laload, 1) := by decide +kernel
theorem dX9_range_63 : decode cX9_range 63 = .ok (.lreturn, 1) := by decide +kernel
theorem dX9_veneers_0 : decode cX9_veneers 0 = .ok (.aload_n 0, 1) := by decide +kernel
theorem dX9_veneers_1 : decode cX9_veneers 1 = .ok (.getfield 10, 3) := by decide +kernel
theorem dX9_veneers_4 : decode cX9_veneers 4 = .ok (.iload_n 1, 1) := by decide +kernel
theorem dX9_veneers_5 : decode cX9_veneers 5 = .ok (.invokevirtual 88, 3) := by decide +kernel
theorem dX9_veneers_8 : decode cX9_veneers 8 = .ok (.astore_n 2, 1) := by decide +kernel
theorem dX9_veneers_9 : decode cX9_veneers 9 = .ok (.aload_n 2, 1) := by decide +kernel
theorem dX9_veneers_10 : decode cX9_veneers 10 = .ok (.ifnonnull 6, 3) := by decide +kernel
theorem dX9_veneers_13 : decode cX9_veneers 13 = .ok (.bipush (-101), 2) := by decide +kernel
theorem dX9_veneers_15 : decode cX9_veneers 15 = .ok (.ireturn, 1) := by decide +kernel
theorem dX9_veneers_16 : decode cX9_veneers 16 = .ok (.aload_n 0, 1) := by decide +kernel
theorem dX9_veneers_17 : decode cX9_veneers 17 = .ok (.getfield 190, 3) := by decide +kernel
theorem dX9_veneers_20 : decode cX9_veneers 20 = .ok (.ifCond .eq 10, 3) := by decide +kernel
theorem dX9_veneers_23 : decode cX9_veneers 23 = .ok (.aload_n 2, 1) := by decide +kernel
theorem dX9_veneers_24 : decode cX9_veneers 24 = .ok (.getfield 270, 3) := by decide +kernel
theorem dX9_veneers_27 : decode cX9_veneers 27 = .ok (.goto 5, 3) := by decide +kernel
theorem dX9_veneers_30 : decode cX9_veneers 30 = .ok (.bipush (-103), 2) := by decide +kernel
theorem dX9_veneers_32 : decode cX9_veneers 32 = .ok (.ireturn, 1) := by decide +kernel
theorem dX9_count_0 : decode cX9_count 0 = .ok (.iload_n 1, 1) := by decide +kernel
theorem dX9_count_1 : decode cX9_count 1 = .ok (.tableswitch 179 0 8 #[51, 59, 70, 81, 92, 100, 122, 141, 160], 51) := by decide +kernel
theorem dX9_count_52 : decode cX9_count 52 = .ok (.aload_n 0, 1) := by decide +kernel
theorem dX9_count_53 : decode cX9_count 53 = .ok (.getfield 10, 3) := by decide +kernel
theorem dX9_count_56 : decode cX9_count 56 = .ok (.getfield 48, 3) := by decide +kernel
theorem dX9_count_59 : decode cX9_count 59 = .ok (.ireturn, 1) := by decide +kernel
theorem dX9_count_60 : decode cX9_count 60 = .ok (.aload_n 0, 1) := by decide +kernel
theorem dX9_count_61 : decode cX9_count 61 = .ok (.getfield 10, 3) := by decide +kernel
theorem dX9_count_64 : decode cX9_count 64 = .ok (.getfield 62, 3) := by decide +kernel
theorem dX9_count_67 : decode cX9_count 67 = .ok (.invokevirtual 66, 3) := by decide +kernel
theorem dX9_count_70 : decode cX9_count 70 = .ok (.ireturn, 1) := by decide +kernel
theorem dX9_count_71 : decode cX9_count 71 = .ok (.aload_n 0, 1) := by decide +kernel
theorem dX9_count_72 : decode cX9_count 72 = .ok (.getfield 10, 3) := by decide +kernel
theorem dX9_count_75 : decode cX9_count 75 = .ok (.getfield 119, 3) := by decide +kernel
theorem dX9_count_78 : decode cX9_count 78 = .ok (.invokevirtual 66, 3) := by decide +kernel
theorem dX9_count_81 : decode cX9_count 81 = .ok (.ireturn, 1) := by decide +kernel
theorem dX9_count_82 : decode cX9_count 82 = .ok (.aload_n 0, 1) := by decide +kernel
theorem dX9_count_83 : decode cX9_count 83 = .ok (.getfield 10, 3) := by decide +kernel
theorem dX9_count_86 : decode cX9_count 86 = .ok (.getfield 145, 3) := by decide +kernel
theorem dX9_count_89 : decode cX9_count 89 = .ok (.invokevirtual 66, 3) := by decide +kernel
theorem dX9_count_92 : decode cX9_count 92 = .ok (.ireturn, 1) := by decide +kernel
theorem dX9_count_93 : decode cX9_count 93 = .ok (.aload_n 0, 1) := by decide +kernel
theorem dX9_count_94 : decode cX9_count 94 = .ok (.getfield 10, 3) := by decide +kernel
theorem dX9_count_97 : decode cX9_count 97 = .ok (.getfield 157, 3) := by decide +kernel
theorem dX9_count_100 : decode cX9_count 100 = .ok (.ireturn, 1) := by decide +kernel
theorem dX9_count_101 : decode cX9_count 101 = .ok (.aload_n 0, 1) := by decide +kernel
theorem dX9_count_102 : decode cX9_count 102 = .ok (.getfield 176, 3) := by decide +kernel
theorem dX9_count_105 : decode cX9_count 105 = .ok (.ifCond .eq 16, 3) := by decide +kernel
theorem dX9_count_108 : decode cX9_count 108 = .ok (.aload_n 0, 1) := by decide +kernel
theorem dX9_count_109 : decode cX9_count 109 = .ok (.getfield 26, 3) := by decide +kernel
theorem dX9_count_112 : decode cX9_count 112 = .ok (.getfield 273, 3) := by decide +kernel
theorem dX9_count_115 : decode cX9_count 115 = .ok (.invokevirtual 66, 3) := by decide +kernel
theorem dX9_count_118 : decode cX9_count 118 = .ok (.goto 4, 3) := by decide +kernel
theorem dX9_count_121 : decode cX9_count 121 = .ok (.iconst 0, 1) := by decide +kernel
theorem dX9_count_122 : decode cX9_count 122 = .ok (.ireturn, 1) := by decide +kernel
theorem dX9_count_123 : decode cX9_count 123 = .ok (.aload_n 0, 1) := by decide +kernel
theorem dX9_count_124 : decode cX9_count 124 = .ok (.getfield 176, 3) := by decide +kernel
theorem dX9_count_127 : decode cX9_count 127 = .ok (.ifCond .eq 13, 3) := by decide +kernel
theorem dX9_count_130 : decode cX9_count 130 = .ok (.aload_n 0, 1) := by decide +kernel
theorem dX9_count_131 : decode cX9_count 131 = .ok (.getfield 33, 3) := by decide +kernel
theorem dX9_count_134 : decode cX9_count 134 = .ok (.getfield 276, 3) := by decide +kernel
theorem dX9_count_137 : decode cX9_count 137 = .ok (.goto 4, 3) := by decide +kernel
theorem dX9_count_140 : decode cX9_count 140 = .ok (.iconst 0, 1) := by decide +kernel
theorem dX9_count_141 : decode cX9_count 141 = .ok (.ireturn, 1) := by decide +kernel
theorem dX9_count_142 : decode cX9_count 142 = .ok (.aload_n 0, 1) := by decide +kernel
theorem dX9_count_143 : decode cX9_count 143 = .ok (.getfield 190, 3) := by decide +kernel
theorem dX9_count_146 : decode cX9_count 146 = .ok (.ifCond .eq 13, 3) := by decide +kernel
theorem dX9_count_149 : decode cX9_count 149 = .ok (.aload_n 0, 1) := by decide +kernel
theorem dX9_count_150 : decode cX9_count 150 = .ok (.getfield 40, 3) := by decide +kernel
theorem dX9_count_153 : decode cX9_count 153 = .ok (.getfield 279, 3) := by decide +kernel
theorem dX9_count_156 : decode cX9_count 156 = .ok (.goto 4, 3) := by decide +kernel
theorem dX9_count_159 : decode cX9_count 159 = .ok (.iconst 0, 1) := by decide +kernel
theorem dX9_count_160 : decode cX9_count 160 = .ok (.ireturn, 1) := by decide +kernel
theorem dX9_count_161 : decode cX9_count 161 = .ok (.aload_n 0, 1) := by decide +kernel
theorem dX9_count_162 : decode cX9_count 162 = .ok (.getfield 190, 3) := by decide +kernel
theorem dX9_count_165 : decode cX9_count 165 = .ok (.ifCond .eq 13, 3) := by decide +kernel
theorem dX9_count_168 : decode cX9_count 168 = .ok (.aload_n 0, 1) := by decide +kernel
theorem dX9_count_169 : decode cX9_count 169 = .ok (.getfield 40, 3) := by decide +kernel
theorem dX9_count_172 : decode cX9_count 172 = .ok (.getfield 282, 3) := by decide +kernel
theorem dX9_count_175 : decode cX9_count 175 = .ok (.goto 4, 3) := by decide +kernel
theorem dX9_count_178 : decode cX9_count 178 = .ok (.iconst 0, 1) := by decide +kernel
theorem dX9_count_179 : decode cX9_count 179 = .ok (.ireturn, 1) := by decide +kernel
theorem dX9_count_180 : decode cX9_count 180 = .ok (.bipush (-102), 2) := by decide +kernel
theorem dX9_count_182 : decode cX9_count 182 = .ok (.ireturn, 1) := by decide +kernel
theorem dX9_forgetLink_0 : decode cX9_forgetLink 0 = .ok (.aload_n 0, 1) := by decide +kernel
theorem dX9_forgetLink_1 : decode cX9_forgetLink 1 = .ok (.iconst 0, 1) := by decide +kernel
theorem dX9_forgetLink_2 : decode cX9_forgetLink 2 = .ok (.putfield 176, 3) := by decide +kernel
theorem dX9_forgetLink_5 : decode cX9_forgetLink 5 = .ok (.aload_n 0, 1) := by decide +kernel
theorem dX9_forgetLink_6 : decode cX9_forgetLink 6 = .ok (.iconst 0, 1) := by decide +kernel
theorem dX9_forgetLink_7 : decode cX9_forgetLink 7 = .ok (.putfield 190, 3) := by decide +kernel
theorem dX9_forgetLink_10 : decode cX9_forgetLink 10 = .ok (.aload_n 0, 1) := by decide +kernel
theorem dX9_forgetLink_11 : decode cX9_forgetLink 11 = .ok (.iconst (-1), 1) := by decide +kernel
theorem dX9_forgetLink_12 : decode cX9_forgetLink 12 = .ok (.putfield 44, 3) := by decide +kernel
theorem dX9_forgetLink_15 : decode cX9_forgetLink 15 = .ok (.return_, 1) := by decide +kernel
theorem dX9_faultBeforePlacing_0 : decode cX9_faultBeforePlacing 0 = .ok (.aload_n 0, 1) := by decide +kernel
theorem dX9_faultBeforePlacing_1 : decode cX9_faultBeforePlacing 1 = .ok (.aload_n 0, 1) := by decide +kernel
theorem dX9_faultBeforePlacing_2 : decode cX9_faultBeforePlacing 2 = .ok (.getfield 19, 3) := by decide +kernel
theorem dX9_faultBeforePlacing_5 : decode cX9_faultBeforePlacing 5 = .ok (.aload_n 0, 1) := by decide +kernel
theorem dX9_faultBeforePlacing_6 : decode cX9_faultBeforePlacing 6 = .ok (.getfield 10, 3) := by decide +kernel
theorem dX9_faultBeforePlacing_9 : decode cX9_faultBeforePlacing 9 = .ok (.invokevirtual 285, 3) := by decide +kernel
theorem dX9_faultBeforePlacing_12 : decode cX9_faultBeforePlacing 12 = .ok (.putfield 44, 3) := by decide +kernel
theorem dX9_faultBeforePlacing_15 : decode cX9_faultBeforePlacing 15 = .ok (.aload_n 0, 1) := by decide +kernel
theorem dX9_faultBeforePlacing_16 : decode cX9_faultBeforePlacing 16 = .ok (.getfield 44, 3) := by decide +kernel
theorem dX9_faultBeforePlacing_19 : decode cX9_faultBeforePlacing 19 = .ok (.iconst (-1), 1) := by decide +kernel
theorem dX9_faultBeforePlacing_20 : decode cX9_faultBeforePlacing 20 = .ok (.if_icmp .eq 5, 3) := by decide +kernel
theorem dX9_faultBeforePlacing_23 : decode cX9_faultBeforePlacing 23 = .ok (.iconst 2, 1) := by decide +kernel
theorem dX9_faultBeforePlacing_24 : decode cX9_faultBeforePlacing 24 = .ok (.ireturn, 1) := by decide +kernel
theorem dX9_faultBeforePlacing_25 : decode cX9_faultBeforePlacing 25 = .ok (.aload_n 0, 1) := by decide +kernel
theorem dX9_faultBeforePlacing_26 : decode cX9_faultBeforePlacing 26 = .ok (.aload_n 0, 1) := by decide +kernel
theorem dX9_faultBeforePlacing_27 : decode cX9_faultBeforePlacing 27 = .ok (.getfield 26, 3) := by decide +kernel
theorem dX9_faultBeforePlacing_30 : decode cX9_faultBeforePlacing 30 = .ok (.aload_n 0, 1) := by decide +kernel
theorem dX9_faultBeforePlacing_31 : decode cX9_faultBeforePlacing 31 = .ok (.getfield 10, 3) := by decide +kernel
theorem dX9_faultBeforePlacing_34 : decode cX9_faultBeforePlacing 34 = .ok (.getfield 145, 3) := by decide +kernel
theorem dX9_faultBeforePlacing_37 : decode cX9_faultBeforePlacing 37 = .ok (.invokevirtual 288, 3) := by decide +kernel
theorem dX9_faultBeforePlacing_40 : decode cX9_faultBeforePlacing 40 = .ok (.putfield 44, 3) := by decide +kernel
theorem dX9_faultBeforePlacing_43 : decode cX9_faultBeforePlacing 43 = .ok (.aload_n 0, 1) := by decide +kernel
theorem dX9_faultBeforePlacing_44 : decode cX9_faultBeforePlacing 44 = .ok (.getfield 44, 3) := by decide +kernel
theorem dX9_faultBeforePlacing_47 : decode cX9_faultBeforePlacing 47 = .ok (.iconst (-1), 1) := by decide +kernel
theorem dX9_faultBeforePlacing_48 : decode cX9_faultBeforePlacing 48 = .ok (.if_icmp .eq 5, 3) := by decide +kernel
theorem dX9_faultBeforePlacing_51 : decode cX9_faultBeforePlacing 51 = .ok (.iconst 3, 1) := by decide +kernel
theorem dX9_faultBeforePlacing_52 : decode cX9_faultBeforePlacing 52 = .ok (.ireturn, 1) := by decide +kernel
theorem dX9_faultBeforePlacing_53 : decode cX9_faultBeforePlacing 53 = .ok (.aload_n 0, 1) := by decide +kernel
theorem dX9_faultBeforePlacing_54 : decode cX9_faultBeforePlacing 54 = .ok (.aload_n 0, 1) := by decide +kernel
theorem dX9_faultBeforePlacing_55 : decode cX9_faultBeforePlacing 55 = .ok (.getfield 26, 3) := by decide +kernel
theorem dX9_faultBeforePlacing_58 : decode cX9_faultBeforePlacing 58 = .ok (.aload_n 0, 1) := by decide +kernel
theorem dX9_faultBeforePlacing_59 : decode cX9_faultBeforePlacing 59 = .ok (.getfield 10, 3) := by decide +kernel
theorem dX9_faultBeforePlacing_62 : decode cX9_faultBeforePlacing 62 = .ok (.getfield 145, 3) := by decide +kernel
theorem dX9_faultBeforePlacing_65 : decode cX9_faultBeforePlacing 65 = .ok (.invokevirtual 292, 3) := by decide +kernel
theorem dX9_faultBeforePlacing_68 : decode cX9_faultBeforePlacing 68 = .ok (.putfield 44, 3) := by decide +kernel
theorem dX9_faultBeforePlacing_71 : decode cX9_faultBeforePlacing 71 = .ok (.aload_n 0, 1) := by decide +kernel
theorem dX9_faultBeforePlacing_72 : decode cX9_faultBeforePlacing 72 = .ok (.getfield 44, 3) := by decide +kernel
theorem dX9_faultBeforePlacing_75 : decode cX9_faultBeforePlacing 75 = .ok (.iconst (-1), 1) := by decide +kernel
theorem dX9_faultBeforePlacing_76 : decode cX9_faultBeforePlacing 76 = .ok (.if_icmp .eq 7, 3) := by decide +kernel
theorem dX9_faultBeforePlacing_79 : decode cX9_faultBeforePlacing 79 = .ok (.iconst 4, 1) := by decide +kernel
theorem dX9_faultBeforePlacing_80 : decode cX9_faultBeforePlacing 80 = .ok (.goto 4, 3) := by decide +kernel
theorem dX9_faultBeforePlacing_83 : decode cX9_faultBeforePlacing 83 = .ok (.iconst 0, 1) := by decide +kernel
theorem dX9_faultBeforePlacing_84 : decode cX9_faultBeforePlacing 84 = .ok (.ireturn, 1) := by decide +kernel
theorem dX9_faultOfPlaces_0 : decode cX9_faultOfPlaces 0 = .ok (.aload_n 0, 1) := by decide +kernel
theorem dX9_faultOfPlaces_1 : decode cX9_faultOfPlaces 1 = .ok (.aload_n 0, 1) := by decide +kernel
theorem dX9_faultOfPlaces_2 : decode cX9_faultOfPlaces 2 = .ok (.getfield 40, 3) := by decide +kernel
theorem dX9_faultOfPlaces_5 : decode cX9_faultOfPlaces 5 = .ok (.invokevirtual 295, 3) := by decide +kernel
theorem dX9_faultOfPlaces_8 : decode cX9_faultOfPlaces 8 = .ok (.putfield 44, 3) := by decide +kernel
theorem dX9_faultOfPlaces_11 : decode cX9_faultOfPlaces 11 = .ok (.aload_n 0, 1) := by decide +kernel
theorem dX9_faultOfPlaces_12 : decode cX9_faultOfPlaces 12 = .ok (.getfield 44, 3) := by decide +kernel
theorem dX9_faultOfPlaces_15 : decode cX9_faultOfPlaces 15 = .ok (.iconst (-1), 1) := by decide +kernel
theorem dX9_faultOfPlaces_16 : decode cX9_faultOfPlaces 16 = .ok (.if_icmp .eq 5, 3) := by decide +kernel
theorem dX9_faultOfPlaces_19 : decode cX9_faultOfPlaces 19 = .ok (.iconst 5, 1) := by decide +kernel
theorem dX9_faultOfPlaces_20 : decode cX9_faultOfPlaces 20 = .ok (.ireturn, 1) := by decide +kernel
theorem dX9_faultOfPlaces_21 : decode cX9_faultOfPlaces 21 = .ok (.aload_n 0, 1) := by decide +kernel
theorem dX9_faultOfPlaces_22 : decode cX9_faultOfPlaces 22 = .ok (.aload_n 0, 1) := by decide +kernel
theorem dX9_faultOfPlaces_23 : decode cX9_faultOfPlaces 23 = .ok (.getfield 40, 3) := by decide +kernel
theorem dX9_faultOfPlaces_26 : decode cX9_faultOfPlaces 26 = .ok (.aload_n 0, 1) := by decide +kernel
theorem dX9_faultOfPlaces_27 : decode cX9_faultOfPlaces 27 = .ok (.getfield 10, 3) := by decide +kernel
theorem dX9_faultOfPlaces_30 : decode cX9_faultOfPlaces 30 = .ok (.getfield 145, 3) := by decide +kernel
theorem dX9_faultOfPlaces_33 : decode cX9_faultOfPlaces 33 = .ok (.invokevirtual 298, 3) := by decide +kernel
theorem dX9_faultOfPlaces_36 : decode cX9_faultOfPlaces 36 = .ok (.putfield 44, 3) := by decide +kernel
theorem dX9_faultOfPlaces_39 : decode cX9_faultOfPlaces 39 = .ok (.aload_n 0, 1) := by decide +kernel
theorem dX9_faultOfPlaces_40 : decode cX9_faultOfPlaces 40 = .ok (.getfield 44, 3) := by decide +kernel
theorem dX9_faultOfPlaces_43 : decode cX9_faultOfPlaces 43 = .ok (.iconst (-1), 1) := by decide +kernel
theorem dX9_faultOfPlaces_44 : decode cX9_faultOfPlaces 44 = .ok (.if_icmp .eq 8, 3) := by decide +kernel
theorem dX9_faultOfPlaces_47 : decode cX9_faultOfPlaces 47 = .ok (.bipush 6, 2) := by decide +kernel
theorem dX9_faultOfPlaces_49 : decode cX9_faultOfPlaces 49 = .ok (.goto 4, 3) := by decide +kernel
theorem dX9_faultOfPlaces_52 : decode cX9_faultOfPlaces 52 = .ok (.iconst 0, 1) := by decide +kernel
theorem dX9_faultOfPlaces_53 : decode cX9_faultOfPlaces 53 = .ok (.ireturn, 1) := by decide +kernel
theorem dX9_isWithin_0 : decode cX9_isWithin 0 = .ok (.iload_n 0, 1) := by decide +kernel
theorem dX9_isWithin_1 : decode cX9_isWithin 1 = .ok (.iload_n 1, 1) := by decide +kernel
theorem dX9_isWithin_2 : decode cX9_isWithin 2 = .ok (.if_icmp .lt 12, 3) := by decide +kernel
theorem dX9_isWithin_5 : decode cX9_isWithin 5 = .ok (.iload_n 0, 1) := by decide +kernel
theorem dX9_isWithin_6 : decode cX9_isWithin 6 = .ok (.iload_n 2, 1) := by decide +kernel
theorem dX9_isWithin_7 : decode cX9_isWithin 7 = .ok (.if_icmp .gt 7, 3) := by decide +kernel
theorem dX9_isWithin_10 : decode cX9_isWithin 10 = .ok (.iconst 1, 1) := by decide +kernel
theorem dX9_isWithin_11 : decode cX9_isWithin 11 = .ok (.goto 4, 3) := by decide +kernel
theorem dX9_isWithin_14 : decode cX9_isWithin 14 = .ok (.iconst 0, 1) := by decide +kernel
theorem dX9_isWithin_15 : decode cX9_isWithin 15 = .ok (.ireturn, 1) := by decide +kernel
theorem dX9_isMark_0 : decode cX9_isMark 0 = .ok (.iload_n 0, 1) := by decide +kernel
theorem dX9_isMark_1 : decode cX9_isMark 1 = .ok (.tableswitch 50 0 2 #[27, 34, 42], 27) := by decide +kernel
theorem dX9_isMark_28 : decode cX9_isMark 28 = .ok (.iload_n 1, 1) := by decide +kernel
theorem dX9_isMark_29 : decode cX9_isMark 29 = .ok (.iconst 0, 1) := by decide +kernel
theorem dX9_isMark_30 : decode cX9_isMark 30 = .ok (.iconst 1, 1) := by decide +kernel
theorem dX9_isMark_31 : decode cX9_isMark 31 = .ok (.invokestatic 58, 3) := by decide +kernel
theorem dX9_isMark_34 : decode cX9_isMark 34 = .ok (.ireturn, 1) := by decide +kernel
theorem dX9_isMark_35 : decode cX9_isMark 35 = .ok (.iload_n 1, 1) := by decide +kernel
theorem dX9_isMark_36 : decode cX9_isMark 36 = .ok (.iconst (-1), 1) := by decide +kernel
theorem dX9_isMark_37 : decode cX9_isMark 37 = .ok (.bipush 7, 2) := by decide +kernel
theorem dX9_isMark_39 : decode cX9_isMark 39 = .ok (.invokestatic 58, 3) := by decide +kernel
theorem dX9_isMark_42 : decode cX9_isMark 42 = .ok (.ireturn, 1) := by decide +kernel
theorem dX9_isMark_43 : decode cX9_isMark 43 = .ok (.iload_n 1, 1) := by decide +kernel
theorem dX9_isMark_44 : decode cX9_isMark 44 = .ok (.iconst (-1), 1) := by decide +kernel
theorem dX9_isMark_45 : decode cX9_isMark 45 = .ok (.bipush 15, 2) := by decide +kernel
theorem dX9_isMark_47 : decode cX9_isMark 47 = .ok (.invokestatic 58, 3) := by decide +kernel
theorem dX9_isMark_50 : decode cX9_isMark 50 = .ok (.ireturn, 1) := by decide +kernel
theorem dX9_isMark_51 : decode cX9_isMark 51 = .ok (.iconst 0, 1) := by decide +kernel
theorem dX9_isMark_52 : decode cX9_isMark 52 = .ok (.ireturn, 1) := by decide +kernel
theorem dX9_isSortFor_0 : decode cX9_isSortFor 0 = .ok (.iload_n 0, 1) := by decide +kernel
theorem dX9_isSortFor_1 : decode cX9_isSortFor 1 = .ok (.ifCond .lt 10, 3) := by decide +kernel
theorem dX9_isSortFor_4 : decode cX9_isSortFor 4 = .ok (.iload_n 1, 1) := by decide +kernel
theorem dX9_isSortFor_5 : decode cX9_isSortFor 5 = .ok (.iconst 0, 1) := by decide +kernel
theorem dX9_isSortFor_6 : decode cX9_isSortFor 6 = .ok (.iconst 2, 1) := by decide +kernel
theorem dX9_isSortFor_7 : decode cX9_isSortFor 7 = .ok (.invokestatic 58, 3) := by decide +kernel
theorem dX9_isSortFor_10 : decode cX9_isSortFor 10 = .ok (.ireturn, 1) := by decide +kernel
theorem dX9_isSortFor_11 : decode cX9_isSortFor 11 = .ok (.iload_n 0, 1) := by decide +kernel
theorem dX9_isSortFor_12 : decode cX9_isSortFor 12 = .ok (.iconst (-1), 1) := by decide +kernel
theorem dX9_isSortFor_13 : decode cX9_isSortFor 13 = .ok (.if_icmp .ne 12, 3) := by decide +kernel
theorem dX9_isSortFor_16 : decode cX9_isSortFor 16 = .ok (.iload_n 1, 1) := by decide +kernel
theorem dX9_isSortFor_17 : decode cX9_isSortFor 17 = .ok (.iconst 1, 1) := by decide +kernel
theorem dX9_isSortFor_18 : decode cX9_isSortFor 18 = .ok (.iconst 2, 1) := by decide +kernel
theorem dX9_isSortFor_19 : decode cX9_isSortFor 19 = .ok (.invokestatic 58, 3) := by decide +kernel
theorem dX9_isSortFor_22 : decode cX9_isSortFor 22 = .ok (.goto 12, 3) := by decide +kernel
theorem dX9_isSortFor_25 : decode cX9_isSortFor 25 = .ok (.iload_n 1, 1) := by decide +kernel
theorem dX9_isSortFor_26 : decode cX9_isSortFor 26 = .ok (.ifCond .ne 7, 3) := by decide +kernel
theorem dX9_isSortFor_29 : decode cX9_isSortFor 29 = .ok (.iconst 1, 1) := by decide +kernel
theorem dX9_isSortFor_30 : decode cX9_isSortFor 30 = .ok (.goto 4, 3) := by decide +kernel
theorem dX9_isSortFor_33 : decode cX9_isSortFor 33 = .ok (.iconst 0, 1) := by decide +kernel
theorem dX9_isSortFor_34 : decode cX9_isSortFor 34 = .ok (.ireturn, 1) := by decide +kernel
theorem dX9_typeAt_0 : decode cX9_typeAt 0 = .ok (.iload_n 0, 1) := by decide +kernel
theorem dX9_typeAt_1 : decode cX9_typeAt 1 = .ok (.iconst 0, 1) := by decide +kernel
theorem dX9_typeAt_2 : decode cX9_typeAt 2 = .ok (.getstatic 301, 3) := by decide +kernel
theorem dX9_typeAt_5 : decode cX9_typeAt 5 = .ok (.arraylength, 1) := by decide +kernel
theorem dX9_typeAt_6 : decode cX9_typeAt 6 = .ok (.iconst 1, 1) := by decide +kernel
theorem dX9_typeAt_7 : decode cX9_typeAt 7 = .ok (.isub, 1) := by decide +kernel
theorem dX9_typeAt_8 : decode cX9_typeAt 8 = .ok (.invokestatic 58, 3) := by decide +kernel
theorem dX9_typeAt_11 : decode cX9_typeAt 11 = .ok (.ifCond .eq 11, 3) := by decide +kernel
theorem dX9_typeAt_14 : decode cX9_typeAt 14 = .ok (.getstatic 301, 3) := by decide +kernel
theorem dX9_typeAt_17 : decode cX9_typeAt 17 = .ok (.iload_n 0, 1) := by decide +kernel
theorem dX9_typeAt_18 : decode cX9_typeAt 18 = .ok (.aaload, 1) := by decide +kernel
theorem dX9_typeAt_19 : decode cX9_typeAt 19 = .ok (.goto 4, 3) := by decide +kernel
theorem dX9_typeAt_22 : decode cX9_typeAt 22 = .ok (.aconst_null, 1) := by decide +kernel
theorem dX9_typeAt_23 : decode cX9_typeAt 23 = .ok (.areturn, 1) := by decide +kernel
theorem dX9_numberOf_0 : decode cX9_numberOf 0 = .ok (.aload_n 0, 1) := by decide +kernel
theorem dX9_numberOf_1 : decode cX9_numberOf 1 = .ok (.ifnonnull 7, 3) := by decide +kernel
theorem dX9_numberOf_4 : decode cX9_numberOf 4 = .ok (.iconst (-1), 1) := by decide +kernel
theorem dX9_numberOf_5 : decode cX9_numberOf 5 = .ok (.goto 7, 3) := by decide +kernel
theorem dX9_numberOf_8 : decode cX9_numberOf 8 = .ok (.aload_n 0, 1) := by decide +kernel
theorem dX9_numberOf_9 : decode cX9_numberOf 9 = .ok (.getfield 85, 3) := by decide +kernel
theorem dX9_numberOf_12 : decode cX9_numberOf 12 = .ok (.ireturn, 1) := by decide +kernel
theorem dX10_thrown_0 : decode cX10_thrown 0 = .ok (.aload_n 0, 1) := by decide +kernel
theorem dX10_thrown_1 : decode cX10_thrown 1 = .ok (.getfield 1, 3) := by decide +kernel
theorem dX10_thrown_4 : decode cX10_thrown 4 = .ok (.ireturn, 1) := by decide +kernel
theorem dX10_init_0 : decode cX10_init 0 = .ok (.aload_n 0, 1) := by decide +kernel
theorem dX10_init_1 : decode cX10_init 1 = .ok (.invokespecial 7, 3) := by decide +kernel
theorem dX10_init_4 : decode cX10_init 4 = .ok (.aload_n 0, 1) := by decide +kernel
theorem dX10_init_5 : decode cX10_init 5 = .ok (.bipush 60, 2) := by decide +kernel
theorem dX10_init_7 : decode cX10_init 7 = .ok (.newarray .int, 2) := by decide +kernel
theorem dX10_init_9 : decode cX10_init 9 = .ok (.putfield 13, 3) := by decide +kernel
theorem dX10_init_12 : decode cX10_init 12 = .ok (.aload_n 0, 1) := by decide +kernel
theorem dX10_init_13 : decode cX10_init 13 = .ok (.bipush 60, 2) := by decide +kernel
theorem dX10_init_15 : decode cX10_init 15 = .ok (.newarray .int, 2) := by decide +kernel
theorem dX10_init_17 : decode cX10_init 17 = .ok (.putfield 17, 3) := by decide +kernel
theorem dX10_init_20 : decode cX10_init 20 = .ok (.aload_n 0, 1) := by decide +kernel
theorem dX10_init_21 : decode cX10_init 21 = .ok (.bipush 60, 2) := by decide +kernel
theorem dX10_init_23 : decode cX10_init 23 = .ok (.newarray .int, 2) := by decide +kernel
theorem dX10_init_25 : decode cX10_init 25 = .ok (.putfield 20, 3) := by decide +kernel
theorem dX10_init_28 : decode cX10_init 28 = .ok (.aload_n 0, 1) := by decide +kernel
theorem dX10_init_29 : decode cX10_init 29 = .ok (.bipush 60, 2) := by decide +kernel
theorem dX10_init_31 : decode cX10_init 31 = .ok (.newarray .int, 2) := by decide +kernel
theorem dX10_init_33 : decode cX10_init 33 = .ok (.putfield 23, 3) := by decide +kernel
theorem dX10_init_36 : decode cX10_init 36 = .ok (.aload_n 0, 1) := by decide +kernel
theorem dX10_init_37 : decode cX10_init 37 = .ok (.bipush 60, 2) := by decide +kernel
theorem dX10_init_39 : decode cX10_init 39 = .ok (.newarray .int, 2) := by decide +kernel
theorem dX10_init_41 : decode cX10_init 41 = .ok (.putfield 26, 3) := by decide +kernel
theorem dX10_init_44 : decode cX10_init 44 = .ok (.aload_n 0, 1) := by decide +kernel
theorem dX10_init_45 : decode cX10_init 45 = .ok (.bipush 60, 2) := by decide +kernel
theorem dX10_init_47 : decode cX10_init 47 = .ok (.newarray .boolean, 2) := by decide +kernel
theorem dX10_init_49 : decode cX10_init 49 = .ok (.putfield 29, 3) := by decide +kernel
theorem dX10_init_52 : decode cX10_init 52 = .ok (.aload_n 0, 1) := by decide +kernel
theorem dX10_init_53 : decode cX10_init 53 = .ok (.bipush 60, 2) := by decide +kernel
theorem dX10_init_55 : decode cX10_init 55 = .ok (.newarray .int, 2) := by decide +kernel
theorem dX10_init_57 : decode cX10_init 57 = .ok (.putfield 33, 3) := by decide +kernel
theorem dX10_init_60 : decode cX10_init 60 = .ok (.aload_n 0, 1) := by decide +kernel
theorem dX10_init_61 : decode cX10_init 61 = .ok (.bipush 60, 2) := by decide +kernel
theorem dX10_init_63 : decode cX10_init 63 = .ok (.newarray .int, 2) := by decide +kernel
theorem dX10_init_65 : decode cX10_init 65 = .ok (.putfield 36, 3) := by decide +kernel
theorem dX10_init_68 : decode cX10_init 68 = .ok (.aload_n 0, 1) := by decide +kernel
theorem dX10_init_69 : decode cX10_init 69 = .ok (.ldc 39, 2) := by decide +kernel
theorem dX10_init_71 : decode cX10_init 71 = .ok (.newarray .int, 2) := by decide +kernel
theorem dX10_init_73 : decode cX10_init 73 = .ok (.putfield 40, 3) := by decide +kernel
theorem dX10_init_76 : decode cX10_init 76 = .ok (.aload_n 0, 1) := by decide +kernel
theorem dX10_init_77 : decode cX10_init 77 = .ok (.bipush 120, 2) := by decide +kernel
theorem dX10_init_79 : decode cX10_init 79 = .ok (.newarray .int, 2) := by decide +kernel
theorem dX10_init_81 : decode cX10_init 81 = .ok (.putfield 43, 3) := by decide +kernel
theorem dX10_init_84 : decode cX10_init 84 = .ok (.aload_n 0, 1) := by decide +kernel
theorem dX10_init_85 : decode cX10_init 85 = .ok (.bipush 120, 2) := by decide +kernel
theorem dX10_init_87 : decode cX10_init 87 = .ok (.newarray .int, 2) := by decide +kernel
theorem dX10_init_89 : decode cX10_init 89 = .ok (.putfield 46, 3) := by decide +kernel
theorem dX10_init_92 : decode cX10_init 92 = .ok (.aload_n 0, 1) := by decide +kernel
theorem dX10_init_93 : decode cX10_init 93 = .ok (.bipush 120, 2) := by decide +kernel
theorem dX10_init_95 : decode cX10_init 95 = .ok (.newarray .int, 2) := by decide +kernel
theorem dX10_init_97 : decode cX10_init 97 = .ok (.putfield 49, 3) := by decide +kernel
theorem dX10_init_100 : decode cX10_init 100 = .ok (.aload_n 0, 1) := by decide +kernel
theorem dX10_init_101 : decode cX10_init 101 = .ok (.bipush 120, 2) := by decide +kernel
theorem dX10_init_103 : decode cX10_init 103 = .ok (.newarray .int, 2) := by decide +kernel
theorem dX10_init_105 : decode cX10_init 105 = .ok (.putfield 52, 3) := by decide +kernel
theorem dX10_init_108 : decode cX10_init 108 = .ok (.aload_n 0, 1) := by decide +kernel
theorem dX10_init_109 : decode cX10_init 109 = .ok (.bipush 120, 2) := by decide +kernel
theorem dX10_init_111 : decode cX10_init 111 = .ok (.newarray .int, 2) := by decide +kernel
theorem dX10_init_113 : decode cX10_init 113 = .ok (.putfield 55, 3) := by decide +kernel
theorem dX10_init_116 : decode cX10_init 116 = .ok (.aload_n 0, 1) := by decide +kernel
theorem dX10_init_117 : decode cX10_init 117 = .ok (.sipush 200, 3) := by decide +kernel
theorem dX10_init_120 : decode cX10_init 120 = .ok (.newarray .int, 2) := by decide +kernel
theorem dX10_init_122 : decode cX10_init 122 = .ok (.putfield 58, 3) := by decide +kernel
theorem dX10_init_125 : decode cX10_init 125 = .ok (.aload_n 0, 1) := by decide +kernel
theorem dX10_init_126 : decode cX10_init 126 = .ok (.sipush 200, 3) := by decide +kernel
theorem dX10_init_129 : decode cX10_init 129 = .ok (.newarray .int, 2) := by decide +kernel
theorem dX10_init_131 : decode cX10_init 131 = .ok (.putfield 61, 3) := by decide +kernel
theorem dX10_init_134 : decode cX10_init 134 = .ok (.aload_n 0, 1) := by decide +kernel
theorem dX10_init_135 : decode cX10_init 135 = .ok (.sipush 200, 3) := by decide +kernel
theorem dX10_init_138 : decode cX10_init 138 = .ok (.newarray .int, 2) := by decide +kernel
theorem dX10_init_140 : decode cX10_init 140 = .ok (.putfield 64, 3) := by decide +kernel
theorem dX10_init_143 : decode cX10_init 143 = .ok (.aload_n 0, 1) := by decide +kernel
theorem dX10_init_144 : decode cX10_init 144 = .ok (.sipush 200, 3) := by decide +kernel
theorem dX10_init_147 : decode cX10_init 147 = .ok (.newarray .int, 2) := by decide +kernel
theorem dX10_init_149 : decode cX10_init 149 = .ok (.putfield 67, 3) := by decide +kernel
theorem dX10_init_152 : decode cX10_init 152 = .ok (.aload_n 0, 1) := by decide +kernel
theorem dX10_init_153 : decode cX10_init 153 = .ok (.sipush 200, 3) := by decide +kernel
theorem dX10_init_156 : decode cX10_init 156 = .ok (.newarray .int, 2) := by decide +kernel
theorem dX10_init_158 : decode cX10_init 158 = .ok (.putfield 70, 3) := by decide +kernel
theorem dX10_init_161 : decode cX10_init 161 = .ok (.aload_n 0, 1) := by decide +kernel
theorem dX10_init_162 : decode cX10_init 162 = .ok (.bipush 8, 2) := by decide +kernel
theorem dX10_init_164 : decode cX10_init 164 = .ok (.newarray .int, 2) := by decide +kernel
theorem dX10_init_166 : decode cX10_init 166 = .ok (.putfield 73, 3) := by decide +kernel
theorem dX10_init_169 : decode cX10_init 169 = .ok (.aload_n 0, 1) := by decide +kernel
theorem dX10_init_170 : decode cX10_init 170 = .ok (.iconst 4, 1) := by decide +kernel
theorem dX10_init_171 : decode cX10_init 171 = .ok (.newarray .long, 2) := by decide +kernel
theorem dX10_init_173 : decode cX10_init 173 = .ok (.dup, 1) := by decide +kernel
theorem dX10_init_174 : decode cX10_init 174 = .ok (.iconst 0, 1) := by decide +kernel
theorem dX10_init_175 : decode cX10_init 175 = .ok (.ldc2_w 76, 3) := by decide +kernel
theorem dX10_init_178 : decode cX10_init 178 = .ok (.lastore, 1) := by decide +kernel
theorem dX10_init_179 : decode cX10_init 179 = .ok (.dup, 1) := by decide +kernel
theorem dX10_init_180 : decode cX10_init 180 = .ok (.iconst 1, 1) := by decide +kernel
theorem dX10_init_181 : decode cX10_init 181 = .ok (.ldc2_w 76, 3) := by decide +kernel
theorem dX10_init_184 : decode cX10_init 184 = .ok (.lastore, 1) := by decide +kernel
theorem dX10_init_185 : decode cX10_init 185 = .ok (.dup, 1) := by decide +kernel
theorem dX10_init_186 : decode cX10_init 186 = .ok (.iconst 2, 1) := by decide +kernel
theorem dX10_init_187 : decode cX10_init 187 = .ok (.ldc2_w 76, 3) := by decide +kernel
theorem dX10_init_190 : decode cX10_init 190 = .ok (.lastore, 1) := by decide +kernel
theorem dX10_init_191 : decode cX10_init 191 = .ok (.dup, 1) := by decide +kernel
theorem dX10_init_192 : decode cX10_init 192 = .ok (.iconst 3, 1) := by decide +kernel
theorem dX10_init_193 : decode cX10_init 193 = .ok (.ldc2_w 76, 3) := by decide +kernel
theorem dX10_init_196 : decode cX10_init 196 = .ok (.lastore, 1) := by decide +kernel
theorem dX10_init_197 : decode cX10_init 197 = .ok (.putfield 78, 3) := by decide +kernel
theorem dX10_init_200 : decode cX10_init 200 = .ok (.aload_n 0, 1) := by decide +kernel
theorem dX10_init_201 : decode cX10_init 201 = .ok (.iconst (-1), 1) := by decide +kernel
theorem dX10_init_202 : decode cX10_init 202 = .ok (.putfield 82, 3) := by decide +kernel
theorem dX10_init_205 : decode cX10_init 205 = .ok (.aload_n 0, 1) := by decide +kernel
theorem dX10_init_206 : decode cX10_init 206 = .ok (.bipush 60, 2) := by decide +kernel
theorem dX10_init_208 : decode cX10_init 208 = .ok (.newarray .boolean, 2) := by decide +kernel
theorem dX10_init_210 : decode cX10_init 210 = .ok (.putfield 85, 3) := by decide +kernel
theorem dX10_init_213 : decode cX10_init 213 = .ok (.aload_n 0, 1) := by decide +kernel
theorem dX10_init_214 : decode cX10_init 214 = .ok (.bipush 64, 2) := by decide +kernel
theorem dX10_init_216 : decode cX10_init 216 = .ok (.newarray .int, 2) := by decide +kernel
theorem dX10_init_218 : decode cX10_init 218 = .ok (.putfield 88, 3) := by decide +kernel
theorem dX10_init_221 : decode cX10_init 221 = .ok (.aload_n 0, 1) := by decide +kernel
theorem dX10_init_222 : decode cX10_init 222 = .ok (.bipush 120, 2) := by decide +kernel
theorem dX10_init_224 : decode cX10_init 224 = .ok (.newarray .int, 2) := by decide +kernel
theorem dX10_init_226 : decode cX10_init 226 = .ok (.putfield 91, 3) := by decide +kernel
theorem dX10_init_229 : decode cX10_init 229 = .ok (.aload_n 0, 1) := by decide +kernel
theorem dX10_init_230 : decode cX10_init 230 = .ok (.bipush 120, 2) := by decide +kernel
theorem dX10_init_232 : decode cX10_init 232 = .ok (.newarray .int, 2) := by decide +kernel
theorem dX10_init_234 : decode cX10_init 234 = .ok (.putfield 94, 3) := by decide +kernel
theorem dX10_init_237 : decode cX10_init 237 = .ok (.aload_n 0, 1) := by decide +kernel
theorem dX10_init_238 : decode cX10_init 238 = .ok (.bipush 120, 2) := by decide +kernel
theorem dX10_init_240 : decode cX10_init 240 = .ok (.newarray .int, 2) := by decide +kernel
theorem dX10_init_242 : decode cX10_init 242 = .ok (.putfield 97, 3) := by decide +kernel
theorem dX10_init_245 : decode cX10_init 245 = .ok (.aload_n 0, 1) := by decide +kernel
theorem dX10_init_246 : decode cX10_init 246 = .ok (.bipush 60, 2) := by decide +kernel
theorem dX10_init_248 : decode cX10_init 248 = .ok (.newarray .int, 2) := by decide +kernel
theorem dX10_init_250 : decode cX10_init 250 = .ok (.putfield 100, 3) := by decide +kernel
theorem dX10_init_253 : decode cX10_init 253 = .ok (.aload_n 0, 1) := by decide +kernel
theorem dX10_init_254 : decode cX10_init 254 = .ok (.bipush 60, 2) := by decide +kernel
theorem dX10_init_256 : decode cX10_init 256 = .ok (.newarray .boolean, 2) := by decide +kernel
theorem dX10_init_258 : decode cX10_init 258 = .ok (.putfield 103, 3) := by decide +kernel
theorem dX10_init_261 : decode cX10_init 261 = .ok (.aload_n 0, 1) := by decide +kernel
theorem dX10_init_262 : decode cX10_init 262 = .ok (.bipush 60, 2) := by decide +kernel
theorem dX10_init_264 : decode cX10_init 264 = .ok (.newarray .int, 2) := by decide +kernel
theorem dX10_init_266 : decode cX10_init 266 = .ok (.putfield 106, 3) := by decide +kernel
theorem dX10_init_269 : decode cX10_init 269 = .ok (.aload_n 0, 1) := by decide +kernel
theorem dX10_init_270 : decode cX10_init 270 = .ok (.bipush 60, 2) := by decide +kernel
theorem dX10_init_272 : decode cX10_init 272 = .ok (.newarray .int, 2) := by decide +kernel
theorem dX10_init_274 : decode cX10_init 274 = .ok (.putfield 109, 3) := by decide +kernel
theorem dX10_init_277 : decode cX10_init 277 = .ok (.aload_n 0, 1) := by decide +kernel
theorem dX10_init_278 : decode cX10_init 278 = .ok (.bipush 60, 2) := by decide +kernel
theorem dX10_init_280 : decode cX10_init 280 = .ok (.newarray .int, 2) := by decide +kernel
theorem dX10_init_282 : decode cX10_init 282 = .ok (.putfield 112, 3) := by decide +kernel
theorem dX10_init_285 : decode cX10_init 285 = .ok (.aload_n 0, 1) := by decide +kernel
theorem dX10_init_286 : decode cX10_init 286 = .ok (.bipush 60, 2) := by decide +kernel
theorem dX10_init_288 : decode cX10_init 288 = .ok (.newarray .boolean, 2) := by decide +kernel
theorem dX10_init_290 : decode cX10_init 290 = .ok (.putfield 115, 3) := by decide +kernel
theorem dX10_init_293 : decode cX10_init 293 = .ok (.aload_n 0, 1) := by decide +kernel
theorem dX10_init_294 : decode cX10_init 294 = .ok (.sipush 3600, 3) := by decide +kernel
theorem dX10_init_297 : decode cX10_init 297 = .ok (.newarray .boolean, 2) := by decide +kernel
theorem dX10_init_299 : decode cX10_init 299 = .ok (.putfield 118, 3) := by decide +kernel
theorem dX10_init_302 : decode cX10_init 302 = .ok (.aload_n 0, 1) := by decide +kernel
theorem dX10_init_303 : decode cX10_init 303 = .ok (.bipush 60, 2) := by decide +kernel
theorem dX10_init_305 : decode cX10_init 305 = .ok (.newarray .long, 2) := by decide +kernel
theorem dX10_init_307 : decode cX10_init 307 = .ok (.putfield 121, 3) := by decide +kernel
theorem dX10_init_310 : decode cX10_init 310 = .ok (.aload_n 0, 1) := by decide +kernel
theorem dX10_init_311 : decode cX10_init 311 = .ok (.iconst 4, 1) := by decide +kernel
theorem dX10_init_312 : decode cX10_init 312 = .ok (.newarray .long, 2) := by decide +kernel
theorem dX10_init_314 : decode cX10_init 314 = .ok (.putfield 124, 3) := by decide +kernel
theorem dX10_init_317 : decode cX10_init 317 = .ok (.aload_n 0, 1) := by decide +kernel
theorem dX10_init_318 : decode cX10_init 318 = .ok (.iconst 4, 1) := by decide +kernel
theorem dX10_init_319 : decode cX10_init 319 = .ok (.newarray .long, 2) := by decide +kernel
theorem dX10_init_321 : decode cX10_init 321 = .ok (.putfield 127, 3) := by decide +kernel
theorem dX10_init_324 : decode cX10_init 324 = .ok (.aload_n 0, 1) := by decide +kernel
theorem dX10_init_325 : decode cX10_init 325 = .ok (.sipush 200, 3) := by decide +kernel
theorem dX10_init_328 : decode cX10_init 328 = .ok (.newarray .int, 2) := by decide +kernel
theorem dX10_init_330 : decode cX10_init 330 = .ok (.putfield 130, 3) := by decide +kernel
theorem dX10_init_333 : decode cX10_init 333 = .ok (.aload_n 0, 1) := by decide +kernel
theorem dX10_init_334 : decode cX10_init 334 = .ok (.sipush 200, 3) := by decide +kernel
theorem dX10_init_337 : decode cX10_init 337 = .ok (.newarray .int, 2) := by decide +kernel
theorem dX10_init_339 : decode cX10_init 339 = .ok (.putfield 133, 3) := by decide +kernel
theorem dX10_init_342 : decode cX10_init 342 = .ok (.aload_n 0, 1) := by decide +kernel
theorem dX10_init_343 : decode cX10_init 343 = .ok (.sipush 200, 3) := by decide +kernel
theorem dX10_init_346 : decode cX10_init 346 = .ok (.newarray .int, 2) := by decide +kernel
theorem dX10_init_348 : decode cX10_init 348 = .ok (.putfield 136, 3) := by decide +kernel
theorem dX10_init_351 : decode cX10_init 351 = .ok (.return_, 1) := by decide +kernel
theorem dX10_in_0 : decode cX10_in 0 = .ok (.lload_n 2, 1) := by decide +kernel
theorem dX10_in_1 : decode cX10_in 1 = .ok (.lload_n 0, 1) := by decide +kernel
theorem dX10_in_2 : decode cX10_in 2 = .ok (.lcmp, 1) := by decide +kernel
theorem dX10_in_3 : decode cX10_in 3 = .ok (.ifCond .gt 14, 3) := by decide +kernel
theorem dX10_in_6 : decode cX10_in 6 = .ok (.lload_n 0, 1) := by decide +kernel
theorem dX10_in_7 : decode cX10_in 7 = .ok (.lload 4, 2) := by decide +kernel
theorem dX10_in_9 : decode cX10_in 9 = .ok (.lcmp, 1) := by decide +kernel
theorem dX10_in_10 : decode cX10_in 10 = .ok (.ifCond .gt 7, 3) := by decide +kernel
theorem dX10_in_13 : decode cX10_in 13 = .ok (.iconst 1, 1) := by decide +kernel
theorem dX10_in_14 : decode cX10_in 14 = .ok (.goto 4, 3) := by decide +kernel
theorem dX10_in_17 : decode cX10_in 17 = .ok (.iconst 0, 1) := by decide +kernel
theorem dX10_in_18 : decode cX10_in 18 = .ok (.ireturn, 1) := by decide +kernel
theorem dX10_told_0 : decode cX10_told 0 = .ok (.aload_n 0, 1) := by decide +kernel
theorem dX10_told_1 : decode cX10_told 1 = .ok (.iconst 0, 1) := by decide +kernel
theorem dX10_told_2 : decode cX10_told 2 = .ok (.putfield 139, 3) := by decide +kernel
theorem dX10_told_5 : decode cX10_told 5 = .ok (.aload_n 0, 1) := by decide +kernel
theorem dX10_told_6 : decode cX10_told 6 = .ok (.iconst 0, 1) := by decide +kernel
theorem dX10_told_7 : decode cX10_told 7 = .ok (.putfield 143, 3) := by decide +kernel
theorem dX10_told_10 : decode cX10_told 10 = .ok (.aload_n 0, 1) := by decide +kernel
theorem dX10_told_11 : decode cX10_told 11 = .ok (.iconst 0, 1) := by decide +kernel
theorem dX10_told_12 : decode cX10_told 12 = .ok (.putfield 146, 3) := by decide +kernel
theorem dX10_told_15 : decode cX10_told 15 = .ok (.aload_n 0, 1) := by decide +kernel
theorem dX10_told_16 : decode cX10_told 16 = .ok (.iconst (-1), 1) := by decide +kernel
theorem dX10_told_17 : decode cX10_told 17 = .ok (.putfield 82, 3) := by decide +kernel
theorem dX10_told_20 : decode cX10_told 20 = .ok (.return_, 1) := by decide +kernel
theorem dX10_object_0 : decode cX10_object 0 = .ok (.aload_n 0, 1) := by decide +kernel
theorem dX10_object_1 : decode cX10_object 1 = .ok (.getfield 149, 3) := by decide +kernel
theorem dX10_object_4 : decode cX10_object 4 = .ok (.bipush 12, 2) := by decide +kernel
theorem dX10_object_6 : decode cX10_object 6 = .ok (.if_icmp .ne 6, 3) := by decide +kernel
theorem dX10_object_9 : decode cX10_object 9 = .ok (.bipush (-104), 2) := by decide +kernel
theorem dX10_object_11 : decode cX10_object 11 = .ok (.ireturn, 1) := by decide +kernel
theorem dX10_object_12 : decode cX10_object 12 = .ok (.aload_n 0, 1) := by decide +kernel
theorem dX10_object_13 : decode cX10_object 13 = .ok (.invokevirtual 152, 3) := by decide +kernel
theorem dX10_object_16 : decode cX10_object 16 = .ok (.aload_n 0, 1) := by decide +kernel
theorem dX10_object_17 : decode cX10_object 17 = .ok (.dup, 1) := by decide +kernel
theorem dX10_object_18 : decode cX10_object 18 = .ok (.getfield 149, 3) := by decide +kernel
theorem dX10_object_21 : decode cX10_object 21 = .ok (.iconst 1, 1) := by decide +kernel
theorem dX10_object_22 : decode cX10_object 22 = .ok (.iadd, 1) := by decide +kernel
theorem dX10_object_23 : decode cX10_object 23 = .ok (.putfield 149, 3) := by decide +kernel
theorem dX10_object_26 : decode cX10_object 26 = .ok (.aload_n 0, 1) := by decide +kernel
theorem dX10_object_27 : decode cX10_object 27 = .ok (.getfield 149, 3) := by decide +kernel
theorem dX10_object_30 : decode cX10_object 30 = .ok (.iconst 1, 1) := by decide +kernel
theorem dX10_object_31 : decode cX10_object 31 = .ok (.isub, 1) := by decide +kernel
theorem dX10_object_32 : decode cX10_object 32 = .ok (.ireturn, 1) := by decide +kernel
theorem dX10_section_0 : decode cX10_section 0 = .ok (.iload_n 1, 1) := by decide +kernel
theorem dX10_section_1 : decode cX10_section 1 = .ok (.i2l, 1) := by decide +kernel
theorem dX10_section_2 : decode cX10_section 2 = .ok (.lconst 0, 1) := by decide +kernel
theorem dX10_section_3 : decode cX10_section 3 = .ok (.aload_n 0, 1) := by decide +kernel
theorem dX10_section_4 : decode cX10_section 4 = .ok (.getfield 149, 3) := by decide +kernel
theorem dX10_section_7 : decode cX10_section 7 = .ok (.iconst 1, 1) := by decide +kernel
theorem dX10_section_8 : decode cX10_section 8 = .ok (.isub, 1) := by decide +kernel
theorem dX10_section_9 : decode cX10_section 9 = .ok (.i2l, 1) := by decide +kernel
theorem dX10_section_10 : decode cX10_section 10 = .ok (.invokestatic 155, 3) := by decide +kernel
theorem dX10_section_13 : decode cX10_section 13 = .ok (.ifCond .ne 6, 3) := by decide +kernel
theorem dX10_section_16 : decode cX10_section 16 = .ok (.bipush (-101), 2) := by decide +kernel
theorem dX10_section_18 : decode cX10_section 18 = .ok (.ireturn, 1) := by decide +kernel
theorem dX10_section_19 : decode cX10_section 19 = .ok (.iload_n 2, 1) := by decide +kernel
theorem dX10_section_20 : decode cX10_section 20 = .ok (.i2l, 1) := by decide +kernel
theorem dX10_section_21 : decode cX10_section 21 = .ok (.lconst 0, 1) := by decide +kernel
theorem dX10_section_22 : decode cX10_section 22 = .ok (.ldc2_w 159, 3) := by decide +kernel
theorem dX10_section_25 : decode cX10_section 25 = .ok (.invokestatic 155, 3) := by decide +kernel
theorem dX10_section_28 : decode cX10_section 28 = .ok (.ifCond .eq 28, 3) := by decide +kernel
theorem dX10_section_31 : decode cX10_section 31 = .ok (.iload_n 3, 1) := by decide +kernel
theorem dX10_section_32 : decode cX10_section 32 = .ok (.i2l, 1) := by decide +kernel
theorem dX10_section_33 : decode cX10_section 33 = .ok (.lconst 0, 1) := by decide +kernel
theorem dX10_section_34 : decode cX10_section 34 = .ok (.ldc2_w 161, 3) := by decide +kernel
theorem dX10_section_37 : decode cX10_section 37 = .ok (.invokestatic 155, 3) := by decide +kernel
theorem dX10_section_40 : decode cX10_section 40 = .ok (.ifCond .eq 16, 3) := by decide +kernel
theorem dX10_section_43 : decode cX10_section 43 = .ok (.iload 4, 2) := by decide +kernel
theorem dX10_section_45 : decode cX10_section 45 = .ok (.i2l, 1) := by decide +kernel
theorem dX10_section_46 : decode cX10_section 46 = .ok (.lconst 0, 1) := by decide +kernel
theorem dX10_section_47 : decode cX10_section 47 = .ok (.ldc2_w 163, 3) := by decide +kernel
theorem dX10_section_50 : decode cX10_section 50 = .ok (.invokestatic 155, 3) := by decide +kernel
theorem dX10_section_53 : decode cX10_section 53 = .ok (.ifCond .ne 6, 3) := by decide +kernel
theorem dX10_section_56 : decode cX10_section 56 = .ok (.bipush (-102), 2) := by decide +kernel
theorem dX10_section_58 : decode cX10_section 58 = .ok (.ireturn, 1) := by decide +kernel
theorem dX10_section_59 : decode cX10_section 59 = .ok (.aload_n 0, 1) := by decide +kernel
theorem dX10_section_60 : decode cX10_section 60 = .ok (.getfield 165, 3) := by decide +kernel
theorem dX10_section_63 : decode cX10_section 63 = .ok (.bipush 60, 2) := by decide +kernel
theorem dX10_section_65 : decode cX10_section 65 = .ok (.if_icmp .eq 14, 3) := by decide +kernel
theorem dX10_section_68 : decode cX10_section 68 = .ok (.aload_n 0, 1) := by decide +kernel
theorem dX10_section_69 : decode cX10_section 69 = .ok (.getfield 168, 3) := by decide +kernel
theorem dX10_section_72 : decode cX10_section 72 = .ok (.iload_n 3, 1) := by decide +kernel
theorem dX10_section_73 : decode cX10_section 73 = .ok (.iadd, 1) := by decide +kernel
theorem dX10_section_74 : decode cX10_section 74 = .ok (.ldc 39, 2) := by decide +kernel
theorem dX10_section_76 : decode cX10_section 76 = .ok (.if_icmp .le 6, 3) := by decide +kernel
theorem dX10_section_79 : decode cX10_section 79 = .ok (.bipush (-104), 2) := by decide +kernel
theorem dX10_section_81 : decode cX10_section 81 = .ok (.ireturn, 1) := by decide +kernel
theorem dX10_section_82 : decode cX10_section 82 = .ok (.aload_n 0, 1) := by decide +kernel
theorem dX10_section_83 : decode cX10_section 83 = .ok (.invokevirtual 152, 3) := by decide +kernel
theorem dX10_section_86 : decode cX10_section 86 = .ok (.aload_n 0, 1) := by decide +kernel
theorem dX10_section_87 : decode cX10_section 87 = .ok (.getfield 165, 3) := by decide +kernel
theorem dX10_section_90 : decode cX10_section 90 = .ok (.istore 6, 2) := by decide +kernel
theorem dX10_section_92 : decode cX10_section 92 = .ok (.aload_n 0, 1) := by decide +kernel
theorem dX10_section_93 : decode cX10_section 93 = .ok (.getfield 13, 3) := by decide +kernel
theorem dX10_section_96 : decode cX10_section 96 = .ok (.iload 6, 2) := by decide +kernel
theorem dX10_section_98 : decode cX10_section 98 = .ok (.iload_n 1, 1) := by decide +kernel
theorem dX10_section_99 : decode cX10_section 99 = .ok (.iastore, 1) := by decide +kernel
theorem dX10_section_100 : decode cX10_section 100 = .ok (.aload_n 0, 1) := by decide +kernel
theorem dX10_section_101 : decode cX10_section 101 = .ok (.getfield 17, 3) := by decide +kernel
theorem dX10_section_104 : decode cX10_section 104 = .ok (.iload 6, 2) := by decide +kernel
theorem dX10_section_106 : decode cX10_section 106 = .ok (.iload_n 2, 1) := by decide +kernel
theorem dX10_section_107 : decode cX10_section 107 = .ok (.iastore, 1) := by decide +kernel
theorem dX10_section_108 : decode cX10_section 108 = .ok (.aload_n 0, 1) := by decide +kernel
theorem dX10_section_109 : decode cX10_section 109 = .ok (.getfield 20, 3) := by decide +kernel
theorem dX10_section_112 : decode cX10_section 112 = .ok (.iload 6, 2) := by decide +kernel
theorem dX10_section_114 : decode cX10_section 114 = .ok (.iload_n 3, 1) := by decide +kernel
theorem dX10_section_115 : decode cX10_section 115 = .ok (.iastore, 1) := by decide +kernel
theorem dX10_section_116 : decode cX10_section 116 = .ok (.aload_n 0, 1) := by decide +kernel
theorem dX10_section_117 : decode cX10_section 117 = .ok (.getfield 23, 3) := by decide +kernel
theorem dX10_section_120 : decode cX10_section 120 = .ok (.iload 6, 2) := by decide +kernel
theorem dX10_section_122 : decode cX10_section 122 = .ok (.iload 4, 2) := by decide +kernel
theorem dX10_section_124 : decode cX10_section 124 = .ok (.iastore, 1) := by decide +kernel
theorem dX10_section_125 : decode cX10_section 125 = .ok (.aload_n 0, 1) := by decide +kernel
theorem dX10_section_126 : decode cX10_section 126 = .ok (.getfield 26, 3) := by decide +kernel
theorem dX10_section_129 : decode cX10_section 129 = .ok (.iload 6, 2) := by decide +kernel
theorem dX10_section_131 : decode cX10_section 131 = .ok (.aload_n 0, 1) := by decide +kernel
theorem dX10_section_132 : decode cX10_section 132 = .ok (.getfield 171, 3) := by decide +kernel
theorem dX10_section_135 : decode cX10_section 135 = .ok (.iastore, 1) := by decide +kernel
theorem dX10_section_136 : decode cX10_section 136 = .ok (.aload_n 0, 1) := by decide +kernel
theorem dX10_section_137 : decode cX10_section 137 = .ok (.getfield 29, 3) := by decide +kernel
theorem dX10_section_140 : decode cX10_section 140 = .ok (.iload 6, 2) := by decide +kernel
theorem dX10_section_142 : decode cX10_section 142 = .ok (.iconst 0, 1) := by decide +kernel
theorem dX10_section_143 : decode cX10_section 143 = .ok (.bastore, 1) := by decide +kernel
theorem dX10_section_144 : decode cX10_section 144 = .ok (.aload_n 0, 1) := by decide +kernel
theorem dX10_section_145 : decode cX10_section 145 = .ok (.getfield 33, 3) := by decide +kernel
theorem dX10_section_148 : decode cX10_section 148 = .ok (.iload 6, 2) := by decide +kernel
theorem dX10_section_150 : decode cX10_section 150 = .ok (.iconst (-1), 1) := by decide +kernel
theorem dX10_section_151 : decode cX10_section 151 = .ok (.iastore, 1) := by decide +kernel
theorem dX10_section_152 : decode cX10_section 152 = .ok (.aload_n 0, 1) := by decide +kernel
theorem dX10_section_153 : decode cX10_section 153 = .ok (.getfield 36, 3) := by decide +kernel
theorem dX10_section_156 : decode cX10_section 156 = .ok (.iload 6, 2) := by decide +kernel
theorem dX10_section_158 : decode cX10_section 158 = .ok (.iconst (-1), 1) := by decide +kernel
theorem dX10_section_159 : decode cX10_section 159 = .ok (.iastore, 1) := by decide +kernel
theorem dX10_section_160 : decode cX10_section 160 = .ok (.iconst 0, 1) := by decide +kernel
theorem dX10_section_161 : decode cX10_section 161 = .ok (.istore 7, 2) := by decide +kernel
theorem dX10_section_163 : decode cX10_section 163 = .ok (.iload 7, 2) := by decide +kernel
theorem dX10_section_165 : decode cX10_section 165 = .ok (.iload_n 3, 1) := by decide +kernel
theorem dX10_section_166 : decode cX10_section 166 = .ok (.if_icmp .ge 42, 3) := by decide +kernel
theorem dX10_section_169 : decode cX10_section 169 = .ok (.iload_n 2, 1) := by decide +kernel
theorem dX10_section_170 : decode cX10_section 170 = .ok (.iconst 3, 1) := by decide +kernel
theorem dX10_section_171 : decode cX10_section 171 = .ok (.if_icmp .ge 37, 3) := by decide +kernel
theorem dX10_section_174 : decode cX10_section 174 = .ok (.aload_n 0, 1) := by decide +kernel
theorem dX10_section_175 : decode cX10_section 175 = .ok (.getfield 40, 3) := by decide +kernel
theorem dX10_section_178 : decode cX10_section 178 = .ok (.aload_n 0, 1) := by decide +kernel
theorem dX10_section_179 : decode cX10_section 179 = .ok (.getfield 171, 3) := by decide +kernel
theorem dX10_section_182 : decode cX10_section 182 = .ok (.iload 5, 2) := by decide +kernel
theorem dX10_section_184 : decode cX10_section 184 = .ok (.iload 7, 2) := by decide +kernel
theorem dX10_section_186 : decode cX10_section 186 = .ok (.iadd, 1) := by decide +kernel
theorem dX10_section_187 : decode cX10_section 187 = .ok (.sipush 255, 3) := by decide +kernel
theorem dX10_section_190 : decode cX10_section 190 = .ok (.iand, 1) := by decide +kernel
theorem dX10_section_191 : decode cX10_section 191 = .ok (.iastore, 1) := by decide +kernel
theorem dX10_section_192 : decode cX10_section 192 = .ok (.aload_n 0, 1) := by decide +kernel
theorem dX10_section_193 : decode cX10_section 193 = .ok (.dup, 1) := by decide +kernel
theorem dX10_section_194 : decode cX10_section 194 = .ok (.getfield 171, 3) := by decide +kernel
theorem dX10_section_197 : decode cX10_section 197 = .ok (.iconst 1, 1) := by decide +kernel
theorem dX10_section_198 : decode cX10_section 198 = .ok (.iadd, 1) := by decide +kernel
theorem dX10_section_199 : decode cX10_section 199 = .ok (.putfield 171, 3) := by decide +kernel
theorem dX10_section_202 : decode cX10_section 202 = .ok (.iinc 7 1, 3) := by decide +kernel
theorem dX10_section_205 : decode cX10_section 205 = .ok (.goto (-42), 3) := by decide +kernel
theorem dX10_section_208 : decode cX10_section 208 = .ok (.aload_n 0, 1) := by decide +kernel
theorem dX10_section_209 : decode cX10_section 209 = .ok (.dup, 1) := by decide +kernel
theorem dX10_section_210 : decode cX10_section 210 = .ok (.getfield 168, 3) := by decide +kernel
theorem dX10_section_213 : decode cX10_section 213 = .ok (.iload_n 3, 1) := by decide +kernel
theorem dX10_section_214 : decode cX10_section 214 = .ok (.iadd, 1) := by decide +kernel
theorem dX10_section_215 : decode cX10_section 215 = .ok (.putfield 168, 3) := by decide +kernel
theorem dX10_section_218 : decode cX10_section 218 = .ok (.aload_n 0, 1) := by decide +kernel
theorem dX10_section_219 : decode cX10_section 219 = .ok (.dup, 1) := by decide +kernel
theorem dX10_section_220 : decode cX10_section 220 = .ok (.getfield 165, 3) := by decide +kernel
theorem dX10_section_223 : decode cX10_section 223 = .ok (.iconst 1, 1) := by decide +kernel
theorem dX10_section_224 : decode cX10_section 224 = .ok (.iadd, 1) := by decide +kernel
theorem dX10_section_225 : decode cX10_section 225 = .ok (.putfield 165, 3) := by decide +kernel
theorem dX10_section_228 : decode cX10_section 228 = .ok (.iload 6, 2) := by decide +kernel
theorem dX10_section_230 : decode cX10_section 230 = .ok (.ireturn, 1) := by decide +kernel
theorem dX10_hasBytes_0 : decode cX10_hasBytes 0 = .ok (.iload_n 1, 1) := by decide +kernel
theorem dX10_hasBytes_1 : decode cX10_hasBytes 1 = .ok (.i2l, 1) := by decide +kernel
theorem dX10_hasBytes_2 : decode cX10_hasBytes 2 = .ok (.lconst 0, 1) := by decide +kernel
theorem dX10_hasBytes_3 : decode cX10_hasBytes 3 = .ok (.aload_n 0, 1) := by decide +kernel
theorem dX10_hasBytes_4 : decode cX10_hasBytes 4 = .ok (.getfield 165, 3) := by decide +kernel
theorem dX10_hasBytes_7 : decode cX10_hasBytes 7 = .ok (.iconst 1, 1) := by decide +kernel
theorem dX10_hasBytes_8 : decode cX10_hasBytes 8 = .ok (.isub, 1) := by decide +kernel
theorem dX10_hasBytes_9 : decode cX10_hasBytes 9 = .ok (.i2l, 1) := by decide +kernel
theorem dX10_hasBytes_10 : decode cX10_hasBytes 10 = .ok (.invokestatic 155, 3) := by decide +kernel
theorem dX10_hasBytes_13 : decode cX10_hasBytes 13 = .ok (.ifCond .eq 17, 3) := by decide +kernel
theorem dX10_hasBytes_16 : decode cX10_hasBytes 16 = .ok (.aload_n 0, 1) := by decide +kernel
theorem dX10_hasBytes_17 : decode cX10_hasBytes 17 = .ok (.getfield 17, 3) := by decide +kernel
theorem dX10_hasBytes_20 : decode cX10_hasBytes 20 = .ok (.iload_n 1, 1) := by decide +kernel
theorem dX10_hasBytes_21 : decode cX10_hasBytes 21 = .ok (.iaload, 1) := by decide +kernel
theorem dX10_hasBytes_22 : decode cX10_hasBytes 22 = .ok (.iconst 3, 1) := by decide +kernel
theorem dX10_hasBytes_23 : decode cX10_hasBytes 23 = .ok (.if_icmp .ge 7, 3) := by decide +kernel
theorem dX10_hasBytes_26 : decode cX10_hasBytes 26 = .ok (.iconst 1, 1) := by decide +kernel
theorem dX10_hasBytes_27 : decode cX10_hasBytes 27 = .ok (.goto 4, 3) := by decide +kernel
theorem dX10_hasBytes_30 : decode cX10_hasBytes 30 = .ok (.iconst 0, 1) := by decide +kernel
theorem dX10_hasBytes_31 : decode cX10_hasBytes 31 = .ok (.ireturn, 1) := by decide +kernel
theorem dX10_patch_0 : decode cX10_patch 0 = .ok (.aload_n 0, 1) := by decide +kernel
theorem dX10_patch_1 : decode cX10_patch 1 = .ok (.iload_n 1, 1) := by decide +kernel
theorem dX10_patch_2 : decode cX10_patch 2 = .ok (.invokevirtual 174, 3) := by decide +kernel
theorem dX10_patch_5 : decode cX10_patch 5 = .ok (.ifCond .ne 6, 3) := by decide +kernel
theorem dX10_patch_8 : decode cX10_patch 8 = .ok (.bipush (-101), 2) := by decide +kernel
theorem dX10_patch_10 : decode cX10_patch 10 = .ok (.ireturn, 1) := by decide +kernel
theorem dX10_patch_11 : decode cX10_patch 11 = .ok (.iload_n 2, 1) := by decide +kernel
theorem dX10_patch_12 : decode cX10_patch 12 = .ok (.i2l, 1) := by decide +kernel
theorem dX10_patch_13 : decode cX10_patch 13 = .ok (.lconst 0, 1) := by decide +kernel
theorem dX10_patch_14 : decode cX10_patch 14 = .ok (.aload_n 0, 1) := by decide +kernel
theorem dX10_patch_15 : decode cX10_patch 15 = .ok (.getfield 20, 3) := by decide +kernel
theorem dX10_patch_18 : decode cX10_patch 18 = .ok (.iload_n 1, 1) := by decide +kernel
theorem dX10_patch_19 : decode cX10_patch 19 = .ok (.iaload, 1) := by decide +kernel
theorem dX10_patch_20 : decode cX10_patch 20 = .ok (.iconst 1, 1) := by decide +kernel
theorem dX10_patch_21 : decode cX10_patch 21 = .ok (.isub, 1) := by decide +kernel
theorem dX10_patch_22 : decode cX10_patch 22 = .ok (.i2l, 1) := by decide +kernel
theorem dX10_patch_23 : decode cX10_patch 23 = .ok (.invokestatic 155, 3) := by decide +kernel
theorem dX10_patch_26 : decode cX10_patch 26 = .ok (.ifCond .ne 6, 3) := by decide +kernel
theorem dX10_patch_29 : decode cX10_patch 29 = .ok (.bipush (-102), 2) := by decide +kernel
theorem dX10_patch_31 : decode cX10_patch 31 = .ok (.ireturn, 1) := by decide +kernel
theorem dX10_patch_32 : decode cX10_patch 32 = .ok (.aload_n 0, 1) := by decide +kernel
theorem dX10_patch_33 : decode cX10_patch 33 = .ok (.invokevirtual 152, 3) := by decide +kernel
theorem dX10_patch_36 : decode cX10_patch 36 = .ok (.aload_n 0, 1) := by decide +kernel
theorem dX10_patch_37 : decode cX10_patch 37 = .ok (.getfield 26, 3) := by decide +kernel
theorem dX10_patch_40 : decode cX10_patch 40 = .ok (.iload_n 1, 1) := by decide +kernel
theorem dX10_patch_41 : decode cX10_patch 41 = .ok (.iaload, 1) := by decide +kernel
theorem dX10_patch_42 : decode cX10_patch 42 = .ok (.iload_n 2, 1) := by decide +kernel
theorem dX10_patch_43 : decode cX10_patch 43 = .ok (.iadd, 1) := by decide +kernel
theorem dX10_patch_44 : decode cX10_patch 44 = .ok (.istore 4, 2) := by decide +kernel
theorem dX10_patch_46 : decode cX10_patch 46 = .ok (.aload_n 0, 1) := by decide +kernel
theorem dX10_patch_47 : decode cX10_patch 47 = .ok (.getfield 40, 3) := by decide +kernel
theorem dX10_patch_50 : decode cX10_patch 50 = .ok (.iload 4, 2) := by decide +kernel
theorem dX10_patch_52 : decode cX10_patch 52 = .ok (.iaload, 1) := by decide +kernel
theorem dX10_patch_53 : decode cX10_patch 53 = .ok (.istore 5, 2) := by decide +kernel
theorem dX10_patch_55 : decode cX10_patch 55 = .ok (.aload_n 0, 1) := by decide +kernel
theorem dX10_patch_56 : decode cX10_patch 56 = .ok (.getfield 40, 3) := by decide +kernel
theorem dX10_patch_59 : decode cX10_patch 59 = .ok (.iload 4, 2) := by decide +kernel
theorem dX10_patch_61 : decode cX10_patch 61 = .ok (.iload_n 3, 1) := by decide +kernel
theorem dX10_patch_62 : decode cX10_patch 62 = .ok (.sipush 255, 3) := by decide +kernel
theorem dX10_patch_65 : decode cX10_patch 65 = .ok (.iand, 1) := by decide +kernel
theorem dX10_patch_66 : decode cX10_patch 66 = .ok (.iastore, 1) := by decide +kernel
theorem dX10_patch_67 : decode cX10_patch 67 = .ok (.iload 5, 2) := by decide +kernel
theorem dX10_patch_69 : decode cX10_patch 69 = .ok (.ireturn, 1) := by decide +kernel
theorem dX10_mark_0 : decode cX10_mark 0 = .ok (.iload_n 1, 1) := by decide +kernel
theorem dX10_mark_1 : decode cX10_mark 1 = .ok (.i2l, 1) := by decide +kernel
theorem dX10_mark_2 : decode cX10_mark 2 = .ok (.lconst 0, 1) := by decide +kernel
theorem dX10_mark_3 : decode cX10_mark 3 = .ok (.aload_n 0, 1) := by decide +kernel
theorem dX10_mark_4 : decode cX10_mark 4 = .ok (.getfield 165, 3) := by decide +kernel
theorem dX10_mark_7 : decode cX10_mark 7 = .ok (.iconst 1, 1) := by decide +kernel
theorem dX10_mark_8 : decode cX10_mark 8 = .ok (.isub, 1) := by decide +kernel
theorem dX10_mark_9 : decode cX10_mark 9 = .ok (.i2l, 1) := by decide +kernel
theorem dX10_mark_10 : decode cX10_mark 10 = .ok (.invokestatic 155, 3) := by decide +kernel
theorem dX10_mark_13 : decode cX10_mark 13 = .ok (.ifCond .ne 6, 3) := by decide +kernel
theorem dX10_mark_16 : decode cX10_mark 16 = .ok (.bipush (-101), 2) := by decide +kernel
theorem dX10_mark_18 : decode cX10_mark 18 = .ok (.ireturn, 1) := by decide +kernel
theorem dX10_mark_19 : decode cX10_mark 19 = .ok (.iload_n 2, 1) := by decide +kernel
theorem dX10_mark_20 : decode cX10_mark 20 = .ok (.i2l, 1) := by decide +kernel
theorem dX10_mark_21 : decode cX10_mark 21 = .ok (.lconst 0, 1) := by decide +kernel
theorem dX10_mark_22 : decode cX10_mark 22 = .ok (.ldc2_w 178, 3) := by decide +kernel
theorem dX10_mark_25 : decode cX10_mark 25 = .ok (.invokestatic 155, 3) := by decide +kernel
theorem dX10_mark_28 : decode cX10_mark 28 = .ok (.ifCond .eq 44, 3) := by decide +kernel
theorem dX10_mark_31 : decode cX10_mark 31 = .ok (.iload_n 3, 1) := by decide +kernel
theorem dX10_mark_32 : decode cX10_mark 32 = .ok (.i2l, 1) := by decide +kernel
theorem dX10_mark_33 : decode cX10_mark 33 = .ok (.iload_n 2, 1) := by decide +kernel
theorem dX10_mark_34 : decode cX10_mark 34 = .ok (.ifCond .ne 7, 3) := by decide +kernel
theorem dX10_mark_37 : decode cX10_mark 37 = .ok (.lconst 0, 1) := by decide +kernel
theorem dX10_mark_38 : decode cX10_mark 38 = .ok (.goto 6, 3) := by decide +kernel
theorem dX10_mark_41 : decode cX10_mark 41 = .ok (.ldc2_w 76, 3) := by decide +kernel
theorem dX10_mark_44 : decode cX10_mark 44 = .ok (.iload_n 2, 1) := by decide +kernel
theorem dX10_mark_45 : decode cX10_mark 45 = .ok (.ifCond .ne 7, 3) := by decide +kernel
theorem dX10_mark_48 : decode cX10_mark 48 = .ok (.lconst 1, 1) := by decide +kernel
theorem dX10_mark_49 : decode cX10_mark 49 = .ok (.goto 17, 3) := by decide +kernel
theorem dX10_mark_52 : decode cX10_mark 52 = .ok (.iload_n 2, 1) := by decide +kernel
theorem dX10_mark_53 : decode cX10_mark 53 = .ok (.iconst 1, 1) := by decide +kernel
theorem dX10_mark_54 : decode cX10_mark 54 = .ok (.if_icmp .ne 9, 3) := by decide +kernel
