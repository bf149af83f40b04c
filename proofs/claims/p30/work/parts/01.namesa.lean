theorem dX0_init_0 : decode cX0_init 0 = .ok (.aload_n 0, 1) := by decide +kernel
theorem dX0_init_1 : decode cX0_init 1 = .ok (.invokespecial 3, 3) := by decide +kernel
theorem dX0_init_4 : decode cX0_init 4 = .ok (.aload_n 0, 1) := by decide +kernel
theorem dX0_init_5 : decode cX0_init 5 = .ok (.iconst 0, 1) := by decide +kernel
theorem dX0_init_6 : decode cX0_init 6 = .ok (.putfield 9, 3) := by decide +kernel
theorem dX0_init_9 : decode cX0_init 9 = .ok (.aload_n 0, 1) := by decide +kernel
theorem dX0_init_10 : decode cX0_init 10 = .ok (.iconst 3, 1) := by decide +kernel
theorem dX0_init_11 : decode cX0_init 11 = .ok (.putfield 15, 3) := by decide +kernel
theorem dX0_init_14 : decode cX0_init 14 = .ok (.aload_n 0, 1) := by decide +kernel
theorem dX0_init_15 : decode cX0_init 15 = .ok (.sipush 2000, 3) := by decide +kernel
theorem dX0_init_18 : decode cX0_init 18 = .ok (.putfield 18, 3) := by decide +kernel
theorem dX0_init_21 : decode cX0_init 21 = .ok (.aload_n 0, 1) := by decide +kernel
theorem dX0_init_22 : decode cX0_init 22 = .ok (.iconst 1, 1) := by decide +kernel
theorem dX0_init_23 : decode cX0_init 23 = .ok (.putfield 21, 3) := by decide +kernel
theorem dX0_init_26 : decode cX0_init 26 = .ok (.aload_n 0, 1) := by decide +kernel
theorem dX0_init_27 : decode cX0_init 27 = .ok (.bipush 10, 2) := by decide +kernel
theorem dX0_init_29 : decode cX0_init 29 = .ok (.newarray .int, 2) := by decide +kernel
theorem dX0_init_31 : decode cX0_init 31 = .ok (.putfield 24, 3) := by decide +kernel
theorem dX0_init_34 : decode cX0_init 34 = .ok (.aload_n 0, 1) := by decide +kernel
theorem dX0_init_35 : decode cX0_init 35 = .ok (.bipush 100, 2) := by decide +kernel
theorem dX0_init_37 : decode cX0_init 37 = .ok (.newarray .int, 2) := by decide +kernel
theorem dX0_init_39 : decode cX0_init 39 = .ok (.putfield 28, 3) := by decide +kernel
theorem dX0_init_42 : decode cX0_init 42 = .ok (.return_, 1) := by decide +kernel
theorem dX0_isMast_0 : decode cX0_isMast 0 = .ok (.iload_n 1, 1) := by decide +kernel
theorem dX0_isMast_1 : decode cX0_isMast 1 = .ok (.ifCond .lt 15, 3) := by decide +kernel
theorem dX0_isMast_4 : decode cX0_isMast 4 = .ok (.iload_n 1, 1) := by decide +kernel
theorem dX0_isMast_5 : decode cX0_isMast 5 = .ok (.aload_n 0, 1) := by decide +kernel
theorem dX0_isMast_6 : decode cX0_isMast 6 = .ok (.getfield 9, 3) := by decide +kernel
theorem dX0_isMast_9 : decode cX0_isMast 9 = .ok (.if_icmp .ge 7, 3) := by decide +kernel
theorem dX0_isMast_12 : decode cX0_isMast 12 = .ok (.iconst 1, 1) := by decide +kernel
theorem dX0_isMast_13 : decode cX0_isMast 13 = .ok (.goto 4, 3) := by decide +kernel
theorem dX0_isMast_16 : decode cX0_isMast 16 = .ok (.iconst 0, 1) := by decide +kernel
theorem dX0_isMast_17 : decode cX0_isMast 17 = .ok (.ireturn, 1) := by decide +kernel
theorem dX0_isSet_0 : decode cX0_isSet 0 = .ok (.iload_n 1, 1) := by decide +kernel
theorem dX0_isSet_1 : decode cX0_isSet 1 = .ok (.ifCond .lt 17, 3) := by decide +kernel
theorem dX0_isSet_4 : decode cX0_isSet 4 = .ok (.iload_n 1, 1) := by decide +kernel
theorem dX0_isSet_5 : decode cX0_isSet 5 = .ok (.iconst 1, 1) := by decide +kernel
theorem dX0_isSet_6 : decode cX0_isSet 6 = .ok (.aload_n 0, 1) := by decide +kernel
theorem dX0_isSet_7 : decode cX0_isSet 7 = .ok (.getfield 9, 3) := by decide +kernel
theorem dX0_isSet_10 : decode cX0_isSet 10 = .ok (.ishl, 1) := by decide +kernel
theorem dX0_isSet_11 : decode cX0_isSet 11 = .ok (.if_icmp .ge 7, 3) := by decide +kernel
theorem dX0_isSet_14 : decode cX0_isSet 14 = .ok (.iconst 1, 1) := by decide +kernel
theorem dX0_isSet_15 : decode cX0_isSet 15 = .ok (.goto 4, 3) := by decide +kernel
theorem dX0_isSet_18 : decode cX0_isSet 18 = .ok (.iconst 0, 1) := by decide +kernel
theorem dX0_isSet_19 : decode cX0_isSet 19 = .ok (.ireturn, 1) := by decide +kernel
theorem dX0_allChannels_0 : decode cX0_allChannels 0 = .ok (.iconst 1, 1) := by decide +kernel
theorem dX0_allChannels_1 : decode cX0_allChannels 1 = .ok (.aload_n 0, 1) := by decide +kernel
theorem dX0_allChannels_2 : decode cX0_allChannels 2 = .ok (.getfield 15, 3) := by decide +kernel
theorem dX0_allChannels_5 : decode cX0_allChannels 5 = .ok (.ishl, 1) := by decide +kernel
theorem dX0_allChannels_6 : decode cX0_allChannels 6 = .ok (.iconst 1, 1) := by decide +kernel
theorem dX0_allChannels_7 : decode cX0_allChannels 7 = .ok (.isub, 1) := by decide +kernel
theorem dX0_allChannels_8 : decode cX0_allChannels 8 = .ok (.ireturn, 1) := by decide +kernel
theorem dX0_mayHave_0 : decode cX0_mayHave 0 = .ok (.iload_n 1, 1) := by decide +kernel
theorem dX0_mayHave_1 : decode cX0_mayHave 1 = .ok (.ifCond .lt 31, 3) := by decide +kernel
theorem dX0_mayHave_4 : decode cX0_mayHave 4 = .ok (.iload_n 1, 1) := by decide +kernel
theorem dX0_mayHave_5 : decode cX0_mayHave 5 = .ok (.aload_n 0, 1) := by decide +kernel
theorem dX0_mayHave_6 : decode cX0_mayHave 6 = .ok (.getfield 9, 3) := by decide +kernel
theorem dX0_mayHave_9 : decode cX0_mayHave 9 = .ok (.if_icmp .ge 23, 3) := by decide +kernel
theorem dX0_mayHave_12 : decode cX0_mayHave 12 = .ok (.iconst 1, 1) := by decide +kernel
theorem dX0_mayHave_13 : decode cX0_mayHave 13 = .ok (.aload_n 0, 1) := by decide +kernel
theorem dX0_mayHave_14 : decode cX0_mayHave 14 = .ok (.getfield 15, 3) := by decide +kernel
theorem dX0_mayHave_17 : decode cX0_mayHave 17 = .ok (.ishl, 1) := by decide +kernel
theorem dX0_mayHave_18 : decode cX0_mayHave 18 = .ok (.iconst 1, 1) := by decide +kernel
theorem dX0_mayHave_19 : decode cX0_mayHave 19 = .ok (.isub, 1) := by decide +kernel
theorem dX0_mayHave_20 : decode cX0_mayHave 20 = .ok (.aload_n 0, 1) := by decide +kernel
theorem dX0_mayHave_21 : decode cX0_mayHave 21 = .ok (.getfield 24, 3) := by decide +kernel
theorem dX0_mayHave_24 : decode cX0_mayHave 24 = .ok (.iload_n 1, 1) := by decide +kernel
theorem dX0_mayHave_25 : decode cX0_mayHave 25 = .ok (.iaload, 1) := by decide +kernel
theorem dX0_mayHave_26 : decode cX0_mayHave 26 = .ok (.iconst (-1), 1) := by decide +kernel
theorem dX0_mayHave_27 : decode cX0_mayHave 27 = .ok (.ixor, 1) := by decide +kernel
theorem dX0_mayHave_28 : decode cX0_mayHave 28 = .ok (.iand, 1) := by decide +kernel
theorem dX0_mayHave_29 : decode cX0_mayHave 29 = .ok (.goto 4, 3) := by decide +kernel
theorem dX0_mayHave_32 : decode cX0_mayHave 32 = .ok (.iconst 0, 1) := by decide +kernel
theorem dX0_mayHave_33 : decode cX0_mayHave 33 = .ok (.ireturn, 1) := by decide +kernel
theorem dX0_pairOf_0 : decode cX0_pairOf 0 = .ok (.aload_n 0, 1) := by decide +kernel
theorem dX0_pairOf_1 : decode cX0_pairOf 1 = .ok (.iload_n 1, 1) := by decide +kernel
theorem dX0_pairOf_2 : decode cX0_pairOf 2 = .ok (.invokevirtual 31, 3) := by decide +kernel
theorem dX0_pairOf_5 : decode cX0_pairOf 5 = .ok (.ifCond .eq 25, 3) := by decide +kernel
theorem dX0_pairOf_8 : decode cX0_pairOf 8 = .ok (.aload_n 0, 1) := by decide +kernel
theorem dX0_pairOf_9 : decode cX0_pairOf 9 = .ok (.iload_n 2, 1) := by decide +kernel
theorem dX0_pairOf_10 : decode cX0_pairOf 10 = .ok (.invokevirtual 31, 3) := by decide +kernel
theorem dX0_pairOf_13 : decode cX0_pairOf 13 = .ok (.ifCond .eq 17, 3) := by decide +kernel
theorem dX0_pairOf_16 : decode cX0_pairOf 16 = .ok (.aload_n 0, 1) := by decide +kernel
theorem dX0_pairOf_17 : decode cX0_pairOf 17 = .ok (.getfield 28, 3) := by decide +kernel
theorem dX0_pairOf_20 : decode cX0_pairOf 20 = .ok (.iload_n 1, 1) := by decide +kernel
theorem dX0_pairOf_21 : decode cX0_pairOf 21 = .ok (.bipush 10, 2) := by decide +kernel
theorem dX0_pairOf_23 : decode cX0_pairOf 23 = .ok (.imul, 1) := by decide +kernel
theorem dX0_pairOf_24 : decode cX0_pairOf 24 = .ok (.iload_n 2, 1) := by decide +kernel
theorem dX0_pairOf_25 : decode cX0_pairOf 25 = .ok (.iadd, 1) := by decide +kernel
theorem dX0_pairOf_26 : decode cX0_pairOf 26 = .ok (.iaload, 1) := by decide +kernel
theorem dX0_pairOf_27 : decode cX0_pairOf 27 = .ok (.goto 4, 3) := by decide +kernel
theorem dX0_pairOf_30 : decode cX0_pairOf 30 = .ok (.iconst 0, 1) := by decide +kernel
theorem dX0_pairOf_31 : decode cX0_pairOf 31 = .ok (.ireturn, 1) := by decide +kernel
theorem dX0_setPair_0 : decode cX0_setPair 0 = .ok (.aload_n 0, 1) := by decide +kernel
theorem dX0_setPair_1 : decode cX0_setPair 1 = .ok (.iload_n 1, 1) := by decide +kernel
theorem dX0_setPair_2 : decode cX0_setPair 2 = .ok (.invokevirtual 31, 3) := by decide +kernel
theorem dX0_setPair_5 : decode cX0_setPair 5 = .ok (.ifCond .eq 35, 3) := by decide +kernel
theorem dX0_setPair_8 : decode cX0_setPair 8 = .ok (.aload_n 0, 1) := by decide +kernel
theorem dX0_setPair_9 : decode cX0_setPair 9 = .ok (.iload_n 2, 1) := by decide +kernel
theorem dX0_setPair_10 : decode cX0_setPair 10 = .ok (.invokevirtual 31, 3) := by decide +kernel
theorem dX0_setPair_13 : decode cX0_setPair 13 = .ok (.ifCond .eq 27, 3) := by decide +kernel
theorem dX0_setPair_16 : decode cX0_setPair 16 = .ok (.aload_n 0, 1) := by decide +kernel
theorem dX0_setPair_17 : decode cX0_setPair 17 = .ok (.getfield 28, 3) := by decide +kernel
theorem dX0_setPair_20 : decode cX0_setPair 20 = .ok (.iload_n 1, 1) := by decide +kernel
theorem dX0_setPair_21 : decode cX0_setPair 21 = .ok (.bipush 10, 2) := by decide +kernel
theorem dX0_setPair_23 : decode cX0_setPair 23 = .ok (.imul, 1) := by decide +kernel
theorem dX0_setPair_24 : decode cX0_setPair 24 = .ok (.iload_n 2, 1) := by decide +kernel
theorem dX0_setPair_25 : decode cX0_setPair 25 = .ok (.iadd, 1) := by decide +kernel
theorem dX0_setPair_26 : decode cX0_setPair 26 = .ok (.iload_n 3, 1) := by decide +kernel
theorem dX0_setPair_27 : decode cX0_setPair 27 = .ok (.iastore, 1) := by decide +kernel
theorem dX0_setPair_28 : decode cX0_setPair 28 = .ok (.aload_n 0, 1) := by decide +kernel
theorem dX0_setPair_29 : decode cX0_setPair 29 = .ok (.getfield 28, 3) := by decide +kernel
theorem dX0_setPair_32 : decode cX0_setPair 32 = .ok (.iload_n 2, 1) := by decide +kernel
theorem dX0_setPair_33 : decode cX0_setPair 33 = .ok (.bipush 10, 2) := by decide +kernel
theorem dX0_setPair_35 : decode cX0_setPair 35 = .ok (.imul, 1) := by decide +kernel
theorem dX0_setPair_36 : decode cX0_setPair 36 = .ok (.iload_n 1, 1) := by decide +kernel
theorem dX0_setPair_37 : decode cX0_setPair 37 = .ok (.iadd, 1) := by decide +kernel
theorem dX0_setPair_38 : decode cX0_setPair 38 = .ok (.iload_n 3, 1) := by decide +kernel
theorem dX0_setPair_39 : decode cX0_setPair 39 = .ok (.iastore, 1) := by decide +kernel
theorem dX0_setPair_40 : decode cX0_setPair 40 = .ok (.return_, 1) := by decide +kernel
theorem dX0_shutFor_0 : decode cX0_shutFor 0 = .ok (.iload_n 1, 1) := by decide +kernel
theorem dX0_shutFor_1 : decode cX0_shutFor 1 = .ok (.bipush 10, 2) := by decide +kernel
theorem dX0_shutFor_3 : decode cX0_shutFor 3 = .ok (.imul, 1) := by decide +kernel
theorem dX0_shutFor_4 : decode cX0_shutFor 4 = .ok (.iload_n 2, 1) := by decide +kernel
theorem dX0_shutFor_5 : decode cX0_shutFor 5 = .ok (.iadd, 1) := by decide +kernel
theorem dX0_shutFor_6 : decode cX0_shutFor 6 = .ok (.istore 4, 2) := by decide +kernel
theorem dX0_shutFor_8 : decode cX0_shutFor 8 = .ok (.iload 4, 2) := by decide +kernel
theorem dX0_shutFor_10 : decode cX0_shutFor 10 = .ok (.ifCond .lt 23, 3) := by decide +kernel
theorem dX0_shutFor_13 : decode cX0_shutFor 13 = .ok (.iload 4, 2) := by decide +kernel
theorem dX0_shutFor_15 : decode cX0_shutFor 15 = .ok (.aload_n 0, 1) := by decide +kernel
theorem dX0_shutFor_16 : decode cX0_shutFor 16 = .ok (.getfield 28, 3) := by decide +kernel
theorem dX0_shutFor_19 : decode cX0_shutFor 19 = .ok (.arraylength, 1) := by decide +kernel
theorem dX0_shutFor_20 : decode cX0_shutFor 20 = .ok (.if_icmp .ge 13, 3) := by decide +kernel
theorem dX0_shutFor_23 : decode cX0_shutFor 23 = .ok (.iload_n 3, 1) := by decide +kernel
theorem dX0_shutFor_24 : decode cX0_shutFor 24 = .ok (.ifCond .lt 9, 3) := by decide +kernel
theorem dX0_shutFor_27 : decode cX0_shutFor 27 = .ok (.iload_n 3, 1) := by decide +kernel
theorem dX0_shutFor_28 : decode cX0_shutFor 28 = .ok (.bipush 6, 2) := by decide +kernel
theorem dX0_shutFor_30 : decode cX0_shutFor 30 = .ok (.if_icmp .lt 5, 3) := by decide +kernel
theorem dX0_shutFor_33 : decode cX0_shutFor 33 = .ok (.iconst 0, 1) := by decide +kernel
theorem dX0_shutFor_34 : decode cX0_shutFor 34 = .ok (.ireturn, 1) := by decide +kernel
theorem dX0_shutFor_35 : decode cX0_shutFor 35 = .ok (.getstatic 35, 3) := by decide +kernel
theorem dX0_shutFor_38 : decode cX0_shutFor 38 = .ok (.aload_n 0, 1) := by decide +kernel
theorem dX0_shutFor_39 : decode cX0_shutFor 39 = .ok (.getfield 28, 3) := by decide +kernel
theorem dX0_shutFor_42 : decode cX0_shutFor 42 = .ok (.iload 4, 2) := by decide +kernel
theorem dX0_shutFor_44 : decode cX0_shutFor 44 = .ok (.iaload, 1) := by decide +kernel
theorem dX0_shutFor_45 : decode cX0_shutFor 45 = .ok (.bipush 6, 2) := by decide +kernel
theorem dX0_shutFor_47 : decode cX0_shutFor 47 = .ok (.imul, 1) := by decide +kernel
theorem dX0_shutFor_48 : decode cX0_shutFor 48 = .ok (.iload_n 3, 1) := by decide +kernel
theorem dX0_shutFor_49 : decode cX0_shutFor 49 = .ok (.iadd, 1) := by decide +kernel
theorem dX0_shutFor_50 : decode cX0_shutFor 50 = .ok (.iaload, 1) := by decide +kernel
theorem dX0_shutFor_51 : decode cX0_shutFor 51 = .ok (.ireturn, 1) := by decide +kernel
theorem dX1_init_0 : decode cX1_init 0 = .ok (.aload_n 0, 1) := by decide +kernel
theorem dX1_init_1 : decode cX1_init 1 = .ok (.invokespecial 3, 3) := by decide +kernel
theorem dX1_init_4 : decode cX1_init 4 = .ok (.aload_n 0, 1) := by decide +kernel
theorem dX1_init_5 : decode cX1_init 5 = .ok (.iconst 0, 1) := by decide +kernel
theorem dX1_init_6 : decode cX1_init 6 = .ok (.putfield 9, 3) := by decide +kernel
theorem dX1_init_9 : decode cX1_init 9 = .ok (.aload_n 0, 1) := by decide +kernel
theorem dX1_init_10 : decode cX1_init 10 = .ok (.bipush 100, 2) := by decide +kernel
theorem dX1_init_12 : decode cX1_init 12 = .ok (.putfield 15, 3) := by decide +kernel
theorem dX1_init_15 : decode cX1_init 15 = .ok (.aload_n 0, 1) := by decide +kernel
theorem dX1_init_16 : decode cX1_init 16 = .ok (.bipush 10, 2) := by decide +kernel
theorem dX1_init_18 : decode cX1_init 18 = .ok (.putfield 18, 3) := by decide +kernel
theorem dX1_init_21 : decode cX1_init 21 = .ok (.aload_n 0, 1) := by decide +kernel
theorem dX1_init_22 : decode cX1_init 22 = .ok (.bipush 10, 2) := by decide +kernel
theorem dX1_init_24 : decode cX1_init 24 = .ok (.newarray .int, 2) := by decide +kernel
theorem dX1_init_26 : decode cX1_init 26 = .ok (.putfield 21, 3) := by decide +kernel
theorem dX1_init_29 : decode cX1_init 29 = .ok (.aload_n 0, 1) := by decide +kernel
theorem dX1_init_30 : decode cX1_init 30 = .ok (.bipush 10, 2) := by decide +kernel
theorem dX1_init_32 : decode cX1_init 32 = .ok (.newarray .int, 2) := by decide +kernel
theorem dX1_init_34 : decode cX1_init 34 = .ok (.putfield 25, 3) := by decide +kernel
theorem dX1_init_37 : decode cX1_init 37 = .ok (.aload_n 0, 1) := by decide +kernel
theorem dX1_init_38 : decode cX1_init 38 = .ok (.bipush 10, 2) := by decide +kernel
theorem dX1_init_40 : decode cX1_init 40 = .ok (.newarray .int, 2) := by decide +kernel
theorem dX1_init_42 : decode cX1_init 42 = .ok (.putfield 28, 3) := by decide +kernel
theorem dX1_init_45 : decode cX1_init 45 = .ok (.aload_n 0, 1) := by decide +kernel
theorem dX1_init_46 : decode cX1_init 46 = .ok (.bipush 10, 2) := by decide +kernel
theorem dX1_init_48 : decode cX1_init 48 = .ok (.newarray .int, 2) := by decide +kernel
theorem dX1_init_50 : decode cX1_init 50 = .ok (.putfield 31, 3) := by decide +kernel
theorem dX1_init_53 : decode cX1_init 53 = .ok (.aload_n 0, 1) := by decide +kernel
theorem dX1_init_54 : decode cX1_init 54 = .ok (.iconst 0, 1) := by decide +kernel
theorem dX1_init_55 : decode cX1_init 55 = .ok (.putfield 34, 3) := by decide +kernel
theorem dX1_init_58 : decode cX1_init 58 = .ok (.aload_n 0, 1) := by decide +kernel
theorem dX1_init_59 : decode cX1_init 59 = .ok (.iconst 0, 1) := by decide +kernel
theorem dX1_init_60 : decode cX1_init 60 = .ok (.putfield 37, 3) := by decide +kernel
theorem dX1_init_63 : decode cX1_init 63 = .ok (.aload_n 0, 1) := by decide +kernel
theorem dX1_init_64 : decode cX1_init 64 = .ok (.iconst 0, 1) := by decide +kernel
theorem dX1_init_65 : decode cX1_init 65 = .ok (.putfield 40, 3) := by decide +kernel
theorem dX1_init_68 : decode cX1_init 68 = .ok (.aload_n 0, 1) := by decide +kernel
theorem dX1_init_69 : decode cX1_init 69 = .ok (.aload_n 1, 1) := by decide +kernel
theorem dX1_init_70 : decode cX1_init 70 = .ok (.putfield 43, 3) := by decide +kernel
theorem dX1_init_73 : decode cX1_init 73 = .ok (.aload_n 0, 1) := by decide +kernel
theorem dX1_init_74 : decode cX1_init 74 = .ok (.aload_n 2, 1) := by decide +kernel
theorem dX1_init_75 : decode cX1_init 75 = .ok (.putfield 47, 3) := by decide +kernel
theorem dX1_init_78 : decode cX1_init 78 = .ok (.return_, 1) := by decide +kernel
theorem dX1_isOld_0 : decode cX1_isOld 0 = .ok (.aload_n 0, 1) := by decide +kernel
theorem dX1_isOld_1 : decode cX1_isOld 1 = .ok (.getfield 43, 3) := by decide +kernel
theorem dX1_isOld_4 : decode cX1_isOld 4 = .ok (.iload_n 1, 1) := by decide +kernel
theorem dX1_isOld_5 : decode cX1_isOld 5 = .ok (.invokevirtual 51, 3) := by decide +kernel
theorem dX1_isOld_8 : decode cX1_isOld 8 = .ok (.ifCond .eq 18, 3) := by decide +kernel
theorem dX1_isOld_11 : decode cX1_isOld 11 = .ok (.aload_n 0, 1) := by decide +kernel
theorem dX1_isOld_12 : decode cX1_isOld 12 = .ok (.getfield 9, 3) := by decide +kernel
theorem dX1_isOld_15 : decode cX1_isOld 15 = .ok (.iload_n 1, 1) := by decide +kernel
theorem dX1_isOld_16 : decode cX1_isOld 16 = .ok (.invokestatic 57, 3) := by decide +kernel
theorem dX1_isOld_19 : decode cX1_isOld 19 = .ok (.ifCond .eq 7, 3) := by decide +kernel
theorem dX1_isOld_22 : decode cX1_isOld 22 = .ok (.iconst 1, 1) := by decide +kernel
theorem dX1_isOld_23 : decode cX1_isOld 23 = .ok (.goto 4, 3) := by decide +kernel
theorem dX1_isOld_26 : decode cX1_isOld 26 = .ok (.iconst 0, 1) := by decide +kernel
theorem dX1_isOld_27 : decode cX1_isOld 27 = .ok (.ireturn, 1) := by decide +kernel
theorem dX1_addStation_0 : decode cX1_addStation 0 = .ok (.aload_n 0, 1) := by decide +kernel
theorem dX1_addStation_1 : decode cX1_addStation 1 = .ok (.getfield 43, 3) := by decide +kernel
theorem dX1_addStation_4 : decode cX1_addStation 4 = .ok (.iload_n 1, 1) := by decide +kernel
theorem dX1_addStation_5 : decode cX1_addStation 5 = .ok (.invokevirtual 51, 3) := by decide +kernel
theorem dX1_addStation_8 : decode cX1_addStation 8 = .ok (.ifCond .eq 29, 3) := by decide +kernel
theorem dX1_addStation_11 : decode cX1_addStation 11 = .ok (.aload_n 0, 1) := by decide +kernel
theorem dX1_addStation_12 : decode cX1_addStation 12 = .ok (.dup, 1) := by decide +kernel
theorem dX1_addStation_13 : decode cX1_addStation 13 = .ok (.getfield 9, 3) := by decide +kernel
theorem dX1_addStation_16 : decode cX1_addStation 16 = .ok (.iconst 1, 1) := by decide +kernel
theorem dX1_addStation_17 : decode cX1_addStation 17 = .ok (.iload_n 1, 1) := by decide +kernel
theorem dX1_addStation_18 : decode cX1_addStation 18 = .ok (.ishl, 1) := by decide +kernel
theorem dX1_addStation_19 : decode cX1_addStation 19 = .ok (.ior, 1) := by decide +kernel
theorem dX1_addStation_20 : decode cX1_addStation 20 = .ok (.putfield 9, 3) := by decide +kernel
theorem dX1_addStation_23 : decode cX1_addStation 23 = .ok (.aload_n 0, 1) := by decide +kernel
theorem dX1_addStation_24 : decode cX1_addStation 24 = .ok (.getfield 21, 3) := by decide +kernel
theorem dX1_addStation_27 : decode cX1_addStation 27 = .ok (.iload_n 1, 1) := by decide +kernel
theorem dX1_addStation_28 : decode cX1_addStation 28 = .ok (.iload_n 2, 1) := by decide +kernel
theorem dX1_addStation_29 : decode cX1_addStation 29 = .ok (.iastore, 1) := by decide +kernel
theorem dX1_addStation_30 : decode cX1_addStation 30 = .ok (.aload_n 0, 1) := by decide +kernel
theorem dX1_addStation_31 : decode cX1_addStation 31 = .ok (.getfield 25, 3) := by decide +kernel
theorem dX1_addStation_34 : decode cX1_addStation 34 = .ok (.iload_n 1, 1) := by decide +kernel
theorem dX1_addStation_35 : decode cX1_addStation 35 = .ok (.iload_n 3, 1) := by decide +kernel
theorem dX1_addStation_36 : decode cX1_addStation 36 = .ok (.iastore, 1) := by decide +kernel
theorem dX1_addStation_37 : decode cX1_addStation 37 = .ok (.return_, 1) := by decide +kernel
theorem dX1_letFall_0 : decode cX1_letFall 0 = .ok (.aload_n 0, 1) := by decide +kernel
theorem dX1_letFall_1 : decode cX1_letFall 1 = .ok (.iconst 0, 1) := by decide +kernel
theorem dX1_letFall_2 : decode cX1_letFall 2 = .ok (.putfield 34, 3) := by decide +kernel
theorem dX1_letFall_5 : decode cX1_letFall 5 = .ok (.aload_n 0, 1) := by decide +kernel
theorem dX1_letFall_6 : decode cX1_letFall 6 = .ok (.iconst 0, 1) := by decide +kernel
theorem dX1_letFall_7 : decode cX1_letFall 7 = .ok (.putfield 37, 3) := by decide +kernel
theorem dX1_letFall_10 : decode cX1_letFall 10 = .ok (.aload_n 0, 1) := by decide +kernel
theorem dX1_letFall_11 : decode cX1_letFall 11 = .ok (.iconst 0, 1) := by decide +kernel
theorem dX1_letFall_12 : decode cX1_letFall 12 = .ok (.putfield 40, 3) := by decide +kernel
theorem dX1_letFall_15 : decode cX1_letFall 15 = .ok (.iconst 0, 1) := by decide +kernel
theorem dX1_letFall_16 : decode cX1_letFall 16 = .ok (.istore_n 3, 1) := by decide +kernel
theorem dX1_letFall_17 : decode cX1_letFall 17 = .ok (.iload_n 3, 1) := by decide +kernel
theorem dX1_letFall_18 : decode cX1_letFall 18 = .ok (.bipush 50, 2) := by decide +kernel
theorem dX1_letFall_20 : decode cX1_letFall 20 = .ok (.if_icmp .gt 104, 3) := by decide +kernel
theorem dX1_letFall_23 : decode cX1_letFall 23 = .ok (.aload_n 0, 1) := by decide +kernel
theorem dX1_letFall_24 : decode cX1_letFall 24 = .ok (.getfield 34, 3) := by decide +kernel
theorem dX1_letFall_27 : decode cX1_letFall 27 = .ok (.aload_n 0, 1) := by decide +kernel
theorem dX1_letFall_28 : decode cX1_letFall 28 = .ok (.getfield 37, 3) := by decide +kernel
theorem dX1_letFall_31 : decode cX1_letFall 31 = .ok (.ior, 1) := by decide +kernel
theorem dX1_letFall_32 : decode cX1_letFall 32 = .ok (.aload_n 0, 1) := by decide +kernel
theorem dX1_letFall_33 : decode cX1_letFall 33 = .ok (.getfield 9, 3) := by decide +kernel
theorem dX1_letFall_36 : decode cX1_letFall 36 = .ok (.if_icmp .eq 88, 3) := by decide +kernel
theorem dX1_letFall_39 : decode cX1_letFall 39 = .ok (.iconst 0, 1) := by decide +kernel
theorem dX1_letFall_40 : decode cX1_letFall 40 = .ok (.istore 4, 2) := by decide +kernel
theorem dX1_letFall_42 : decode cX1_letFall 42 = .ok (.iload 4, 2) := by decide +kernel
theorem dX1_letFall_44 : decode cX1_letFall 44 = .ok (.aload_n 0, 1) := by decide +kernel
theorem dX1_letFall_45 : decode cX1_letFall 45 = .ok (.getfield 43, 3) := by decide +kernel
theorem dX1_letFall_48 : decode cX1_letFall 48 = .ok (.getfield 61, 3) := by decide +kernel
theorem dX1_letFall_51 : decode cX1_letFall 51 = .ok (.if_icmp .ge 57, 3) := by decide +kernel
theorem dX1_letFall_54 : decode cX1_letFall 54 = .ok (.aload_n 0, 1) := by decide +kernel
theorem dX1_letFall_55 : decode cX1_letFall 55 = .ok (.getfield 9, 3) := by decide +kernel
theorem dX1_letFall_58 : decode cX1_letFall 58 = .ok (.aload_n 0, 1) := by decide +kernel
theorem dX1_letFall_59 : decode cX1_letFall 59 = .ok (.getfield 34, 3) := by decide +kernel
theorem dX1_letFall_62 : decode cX1_letFall 62 = .ok (.aload_n 0, 1) := by decide +kernel
theorem dX1_letFall_63 : decode cX1_letFall 63 = .ok (.getfield 37, 3) := by decide +kernel
theorem dX1_letFall_66 : decode cX1_letFall 66 = .ok (.ior, 1) := by decide +kernel
theorem dX1_letFall_67 : decode cX1_letFall 67 = .ok (.iconst (-1), 1) := by decide +kernel
theorem dX1_letFall_68 : decode cX1_letFall 68 = .ok (.ixor, 1) := by decide +kernel
theorem dX1_letFall_69 : decode cX1_letFall 69 = .ok (.iand, 1) := by decide +kernel
theorem dX1_letFall_70 : decode cX1_letFall 70 = .ok (.iload 4, 2) := by decide +kernel
theorem dX1_letFall_72 : decode cX1_letFall 72 = .ok (.invokestatic 57, 3) := by decide +kernel
theorem dX1_letFall_75 : decode cX1_letFall 75 = .ok (.ifCond .eq 27, 3) := by decide +kernel
theorem dX1_letFall_78 : decode cX1_letFall 78 = .ok (.aload_n 0, 1) := by decide +kernel
theorem dX1_letFall_79 : decode cX1_letFall 79 = .ok (.iload 4, 2) := by decide +kernel
theorem dX1_letFall_81 : decode cX1_letFall 81 = .ok (.iload_n 3, 1) := by decide +kernel
theorem dX1_letFall_82 : decode cX1_letFall 82 = .ok (.iload 4, 2) := by decide +kernel
theorem dX1_letFall_84 : decode cX1_letFall 84 = .ok (.iload_n 1, 1) := by decide +kernel
theorem dX1_letFall_85 : decode cX1_letFall 85 = .ok (.if_icmp .ne 7, 3) := by decide +kernel
theorem dX1_letFall_88 : decode cX1_letFall 88 = .ok (.iload_n 2, 1) := by decide +kernel
theorem dX1_letFall_89 : decode cX1_letFall 89 = .ok (.goto 10, 3) := by decide +kernel
theorem dX1_letFall_92 : decode cX1_letFall 92 = .ok (.aload_n 0, 1) := by decide +kernel
theorem dX1_letFall_93 : decode cX1_letFall 93 = .ok (.getfield 21, 3) := by decide +kernel
theorem dX1_letFall_96 : decode cX1_letFall 96 = .ok (.iload 4, 2) := by decide +kernel
theorem dX1_letFall_98 : decode cX1_letFall 98 = .ok (.iaload, 1) := by decide +kernel
theorem dX1_letFall_99 : decode cX1_letFall 99 = .ok (.invokevirtual 64, 3) := by decide +kernel
theorem dX1_letFall_102 : decode cX1_letFall 102 = .ok (.iinc 4 1, 3) := by decide +kernel
theorem dX1_letFall_105 : decode cX1_letFall 105 = .ok (.goto (-63), 3) := by decide +kernel
theorem dX1_letFall_108 : decode cX1_letFall 108 = .ok (.aload_n 0, 1) := by decide +kernel
theorem dX1_letFall_109 : decode cX1_letFall 109 = .ok (.dup, 1) := by decide +kernel
theorem dX1_letFall_110 : decode cX1_letFall 110 = .ok (.getfield 40, 3) := by decide +kernel
theorem dX1_letFall_113 : decode cX1_letFall 113 = .ok (.iconst 1, 1) := by decide +kernel
theorem dX1_letFall_114 : decode cX1_letFall 114 = .ok (.iadd, 1) := by decide +kernel
theorem dX1_letFall_115 : decode cX1_letFall 115 = .ok (.putfield 40, 3) := by decide +kernel
theorem dX1_letFall_118 : decode cX1_letFall 118 = .ok (.iinc 3 1, 3) := by decide +kernel
theorem dX1_letFall_121 : decode cX1_letFall 121 = .ok (.goto (-104), 3) := by decide +kernel
theorem dX1_letFall_124 : decode cX1_letFall 124 = .ok (.return_, 1) := by decide +kernel
theorem dX1_ending_0 : decode cX1_ending 0 = .ok (.iload_n 1, 1) := by decide +kernel
theorem dX1_ending_1 : decode cX1_ending 1 = .ok (.tableswitch 42 0 2 #[27, 32, 37], 27) := by decide +kernel
theorem dX1_ending_28 : decode cX1_ending 28 = .ok (.aload_n 0, 1) := by decide +kernel
theorem dX1_ending_29 : decode cX1_ending 29 = .ok (.getfield 34, 3) := by decide +kernel
theorem dX1_ending_32 : decode cX1_ending 32 = .ok (.ireturn, 1) := by decide +kernel
theorem dX1_ending_33 : decode cX1_ending 33 = .ok (.aload_n 0, 1) := by decide +kernel
theorem dX1_ending_34 : decode cX1_ending 34 = .ok (.getfield 37, 3) := by decide +kernel
theorem dX1_ending_37 : decode cX1_ending 37 = .ok (.ireturn, 1) := by decide +kernel
theorem dX1_ending_38 : decode cX1_ending 38 = .ok (.aload_n 0, 1) := by decide +kernel
theorem dX1_ending_39 : decode cX1_ending 39 = .ok (.getfield 40, 3) := by decide +kernel
theorem dX1_ending_42 : decode cX1_ending 42 = .ok (.ireturn, 1) := by decide +kernel
theorem dX1_ending_43 : decode cX1_ending 43 = .ok (.aload_n 0, 1) := by decide +kernel
theorem dX1_ending_44 : decode cX1_ending 44 = .ok (.invokevirtual 68, 3) := by decide +kernel
theorem dX1_ending_47 : decode cX1_ending 47 = .ok (.ireturn, 1) := by decide +kernel
theorem dX1_profit_0 : decode cX1_profit 0 = .ok (.aload_n 0, 1) := by decide +kernel
theorem dX1_profit_1 : decode cX1_profit 1 = .ok (.iload_n 1, 1) := by decide +kernel
theorem dX1_profit_2 : decode cX1_profit 2 = .ok (.invokevirtual 72, 3) := by decide +kernel
theorem dX1_profit_5 : decode cX1_profit 5 = .ok (.ifCond .ne 5, 3) := by decide +kernel
theorem dX1_profit_8 : decode cX1_profit 8 = .ok (.iconst 0, 1) := by decide +kernel
theorem dX1_profit_9 : decode cX1_profit 9 = .ok (.ireturn, 1) := by decide +kernel
theorem dX1_profit_10 : decode cX1_profit 10 = .ok (.aload_n 0, 1) := by decide +kernel
theorem dX1_profit_11 : decode cX1_profit 11 = .ok (.iload_n 1, 1) := by decide +kernel
theorem dX1_profit_12 : decode cX1_profit 12 = .ok (.iload_n 2, 1) := by decide +kernel
theorem dX1_profit_13 : decode cX1_profit 13 = .ok (.invokevirtual 75, 3) := by decide +kernel
theorem dX1_profit_16 : decode cX1_profit 16 = .ok (.aload_n 0, 1) := by decide +kernel
theorem dX1_profit_17 : decode cX1_profit 17 = .ok (.getfield 37, 3) := by decide +kernel
theorem dX1_profit_20 : decode cX1_profit 20 = .ok (.iload_n 1, 1) := by decide +kernel
theorem dX1_profit_21 : decode cX1_profit 21 = .ok (.invokestatic 57, 3) := by decide +kernel
theorem dX1_profit_24 : decode cX1_profit 24 = .ok (.ifCond .eq 19, 3) := by decide +kernel
theorem dX1_profit_27 : decode cX1_profit 27 = .ok (.aload_n 0, 1) := by decide +kernel
theorem dX1_profit_28 : decode cX1_profit 28 = .ok (.getfield 28, 3) := by decide +kernel
theorem dX1_profit_31 : decode cX1_profit 31 = .ok (.iload_n 1, 1) := by decide +kernel
theorem dX1_profit_32 : decode cX1_profit 32 = .ok (.iaload, 1) := by decide +kernel
theorem dX1_profit_33 : decode cX1_profit 33 = .ok (.aload_n 0, 1) := by decide +kernel
theorem dX1_profit_34 : decode cX1_profit 34 = .ok (.getfield 21, 3) := by decide +kernel
theorem dX1_profit_37 : decode cX1_profit 37 = .ok (.iload_n 1, 1) := by decide +kernel
theorem dX1_profit_38 : decode cX1_profit 38 = .ok (.iaload, 1) := by decide +kernel
theorem dX1_profit_39 : decode cX1_profit 39 = .ok (.isub, 1) := by decide +kernel
theorem dX1_profit_40 : decode cX1_profit 40 = .ok (.goto 4, 3) := by decide +kernel
theorem dX1_profit_43 : decode cX1_profit 43 = .ok (.iconst 0, 1) := by decide +kernel
theorem dX1_profit_44 : decode cX1_profit 44 = .ok (.ireturn, 1) := by decide +kernel
theorem dX1_offer_0 : decode cX1_offer 0 = .ok (.aload_n 0, 1) := by decide +kernel
theorem dX1_offer_1 : decode cX1_offer 1 = .ok (.iload_n 2, 1) := by decide +kernel
theorem dX1_offer_2 : decode cX1_offer 2 = .ok (.invokevirtual 79, 3) := by decide +kernel
theorem dX1_offer_5 : decode cX1_offer 5 = .ok (.istore 4, 2) := by decide +kernel
theorem dX1_offer_7 : decode cX1_offer 7 = .ok (.aload_n 0, 1) := by decide +kernel
theorem dX1_offer_8 : decode cX1_offer 8 = .ok (.getfield 47, 3) := by decide +kernel
theorem dX1_offer_11 : decode cX1_offer 11 = .ok (.aload_n 0, 1) := by decide +kernel
theorem dX1_offer_12 : decode cX1_offer 12 = .ok (.getfield 34, 3) := by decide +kernel
theorem dX1_offer_15 : decode cX1_offer 15 = .ok (.iconst 1, 1) := by decide +kernel
theorem dX1_offer_16 : decode cX1_offer 16 = .ok (.iload_n 1, 1) := by decide +kernel
theorem dX1_offer_17 : decode cX1_offer 17 = .ok (.ishl, 1) := by decide +kernel
theorem dX1_offer_18 : decode cX1_offer 18 = .ok (.ior, 1) := by decide +kernel
theorem dX1_offer_19 : decode cX1_offer 19 = .ok (.invokevirtual 83, 3) := by decide +kernel
theorem dX1_offer_22 : decode cX1_offer 22 = .ok (.ifCond .ne 45, 3) := by decide +kernel
theorem dX1_offer_25 : decode cX1_offer 25 = .ok (.aload_n 0, 1) := by decide +kernel
theorem dX1_offer_26 : decode cX1_offer 26 = .ok (.dup, 1) := by decide +kernel
theorem dX1_offer_27 : decode cX1_offer 27 = .ok (.getfield 37, 3) := by decide +kernel
theorem dX1_offer_30 : decode cX1_offer 30 = .ok (.iconst 1, 1) := by decide +kernel
theorem dX1_offer_31 : decode cX1_offer 31 = .ok (.iload_n 1, 1) := by decide +kernel
theorem dX1_offer_32 : decode cX1_offer 32 = .ok (.ishl, 1) := by decide +kernel
theorem dX1_offer_33 : decode cX1_offer 33 = .ok (.ior, 1) := by decide +kernel
theorem dX1_offer_34 : decode cX1_offer 34 = .ok (.putfield 37, 3) := by decide +kernel
theorem dX1_offer_37 : decode cX1_offer 37 = .ok (.aload_n 0, 1) := by decide +kernel
theorem dX1_offer_38 : decode cX1_offer 38 = .ok (.getfield 28, 3) := by decide +kernel
theorem dX1_offer_41 : decode cX1_offer 41 = .ok (.iload_n 1, 1) := by decide +kernel
theorem dX1_offer_42 : decode cX1_offer 42 = .ok (.aload_n 0, 1) := by decide +kernel
theorem dX1_offer_43 : decode cX1_offer 43 = .ok (.iload_n 2, 1) := by decide +kernel
theorem dX1_offer_44 : decode cX1_offer 44 = .ok (.iconst 1, 1) := by decide +kernel
theorem dX1_offer_45 : decode cX1_offer 45 = .ok (.isub, 1) := by decide +kernel
theorem dX1_offer_46 : decode cX1_offer 46 = .ok (.invokevirtual 79, 3) := by decide +kernel
theorem dX1_offer_49 : decode cX1_offer 49 = .ok (.aload_n 0, 1) := by decide +kernel
theorem dX1_offer_50 : decode cX1_offer 50 = .ok (.getfield 25, 3) := by decide +kernel
theorem dX1_offer_53 : decode cX1_offer 53 = .ok (.iload_n 1, 1) := by decide +kernel
theorem dX1_offer_54 : decode cX1_offer 54 = .ok (.iaload, 1) := by decide +kernel
theorem dX1_offer_55 : decode cX1_offer 55 = .ok (.imul, 1) := by decide +kernel
theorem dX1_offer_56 : decode cX1_offer 56 = .ok (.iastore, 1) := by decide +kernel
theorem dX1_offer_57 : decode cX1_offer 57 = .ok (.aload_n 0, 1) := by decide +kernel
theorem dX1_offer_58 : decode cX1_offer 58 = .ok (.getfield 31, 3) := by decide +kernel
theorem dX1_offer_61 : decode cX1_offer 61 = .ok (.iload_n 1, 1) := by decide +kernel
theorem dX1_offer_62 : decode cX1_offer 62 = .ok (.iload_n 2, 1) := by decide +kernel
theorem dX1_offer_63 : decode cX1_offer 63 = .ok (.iastore, 1) := by decide +kernel
theorem dX1_offer_64 : decode cX1_offer 64 = .ok (.goto 47, 3) := by decide +kernel
theorem dX1_offer_67 : decode cX1_offer 67 = .ok (.iload 4, 2) := by decide +kernel
theorem dX1_offer_69 : decode cX1_offer 69 = .ok (.ifCond .eq 16, 3) := by decide +kernel
theorem dX1_offer_72 : decode cX1_offer 72 = .ok (.iload 4, 2) := by decide +kernel
theorem dX1_offer_74 : decode cX1_offer 74 = .ok (.aload_n 0, 1) := by decide +kernel
theorem dX1_offer_75 : decode cX1_offer 75 = .ok (.getfield 25, 3) := by decide +kernel
theorem dX1_offer_78 : decode cX1_offer 78 = .ok (.iload_n 1, 1) := by decide +kernel
theorem dX1_offer_79 : decode cX1_offer 79 = .ok (.iaload, 1) := by decide +kernel
theorem dX1_offer_80 : decode cX1_offer 80 = .ok (.imul, 1) := by decide +kernel
theorem dX1_offer_81 : decode cX1_offer 81 = .ok (.iload_n 3, 1) := by decide +kernel
theorem dX1_offer_82 : decode cX1_offer 82 = .ok (.if_icmp .ge 29, 3) := by decide +kernel
theorem dX1_offer_85 : decode cX1_offer 85 = .ok (.aload_n 0, 1) := by decide +kernel
theorem dX1_offer_86 : decode cX1_offer 86 = .ok (.dup, 1) := by decide +kernel
theorem dX1_offer_87 : decode cX1_offer 87 = .ok (.getfield 34, 3) := by decide +kernel
theorem dX1_offer_90 : decode cX1_offer 90 = .ok (.iconst 1, 1) := by decide +kernel
theorem dX1_offer_91 : decode cX1_offer 91 = .ok (.iload_n 1, 1) := by decide +kernel
theorem dX1_offer_92 : decode cX1_offer 92 = .ok (.ishl, 1) := by decide +kernel
theorem dX1_offer_93 : decode cX1_offer 93 = .ok (.ior, 1) := by decide +kernel
theorem dX1_offer_94 : decode cX1_offer 94 = .ok (.putfield 34, 3) := by decide +kernel
theorem dX1_offer_97 : decode cX1_offer 97 = .ok (.aload_n 0, 1) := by decide +kernel
theorem dX1_offer_98 : decode cX1_offer 98 = .ok (.getfield 28, 3) := by decide +kernel
theorem dX1_offer_101 : decode cX1_offer 101 = .ok (.iload_n 1, 1) := by decide +kernel
theorem dX1_offer_102 : decode cX1_offer 102 = .ok (.iconst 0, 1) := by decide +kernel
theorem dX1_offer_103 : decode cX1_offer 103 = .ok (.iastore, 1) := by decide +kernel
theorem dX1_offer_104 : decode cX1_offer 104 = .ok (.aload_n 0, 1) := by decide +kernel
theorem dX1_offer_105 : decode cX1_offer 105 = .ok (.getfield 31, 3) := by decide +kernel
theorem dX1_offer_108 : decode cX1_offer 108 = .ok (.iload_n 1, 1) := by decide +kernel
theorem dX1_offer_109 : decode cX1_offer 109 = .ok (.iload_n 2, 1) := by decide +kernel
theorem dX1_offer_110 : decode cX1_offer 110 = .ok (.iastore, 1) := by decide +kernel
theorem dX1_offer_111 : decode cX1_offer 111 = .ok (.return_, 1) := by decide +kernel
theorem dX1_priceIn_0 : decode cX1_priceIn 0 = .ok (.iload_n 1, 1) := by decide +kernel
theorem dX1_priceIn_1 : decode cX1_priceIn 1 = .ok (.ifCond .gt 10, 3) := by decide +kernel
theorem dX1_priceIn_4 : decode cX1_priceIn 4 = .ok (.aload_n 0, 1) := by decide +kernel
theorem dX1_priceIn_5 : decode cX1_priceIn 5 = .ok (.getfield 15, 3) := by decide +kernel
theorem dX1_priceIn_8 : decode cX1_priceIn 8 = .ok (.goto 18, 3) := by decide +kernel
theorem dX1_priceIn_11 : decode cX1_priceIn 11 = .ok (.iconst 0, 1) := by decide +kernel
theorem dX1_priceIn_12 : decode cX1_priceIn 12 = .ok (.aload_n 0, 1) := by decide +kernel
theorem dX1_priceIn_13 : decode cX1_priceIn 13 = .ok (.getfield 15, 3) := by decide +kernel
theorem dX1_priceIn_16 : decode cX1_priceIn 16 = .ok (.iload_n 1, 1) := by decide +kernel
theorem dX1_priceIn_17 : decode cX1_priceIn 17 = .ok (.aload_n 0, 1) := by decide +kernel
theorem dX1_priceIn_18 : decode cX1_priceIn 18 = .ok (.getfield 18, 3) := by decide +kernel
theorem dX1_priceIn_21 : decode cX1_priceIn 21 = .ok (.imul, 1) := by decide +kernel
theorem dX1_priceIn_22 : decode cX1_priceIn 22 = .ok (.isub, 1) := by decide +kernel
theorem dX1_priceIn_23 : decode cX1_priceIn 23 = .ok (.invokestatic 88, 3) := by decide +kernel
theorem dX1_priceIn_26 : decode cX1_priceIn 26 = .ok (.ireturn, 1) := by decide +kernel
theorem dX1_allPaid_0 : decode cX1_allPaid 0 = .ok (.iconst 0, 1) := by decide +kernel
theorem dX1_allPaid_1 : decode cX1_allPaid 1 = .ok (.istore_n 1, 1) := by decide +kernel
theorem dX1_allPaid_2 : decode cX1_allPaid 2 = .ok (.iconst 0, 1) := by decide +kernel
theorem dX1_allPaid_3 : decode cX1_allPaid 3 = .ok (.istore_n 2, 1) := by decide +kernel
theorem dX1_allPaid_4 : decode cX1_allPaid 4 = .ok (.iload_n 2, 1) := by decide +kernel
theorem dX1_allPaid_5 : decode cX1_allPaid 5 = .ok (.aload_n 0, 1) := by decide +kernel
theorem dX1_allPaid_6 : decode cX1_allPaid 6 = .ok (.getfield 43, 3) := by decide +kernel
theorem dX1_allPaid_9 : decode cX1_allPaid 9 = .ok (.getfield 61, 3) := by decide +kernel
theorem dX1_allPaid_12 : decode cX1_allPaid 12 = .ok (.if_icmp .ge 33, 3) := by decide +kernel
theorem dX1_allPaid_15 : decode cX1_allPaid 15 = .ok (.iload_n 1, 1) := by decide +kernel
theorem dX1_allPaid_16 : decode cX1_allPaid 16 = .ok (.aload_n 0, 1) := by decide +kernel
theorem dX1_allPaid_17 : decode cX1_allPaid 17 = .ok (.getfield 37, 3) := by decide +kernel
theorem dX1_allPaid_20 : decode cX1_allPaid 20 = .ok (.iload_n 2, 1) := by decide +kernel
theorem dX1_allPaid_21 : decode cX1_allPaid 21 = .ok (.invokestatic 57, 3) := by decide +kernel
theorem dX1_allPaid_24 : decode cX1_allPaid 24 = .ok (.ifCond .eq 12, 3) := by decide +kernel
theorem dX1_allPaid_27 : decode cX1_allPaid 27 = .ok (.aload_n 0, 1) := by decide +kernel
theorem dX1_allPaid_28 : decode cX1_allPaid 28 = .ok (.getfield 28, 3) := by decide +kernel
theorem dX1_allPaid_31 : decode cX1_allPaid 31 = .ok (.iload_n 2, 1) := by decide +kernel
theorem dX1_allPaid_32 : decode cX1_allPaid 32 = .ok (.iaload, 1) := by decide +kernel
theorem dX1_allPaid_33 : decode cX1_allPaid 33 = .ok (.goto 4, 3) := by decide +kernel
theorem dX1_allPaid_36 : decode cX1_allPaid 36 = .ok (.iconst 0, 1) := by decide +kernel
theorem dX1_allPaid_37 : decode cX1_allPaid 37 = .ok (.iadd, 1) := by decide +kernel
theorem dX1_allPaid_38 : decode cX1_allPaid 38 = .ok (.istore_n 1, 1) := by decide +kernel
theorem dX1_allPaid_39 : decode cX1_allPaid 39 = .ok (.iinc 2 1, 3) := by decide +kernel
theorem dX1_allPaid_42 : decode cX1_allPaid 42 = .ok (.goto (-38), 3) := by decide +kernel
theorem dX1_allPaid_45 : decode cX1_allPaid 45 = .ok (.iload_n 1, 1) := by decide +kernel
theorem dX1_allPaid_46 : decode cX1_allPaid 46 = .ok (.ireturn, 1) := by decide +kernel
theorem dX2_init_0 : decode cX2_init 0 = .ok (.aload_n 0, 1) := by decide +kernel
theorem dX2_init_1 : decode cX2_init 1 = .ok (.invokespecial 3, 3) := by decide +kernel
theorem dX2_init_4 : decode cX2_init 4 = .ok (.aload_n 0, 1) := by decide +kernel
theorem dX2_init_5 : decode cX2_init 5 = .ok (.bipush 10, 2) := by decide +kernel
theorem dX2_init_7 : decode cX2_init 7 = .ok (.newarray .int, 2) := by decide +kernel
theorem dX2_init_9 : decode cX2_init 9 = .ok (.dup, 1) := by decide +kernel
theorem dX2_init_10 : decode cX2_init 10 = .ok (.iconst 0, 1) := by decide +kernel
theorem dX2_init_11 : decode cX2_init 11 = .ok (.iconst (-1), 1) := by decide +kernel
theorem dX2_init_12 : decode cX2_init 12 = .ok (.iastore, 1) := by decide +kernel
theorem dX2_init_13 : decode cX2_init 13 = .ok (.dup, 1) := by decide +kernel
theorem dX2_init_14 : decode cX2_init 14 = .ok (.iconst 1, 1) := by decide +kernel
theorem dX2_init_15 : decode cX2_init 15 = .ok (.iconst (-1), 1) := by decide +kernel
theorem dX2_init_16 : decode cX2_init 16 = .ok (.iastore, 1) := by decide +kernel
theorem dX2_init_17 : decode cX2_init 17 = .ok (.dup, 1) := by decide +kernel
theorem dX2_init_18 : decode cX2_init 18 = .ok (.iconst 2, 1) := by decide +kernel
theorem dX2_init_19 : decode cX2_init 19 = .ok (.iconst (-1), 1) := by decide +kernel
theorem dX2_init_20 : decode cX2_init 20 = .ok (.iastore, 1) := by decide +kernel
theorem dX2_init_21 : decode cX2_init 21 = .ok (.dup, 1) := by decide +kernel
theorem dX2_init_22 : decode cX2_init 22 = .ok (.iconst 3, 1) := by decide +kernel
theorem dX2_init_23 : decode cX2_init 23 = .ok (.iconst (-1), 1) := by decide +kernel
theorem dX2_init_24 : decode cX2_init 24 = .ok (.iastore, 1) := by decide +kernel
theorem dX2_init_25 : decode cX2_init 25 = .ok (.dup, 1) := by decide +kernel
theorem dX2_init_26 : decode cX2_init 26 = .ok (.iconst 4, 1) := by decide +kernel
theorem dX2_init_27 : decode cX2_init 27 = .ok (.iconst (-1), 1) := by decide +kernel
theorem dX2_init_28 : decode cX2_init 28 = .ok (.iastore, 1) := by decide +kernel
theorem dX2_init_29 : decode cX2_init 29 = .ok (.dup, 1) := by decide +kernel
theorem dX2_init_30 : decode cX2_init 30 = .ok (.iconst 5, 1) := by decide +kernel
theorem dX2_init_31 : decode cX2_init 31 = .ok (.iconst (-1), 1) := by decide +kernel
theorem dX2_init_32 : decode cX2_init 32 = .ok (.iastore, 1) := by decide +kernel
theorem dX2_init_33 : decode cX2_init 33 = .ok (.dup, 1) := by decide +kernel
theorem dX2_init_34 : decode cX2_init 34 = .ok (.bipush 6, 2) := by decide +kernel
theorem dX2_init_36 : decode cX2_init 36 = .ok (.iconst (-1), 1) := by decide +kernel
theorem dX2_init_37 : decode cX2_init 37 = .ok (.iastore, 1) := by decide +kernel
theorem dX2_init_38 : decode cX2_init 38 = .ok (.dup, 1) := by decide +kernel
theorem dX2_init_39 : decode cX2_init 39 = .ok (.bipush 7, 2) := by decide +kernel
theorem dX2_init_41 : decode cX2_init 41 = .ok (.iconst (-1), 1) := by decide +kernel
theorem dX2_init_42 : decode cX2_init 42 = .ok (.iastore, 1) := by decide +kernel
theorem dX2_init_43 : decode cX2_init 43 = .ok (.dup, 1) := by decide +kernel
theorem dX2_init_44 : decode cX2_init 44 = .ok (.bipush 8, 2) := by decide +kernel
theorem dX2_init_46 : decode cX2_init 46 = .ok (.iconst (-1), 1) := by decide +kernel
theorem dX2_init_47 : decode cX2_init 47 = .ok (.iastore, 1) := by decide +kernel
theorem dX2_init_48 : decode cX2_init 48 = .ok (.dup, 1) := by decide +kernel
theorem dX2_init_49 : decode cX2_init 49 = .ok (.bipush 9, 2) := by decide +kernel
theorem dX2_init_51 : decode cX2_init 51 = .ok (.iconst (-1), 1) := by decide +kernel
theorem dX2_init_52 : decode cX2_init 52 = .ok (.iastore, 1) := by decide +kernel
theorem dX2_init_53 : decode cX2_init 53 = .ok (.putfield 9, 3) := by decide +kernel
theorem dX2_init_56 : decode cX2_init 56 = .ok (.aload_n 0, 1) := by decide +kernel
theorem dX2_init_57 : decode cX2_init 57 = .ok (.bipush 10, 2) := by decide +kernel
theorem dX2_init_59 : decode cX2_init 59 = .ok (.newarray .int, 2) := by decide +kernel
theorem dX2_init_61 : decode cX2_init 61 = .ok (.dup, 1) := by decide +kernel
theorem dX2_init_62 : decode cX2_init 62 = .ok (.iconst 0, 1) := by decide +kernel
theorem dX2_init_63 : decode cX2_init 63 = .ok (.iconst (-1), 1) := by decide +kernel
theorem dX2_init_64 : decode cX2_init 64 = .ok (.iastore, 1) := by decide +kernel
theorem dX2_init_65 : decode cX2_init 65 = .ok (.dup, 1) := by decide +kernel
theorem dX2_init_66 : decode cX2_init 66 = .ok (.iconst 1, 1) := by decide +kernel
theorem dX2_init_67 : decode cX2_init 67 = .ok (.iconst (-1), 1) := by decide +kernel
theorem dX2_init_68 : decode cX2_init 68 = .ok (.iastore, 1) := by decide +kernel
theorem dX2_init_69 : decode cX2_init 69 = .ok (.dup, 1) := by decide +kernel
theorem dX2_init_70 : decode cX2_init 70 = .ok (.iconst 2, 1) := by decide +kernel
theorem dX2_init_71 : decode cX2_init 71 = .ok (.iconst (-1), 1) := by decide +kernel
theorem dX2_init_72 : decode cX2_init 72 = .ok (.iastore, 1) := by decide +kernel
theorem dX2_init_73 : decode cX2_init 73 = .ok (.dup, 1) := by decide +kernel
theorem dX2_init_74 : decode cX2_init 74 = .ok (.iconst 3, 1) := by decide +kernel
theorem dX2_init_75 : decode cX2_init 75 = .ok (.iconst (-1), 1) := by decide +kernel
theorem dX2_init_76 : decode cX2_init 76 = .ok (.iastore, 1) := by decide +kernel
theorem dX2_init_77 : decode cX2_init 77 = .ok (.dup, 1) := by decide +kernel
theorem dX2_init_78 : decode cX2_init 78 = .ok (.iconst 4, 1) := by decide +kernel
theorem dX2_init_79 : decode cX2_init 79 = .ok (.iconst (-1), 1) := by decide +kernel
theorem dX2_init_80 : decode cX2_init 80 = .ok (.iastore, 1) := by decide +kernel
theorem dX2_init_81 : decode cX2_init 81 = .ok (.dup, 1) := by decide +kernel
theorem dX2_init_82 : decode cX2_init 82 = .ok (.iconst 5, 1) := by decide +kernel
theorem dX2_init_83 : decode cX2_init 83 = .ok (.iconst (-1), 1) := by decide +kernel
theorem dX2_init_84 : decode cX2_init 84 = .ok (.iastore, 1) := by decide +kernel
theorem dX2_init_85 : decode cX2_init 85 = .ok (.dup, 1) := by decide +kernel
theorem dX2_init_86 : decode cX2_init 86 = .ok (.bipush 6, 2) := by decide +kernel
theorem dX2_init_88 : decode cX2_init 88 = .ok (.iconst (-1), 1) := by decide +kernel
theorem dX2_init_89 : decode cX2_init 89 = .ok (.iastore, 1) := by decide +kernel
theorem dX2_init_90 : decode cX2_init 90 = .ok (.dup, 1) := by decide +kernel
theorem dX2_init_91 : decode cX2_init 91 = .ok (.bipush 7, 2) := by decide +kernel
theorem dX2_init_93 : decode cX2_init 93 = .ok (.iconst (-1), 1) := by decide +kernel
theorem dX2_init_94 : decode cX2_init 94 = .ok (.iastore, 1) := by decide +kernel
theorem dX2_init_95 : decode cX2_init 95 = .ok (.dup, 1) := by decide +kernel
theorem dX2_init_96 : decode cX2_init 96 = .ok (.bipush 8, 2) := by decide +kernel
theorem dX2_init_98 : decode cX2_init 98 = .ok (.iconst (-1), 1) := by decide +kernel
theorem dX2_init_99 : decode cX2_init 99 = .ok (.iastore, 1) := by decide +kernel
theorem dX2_init_100 : decode cX2_init 100 = .ok (.dup, 1) := by decide +kernel
theorem dX2_init_101 : decode cX2_init 101 = .ok (.bipush 9, 2) := by decide +kernel
theorem dX2_init_103 : decode cX2_init 103 = .ok (.iconst (-1), 1) := by decide +kernel
theorem dX2_init_104 : decode cX2_init 104 = .ok (.iastore, 1) := by decide +kernel
theorem dX2_init_105 : decode cX2_init 105 = .ok (.putfield 15, 3) := by decide +kernel
theorem dX2_init_108 : decode cX2_init 108 = .ok (.aload_n 0, 1) := by decide +kernel
theorem dX2_init_109 : decode cX2_init 109 = .ok (.sipush 1024, 3) := by decide +kernel
theorem dX2_init_112 : decode cX2_init 112 = .ok (.newarray .int, 2) := by decide +kernel
theorem dX2_init_114 : decode cX2_init 114 = .ok (.putfield 18, 3) := by decide +kernel
theorem dX2_init_117 : decode cX2_init 117 = .ok (.aload_n 0, 1) := by decide +kernel
theorem dX2_init_118 : decode cX2_init 118 = .ok (.aload_n 1, 1) := by decide +kernel
theorem dX2_init_119 : decode cX2_init 119 = .ok (.putfield 21, 3) := by decide +kernel
theorem dX2_init_122 : decode cX2_init 122 = .ok (.return_, 1) := by decide +kernel
theorem dX2_fewestWeeks_0 : decode cX2_fewestWeeks 0 = .ok (.aload_n 0, 1) := by decide +kernel
theorem dX2_fewestWeeks_1 : decode cX2_fewestWeeks 1 = .ok (.invokevirtual 25, 3) := by decide +kernel
theorem dX2_fewestWeeks_4 : decode cX2_fewestWeeks 4 = .ok (.istore_n 2, 1) := by decide +kernel
theorem dX2_fewestWeeks_5 : decode cX2_fewestWeeks 5 = .ok (.iload_n 2, 1) := by decide +kernel
theorem dX2_fewestWeeks_6 : decode cX2_fewestWeeks 6 = .ok (.istore_n 3, 1) := by decide +kernel
theorem dX2_fewestWeeks_7 : decode cX2_fewestWeeks 7 = .ok (.iload_n 3, 1) := by decide +kernel
theorem dX2_fewestWeeks_8 : decode cX2_fewestWeeks 8 = .ok (.ifCond .lt 44, 3) := by decide +kernel
theorem dX2_fewestWeeks_11 : decode cX2_fewestWeeks 11 = .ok (.iload_n 3, 1) := by decide +kernel
theorem dX2_fewestWeeks_12 : decode cX2_fewestWeeks 12 = .ok (.iload_n 2, 1) := by decide +kernel
theorem dX2_fewestWeeks_13 : decode cX2_fewestWeeks 13 = .ok (.iconst (-1), 1) := by decide +kernel
theorem dX2_fewestWeeks_14 : decode cX2_fewestWeeks 14 = .ok (.ixor, 1) := by decide +kernel
theorem dX2_fewestWeeks_15 : decode cX2_fewestWeeks 15 = .ok (.iand, 1) := by decide +kernel
theorem dX2_fewestWeeks_16 : decode cX2_fewestWeeks 16 = .ok (.ifCond .ne 30, 3) := by decide +kernel
theorem dX2_fewestWeeks_19 : decode cX2_fewestWeeks 19 = .ok (.aload_n 0, 1) := by decide +kernel
theorem dX2_fewestWeeks_20 : decode cX2_fewestWeeks 20 = .ok (.getfield 18, 3) := by decide +kernel
theorem dX2_fewestWeeks_23 : decode cX2_fewestWeeks 23 = .ok (.iload_n 3, 1) := by decide +kernel
theorem dX2_fewestWeeks_24 : decode cX2_fewestWeeks 24 = .ok (.aload_n 0, 1) := by decide +kernel
theorem dX2_fewestWeeks_25 : decode cX2_fewestWeeks 25 = .ok (.iload_n 3, 1) := by decide +kernel
theorem dX2_fewestWeeks_26 : decode cX2_fewestWeeks 26 = .ok (.invokevirtual 29, 3) := by decide +kernel
theorem dX2_fewestWeeks_29 : decode cX2_fewestWeeks 29 = .ok (.ifCond .eq 13, 3) := by decide +kernel
theorem dX2_fewestWeeks_32 : decode cX2_fewestWeeks 32 = .ok (.aload_n 0, 1) := by decide +kernel
theorem dX2_fewestWeeks_33 : decode cX2_fewestWeeks 33 = .ok (.iload_n 3, 1) := by decide +kernel
theorem dX2_fewestWeeks_34 : decode cX2_fewestWeeks 34 = .ok (.iload_n 2, 1) := by decide +kernel
theorem dX2_fewestWeeks_35 : decode cX2_fewestWeeks 35 = .ok (.iload_n 1, 1) := by decide +kernel
theorem dX2_fewestWeeks_36 : decode cX2_fewestWeeks 36 = .ok (.invokevirtual 33, 3) := by decide +kernel
theorem dX2_fewestWeeks_39 : decode cX2_fewestWeeks 39 = .ok (.goto 6, 3) := by decide +kernel
theorem dX2_fewestWeeks_42 : decode cX2_fewestWeeks 42 = .ok (.sipush 1000, 3) := by decide +kernel
theorem dX2_fewestWeeks_45 : decode cX2_fewestWeeks 45 = .ok (.iastore, 1) := by decide +kernel
theorem dX2_fewestWeeks_46 : decode cX2_fewestWeeks 46 = .ok (.iinc 3 (-1), 3) := by decide +kernel
theorem dX2_fewestWeeks_49 : decode cX2_fewestWeeks 49 = .ok (.goto (-42), 3) := by decide +kernel
theorem dX2_fewestWeeks_52 : decode cX2_fewestWeeks 52 = .ok (.aload_n 0, 1) := by decide +kernel
theorem dX2_fewestWeeks_53 : decode cX2_fewestWeeks 53 = .ok (.getfield 18, 3) := by decide +kernel
theorem dX2_fewestWeeks_56 : decode cX2_fewestWeeks 56 = .ok (.iconst 0, 1) := by decide +kernel
theorem dX2_fewestWeeks_57 : decode cX2_fewestWeeks 57 = .ok (.iaload, 1) := by decide +kernel
theorem dX2_fewestWeeks_58 : decode cX2_fewestWeeks 58 = .ok (.ireturn, 1) := by decide +kernel
theorem dX2_movedIn_0 : decode cX2_movedIn 0 = .ok (.aload_n 0, 1) := by decide +kernel
theorem dX2_movedIn_1 : decode cX2_movedIn 1 = .ok (.invokevirtual 25, 3) := by decide +kernel
theorem dX2_movedIn_4 : decode cX2_movedIn 4 = .ok (.istore_n 3, 1) := by decide +kernel
theorem dX2_movedIn_5 : decode cX2_movedIn 5 = .ok (.iconst 0, 1) := by decide +kernel
theorem dX2_movedIn_6 : decode cX2_movedIn 6 = .ok (.istore 4, 2) := by decide +kernel
theorem dX2_movedIn_8 : decode cX2_movedIn 8 = .ok (.iconst 0, 1) := by decide +kernel
theorem dX2_movedIn_9 : decode cX2_movedIn 9 = .ok (.istore 5, 2) := by decide +kernel
theorem dX2_movedIn_11 : decode cX2_movedIn 11 = .ok (.iconst 0, 1) := by decide +kernel
theorem dX2_movedIn_12 : decode cX2_movedIn 12 = .ok (.istore 6, 2) := by decide +kernel
theorem dX2_movedIn_14 : decode cX2_movedIn 14 = .ok (.iload 6, 2) := by decide +kernel
theorem dX2_movedIn_16 : decode cX2_movedIn 16 = .ok (.iload_n 1, 1) := by decide +kernel
theorem dX2_movedIn_17 : decode cX2_movedIn 17 = .ok (.if_icmp .gt 38, 3) := by decide +kernel
theorem dX2_movedIn_20 : decode cX2_movedIn 20 = .ok (.iload 6, 2) := by decide +kernel
theorem dX2_movedIn_22 : decode cX2_movedIn 22 = .ok (.bipush 10, 2) := by decide +kernel
theorem dX2_movedIn_24 : decode cX2_movedIn 24 = .ok (.if_icmp .ge 31, 3) := by decide +kernel
theorem dX2_movedIn_27 : decode cX2_movedIn 27 = .ok (.aload_n 0, 1) := by decide +kernel
theorem dX2_movedIn_28 : decode cX2_movedIn 28 = .ok (.iload 4, 2) := by decide +kernel
theorem dX2_movedIn_30 : decode cX2_movedIn 30 = .ok (.iload_n 3, 1) := by decide +kernel
theorem dX2_movedIn_31 : decode cX2_movedIn 31 = .ok (.iload 4, 2) := by decide +kernel
theorem dX2_movedIn_33 : decode cX2_movedIn 33 = .ok (.iconst (-1), 1) := by decide +kernel
theorem dX2_movedIn_34 : decode cX2_movedIn 34 = .ok (.ixor, 1) := by decide +kernel
theorem dX2_movedIn_35 : decode cX2_movedIn 35 = .ok (.iand, 1) := by decide +kernel
theorem dX2_movedIn_36 : decode cX2_movedIn 36 = .ok (.iload_n 2, 1) := by decide +kernel
theorem dX2_movedIn_37 : decode cX2_movedIn 37 = .ok (.invokevirtual 37, 3) := by decide +kernel
theorem dX2_movedIn_40 : decode cX2_movedIn 40 = .ok (.istore 5, 2) := by decide +kernel
theorem dX2_movedIn_42 : decode cX2_movedIn 42 = .ok (.iload 4, 2) := by decide +kernel
theorem dX2_movedIn_44 : decode cX2_movedIn 44 = .ok (.iload 5, 2) := by decide +kernel
theorem dX2_movedIn_46 : decode cX2_movedIn 46 = .ok (.ior, 1) := by decide +kernel
theorem dX2_movedIn_47 : decode cX2_movedIn 47 = .ok (.istore 4, 2) := by decide +kernel
theorem dX2_movedIn_49 : decode cX2_movedIn 49 = .ok (.iinc 6 1, 3) := by decide +kernel
theorem dX2_movedIn_52 : decode cX2_movedIn 52 = .ok (.goto (-38), 3) := by decide +kernel
theorem dX2_movedIn_55 : decode cX2_movedIn 55 = .ok (.iload 5, 2) := by decide +kernel
theorem dX2_movedIn_57 : decode cX2_movedIn 57 = .ok (.ireturn, 1) := by decide +kernel
theorem dX2_brokenBy_0 : decode cX2_brokenBy 0 = .ok (.iconst 0, 1) := by decide +kernel
theorem dX2_brokenBy_1 : decode cX2_brokenBy 1 = .ok (.istore_n 3, 1) := by decide +kernel
theorem dX2_brokenBy_2 : decode cX2_brokenBy 2 = .ok (.iconst 0, 1) := by decide +kernel
theorem dX2_brokenBy_3 : decode cX2_brokenBy 3 = .ok (.istore 4, 2) := by decide +kernel
theorem dX2_brokenBy_5 : decode cX2_brokenBy 5 = .ok (.iload 4, 2) := by decide +kernel
theorem dX2_brokenBy_7 : decode cX2_brokenBy 7 = .ok (.aload_n 0, 1) := by decide +kernel
theorem dX2_brokenBy_8 : decode cX2_brokenBy 8 = .ok (.getfield 21, 3) := by decide +kernel
theorem dX2_brokenBy_11 : decode cX2_brokenBy 11 = .ok (.getfield 40, 3) := by decide +kernel
theorem dX2_brokenBy_14 : decode cX2_brokenBy 14 = .ok (.if_icmp .ge 46, 3) := by decide +kernel
theorem dX2_brokenBy_17 : decode cX2_brokenBy 17 = .ok (.iload 4, 2) := by decide +kernel
theorem dX2_brokenBy_19 : decode cX2_brokenBy 19 = .ok (.iload_n 1, 1) := by decide +kernel
theorem dX2_brokenBy_20 : decode cX2_brokenBy 20 = .ok (.if_icmp .eq 34, 3) := by decide +kernel
theorem dX2_brokenBy_23 : decode cX2_brokenBy 23 = .ok (.aload_n 0, 1) := by decide +kernel
theorem dX2_brokenBy_24 : decode cX2_brokenBy 24 = .ok (.getfield 21, 3) := by decide +kernel
theorem dX2_brokenBy_27 : decode cX2_brokenBy 27 = .ok (.iload_n 1, 1) := by decide +kernel
theorem dX2_brokenBy_28 : decode cX2_brokenBy 28 = .ok (.iload 4, 2) := by decide +kernel
theorem dX2_brokenBy_30 : decode cX2_brokenBy 30 = .ok (.aload_n 0, 1) := by decide +kernel
theorem dX2_brokenBy_31 : decode cX2_brokenBy 31 = .ok (.getfield 15, 3) := by decide +kernel
theorem dX2_brokenBy_34 : decode cX2_brokenBy 34 = .ok (.iload 4, 2) := by decide +kernel
theorem dX2_brokenBy_36 : decode cX2_brokenBy 36 = .ok (.iaload, 1) := by decide +kernel
theorem dX2_brokenBy_37 : decode cX2_brokenBy 37 = .ok (.invokevirtual 46, 3) := by decide +kernel
theorem dX2_brokenBy_40 : decode cX2_brokenBy 40 = .ok (.iload_n 2, 1) := by decide +kernel
theorem dX2_brokenBy_41 : decode cX2_brokenBy 41 = .ok (.invokestatic 49, 3) := by decide +kernel
theorem dX2_brokenBy_44 : decode cX2_brokenBy 44 = .ok (.ifCond .eq 10, 3) := by decide +kernel
theorem dX2_brokenBy_47 : decode cX2_brokenBy 47 = .ok (.iload_n 3, 1) := by decide +kernel
theorem dX2_brokenBy_48 : decode cX2_brokenBy 48 = .ok (.iconst 1, 1) := by decide +kernel
theorem dX2_brokenBy_49 : decode cX2_brokenBy 49 = .ok (.iload 4, 2) := by decide +kernel
theorem dX2_brokenBy_51 : decode cX2_brokenBy 51 = .ok (.ishl, 1) := by decide +kernel
theorem dX2_brokenBy_52 : decode cX2_brokenBy 52 = .ok (.ior, 1) := by decide +kernel
theorem dX2_brokenBy_53 : decode cX2_brokenBy 53 = .ok (.istore_n 3, 1) := by decide +kernel
theorem dX2_brokenBy_54 : decode cX2_brokenBy 54 = .ok (.iinc 4 1, 3) := by decide +kernel
theorem dX2_brokenBy_57 : decode cX2_brokenBy 57 = .ok (.goto (-52), 3) := by decide +kernel
theorem dX2_brokenBy_60 : decode cX2_brokenBy 60 = .ok (.iload_n 3, 1) := by decide +kernel
theorem dX2_brokenBy_61 : decode cX2_brokenBy 61 = .ok (.ireturn, 1) := by decide +kernel
theorem dX2_freeFor_0 : decode cX2_freeFor 0 = .ok (.aload_n 0, 1) := by decide +kernel
theorem dX2_freeFor_1 : decode cX2_freeFor 1 = .ok (.getfield 21, 3) := by decide +kernel
theorem dX2_freeFor_4 : decode cX2_freeFor 4 = .ok (.iload_n 1, 1) := by decide +kernel
theorem dX2_freeFor_5 : decode cX2_freeFor 5 = .ok (.invokevirtual 53, 3) := by decide +kernel
theorem dX2_freeFor_8 : decode cX2_freeFor 8 = .ok (.istore_n 2, 1) := by decide +kernel
theorem dX2_freeFor_9 : decode cX2_freeFor 9 = .ok (.iconst 0, 1) := by decide +kernel
theorem dX2_freeFor_10 : decode cX2_freeFor 10 = .ok (.istore_n 3, 1) := by decide +kernel
theorem dX2_freeFor_11 : decode cX2_freeFor 11 = .ok (.iload_n 3, 1) := by decide +kernel
theorem dX2_freeFor_12 : decode cX2_freeFor 12 = .ok (.aload_n 0, 1) := by decide +kernel
theorem dX2_freeFor_13 : decode cX2_freeFor 13 = .ok (.getfield 21, 3) := by decide +kernel
theorem dX2_freeFor_16 : decode cX2_freeFor 16 = .ok (.getfield 40, 3) := by decide +kernel
theorem dX2_freeFor_19 : decode cX2_freeFor 19 = .ok (.if_icmp .ge 34, 3) := by decide +kernel
theorem dX2_freeFor_22 : decode cX2_freeFor 22 = .ok (.iload_n 3, 1) := by decide +kernel
theorem dX2_freeFor_23 : decode cX2_freeFor 23 = .ok (.iload_n 1, 1) := by decide +kernel
theorem dX2_freeFor_24 : decode cX2_freeFor 24 = .ok (.if_icmp .eq 23, 3) := by decide +kernel
theorem dX2_freeFor_27 : decode cX2_freeFor 27 = .ok (.iload_n 2, 1) := by decide +kernel
theorem dX2_freeFor_28 : decode cX2_freeFor 28 = .ok (.aload_n 0, 1) := by decide +kernel
theorem dX2_freeFor_29 : decode cX2_freeFor 29 = .ok (.getfield 21, 3) := by decide +kernel
theorem dX2_freeFor_32 : decode cX2_freeFor 32 = .ok (.iload_n 1, 1) := by decide +kernel
theorem dX2_freeFor_33 : decode cX2_freeFor 33 = .ok (.iload_n 3, 1) := by decide +kernel
theorem dX2_freeFor_34 : decode cX2_freeFor 34 = .ok (.aload_n 0, 1) := by decide +kernel
theorem dX2_freeFor_35 : decode cX2_freeFor 35 = .ok (.getfield 15, 3) := by decide +kernel
theorem dX2_freeFor_38 : decode cX2_freeFor 38 = .ok (.iload_n 3, 1) := by decide +kernel
theorem dX2_freeFor_39 : decode cX2_freeFor 39 = .ok (.iaload, 1) := by decide +kernel
theorem dX2_freeFor_40 : decode cX2_freeFor 40 = .ok (.invokevirtual 46, 3) := by decide +kernel
theorem dX2_freeFor_43 : decode cX2_freeFor 43 = .ok (.iconst (-1), 1) := by decide +kernel
theorem dX2_freeFor_44 : decode cX2_freeFor 44 = .ok (.ixor, 1) := by decide +kernel
theorem dX2_freeFor_45 : decode cX2_freeFor 45 = .ok (.iand, 1) := by decide +kernel
theorem dX2_freeFor_46 : decode cX2_freeFor 46 = .ok (.istore_n 2, 1) := by decide +kernel
theorem dX2_freeFor_47 : decode cX2_freeFor 47 = .ok (.iinc 3 1, 3) := by decide +kernel
theorem dX2_freeFor_50 : decode cX2_freeFor 50 = .ok (.goto (-39), 3) := by decide +kernel
theorem dX2_freeFor_53 : decode cX2_freeFor 53 = .ok (.iload_n 2, 1) := by decide +kernel
theorem dX2_freeFor_54 : decode cX2_freeFor 54 = .ok (.ireturn, 1) := by decide +kernel
theorem dX2_toMove_0 : decode cX2_toMove 0 = .ok (.iconst 0, 1) := by decide +kernel
theorem dX2_toMove_1 : decode cX2_toMove 1 = .ok (.istore_n 1, 1) := by decide +kernel
theorem dX2_toMove_2 : decode cX2_toMove 2 = .ok (.iconst 0, 1) := by decide +kernel
theorem dX2_toMove_3 : decode cX2_toMove 3 = .ok (.istore_n 2, 1) := by decide +kernel
theorem dX2_toMove_4 : decode cX2_toMove 4 = .ok (.iload_n 2, 1) := by decide +kernel
theorem dX2_toMove_5 : decode cX2_toMove 5 = .ok (.aload_n 0, 1) := by decide +kernel
theorem dX2_toMove_6 : decode cX2_toMove 6 = .ok (.getfield 21, 3) := by decide +kernel
theorem dX2_toMove_9 : decode cX2_toMove 9 = .ok (.getfield 40, 3) := by decide +kernel
theorem dX2_toMove_12 : decode cX2_toMove 12 = .ok (.if_icmp .ge 34, 3) := by decide +kernel
theorem dX2_toMove_15 : decode cX2_toMove 15 = .ok (.iload_n 1, 1) := by decide +kernel
theorem dX2_toMove_16 : decode cX2_toMove 16 = .ok (.aload_n 0, 1) := by decide +kernel
theorem dX2_toMove_17 : decode cX2_toMove 17 = .ok (.getfield 9, 3) := by decide +kernel
theorem dX2_toMove_20 : decode cX2_toMove 20 = .ok (.iload_n 2, 1) := by decide +kernel
theorem dX2_toMove_21 : decode cX2_toMove 21 = .ok (.iaload, 1) := by decide +kernel
theorem dX2_toMove_22 : decode cX2_toMove 22 = .ok (.aload_n 0, 1) := by decide +kernel
theorem dX2_toMove_23 : decode cX2_toMove 23 = .ok (.getfield 15, 3) := by decide +kernel
theorem dX2_toMove_26 : decode cX2_toMove 26 = .ok (.iload_n 2, 1) := by decide +kernel
theorem dX2_toMove_27 : decode cX2_toMove 27 = .ok (.iaload, 1) := by decide +kernel
theorem dX2_toMove_28 : decode cX2_toMove 28 = .ok (.if_icmp .eq 9, 3) := by decide +kernel
theorem dX2_toMove_31 : decode cX2_toMove 31 = .ok (.iconst 1, 1) := by decide +kernel
theorem dX2_toMove_32 : decode cX2_toMove 32 = .ok (.iload_n 2, 1) := by decide +kernel
theorem dX2_toMove_33 : decode cX2_toMove 33 = .ok (.ishl, 1) := by decide +kernel
theorem dX2_toMove_34 : decode cX2_toMove 34 = .ok (.goto 4, 3) := by decide +kernel
theorem dX2_toMove_37 : decode cX2_toMove 37 = .ok (.iconst 0, 1) := by decide +kernel
theorem dX2_toMove_38 : decode cX2_toMove 38 = .ok (.ior, 1) := by decide +kernel
theorem dX2_toMove_39 : decode cX2_toMove 39 = .ok (.istore_n 1, 1) := by decide +kernel
theorem dX2_toMove_40 : decode cX2_toMove 40 = .ok (.iinc 2 1, 3) := by decide +kernel
theorem dX2_toMove_43 : decode cX2_toMove 43 = .ok (.goto (-39), 3) := by decide +kernel
theorem dX2_toMove_46 : decode cX2_toMove 46 = .ok (.iload_n 1, 1) := by decide +kernel
theorem dX2_toMove_47 : decode cX2_toMove 47 = .ok (.ireturn, 1) := by decide +kernel
theorem dX2_nobodyIsHeard_0 : decode cX2_nobodyIsHeard 0 = .ok (.iconst 1, 1) := by decide +kernel
theorem dX2_nobodyIsHeard_1 : decode cX2_nobodyIsHeard 1 = .ok (.istore_n 2, 1) := by decide +kernel
theorem dX2_nobodyIsHeard_2 : decode cX2_nobodyIsHeard 2 = .ok (.iload_n 2, 1) := by decide +kernel
theorem dX2_nobodyIsHeard_3 : decode cX2_nobodyIsHeard 3 = .ok (.aload_n 0, 1) := by decide +kernel
theorem dX2_nobodyIsHeard_4 : decode cX2_nobodyIsHeard 4 = .ok (.getfield 21, 3) := by decide +kernel
theorem dX2_nobodyIsHeard_7 : decode cX2_nobodyIsHeard 7 = .ok (.getfield 40, 3) := by decide +kernel
theorem dX2_nobodyIsHeard_10 : decode cX2_nobodyIsHeard 10 = .ok (.if_icmp .ge 62, 3) := by decide +kernel
theorem dX2_nobodyIsHeard_13 : decode cX2_nobodyIsHeard 13 = .ok (.aload_n 0, 1) := by decide +kernel
theorem dX2_nobodyIsHeard_14 : decode cX2_nobodyIsHeard 14 = .ok (.iload_n 2, 1) := by decide +kernel
theorem dX2_nobodyIsHeard_15 : decode cX2_nobodyIsHeard 15 = .ok (.iload_n 1, 1) := by decide +kernel
theorem dX2_nobodyIsHeard_16 : decode cX2_nobodyIsHeard 16 = .ok (.invokevirtual 57, 3) := by decide +kernel
theorem dX2_nobodyIsHeard_19 : decode cX2_nobodyIsHeard 19 = .ok (.istore_n 3, 1) := by decide +kernel
theorem dX2_nobodyIsHeard_20 : decode cX2_nobodyIsHeard 20 = .ok (.iconst 0, 1) := by decide +kernel
theorem dX2_nobodyIsHeard_21 : decode cX2_nobodyIsHeard 21 = .ok (.istore 4, 2) := by decide +kernel
theorem dX2_nobodyIsHeard_23 : decode cX2_nobodyIsHeard 23 = .ok (.iload_n 3, 1) := by decide +kernel
theorem dX2_nobodyIsHeard_24 : decode cX2_nobodyIsHeard 24 = .ok (.iconst (-1), 1) := by decide +kernel
theorem dX2_nobodyIsHeard_25 : decode cX2_nobodyIsHeard 25 = .ok (.if_icmp .eq 41, 3) := by decide +kernel
theorem dX2_nobodyIsHeard_28 : decode cX2_nobodyIsHeard 28 = .ok (.iload 4, 2) := by decide +kernel
theorem dX2_nobodyIsHeard_30 : decode cX2_nobodyIsHeard 30 = .ok (.iload_n 2, 1) := by decide +kernel
theorem dX2_nobodyIsHeard_31 : decode cX2_nobodyIsHeard 31 = .ok (.if_icmp .ge 35, 3) := by decide +kernel
theorem dX2_nobodyIsHeard_34 : decode cX2_nobodyIsHeard 34 = .ok (.aload_n 0, 1) := by decide +kernel
theorem dX2_nobodyIsHeard_35 : decode cX2_nobodyIsHeard 35 = .ok (.getfield 21, 3) := by decide +kernel
theorem dX2_nobodyIsHeard_38 : decode cX2_nobodyIsHeard 38 = .ok (.iload_n 2, 1) := by decide +kernel
theorem dX2_nobodyIsHeard_39 : decode cX2_nobodyIsHeard 39 = .ok (.iload 4, 2) := by decide +kernel
theorem dX2_nobodyIsHeard_41 : decode cX2_nobodyIsHeard 41 = .ok (.aload_n 0, 1) := by decide +kernel
theorem dX2_nobodyIsHeard_42 : decode cX2_nobodyIsHeard 42 = .ok (.iload 4, 2) := by decide +kernel
theorem dX2_nobodyIsHeard_44 : decode cX2_nobodyIsHeard 44 = .ok (.iload_n 1, 1) := by decide +kernel
theorem dX2_nobodyIsHeard_45 : decode cX2_nobodyIsHeard 45 = .ok (.invokevirtual 57, 3) := by decide +kernel
theorem dX2_nobodyIsHeard_48 : decode cX2_nobodyIsHeard 48 = .ok (.invokevirtual 46, 3) := by decide +kernel
theorem dX2_nobodyIsHeard_51 : decode cX2_nobodyIsHeard 51 = .ok (.iload_n 3, 1) := by decide +kernel
theorem dX2_nobodyIsHeard_52 : decode cX2_nobodyIsHeard 52 = .ok (.invokestatic 49, 3) := by decide +kernel
theorem dX2_nobodyIsHeard_55 : decode cX2_nobodyIsHeard 55 = .ok (.ifCond .eq 5, 3) := by decide +kernel
theorem dX2_nobodyIsHeard_58 : decode cX2_nobodyIsHeard 58 = .ok (.iconst 0, 1) := by decide +kernel
theorem dX2_nobodyIsHeard_59 : decode cX2_nobodyIsHeard 59 = .ok (.ireturn, 1) := by decide +kernel
theorem dX2_nobodyIsHeard_60 : decode cX2_nobodyIsHeard 60 = .ok (.iinc 4 1, 3) := by decide +kernel
theorem dX2_nobodyIsHeard_63 : decode cX2_nobodyIsHeard 63 = .ok (.goto (-40), 3) := by decide +kernel
theorem dX2_nobodyIsHeard_66 : decode cX2_nobodyIsHeard 66 = .ok (.iinc 2 1, 3) := by decide +kernel
theorem dX2_nobodyIsHeard_69 : decode cX2_nobodyIsHeard 69 = .ok (.goto (-67), 3) := by decide +kernel
theorem dX2_nobodyIsHeard_72 : decode cX2_nobodyIsHeard 72 = .ok (.iconst 1, 1) := by decide +kernel
theorem dX2_nobodyIsHeard_73 : decode cX2_nobodyIsHeard 73 = .ok (.ireturn, 1) := by decide +kernel
theorem dX2_channelOf_0 : decode cX2_channelOf 0 = .ok (.aload_n 0, 1) := by decide +kernel
theorem dX2_channelOf_1 : decode cX2_channelOf 1 = .ok (.getfield 21, 3) := by decide +kernel
theorem dX2_channelOf_4 : decode cX2_channelOf 4 = .ok (.iload_n 1, 1) := by decide +kernel
theorem dX2_channelOf_5 : decode cX2_channelOf 5 = .ok (.invokevirtual 61, 3) := by decide +kernel
theorem dX2_channelOf_8 : decode cX2_channelOf 8 = .ok (.ifCond .ne 5, 3) := by decide +kernel
theorem dX2_channelOf_11 : decode cX2_channelOf 11 = .ok (.iconst (-1), 1) := by decide +kernel
theorem dX2_channelOf_12 : decode cX2_channelOf 12 = .ok (.ireturn, 1) := by decide +kernel
theorem dX2_channelOf_13 : decode cX2_channelOf 13 = .ok (.iload_n 2, 1) := by decide +kernel
theorem dX2_channelOf_14 : decode cX2_channelOf 14 = .ok (.iload_n 1, 1) := by decide +kernel
theorem dX2_channelOf_15 : decode cX2_channelOf 15 = .ok (.invokestatic 49, 3) := by decide +kernel
theorem dX2_channelOf_18 : decode cX2_channelOf 18 = .ok (.ifCond .eq 12, 3) := by decide +kernel
theorem dX2_channelOf_21 : decode cX2_channelOf 21 = .ok (.aload_n 0, 1) := by decide +kernel
theorem dX2_channelOf_22 : decode cX2_channelOf 22 = .ok (.getfield 15, 3) := by decide +kernel
theorem dX2_channelOf_25 : decode cX2_channelOf 25 = .ok (.iload_n 1, 1) := by decide +kernel
theorem dX2_channelOf_26 : decode cX2_channelOf 26 = .ok (.iaload, 1) := by decide +kernel
theorem dX2_channelOf_27 : decode cX2_channelOf 27 = .ok (.goto 9, 3) := by decide +kernel
theorem dX2_channelOf_30 : decode cX2_channelOf 30 = .ok (.aload_n 0, 1) := by decide +kernel
theorem dX2_channelOf_31 : decode cX2_channelOf 31 = .ok (.getfield 9, 3) := by decide +kernel
theorem dX2_channelOf_34 : decode cX2_channelOf 34 = .ok (.iload_n 1, 1) := by decide +kernel
theorem dX2_channelOf_35 : decode cX2_channelOf 35 = .ok (.iaload, 1) := by decide +kernel
theorem dX2_channelOf_36 : decode cX2_channelOf 36 = .ok (.ireturn, 1) := by decide +kernel
theorem dX2_weeksFrom_0 : decode cX2_weeksFrom 0 = .ok (.iload_n 1, 1) := by decide +kernel
theorem dX2_weeksFrom_1 : decode cX2_weeksFrom 1 = .ok (.iload_n 2, 1) := by decide +kernel
theorem dX2_weeksFrom_2 : decode cX2_weeksFrom 2 = .ok (.if_icmp .ne 5, 3) := by decide +kernel
theorem dX2_weeksFrom_5 : decode cX2_weeksFrom 5 = .ok (.iconst 0, 1) := by decide +kernel
theorem dX2_weeksFrom_6 : decode cX2_weeksFrom 6 = .ok (.ireturn, 1) := by decide +kernel
theorem dX2_weeksFrom_7 : decode cX2_weeksFrom 7 = .ok (.iload_n 2, 1) := by decide +kernel
theorem dX2_weeksFrom_8 : decode cX2_weeksFrom 8 = .ok (.iload_n 1, 1) := by decide +kernel
theorem dX2_weeksFrom_9 : decode cX2_weeksFrom 9 = .ok (.iconst (-1), 1) := by decide +kernel
theorem dX2_weeksFrom_10 : decode cX2_weeksFrom 10 = .ok (.ixor, 1) := by decide +kernel
theorem dX2_weeksFrom_11 : decode cX2_weeksFrom 11 = .ok (.iand, 1) := by decide +kernel
theorem dX2_weeksFrom_12 : decode cX2_weeksFrom 12 = .ok (.istore 4, 2) := by decide +kernel
theorem dX2_weeksFrom_14 : decode cX2_weeksFrom 14 = .ok (.sipush 1000, 3) := by decide +kernel
theorem dX2_weeksFrom_17 : decode cX2_weeksFrom 17 = .ok (.istore 5, 2) := by decide +kernel
theorem dX2_weeksFrom_19 : decode cX2_weeksFrom 19 = .ok (.iload 4, 2) := by decide +kernel
theorem dX2_weeksFrom_21 : decode cX2_weeksFrom 21 = .ok (.istore 6, 2) := by decide +kernel
theorem dX2_weeksFrom_23 : decode cX2_weeksFrom 23 = .ok (.iload 6, 2) := by decide +kernel
theorem dX2_weeksFrom_25 : decode cX2_weeksFrom 25 = .ok (.ifCond .le 42, 3) := by decide +kernel
theorem dX2_weeksFrom_28 : decode cX2_weeksFrom 28 = .ok (.iload 6, 2) := by decide +kernel
theorem dX2_weeksFrom_30 : decode cX2_weeksFrom 30 = .ok (.invokestatic 64, 3) := by decide +kernel
theorem dX2_weeksFrom_33 : decode cX2_weeksFrom 33 = .ok (.iload_n 3, 1) := by decide +kernel
theorem dX2_weeksFrom_34 : decode cX2_weeksFrom 34 = .ok (.if_icmp .gt 21, 3) := by decide +kernel
theorem dX2_weeksFrom_37 : decode cX2_weeksFrom 37 = .ok (.iload 5, 2) := by decide +kernel
theorem dX2_weeksFrom_39 : decode cX2_weeksFrom 39 = .ok (.aload_n 0, 1) := by decide +kernel
theorem dX2_weeksFrom_40 : decode cX2_weeksFrom 40 = .ok (.getfield 18, 3) := by decide +kernel
theorem dX2_weeksFrom_43 : decode cX2_weeksFrom 43 = .ok (.iload_n 1, 1) := by decide +kernel
theorem dX2_weeksFrom_44 : decode cX2_weeksFrom 44 = .ok (.iload 6, 2) := by decide +kernel
theorem dX2_weeksFrom_46 : decode cX2_weeksFrom 46 = .ok (.ior, 1) := by decide +kernel
theorem dX2_weeksFrom_47 : decode cX2_weeksFrom 47 = .ok (.iaload, 1) := by decide +kernel
theorem dX2_weeksFrom_48 : decode cX2_weeksFrom 48 = .ok (.iconst 1, 1) := by decide +kernel
theorem dX2_weeksFrom_49 : decode cX2_weeksFrom 49 = .ok (.iadd, 1) := by decide +kernel
theorem dX2_weeksFrom_50 : decode cX2_weeksFrom 50 = .ok (.invokestatic 69, 3) := by decide +kernel
theorem dX2_weeksFrom_53 : decode cX2_weeksFrom 53 = .ok (.istore 5, 2) := by decide +kernel
theorem dX2_weeksFrom_55 : decode cX2_weeksFrom 55 = .ok (.iload 6, 2) := by decide +kernel
theorem dX2_weeksFrom_57 : decode cX2_weeksFrom 57 = .ok (.iconst 1, 1) := by decide +kernel
theorem dX2_weeksFrom_58 : decode cX2_weeksFrom 58 = .ok (.isub, 1) := by decide +kernel
theorem dX2_weeksFrom_59 : decode cX2_weeksFrom 59 = .ok (.iload 4, 2) := by decide +kernel
theorem dX2_weeksFrom_61 : decode cX2_weeksFrom 61 = .ok (.iand, 1) := by decide +kernel
theorem dX2_weeksFrom_62 : decode cX2_weeksFrom 62 = .ok (.istore 6, 2) := by decide +kernel
theorem dX2_weeksFrom_64 : decode cX2_weeksFrom 64 = .ok (.goto (-41), 3) := by decide +kernel
theorem dX2_weeksFrom_67 : decode cX2_weeksFrom 67 = .ok (.iload 5, 2) := by decide +kernel
theorem dX2_weeksFrom_69 : decode cX2_weeksFrom 69 = .ok (.sipush 1000, 3) := by decide +kernel
theorem dX2_weeksFrom_72 : decode cX2_weeksFrom 72 = .ok (.invokestatic 69, 3) := by decide +kernel
theorem dX2_weeksFrom_75 : decode cX2_weeksFrom 75 = .ok (.ireturn, 1) := by decide +kernel
theorem dX2_firstStep_0 : decode cX2_firstStep 0 = .ok (.iconst 1, 1) := by decide +kernel
theorem dX2_firstStep_1 : decode cX2_firstStep 1 = .ok (.istore 4, 2) := by decide +kernel
theorem dX2_firstStep_3 : decode cX2_firstStep 3 = .ok (.iload 4, 2) := by decide +kernel
theorem dX2_firstStep_5 : decode cX2_firstStep 5 = .ok (.iload_n 2, 1) := by decide +kernel
theorem dX2_firstStep_6 : decode cX2_firstStep 6 = .ok (.if_icmp .gt 50, 3) := by decide +kernel
theorem dX2_firstStep_9 : decode cX2_firstStep 9 = .ok (.iload 4, 2) := by decide +kernel
theorem dX2_firstStep_11 : decode cX2_firstStep 11 = .ok (.iload_n 2, 1) := by decide +kernel
theorem dX2_firstStep_12 : decode cX2_firstStep 12 = .ok (.iconst (-1), 1) := by decide +kernel
theorem dX2_firstStep_13 : decode cX2_firstStep 13 = .ok (.ixor, 1) := by decide +kernel
theorem dX2_firstStep_14 : decode cX2_firstStep 14 = .ok (.iand, 1) := by decide +kernel
theorem dX2_firstStep_15 : decode cX2_firstStep 15 = .ok (.ifCond .ne 35, 3) := by decide +kernel
theorem dX2_firstStep_18 : decode cX2_firstStep 18 = .ok (.iload 4, 2) := by decide +kernel
theorem dX2_firstStep_20 : decode cX2_firstStep 20 = .ok (.invokestatic 64, 3) := by decide +kernel
theorem dX2_firstStep_23 : decode cX2_firstStep 23 = .ok (.iload_n 3, 1) := by decide +kernel
theorem dX2_firstStep_24 : decode cX2_firstStep 24 = .ok (.if_icmp .gt 26, 3) := by decide +kernel
theorem dX2_firstStep_27 : decode cX2_firstStep 27 = .ok (.aload_n 0, 1) := by decide +kernel
theorem dX2_firstStep_28 : decode cX2_firstStep 28 = .ok (.getfield 18, 3) := by decide +kernel
theorem dX2_firstStep_31 : decode cX2_firstStep 31 = .ok (.iload_n 1, 1) := by decide +kernel
theorem dX2_firstStep_32 : decode cX2_firstStep 32 = .ok (.iload 4, 2) := by decide +kernel
theorem dX2_firstStep_34 : decode cX2_firstStep 34 = .ok (.ior, 1) := by decide +kernel
theorem dX2_firstStep_35 : decode cX2_firstStep 35 = .ok (.iaload, 1) := by decide +kernel
theorem dX2_firstStep_36 : decode cX2_firstStep 36 = .ok (.iconst 1, 1) := by decide +kernel
theorem dX2_firstStep_37 : decode cX2_firstStep 37 = .ok (.iadd, 1) := by decide +kernel
theorem dX2_firstStep_38 : decode cX2_firstStep 38 = .ok (.aload_n 0, 1) := by decide +kernel
theorem dX2_firstStep_39 : decode cX2_firstStep 39 = .ok (.getfield 18, 3) := by decide +kernel
theorem dX2_firstStep_42 : decode cX2_firstStep 42 = .ok (.iload_n 1, 1) := by decide +kernel
theorem dX2_firstStep_43 : decode cX2_firstStep 43 = .ok (.iaload, 1) := by decide +kernel
theorem dX2_firstStep_44 : decode cX2_firstStep 44 = .ok (.if_icmp .ne 6, 3) := by decide +kernel
theorem dX2_firstStep_47 : decode cX2_firstStep 47 = .ok (.iload 4, 2) := by decide +kernel
theorem dX2_firstStep_49 : decode cX2_firstStep 49 = .ok (.ireturn, 1) := by decide +kernel
theorem dX2_firstStep_50 : decode cX2_firstStep 50 = .ok (.iinc 4 1, 3) := by decide +kernel
theorem dX2_firstStep_53 : decode cX2_firstStep 53 = .ok (.goto (-50), 3) := by decide +kernel
theorem dX2_firstStep_56 : decode cX2_firstStep 56 = .ok (.iconst 0, 1) := by decide +kernel
theorem dX2_firstStep_57 : decode cX2_firstStep 57 = .ok (.ireturn, 1) := by decide +kernel
theorem dX3_init_0 : decode cX3_init 0 = .ok (.aload_n 0, 1) := by decide +kernel
theorem dX3_init_1 : decode cX3_init 1 = .ok (.invokespecial 3, 3) := by decide +kernel
theorem dX3_init_4 : decode cX3_init 4 = .ok (.aload_n 0, 1) := by decide +kernel
theorem dX3_init_5 : decode cX3_init 5 = .ok (.bipush 10, 2) := by decide +kernel
theorem dX3_init_7 : decode cX3_init 7 = .ok (.newarray .int, 2) := by decide +kernel
theorem dX3_init_9 : decode cX3_init 9 = .ok (.putfield 9, 3) := by decide +kernel
theorem dX3_init_12 : decode cX3_init 12 = .ok (.aload_n 0, 1) := by decide +kernel
theorem dX3_init_13 : decode cX3_init 13 = .ok (.bipush 10, 2) := by decide +kernel
theorem dX3_init_15 : decode cX3_init 15 = .ok (.newarray .int, 2) := by decide +kernel
theorem dX3_init_17 : decode cX3_init 17 = .ok (.putfield 15, 3) := by decide +kernel
theorem dX3_init_20 : decode cX3_init 20 = .ok (.aload_n 0, 1) := by decide +kernel
theorem dX3_init_21 : decode cX3_init 21 = .ok (.bipush 110, 2) := by decide +kernel
theorem dX3_init_23 : decode cX3_init 23 = .ok (.newarray .int, 2) := by decide +kernel
theorem dX3_init_25 : decode cX3_init 25 = .ok (.putfield 18, 3) := by decide +kernel
theorem dX3_init_28 : decode cX3_init 28 = .ok (.aload_n 0, 1) := by decide +kernel
theorem dX3_init_29 : decode cX3_init 29 = .ok (.aload_n 1, 1) := by decide +kernel
theorem dX3_init_30 : decode cX3_init 30 = .ok (.putfield 21, 3) := by decide +kernel
theorem dX3_init_33 : decode cX3_init 33 = .ok (.return_, 1) := by decide +kernel
theorem dX3_canPack_0 : decode cX3_canPack 0 = .ok (.aload_n 0, 1) := by decide +kernel
theorem dX3_canPack_1 : decode cX3_canPack 1 = .ok (.invokevirtual 25, 3) := by decide +kernel
theorem dX3_canPack_4 : decode cX3_canPack 4 = .ok (.aload_n 0, 1) := by decide +kernel
theorem dX3_canPack_5 : decode cX3_canPack 5 = .ok (.iload_n 1, 1) := by decide +kernel
theorem dX3_canPack_6 : decode cX3_canPack 6 = .ok (.invokevirtual 28, 3) := by decide +kernel
theorem dX3_canPack_9 : decode cX3_canPack 9 = .ok (.ireturn, 1) := by decide +kernel
theorem dX3_firstChannel_0 : decode cX3_firstChannel 0 = .ok (.aload_n 0, 1) := by decide +kernel
theorem dX3_firstChannel_1 : decode cX3_firstChannel 1 = .ok (.getfield 21, 3) := by decide +kernel
theorem dX3_firstChannel_4 : decode cX3_firstChannel 4 = .ok (.iload_n 2, 1) := by decide +kernel
theorem dX3_firstChannel_5 : decode cX3_firstChannel 5 = .ok (.invokevirtual 32, 3) := by decide +kernel
theorem dX3_firstChannel_8 : decode cX3_firstChannel 8 = .ok (.ifCond .eq 11, 3) := by decide +kernel
theorem dX3_firstChannel_11 : decode cX3_firstChannel 11 = .ok (.aload_n 0, 1) := by decide +kernel
theorem dX3_firstChannel_12 : decode cX3_firstChannel 12 = .ok (.iload_n 1, 1) := by decide +kernel
theorem dX3_firstChannel_13 : decode cX3_firstChannel 13 = .ok (.invokevirtual 37, 3) := by decide +kernel
theorem dX3_firstChannel_16 : decode cX3_firstChannel 16 = .ok (.ifCond .ne 5, 3) := by decide +kernel
theorem dX3_firstChannel_19 : decode cX3_firstChannel 19 = .ok (.iconst (-1), 1) := by decide +kernel
theorem dX3_firstChannel_20 : decode cX3_firstChannel 20 = .ok (.ireturn, 1) := by decide +kernel
theorem dX3_firstChannel_21 : decode cX3_firstChannel 21 = .ok (.iconst 0, 1) := by decide +kernel
theorem dX3_firstChannel_22 : decode cX3_firstChannel 22 = .ok (.istore_n 3, 1) := by decide +kernel
theorem dX3_firstChannel_23 : decode cX3_firstChannel 23 = .ok (.iload_n 3, 1) := by decide +kernel
theorem dX3_firstChannel_24 : decode cX3_firstChannel 24 = .ok (.iload_n 2, 1) := by decide +kernel
theorem dX3_firstChannel_25 : decode cX3_firstChannel 25 = .ok (.if_icmp .gt 23, 3) := by decide +kernel
theorem dX3_firstChannel_28 : decode cX3_firstChannel 28 = .ok (.iload_n 1, 1) := by decide +kernel
theorem dX3_firstChannel_29 : decode cX3_firstChannel 29 = .ok (.iload_n 3, 1) := by decide +kernel
theorem dX3_firstChannel_30 : decode cX3_firstChannel 30 = .ok (.invokestatic 40, 3) := by decide +kernel
theorem dX3_firstChannel_33 : decode cX3_firstChannel 33 = .ok (.ifCond .eq 9, 3) := by decide +kernel
theorem dX3_firstChannel_36 : decode cX3_firstChannel 36 = .ok (.aload_n 0, 1) := by decide +kernel
theorem dX3_firstChannel_37 : decode cX3_firstChannel 37 = .ok (.iload_n 1, 1) := by decide +kernel
theorem dX3_firstChannel_38 : decode cX3_firstChannel 38 = .ok (.iload_n 3, 1) := by decide +kernel
theorem dX3_firstChannel_39 : decode cX3_firstChannel 39 = .ok (.invokevirtual 44, 3) := by decide +kernel
theorem dX3_firstChannel_42 : decode cX3_firstChannel 42 = .ok (.iinc 3 1, 3) := by decide +kernel
theorem dX3_firstChannel_45 : decode cX3_firstChannel 45 = .ok (.goto (-22), 3) := by decide +kernel
theorem dX3_firstChannel_48 : decode cX3_firstChannel 48 = .ok (.aload_n 0, 1) := by decide +kernel
theorem dX3_firstChannel_49 : decode cX3_firstChannel 49 = .ok (.getfield 9, 3) := by decide +kernel
theorem dX3_firstChannel_52 : decode cX3_firstChannel 52 = .ok (.iload_n 2, 1) := by decide +kernel
theorem dX3_firstChannel_53 : decode cX3_firstChannel 53 = .ok (.iaload, 1) := by decide +kernel
theorem dX3_firstChannel_54 : decode cX3_firstChannel 54 = .ok (.invokestatic 48, 3) := by decide +kernel
theorem dX3_firstChannel_57 : decode cX3_firstChannel 57 = .ok (.ireturn, 1) := by decide +kernel
theorem dX3_leastPartThatFails_0 : decode cX3_leastPartThatFails 0 = .ok (.iconst 1, 1) := by decide +kernel
theorem dX3_leastPartThatFails_1 : decode cX3_leastPartThatFails 1 = .ok (.istore_n 2, 1) := by decide +kernel
theorem dX3_leastPartThatFails_2 : decode cX3_leastPartThatFails 2 = .ok (.iload_n 2, 1) := by decide +kernel
theorem dX3_leastPartThatFails_3 : decode cX3_leastPartThatFails 3 = .ok (.bipush 10, 2) := by decide +kernel
theorem dX3_leastPartThatFails_5 : decode cX3_leastPartThatFails 5 = .ok (.if_icmp .gt 48, 3) := by decide +kernel
theorem dX3_leastPartThatFails_8 : decode cX3_leastPartThatFails 8 = .ok (.iconst 1, 1) := by decide +kernel
theorem dX3_leastPartThatFails_9 : decode cX3_leastPartThatFails 9 = .ok (.istore_n 3, 1) := by decide +kernel
theorem dX3_leastPartThatFails_10 : decode cX3_leastPartThatFails 10 = .ok (.iload_n 3, 1) := by decide +kernel
theorem dX3_leastPartThatFails_11 : decode cX3_leastPartThatFails 11 = .ok (.iload_n 1, 1) := by decide +kernel
theorem dX3_leastPartThatFails_12 : decode cX3_leastPartThatFails 12 = .ok (.if_icmp .gt 35, 3) := by decide +kernel
theorem dX3_leastPartThatFails_15 : decode cX3_leastPartThatFails 15 = .ok (.iload_n 3, 1) := by decide +kernel
theorem dX3_leastPartThatFails_16 : decode cX3_leastPartThatFails 16 = .ok (.iload_n 1, 1) := by decide +kernel
theorem dX3_leastPartThatFails_17 : decode cX3_leastPartThatFails 17 = .ok (.iconst (-1), 1) := by decide +kernel
theorem dX3_leastPartThatFails_18 : decode cX3_leastPartThatFails 18 = .ok (.ixor, 1) := by decide +kernel
theorem dX3_leastPartThatFails_19 : decode cX3_leastPartThatFails 19 = .ok (.iand, 1) := by decide +kernel
theorem dX3_leastPartThatFails_20 : decode cX3_leastPartThatFails 20 = .ok (.ifCond .ne 21, 3) := by decide +kernel
theorem dX3_leastPartThatFails_23 : decode cX3_leastPartThatFails 23 = .ok (.iload_n 3, 1) := by decide +kernel
theorem dX3_leastPartThatFails_24 : decode cX3_leastPartThatFails 24 = .ok (.invokestatic 52, 3) := by decide +kernel
theorem dX3_leastPartThatFails_27 : decode cX3_leastPartThatFails 27 = .ok (.iload_n 2, 1) := by decide +kernel
theorem dX3_leastPartThatFails_28 : decode cX3_leastPartThatFails 28 = .ok (.if_icmp .ne 13, 3) := by decide +kernel
theorem dX3_leastPartThatFails_31 : decode cX3_leastPartThatFails 31 = .ok (.aload_n 0, 1) := by decide +kernel
theorem dX3_leastPartThatFails_32 : decode cX3_leastPartThatFails 32 = .ok (.iload_n 3, 1) := by decide +kernel
theorem dX3_leastPartThatFails_33 : decode cX3_leastPartThatFails 33 = .ok (.invokevirtual 37, 3) := by decide +kernel
theorem dX3_leastPartThatFails_36 : decode cX3_leastPartThatFails 36 = .ok (.ifCond .ne 5, 3) := by decide +kernel
theorem dX3_leastPartThatFails_39 : decode cX3_leastPartThatFails 39 = .ok (.iload_n 3, 1) := by decide +kernel
theorem dX3_leastPartThatFails_40 : decode cX3_leastPartThatFails 40 = .ok (.ireturn, 1) := by decide +kernel
theorem dX3_leastPartThatFails_41 : decode cX3_leastPartThatFails 41 = .ok (.iinc 3 1, 3) := by decide +kernel
theorem dX3_leastPartThatFails_44 : decode cX3_leastPartThatFails 44 = .ok (.goto (-34), 3) := by decide +kernel
theorem dX3_leastPartThatFails_47 : decode cX3_leastPartThatFails 47 = .ok (.iinc 2 1, 3) := by decide +kernel
theorem dX3_leastPartThatFails_50 : decode cX3_leastPartThatFails 50 = .ok (.goto (-48), 3) := by decide +kernel
theorem dX3_leastPartThatFails_53 : decode cX3_leastPartThatFails 53 = .ok (.bipush (-3), 2) := by decide +kernel
theorem dX3_leastPartThatFails_55 : decode cX3_leastPartThatFails 55 = .ok (.ireturn, 1) := by decide +kernel
theorem dX3_couldJoin_0 : decode cX3_couldJoin 0 = .ok (.iconst 0, 1) := by decide +kernel
theorem dX3_couldJoin_1 : decode cX3_couldJoin 1 = .ok (.istore_n 2, 1) := by decide +kernel
theorem dX3_couldJoin_2 : decode cX3_couldJoin 2 = .ok (.iconst 0, 1) := by decide +kernel
theorem dX3_couldJoin_3 : decode cX3_couldJoin 3 = .ok (.istore_n 3, 1) := by decide +kernel
theorem dX3_couldJoin_4 : decode cX3_couldJoin 4 = .ok (.iload_n 3, 1) := by decide +kernel
theorem dX3_couldJoin_5 : decode cX3_couldJoin 5 = .ok (.aload_n 0, 1) := by decide +kernel
theorem dX3_couldJoin_6 : decode cX3_couldJoin 6 = .ok (.getfield 21, 3) := by decide +kernel
theorem dX3_couldJoin_9 : decode cX3_couldJoin 9 = .ok (.getfield 57, 3) := by decide +kernel
theorem dX3_couldJoin_12 : decode cX3_couldJoin 12 = .ok (.if_icmp .ge 35, 3) := by decide +kernel
theorem dX3_couldJoin_15 : decode cX3_couldJoin 15 = .ok (.iload_n 1, 1) := by decide +kernel
theorem dX3_couldJoin_16 : decode cX3_couldJoin 16 = .ok (.iload_n 3, 1) := by decide +kernel
theorem dX3_couldJoin_17 : decode cX3_couldJoin 17 = .ok (.invokestatic 40, 3) := by decide +kernel
theorem dX3_couldJoin_20 : decode cX3_couldJoin 20 = .ok (.ifCond .ne 21, 3) := by decide +kernel
theorem dX3_couldJoin_23 : decode cX3_couldJoin 23 = .ok (.aload_n 0, 1) := by decide +kernel
theorem dX3_couldJoin_24 : decode cX3_couldJoin 24 = .ok (.iload_n 1, 1) := by decide +kernel
theorem dX3_couldJoin_25 : decode cX3_couldJoin 25 = .ok (.iconst 1, 1) := by decide +kernel
theorem dX3_couldJoin_26 : decode cX3_couldJoin 26 = .ok (.iload_n 3, 1) := by decide +kernel
theorem dX3_couldJoin_27 : decode cX3_couldJoin 27 = .ok (.ishl, 1) := by decide +kernel
theorem dX3_couldJoin_28 : decode cX3_couldJoin 28 = .ok (.ior, 1) := by decide +kernel
theorem dX3_couldJoin_29 : decode cX3_couldJoin 29 = .ok (.invokevirtual 37, 3) := by decide +kernel
theorem dX3_couldJoin_32 : decode cX3_couldJoin 32 = .ok (.ifCond .eq 9, 3) := by decide +kernel
theorem dX3_couldJoin_35 : decode cX3_couldJoin 35 = .ok (.iload_n 2, 1) := by decide +kernel
theorem dX3_couldJoin_36 : decode cX3_couldJoin 36 = .ok (.iconst 1, 1) := by decide +kernel
theorem dX3_couldJoin_37 : decode cX3_couldJoin 37 = .ok (.iload_n 3, 1) := by decide +kernel
theorem dX3_couldJoin_38 : decode cX3_couldJoin 38 = .ok (.ishl, 1) := by decide +kernel
theorem dX3_couldJoin_39 : decode cX3_couldJoin 39 = .ok (.ior, 1) := by decide +kernel
theorem dX3_couldJoin_40 : decode cX3_couldJoin 40 = .ok (.istore_n 2, 1) := by decide +kernel
theorem dX3_couldJoin_41 : decode cX3_couldJoin 41 = .ok (.iinc 3 1, 3) := by decide +kernel
theorem dX3_couldJoin_44 : decode cX3_couldJoin 44 = .ok (.goto (-40), 3) := by decide +kernel
theorem dX3_couldJoin_47 : decode cX3_couldJoin 47 = .ok (.iload_n 2, 1) := by decide +kernel
theorem dX3_couldJoin_48 : decode cX3_couldJoin 48 = .ok (.ireturn, 1) := by decide +kernel
theorem dX3_allowAll_0 : decode cX3_allowAll 0 = .ok (.iconst 0, 1) := by decide +kernel
theorem dX3_allowAll_1 : decode cX3_allowAll 1 = .ok (.istore_n 1, 1) := by decide +kernel
theorem dX3_allowAll_2 : decode cX3_allowAll 2 = .ok (.iload_n 1, 1) := by decide +kernel
theorem dX3_allowAll_3 : decode cX3_allowAll 3 = .ok (.aload_n 0, 1) := by decide +kernel
theorem dX3_allowAll_4 : decode cX3_allowAll 4 = .ok (.getfield 21, 3) := by decide +kernel
theorem dX3_allowAll_7 : decode cX3_allowAll 7 = .ok (.getfield 57, 3) := by decide +kernel
theorem dX3_allowAll_10 : decode cX3_allowAll 10 = .ok (.if_icmp .ge 23, 3) := by decide +kernel
theorem dX3_allowAll_13 : decode cX3_allowAll 13 = .ok (.aload_n 0, 1) := by decide +kernel
theorem dX3_allowAll_14 : decode cX3_allowAll 14 = .ok (.getfield 9, 3) := by decide +kernel
theorem dX3_allowAll_17 : decode cX3_allowAll 17 = .ok (.iload_n 1, 1) := by decide +kernel
theorem dX3_allowAll_18 : decode cX3_allowAll 18 = .ok (.aload_n 0, 1) := by decide +kernel
theorem dX3_allowAll_19 : decode cX3_allowAll 19 = .ok (.getfield 21, 3) := by decide +kernel
theorem dX3_allowAll_22 : decode cX3_allowAll 22 = .ok (.iload_n 1, 1) := by decide +kernel
theorem dX3_allowAll_23 : decode cX3_allowAll 23 = .ok (.invokevirtual 61, 3) := by decide +kernel
theorem dX3_allowAll_26 : decode cX3_allowAll 26 = .ok (.iastore, 1) := by decide +kernel
theorem dX3_allowAll_27 : decode cX3_allowAll 27 = .ok (.iinc 1 1, 3) := by decide +kernel
theorem dX3_allowAll_30 : decode cX3_allowAll 30 = .ok (.goto (-28), 3) := by decide +kernel
theorem dX3_allowAll_33 : decode cX3_allowAll 33 = .ok (.return_, 1) := by decide +kernel
theorem dX3_fixFirst_0 : decode cX3_fixFirst 0 = .ok (.aload_n 0, 1) := by decide +kernel
theorem dX3_fixFirst_1 : decode cX3_fixFirst 1 = .ok (.getfield 9, 3) := by decide +kernel
theorem dX3_fixFirst_4 : decode cX3_fixFirst 4 = .ok (.iload_n 2, 1) := by decide +kernel
theorem dX3_fixFirst_5 : decode cX3_fixFirst 5 = .ok (.iaload, 1) := by decide +kernel
theorem dX3_fixFirst_6 : decode cX3_fixFirst 6 = .ok (.istore_n 3, 1) := by decide +kernel
theorem dX3_fixFirst_7 : decode cX3_fixFirst 7 = .ok (.iconst 0, 1) := by decide +kernel
theorem dX3_fixFirst_8 : decode cX3_fixFirst 8 = .ok (.istore 4, 2) := by decide +kernel
theorem dX3_fixFirst_10 : decode cX3_fixFirst 10 = .ok (.iload 4, 2) := by decide +kernel
theorem dX3_fixFirst_12 : decode cX3_fixFirst 12 = .ok (.aload_n 0, 1) := by decide +kernel
theorem dX3_fixFirst_13 : decode cX3_fixFirst 13 = .ok (.getfield 21, 3) := by decide +kernel
theorem dX3_fixFirst_16 : decode cX3_fixFirst 16 = .ok (.getfield 64, 3) := by decide +kernel
theorem dX3_fixFirst_19 : decode cX3_fixFirst 19 = .ok (.if_icmp .ge 37, 3) := by decide +kernel
theorem dX3_fixFirst_22 : decode cX3_fixFirst 22 = .ok (.iload_n 3, 1) := by decide +kernel
theorem dX3_fixFirst_23 : decode cX3_fixFirst 23 = .ok (.iload 4, 2) := by decide +kernel
theorem dX3_fixFirst_25 : decode cX3_fixFirst 25 = .ok (.invokestatic 40, 3) := by decide +kernel
theorem dX3_fixFirst_28 : decode cX3_fixFirst 28 = .ok (.ifCond .eq 22, 3) := by decide +kernel
theorem dX3_fixFirst_31 : decode cX3_fixFirst 31 = .ok (.aload_n 0, 1) := by decide +kernel
theorem dX3_fixFirst_32 : decode cX3_fixFirst 32 = .ok (.getfield 9, 3) := by decide +kernel
theorem dX3_fixFirst_35 : decode cX3_fixFirst 35 = .ok (.iload_n 2, 1) := by decide +kernel
theorem dX3_fixFirst_36 : decode cX3_fixFirst 36 = .ok (.iconst 1, 1) := by decide +kernel
theorem dX3_fixFirst_37 : decode cX3_fixFirst 37 = .ok (.iload 4, 2) := by decide +kernel
theorem dX3_fixFirst_39 : decode cX3_fixFirst 39 = .ok (.ishl, 1) := by decide +kernel
theorem dX3_fixFirst_40 : decode cX3_fixFirst 40 = .ok (.iastore, 1) := by decide +kernel
theorem dX3_fixFirst_41 : decode cX3_fixFirst 41 = .ok (.aload_n 0, 1) := by decide +kernel
theorem dX3_fixFirst_42 : decode cX3_fixFirst 42 = .ok (.iload_n 1, 1) := by decide +kernel
theorem dX3_fixFirst_43 : decode cX3_fixFirst 43 = .ok (.invokevirtual 28, 3) := by decide +kernel
theorem dX3_fixFirst_46 : decode cX3_fixFirst 46 = .ok (.ifCond .eq 4, 3) := by decide +kernel
theorem dX3_fixFirst_49 : decode cX3_fixFirst 49 = .ok (.return_, 1) := by decide +kernel
theorem dX3_fixFirst_50 : decode cX3_fixFirst 50 = .ok (.iinc 4 1, 3) := by decide +kernel
theorem dX3_fixFirst_53 : decode cX3_fixFirst 53 = .ok (.goto (-43), 3) := by decide +kernel
theorem dX3_fixFirst_56 : decode cX3_fixFirst 56 = .ok (.return_, 1) := by decide +kernel
theorem dX3_packs_0 : decode cX3_packs 0 = .ok (.aload_n 0, 1) := by decide +kernel
theorem dX3_packs_1 : decode cX3_packs 1 = .ok (.iload_n 1, 1) := by decide +kernel
theorem dX3_packs_2 : decode cX3_packs 2 = .ok (.invokevirtual 67, 3) := by decide +kernel
theorem dX3_packs_5 : decode cX3_packs 5 = .ok (.istore_n 2, 1) := by decide +kernel
theorem dX3_packs_6 : decode cX3_packs 6 = .ok (.iconst 0, 1) := by decide +kernel
theorem dX3_packs_7 : decode cX3_packs 7 = .ok (.istore_n 3, 1) := by decide +kernel
theorem dX3_packs_8 : decode cX3_packs 8 = .ok (.iload_n 3, 1) := by decide +kernel
theorem dX3_packs_9 : decode cX3_packs 9 = .ok (.aload_n 0, 1) := by decide +kernel
theorem dX3_packs_10 : decode cX3_packs 10 = .ok (.getfield 21, 3) := by decide +kernel
theorem dX3_packs_13 : decode cX3_packs 13 = .ok (.getfield 57, 3) := by decide +kernel
theorem dX3_packs_16 : decode cX3_packs 16 = .ok (.if_icmp .ge 21, 3) := by decide +kernel
theorem dX3_packs_19 : decode cX3_packs 19 = .ok (.aload_n 0, 1) := by decide +kernel
theorem dX3_packs_20 : decode cX3_packs 20 = .ok (.getfield 18, 3) := by decide +kernel
theorem dX3_packs_23 : decode cX3_packs 23 = .ok (.iload_n 3, 1) := by decide +kernel
theorem dX3_packs_24 : decode cX3_packs 24 = .ok (.aload_n 0, 1) := by decide +kernel
theorem dX3_packs_25 : decode cX3_packs 25 = .ok (.getfield 9, 3) := by decide +kernel
theorem dX3_packs_28 : decode cX3_packs 28 = .ok (.iload_n 3, 1) := by decide +kernel
theorem dX3_packs_29 : decode cX3_packs 29 = .ok (.iaload, 1) := by decide +kernel
theorem dX3_packs_30 : decode cX3_packs 30 = .ok (.iastore, 1) := by decide +kernel
theorem dX3_packs_31 : decode cX3_packs 31 = .ok (.iinc 3 1, 3) := by decide +kernel
theorem dX3_packs_34 : decode cX3_packs 34 = .ok (.goto (-26), 3) := by decide +kernel
theorem dX3_packs_37 : decode cX3_packs 37 = .ok (.aload_n 0, 1) := by decide +kernel
theorem dX3_packs_38 : decode cX3_packs 38 = .ok (.iload_n 2, 1) := by decide +kernel
theorem dX3_packs_39 : decode cX3_packs 39 = .ok (.iconst 0, 1) := by decide +kernel
theorem dX3_packs_40 : decode cX3_packs 40 = .ok (.invokevirtual 70, 3) := by decide +kernel
theorem dX3_packs_43 : decode cX3_packs 43 = .ok (.ireturn, 1) := by decide +kernel
theorem dX3_hardPart_0 : decode cX3_hardPart 0 = .ok (.iload_n 1, 1) := by decide +kernel
theorem dX3_hardPart_1 : decode cX3_hardPart 1 = .ok (.istore_n 2, 1) := by decide +kernel
theorem dX3_hardPart_2 : decode cX3_hardPart 2 = .ok (.iconst 0, 1) := by decide +kernel
theorem dX3_hardPart_3 : decode cX3_hardPart 3 = .ok (.istore_n 3, 1) := by decide +kernel
theorem dX3_hardPart_4 : decode cX3_hardPart 4 = .ok (.iload_n 3, 1) := by decide +kernel
theorem dX3_hardPart_5 : decode cX3_hardPart 5 = .ok (.bipush 10, 2) := by decide +kernel
theorem dX3_hardPart_7 : decode cX3_hardPart 7 = .ok (.if_icmp .ge 98, 3) := by decide +kernel
theorem dX3_hardPart_10 : decode cX3_hardPart 10 = .ok (.iload_n 2, 1) := by decide +kernel
theorem dX3_hardPart_11 : decode cX3_hardPart 11 = .ok (.istore 4, 2) := by decide +kernel
theorem dX3_hardPart_13 : decode cX3_hardPart 13 = .ok (.iconst 0, 1) := by decide +kernel
theorem dX3_hardPart_14 : decode cX3_hardPart 14 = .ok (.istore 5, 2) := by decide +kernel
theorem dX3_hardPart_16 : decode cX3_hardPart 16 = .ok (.iload 5, 2) := by decide +kernel
theorem dX3_hardPart_18 : decode cX3_hardPart 18 = .ok (.aload_n 0, 1) := by decide +kernel
theorem dX3_hardPart_19 : decode cX3_hardPart 19 = .ok (.getfield 21, 3) := by decide +kernel
theorem dX3_hardPart_22 : decode cX3_hardPart 22 = .ok (.getfield 57, 3) := by decide +kernel
theorem dX3_hardPart_25 : decode cX3_hardPart 25 = .ok (.if_icmp .ge 65, 3) := by decide +kernel
theorem dX3_hardPart_28 : decode cX3_hardPart 28 = .ok (.iload_n 2, 1) := by decide +kernel
theorem dX3_hardPart_29 : decode cX3_hardPart 29 = .ok (.iload 5, 2) := by decide +kernel
theorem dX3_hardPart_31 : decode cX3_hardPart 31 = .ok (.invokestatic 40, 3) := by decide +kernel
theorem dX3_hardPart_34 : decode cX3_hardPart 34 = .ok (.ifCond .eq 50, 3) := by decide +kernel
theorem dX3_hardPart_37 : decode cX3_hardPart 37 = .ok (.aload_n 0, 1) := by decide +kernel
theorem dX3_hardPart_38 : decode cX3_hardPart 38 = .ok (.getfield 15, 3) := by decide +kernel
theorem dX3_hardPart_41 : decode cX3_hardPart 41 = .ok (.iload 5, 2) := by decide +kernel
theorem dX3_hardPart_43 : decode cX3_hardPart 43 = .ok (.aload_n 0, 1) := by decide +kernel
theorem dX3_hardPart_44 : decode cX3_hardPart 44 = .ok (.iload 5, 2) := by decide +kernel
theorem dX3_hardPart_46 : decode cX3_hardPart 46 = .ok (.iload_n 2, 1) := by decide +kernel
theorem dX3_hardPart_47 : decode cX3_hardPart 47 = .ok (.invokevirtual 73, 3) := by decide +kernel
theorem dX3_hardPart_50 : decode cX3_hardPart 50 = .ok (.iastore, 1) := by decide +kernel
theorem dX3_hardPart_51 : decode cX3_hardPart 51 = .ok (.aload_n 0, 1) := by decide +kernel
theorem dX3_hardPart_52 : decode cX3_hardPart 52 = .ok (.getfield 9, 3) := by decide +kernel
theorem dX3_hardPart_55 : decode cX3_hardPart 55 = .ok (.iload 5, 2) := by decide +kernel
theorem dX3_hardPart_57 : decode cX3_hardPart 57 = .ok (.iaload, 1) := by decide +kernel
theorem dX3_hardPart_58 : decode cX3_hardPart 58 = .ok (.invokestatic 52, 3) := by decide +kernel
theorem dX3_hardPart_61 : decode cX3_hardPart 61 = .ok (.aload_n 0, 1) := by decide +kernel
theorem dX3_hardPart_62 : decode cX3_hardPart 62 = .ok (.getfield 15, 3) := by decide +kernel
theorem dX3_hardPart_65 : decode cX3_hardPart 65 = .ok (.iload 5, 2) := by decide +kernel
theorem dX3_hardPart_67 : decode cX3_hardPart 67 = .ok (.iaload, 1) := by decide +kernel
theorem dX3_hardPart_68 : decode cX3_hardPart 68 = .ok (.if_icmp .le 14, 3) := by decide +kernel
theorem dX3_hardPart_71 : decode cX3_hardPart 71 = .ok (.iload_n 2, 1) := by decide +kernel
theorem dX3_hardPart_72 : decode cX3_hardPart 72 = .ok (.iconst 1, 1) := by decide +kernel
theorem dX3_hardPart_73 : decode cX3_hardPart 73 = .ok (.iload 5, 2) := by decide +kernel
theorem dX3_hardPart_75 : decode cX3_hardPart 75 = .ok (.ishl, 1) := by decide +kernel
theorem dX3_hardPart_76 : decode cX3_hardPart 76 = .ok (.iconst (-1), 1) := by decide +kernel
theorem dX3_hardPart_77 : decode cX3_hardPart 77 = .ok (.ixor, 1) := by decide +kernel
theorem dX3_hardPart_78 : decode cX3_hardPart 78 = .ok (.iand, 1) := by decide +kernel
theorem dX3_hardPart_79 : decode cX3_hardPart 79 = .ok (.goto 4, 3) := by decide +kernel
theorem dX3_hardPart_82 : decode cX3_hardPart 82 = .ok (.iload_n 2, 1) := by decide +kernel
theorem dX3_hardPart_83 : decode cX3_hardPart 83 = .ok (.istore_n 2, 1) := by decide +kernel
theorem dX3_hardPart_84 : decode cX3_hardPart 84 = .ok (.iinc 5 1, 3) := by decide +kernel
theorem dX3_hardPart_87 : decode cX3_hardPart 87 = .ok (.goto (-71), 3) := by decide +kernel
theorem dX3_hardPart_90 : decode cX3_hardPart 90 = .ok (.iload_n 2, 1) := by decide +kernel
theorem dX3_hardPart_91 : decode cX3_hardPart 91 = .ok (.iload 4, 2) := by decide +kernel
theorem dX3_hardPart_93 : decode cX3_hardPart 93 = .ok (.if_icmp .ne 6, 3) := by decide +kernel
theorem dX3_hardPart_96 : decode cX3_hardPart 96 = .ok (.goto 9, 3) := by decide +kernel
theorem dX3_hardPart_99 : decode cX3_hardPart 99 = .ok (.iinc 3 1, 3) := by decide +kernel
theorem dX3_hardPart_102 : decode cX3_hardPart 102 = .ok (.goto (-98), 3) := by decide +kernel
theorem dX3_hardPart_105 : decode cX3_hardPart 105 = .ok (.iload_n 2, 1) := by decide +kernel
theorem dX3_hardPart_106 : decode cX3_hardPart 106 = .ok (.ireturn, 1) := by decide +kernel
theorem dX3_mostShut_0 : decode cX3_mostShut 0 = .ok (.iconst 0, 1) := by decide +kernel
theorem dX3_mostShut_1 : decode cX3_mostShut 1 = .ok (.istore_n 3, 1) := by decide +kernel
theorem dX3_mostShut_2 : decode cX3_mostShut 2 = .ok (.iconst 0, 1) := by decide +kernel
theorem dX3_mostShut_3 : decode cX3_mostShut 3 = .ok (.istore 4, 2) := by decide +kernel
theorem dX3_mostShut_5 : decode cX3_mostShut 5 = .ok (.iload 4, 2) := by decide +kernel
theorem dX3_mostShut_7 : decode cX3_mostShut 7 = .ok (.aload_n 0, 1) := by decide +kernel
theorem dX3_mostShut_8 : decode cX3_mostShut 8 = .ok (.getfield 21, 3) := by decide +kernel
theorem dX3_mostShut_11 : decode cX3_mostShut 11 = .ok (.getfield 57, 3) := by decide +kernel
theorem dX3_mostShut_14 : decode cX3_mostShut 14 = .ok (.if_icmp .ge 45, 3) := by decide +kernel
theorem dX3_mostShut_17 : decode cX3_mostShut 17 = .ok (.iload_n 2, 1) := by decide +kernel
theorem dX3_mostShut_18 : decode cX3_mostShut 18 = .ok (.iload 4, 2) := by decide +kernel
theorem dX3_mostShut_20 : decode cX3_mostShut 20 = .ok (.invokestatic 40, 3) := by decide +kernel
theorem dX3_mostShut_23 : decode cX3_mostShut 23 = .ok (.ifCond .eq 30, 3) := by decide +kernel
theorem dX3_mostShut_26 : decode cX3_mostShut 26 = .ok (.aload_n 0, 1) := by decide +kernel
theorem dX3_mostShut_27 : decode cX3_mostShut 27 = .ok (.getfield 21, 3) := by decide +kernel
theorem dX3_mostShut_30 : decode cX3_mostShut 30 = .ok (.iload_n 1, 1) := by decide +kernel
theorem dX3_mostShut_31 : decode cX3_mostShut 31 = .ok (.iload 4, 2) := by decide +kernel
theorem dX3_mostShut_33 : decode cX3_mostShut 33 = .ok (.invokevirtual 77, 3) := by decide +kernel
theorem dX3_mostShut_36 : decode cX3_mostShut 36 = .ok (.istore 5, 2) := by decide +kernel
theorem dX3_mostShut_38 : decode cX3_mostShut 38 = .ok (.iload_n 3, 1) := by decide +kernel
theorem dX3_mostShut_39 : decode cX3_mostShut 39 = .ok (.iload 5, 2) := by decide +kernel
theorem dX3_mostShut_41 : decode cX3_mostShut 41 = .ok (.iconst 2, 1) := by decide +kernel
theorem dX3_mostShut_42 : decode cX3_mostShut 42 = .ok (.if_icmp .ne 7, 3) := by decide +kernel
theorem dX3_mostShut_45 : decode cX3_mostShut 45 = .ok (.iconst 3, 1) := by decide +kernel
theorem dX3_mostShut_46 : decode cX3_mostShut 46 = .ok (.goto 5, 3) := by decide +kernel
theorem dX3_mostShut_49 : decode cX3_mostShut 49 = .ok (.iload 5, 2) := by decide +kernel
theorem dX3_mostShut_51 : decode cX3_mostShut 51 = .ok (.iadd, 1) := by decide +kernel
theorem dX3_mostShut_52 : decode cX3_mostShut 52 = .ok (.istore_n 3, 1) := by decide +kernel
theorem dX3_mostShut_53 : decode cX3_mostShut 53 = .ok (.iinc 4 1, 3) := by decide +kernel
theorem dX3_mostShut_56 : decode cX3_mostShut 56 = .ok (.goto (-51), 3) := by decide +kernel
theorem dX3_mostShut_59 : decode cX3_mostShut 59 = .ok (.iload_n 3, 1) := by decide +kernel
theorem dX3_mostShut_60 : decode cX3_mostShut 60 = .ok (.ireturn, 1) := by decide +kernel
theorem dX3_packRest_0 : decode cX3_packRest 0 = .ok (.iload_n 1, 1) := by decide +kernel
theorem dX3_packRest_1 : decode cX3_packRest 1 = .ok (.ifCond .ne 5, 3) := by decide +kernel
theorem dX3_packRest_4 : decode cX3_packRest 4 = .ok (.iconst 1, 1) := by decide +kernel
theorem dX3_packRest_5 : decode cX3_packRest 5 = .ok (.ireturn, 1) := by decide +kernel
theorem dX3_packRest_6 : decode cX3_packRest 6 = .ok (.iload_n 2, 1) := by decide +kernel
theorem dX3_packRest_7 : decode cX3_packRest 7 = .ok (.bipush 10, 2) := by decide +kernel
theorem dX3_packRest_9 : decode cX3_packRest 9 = .ok (.if_icmp .lt 5, 3) := by decide +kernel
theorem dX3_packRest_12 : decode cX3_packRest 12 = .ok (.iconst 0, 1) := by decide +kernel
theorem dX3_packRest_13 : decode cX3_packRest 13 = .ok (.ireturn, 1) := by decide +kernel
theorem dX3_packRest_14 : decode cX3_packRest 14 = .ok (.aload_n 0, 1) := by decide +kernel
theorem dX3_packRest_15 : decode cX3_packRest 15 = .ok (.iload_n 1, 1) := by decide +kernel
theorem dX3_packRest_16 : decode cX3_packRest 16 = .ok (.iload_n 2, 1) := by decide +kernel
theorem dX3_packRest_17 : decode cX3_packRest 17 = .ok (.invokevirtual 80, 3) := by decide +kernel
theorem dX3_packRest_20 : decode cX3_packRest 20 = .ok (.istore_n 3, 1) := by decide +kernel
theorem dX3_packRest_21 : decode cX3_packRest 21 = .ok (.iload_n 1, 1) := by decide +kernel
theorem dX3_packRest_22 : decode cX3_packRest 22 = .ok (.iconst 1, 1) := by decide +kernel
theorem dX3_packRest_23 : decode cX3_packRest 23 = .ok (.iload_n 3, 1) := by decide +kernel
theorem dX3_packRest_24 : decode cX3_packRest 24 = .ok (.ishl, 1) := by decide +kernel
theorem dX3_packRest_25 : decode cX3_packRest 25 = .ok (.iconst (-1), 1) := by decide +kernel
theorem dX3_packRest_26 : decode cX3_packRest 26 = .ok (.ixor, 1) := by decide +kernel
theorem dX3_packRest_27 : decode cX3_packRest 27 = .ok (.iand, 1) := by decide +kernel
theorem dX3_packRest_28 : decode cX3_packRest 28 = .ok (.istore 4, 2) := by decide +kernel
theorem dX3_packRest_30 : decode cX3_packRest 30 = .ok (.aload_n 0, 1) := by decide +kernel
theorem dX3_packRest_31 : decode cX3_packRest 31 = .ok (.getfield 18, 3) := by decide +kernel
theorem dX3_packRest_34 : decode cX3_packRest 34 = .ok (.iload_n 2, 1) := by decide +kernel
theorem dX3_packRest_35 : decode cX3_packRest 35 = .ok (.bipush 10, 2) := by decide +kernel
theorem dX3_packRest_37 : decode cX3_packRest 37 = .ok (.imul, 1) := by decide +kernel
theorem dX3_packRest_38 : decode cX3_packRest 38 = .ok (.iload_n 3, 1) := by decide +kernel
theorem dX3_packRest_39 : decode cX3_packRest 39 = .ok (.iadd, 1) := by decide +kernel
theorem dX3_packRest_40 : decode cX3_packRest 40 = .ok (.iaload, 1) := by decide +kernel
theorem dX3_packRest_41 : decode cX3_packRest 41 = .ok (.istore 5, 2) := by decide +kernel
theorem dX3_packRest_43 : decode cX3_packRest 43 = .ok (.iconst 0, 1) := by decide +kernel
theorem dX3_packRest_44 : decode cX3_packRest 44 = .ok (.istore 6, 2) := by decide +kernel
theorem dX3_packRest_46 : decode cX3_packRest 46 = .ok (.iload 6, 2) := by decide +kernel
theorem dX3_packRest_48 : decode cX3_packRest 48 = .ok (.aload_n 0, 1) := by decide +kernel
theorem dX3_packRest_49 : decode cX3_packRest 49 = .ok (.getfield 21, 3) := by decide +kernel
theorem dX3_packRest_52 : decode cX3_packRest 52 = .ok (.getfield 64, 3) := by decide +kernel
theorem dX3_packRest_55 : decode cX3_packRest 55 = .ok (.if_icmp .ge 46, 3) := by decide +kernel
theorem dX3_packRest_58 : decode cX3_packRest 58 = .ok (.iload 5, 2) := by decide +kernel
theorem dX3_packRest_60 : decode cX3_packRest 60 = .ok (.iload 6, 2) := by decide +kernel
theorem dX3_packRest_62 : decode cX3_packRest 62 = .ok (.invokestatic 40, 3) := by decide +kernel
theorem dX3_packRest_65 : decode cX3_packRest 65 = .ok (.ifCond .eq 30, 3) := by decide +kernel
theorem dX3_packRest_68 : decode cX3_packRest 68 = .ok (.aload_n 0, 1) := by decide +kernel
theorem dX3_packRest_69 : decode cX3_packRest 69 = .ok (.iload_n 3, 1) := by decide +kernel
theorem dX3_packRest_70 : decode cX3_packRest 70 = .ok (.iload 6, 2) := by decide +kernel
theorem dX3_packRest_72 : decode cX3_packRest 72 = .ok (.iload 4, 2) := by decide +kernel
theorem dX3_packRest_74 : decode cX3_packRest 74 = .ok (.iload_n 2, 1) := by decide +kernel
theorem dX3_packRest_75 : decode cX3_packRest 75 = .ok (.invokevirtual 83, 3) := by decide +kernel
theorem dX3_packRest_78 : decode cX3_packRest 78 = .ok (.ifCond .eq 17, 3) := by decide +kernel
theorem dX3_packRest_81 : decode cX3_packRest 81 = .ok (.aload_n 0, 1) := by decide +kernel
theorem dX3_packRest_82 : decode cX3_packRest 82 = .ok (.iload 4, 2) := by decide +kernel
theorem dX3_packRest_84 : decode cX3_packRest 84 = .ok (.iload_n 2, 1) := by decide +kernel
theorem dX3_packRest_85 : decode cX3_packRest 85 = .ok (.iconst 1, 1) := by decide +kernel
theorem dX3_packRest_86 : decode cX3_packRest 86 = .ok (.iadd, 1) := by decide +kernel
theorem dX3_packRest_87 : decode cX3_packRest 87 = .ok (.invokevirtual 70, 3) := by decide +kernel
theorem dX3_packRest_90 : decode cX3_packRest 90 = .ok (.ifCond .eq 5, 3) := by decide +kernel
theorem dX3_packRest_93 : decode cX3_packRest 93 = .ok (.iconst 1, 1) := by decide +kernel
theorem dX3_packRest_94 : decode cX3_packRest 94 = .ok (.ireturn, 1) := by decide +kernel
theorem dX3_packRest_95 : decode cX3_packRest 95 = .ok (.iinc 6 1, 3) := by decide +kernel
theorem dX3_packRest_98 : decode cX3_packRest 98 = .ok (.goto (-52), 3) := by decide +kernel
theorem dX3_packRest_101 : decode cX3_packRest 101 = .ok (.iconst 0, 1) := by decide +kernel
theorem dX3_packRest_102 : decode cX3_packRest 102 = .ok (.ireturn, 1) := by decide +kernel
theorem dX3_tightest_0 : decode cX3_tightest 0 = .ok (.iconst 0, 1) := by decide +kernel
theorem dX3_tightest_1 : decode cX3_tightest 1 = .ok (.istore_n 3, 1) := by decide +kernel
theorem dX3_tightest_2 : decode cX3_tightest 2 = .ok (.bipush 7, 2) := by decide +kernel
theorem dX3_tightest_4 : decode cX3_tightest 4 = .ok (.istore 4, 2) := by decide +kernel
theorem dX3_tightest_6 : decode cX3_tightest 6 = .ok (.iconst 0, 1) := by decide +kernel
theorem dX3_tightest_7 : decode cX3_tightest 7 = .ok (.istore 5, 2) := by decide +kernel
theorem dX3_tightest_9 : decode cX3_tightest 9 = .ok (.iload 5, 2) := by decide +kernel
theorem dX3_tightest_11 : decode cX3_tightest 11 = .ok (.aload_n 0, 1) := by decide +kernel
theorem dX3_tightest_12 : decode cX3_tightest 12 = .ok (.getfield 21, 3) := by decide +kernel
theorem dX3_tightest_15 : decode cX3_tightest 15 = .ok (.getfield 57, 3) := by decide +kernel
theorem dX3_tightest_18 : decode cX3_tightest 18 = .ok (.if_icmp .ge 72, 3) := by decide +kernel
theorem dX3_tightest_21 : decode cX3_tightest 21 = .ok (.iload_n 1, 1) := by decide +kernel
theorem dX3_tightest_22 : decode cX3_tightest 22 = .ok (.iload 5, 2) := by decide +kernel
theorem dX3_tightest_24 : decode cX3_tightest 24 = .ok (.invokestatic 40, 3) := by decide +kernel
theorem dX3_tightest_27 : decode cX3_tightest 27 = .ok (.ifCond .eq 57, 3) := by decide +kernel
theorem dX3_tightest_30 : decode cX3_tightest 30 = .ok (.aload_n 0, 1) := by decide +kernel
theorem dX3_tightest_31 : decode cX3_tightest 31 = .ok (.getfield 18, 3) := by decide +kernel
theorem dX3_tightest_34 : decode cX3_tightest 34 = .ok (.iload_n 2, 1) := by decide +kernel
theorem dX3_tightest_35 : decode cX3_tightest 35 = .ok (.bipush 10, 2) := by decide +kernel
theorem dX3_tightest_37 : decode cX3_tightest 37 = .ok (.imul, 1) := by decide +kernel
theorem dX3_tightest_38 : decode cX3_tightest 38 = .ok (.iload 5, 2) := by decide +kernel
theorem dX3_tightest_40 : decode cX3_tightest 40 = .ok (.iadd, 1) := by decide +kernel
theorem dX3_tightest_41 : decode cX3_tightest 41 = .ok (.iaload, 1) := by decide +kernel
theorem dX3_tightest_42 : decode cX3_tightest 42 = .ok (.invokestatic 52, 3) := by decide +kernel
theorem dX3_tightest_45 : decode cX3_tightest 45 = .ok (.istore 6, 2) := by decide +kernel
theorem dX3_tightest_47 : decode cX3_tightest 47 = .ok (.iload 6, 2) := by decide +kernel
theorem dX3_tightest_49 : decode cX3_tightest 49 = .ok (.iload 4, 2) := by decide +kernel
theorem dX3_tightest_51 : decode cX3_tightest 51 = .ok (.if_icmp .lt 26, 3) := by decide +kernel
theorem dX3_tightest_54 : decode cX3_tightest 54 = .ok (.iload 6, 2) := by decide +kernel
theorem dX3_tightest_56 : decode cX3_tightest 56 = .ok (.iload 4, 2) := by decide +kernel
theorem dX3_tightest_58 : decode cX3_tightest 58 = .ok (.if_icmp .ne 26, 3) := by decide +kernel
theorem dX3_tightest_61 : decode cX3_tightest 61 = .ok (.aload_n 0, 1) := by decide +kernel
theorem dX3_tightest_62 : decode cX3_tightest 62 = .ok (.getfield 15, 3) := by decide +kernel
theorem dX3_tightest_65 : decode cX3_tightest 65 = .ok (.iload 5, 2) := by decide +kernel
theorem dX3_tightest_67 : decode cX3_tightest 67 = .ok (.iaload, 1) := by decide +kernel
theorem dX3_tightest_68 : decode cX3_tightest 68 = .ok (.aload_n 0, 1) := by decide +kernel
theorem dX3_tightest_69 : decode cX3_tightest 69 = .ok (.getfield 15, 3) := by decide +kernel
theorem dX3_tightest_72 : decode cX3_tightest 72 = .ok (.iload_n 3, 1) := by decide +kernel
theorem dX3_tightest_73 : decode cX3_tightest 73 = .ok (.iaload, 1) := by decide +kernel
theorem dX3_tightest_74 : decode cX3_tightest 74 = .ok (.if_icmp .le 10, 3) := by decide +kernel
theorem dX3_tightest_77 : decode cX3_tightest 77 = .ok (.iload 5, 2) := by decide +kernel
theorem dX3_tightest_79 : decode cX3_tightest 79 = .ok (.istore_n 3, 1) := by decide +kernel
theorem dX3_tightest_80 : decode cX3_tightest 80 = .ok (.iload 6, 2) := by decide +kernel
theorem dX3_tightest_82 : decode cX3_tightest 82 = .ok (.istore 4, 2) := by decide +kernel
theorem dX3_tightest_84 : decode cX3_tightest 84 = .ok (.iinc 5 1, 3) := by decide +kernel
theorem dX3_tightest_87 : decode cX3_tightest 87 = .ok (.goto (-78), 3) := by decide +kernel
theorem dX3_tightest_90 : decode cX3_tightest 90 = .ok (.iload_n 3, 1) := by decide +kernel
theorem dX3_tightest_91 : decode cX3_tightest 91 = .ok (.ireturn, 1) := by decide +kernel
theorem dX3_narrow_0 : decode cX3_narrow 0 = .ok (.iconst 0, 1) := by decide +kernel
theorem dX3_narrow_1 : decode cX3_narrow 1 = .ok (.istore 5, 2) := by decide +kernel
theorem dX3_narrow_3 : decode cX3_narrow 3 = .ok (.iload 5, 2) := by decide +kernel
theorem dX3_narrow_5 : decode cX3_narrow 5 = .ok (.aload_n 0, 1) := by decide +kernel
theorem dX3_narrow_6 : decode cX3_narrow 6 = .ok (.getfield 21, 3) := by decide +kernel
theorem dX3_narrow_9 : decode cX3_narrow 9 = .ok (.getfield 57, 3) := by decide +kernel
theorem dX3_narrow_12 : decode cX3_narrow 12 = .ok (.if_icmp .ge 71, 3) := by decide +kernel
theorem dX3_narrow_15 : decode cX3_narrow 15 = .ok (.iload_n 3, 1) := by decide +kernel
theorem dX3_narrow_16 : decode cX3_narrow 16 = .ok (.iload 5, 2) := by decide +kernel
theorem dX3_narrow_18 : decode cX3_narrow 18 = .ok (.invokestatic 40, 3) := by decide +kernel
theorem dX3_narrow_21 : decode cX3_narrow 21 = .ok (.ifCond .eq 56, 3) := by decide +kernel
theorem dX3_narrow_24 : decode cX3_narrow 24 = .ok (.aload_n 0, 1) := by decide +kernel
theorem dX3_narrow_25 : decode cX3_narrow 25 = .ok (.getfield 18, 3) := by decide +kernel
theorem dX3_narrow_28 : decode cX3_narrow 28 = .ok (.iload 4, 2) := by decide +kernel
theorem dX3_narrow_30 : decode cX3_narrow 30 = .ok (.bipush 10, 2) := by decide +kernel
theorem dX3_narrow_32 : decode cX3_narrow 32 = .ok (.imul, 1) := by decide +kernel
theorem dX3_narrow_33 : decode cX3_narrow 33 = .ok (.iload 5, 2) := by decide +kernel
theorem dX3_narrow_35 : decode cX3_narrow 35 = .ok (.iadd, 1) := by decide +kernel
theorem dX3_narrow_36 : decode cX3_narrow 36 = .ok (.iaload, 1) := by decide +kernel
theorem dX3_narrow_37 : decode cX3_narrow 37 = .ok (.aload_n 0, 1) := by decide +kernel
theorem dX3_narrow_38 : decode cX3_narrow 38 = .ok (.getfield 21, 3) := by decide +kernel
theorem dX3_narrow_41 : decode cX3_narrow 41 = .ok (.iload 5, 2) := by decide +kernel
theorem dX3_narrow_43 : decode cX3_narrow 43 = .ok (.iload_n 1, 1) := by decide +kernel
theorem dX3_narrow_44 : decode cX3_narrow 44 = .ok (.iload_n 2, 1) := by decide +kernel
theorem dX3_narrow_45 : decode cX3_narrow 45 = .ok (.invokevirtual 87, 3) := by decide +kernel
theorem dX3_narrow_48 : decode cX3_narrow 48 = .ok (.iconst (-1), 1) := by decide +kernel
theorem dX3_narrow_49 : decode cX3_narrow 49 = .ok (.ixor, 1) := by decide +kernel
theorem dX3_narrow_50 : decode cX3_narrow 50 = .ok (.iand, 1) := by decide +kernel
theorem dX3_narrow_51 : decode cX3_narrow 51 = .ok (.istore 6, 2) := by decide +kernel
theorem dX3_narrow_53 : decode cX3_narrow 53 = .ok (.iload 6, 2) := by decide +kernel
theorem dX3_narrow_55 : decode cX3_narrow 55 = .ok (.ifCond .ne 5, 3) := by decide +kernel
theorem dX3_narrow_58 : decode cX3_narrow 58 = .ok (.iconst 0, 1) := by decide +kernel
theorem dX3_narrow_59 : decode cX3_narrow 59 = .ok (.ireturn, 1) := by decide +kernel
theorem dX3_narrow_60 : decode cX3_narrow 60 = .ok (.aload_n 0, 1) := by decide +kernel
theorem dX3_narrow_61 : decode cX3_narrow 61 = .ok (.getfield 18, 3) := by decide +kernel
theorem dX3_narrow_64 : decode cX3_narrow 64 = .ok (.iload 4, 2) := by decide +kernel
theorem dX3_narrow_66 : decode cX3_narrow 66 = .ok (.iconst 1, 1) := by decide +kernel
theorem dX3_narrow_67 : decode cX3_narrow 67 = .ok (.iadd, 1) := by decide +kernel
theorem dX3_narrow_68 : decode cX3_narrow 68 = .ok (.bipush 10, 2) := by decide +kernel
theorem dX3_narrow_70 : decode cX3_narrow 70 = .ok (.imul, 1) := by decide +kernel
theorem dX3_narrow_71 : decode cX3_narrow 71 = .ok (.iload 5, 2) := by decide +kernel
theorem dX3_narrow_73 : decode cX3_narrow 73 = .ok (.iadd, 1) := by decide +kernel
theorem dX3_narrow_74 : decode cX3_narrow 74 = .ok (.iload 6, 2) := by decide +kernel
theorem dX3_narrow_76 : decode cX3_narrow 76 = .ok (.iastore, 1) := by decide +kernel
theorem dX3_narrow_77 : decode cX3_narrow 77 = .ok (.iinc 5 1, 3) := by decide +kernel
theorem dX3_narrow_80 : decode cX3_narrow 80 = .ok (.goto (-77), 3) := by decide +kernel
theorem dX3_narrow_83 : decode cX3_narrow 83 = .ok (.iconst 1, 1) := by decide +kernel
theorem dX3_narrow_84 : decode cX3_narrow 84 = .ok (.ireturn, 1) := by decide +kernel
theorem dX4_init_0 : decode cX4_init 0 = .ok (.aload_n 0, 1) := by decide +kernel
theorem dX4_init_1 : decode cX4_init 1 = .ok (.invokespecial 3, 3) := by decide +kernel
theorem dX4_init_4 : decode cX4_init 4 = .ok (.aload_n 0, 1) := by decide +kernel
theorem dX4_init_5 : decode cX4_init 5 = .ok (.iconst 0, 1) := by decide +kernel
theorem dX4_init_6 : decode cX4_init 6 = .ok (.putfield 9, 3) := by decide +kernel
theorem dX4_init_9 : decode cX4_init 9 = .ok (.aload_n 0, 1) := by decide +kernel
theorem dX4_init_10 : decode cX4_init 10 = .ok (.iconst 0, 1) := by decide +kernel
theorem dX4_init_11 : decode cX4_init 11 = .ok (.putfield 15, 3) := by decide +kernel
theorem dX4_init_14 : decode cX4_init 14 = .ok (.aload_n 0, 1) := by decide +kernel
theorem dX4_init_15 : decode cX4_init 15 = .ok (.bipush 10, 2) := by decide +kernel
theorem dX4_init_17 : decode cX4_init 17 = .ok (.newarray .int, 2) := by decide +kernel
theorem dX4_init_19 : decode cX4_init 19 = .ok (.putfield 18, 3) := by decide +kernel
theorem dX4_init_22 : decode cX4_init 22 = .ok (.aload_n 0, 1) := by decide +kernel
theorem dX4_init_23 : decode cX4_init 23 = .ok (.bipush 10, 2) := by decide +kernel
theorem dX4_init_25 : decode cX4_init 25 = .ok (.newarray .int, 2) := by decide +kernel
theorem dX4_init_27 : decode cX4_init 27 = .ok (.putfield 22, 3) := by decide +kernel
theorem dX4_init_30 : decode cX4_init 30 = .ok (.aload_n 0, 1) := by decide +kernel
theorem dX4_init_31 : decode cX4_init 31 = .ok (.bipush 10, 2) := by decide +kernel
theorem dX4_init_33 : decode cX4_init 33 = .ok (.newarray .int, 2) := by decide +kernel
theorem dX4_init_35 : decode cX4_init 35 = .ok (.putfield 25, 3) := by decide +kernel
theorem dX4_init_38 : decode cX4_init 38 = .ok (.aload_n 0, 1) := by decide +kernel
theorem dX4_init_39 : decode cX4_init 39 = .ok (.sipush 1024, 3) := by decide +kernel
theorem dX4_init_42 : decode cX4_init 42 = .ok (.newarray .int, 2) := by decide +kernel
theorem dX4_init_44 : decode cX4_init 44 = .ok (.putfield 28, 3) := by decide +kernel
theorem dX4_init_47 : decode cX4_init 47 = .ok (.aload_n 0, 1) := by decide +kernel
theorem dX4_init_48 : decode cX4_init 48 = .ok (.aload_n 1, 1) := by decide +kernel
theorem dX4_init_49 : decode cX4_init 49 = .ok (.putfield 31, 3) := by decide +kernel
theorem dX4_init_52 : decode cX4_init 52 = .ok (.return_, 1) := by decide +kernel
theorem dX4_lookFor_0 : decode cX4_lookFor 0 = .ok (.aload_n 0, 1) := by decide +kernel
theorem dX4_lookFor_1 : decode cX4_lookFor 1 = .ok (.iconst 0, 1) := by decide +kernel
theorem dX4_lookFor_2 : decode cX4_lookFor 2 = .ok (.putfield 15, 3) := by decide +kernel
theorem dX4_lookFor_5 : decode cX4_lookFor 5 = .ok (.aload_n 0, 1) := by decide +kernel
theorem dX4_lookFor_6 : decode cX4_lookFor 6 = .ok (.iconst 0, 1) := by decide +kernel
theorem dX4_lookFor_7 : decode cX4_lookFor 7 = .ok (.putfield 9, 3) := by decide +kernel
theorem dX4_lookFor_10 : decode cX4_lookFor 10 = .ok (.iconst 0, 1) := by decide +kernel
theorem dX4_lookFor_11 : decode cX4_lookFor 11 = .ok (.istore_n 2, 1) := by decide +kernel
theorem dX4_lookFor_12 : decode cX4_lookFor 12 = .ok (.iload_n 2, 1) := by decide +kernel
theorem dX4_lookFor_13 : decode cX4_lookFor 13 = .ok (.aload_n 0, 1) := by decide +kernel
theorem dX4_lookFor_14 : decode cX4_lookFor 14 = .ok (.getfield 31, 3) := by decide +kernel
theorem dX4_lookFor_17 : decode cX4_lookFor 17 = .ok (.getfield 35, 3) := by decide +kernel
theorem dX4_lookFor_20 : decode cX4_lookFor 20 = .ok (.if_icmp .ge 54, 3) := by decide +kernel
theorem dX4_lookFor_23 : decode cX4_lookFor 23 = .ok (.iload_n 1, 1) := by decide +kernel
theorem dX4_lookFor_24 : decode cX4_lookFor 24 = .ok (.iload_n 2, 1) := by decide +kernel
theorem dX4_lookFor_25 : decode cX4_lookFor 25 = .ok (.invokestatic 40, 3) := by decide +kernel
theorem dX4_lookFor_28 : decode cX4_lookFor 28 = .ok (.ifCond .eq 40, 3) := by decide +kernel
theorem dX4_lookFor_31 : decode cX4_lookFor 31 = .ok (.aload_n 0, 1) := by decide +kernel
theorem dX4_lookFor_32 : decode cX4_lookFor 32 = .ok (.getfield 18, 3) := by decide +kernel
theorem dX4_lookFor_35 : decode cX4_lookFor 35 = .ok (.aload_n 0, 1) := by decide +kernel
theorem dX4_lookFor_36 : decode cX4_lookFor 36 = .ok (.getfield 15, 3) := by decide +kernel
theorem dX4_lookFor_39 : decode cX4_lookFor 39 = .ok (.iload_n 2, 1) := by decide +kernel
theorem dX4_lookFor_40 : decode cX4_lookFor 40 = .ok (.iastore, 1) := by decide +kernel
theorem dX4_lookFor_41 : decode cX4_lookFor 41 = .ok (.aload_n 0, 1) := by decide +kernel
theorem dX4_lookFor_42 : decode cX4_lookFor 42 = .ok (.getfield 22, 3) := by decide +kernel
theorem dX4_lookFor_45 : decode cX4_lookFor 45 = .ok (.aload_n 0, 1) := by decide +kernel
theorem dX4_lookFor_46 : decode cX4_lookFor 46 = .ok (.getfield 15, 3) := by decide +kernel
theorem dX4_lookFor_49 : decode cX4_lookFor 49 = .ok (.aload_n 0, 1) := by decide +kernel
theorem dX4_lookFor_50 : decode cX4_lookFor 50 = .ok (.getfield 31, 3) := by decide +kernel
theorem dX4_lookFor_53 : decode cX4_lookFor 53 = .ok (.iload_n 2, 1) := by decide +kernel
theorem dX4_lookFor_54 : decode cX4_lookFor 54 = .ok (.invokevirtual 44, 3) := by decide +kernel
theorem dX4_lookFor_57 : decode cX4_lookFor 57 = .ok (.iastore, 1) := by decide +kernel
theorem dX4_lookFor_58 : decode cX4_lookFor 58 = .ok (.aload_n 0, 1) := by decide +kernel
theorem dX4_lookFor_59 : decode cX4_lookFor 59 = .ok (.dup, 1) := by decide +kernel
theorem dX4_lookFor_60 : decode cX4_lookFor 60 = .ok (.getfield 15, 3) := by decide +kernel
theorem dX4_lookFor_63 : decode cX4_lookFor 63 = .ok (.iconst 1, 1) := by decide +kernel
theorem dX4_lookFor_64 : decode cX4_lookFor 64 = .ok (.iadd, 1) := by decide +kernel
theorem dX4_lookFor_65 : decode cX4_lookFor 65 = .ok (.putfield 15, 3) := by decide +kernel
theorem dX4_lookFor_68 : decode cX4_lookFor 68 = .ok (.iinc 2 1, 3) := by decide +kernel
theorem dX4_lookFor_71 : decode cX4_lookFor 71 = .ok (.goto (-59), 3) := by decide +kernel
theorem dX4_lookFor_74 : decode cX4_lookFor 74 = .ok (.aload_n 0, 1) := by decide +kernel
theorem dX4_lookFor_75 : decode cX4_lookFor 75 = .ok (.iconst 0, 1) := by decide +kernel
theorem dX4_lookFor_76 : decode cX4_lookFor 76 = .ok (.invokevirtual 48, 3) := by decide +kernel
theorem dX4_lookFor_79 : decode cX4_lookFor 79 = .ok (.ireturn, 1) := by decide +kernel
theorem dX4_finds_0 : decode cX4_finds 0 = .ok (.aload_n 0, 1) := by decide +kernel
theorem dX4_finds_1 : decode cX4_finds 1 = .ok (.getfield 31, 3) := by decide +kernel
theorem dX4_finds_4 : decode cX4_finds 4 = .ok (.iload_n 1, 1) := by decide +kernel
theorem dX4_finds_5 : decode cX4_finds 5 = .ok (.invokevirtual 51, 3) := by decide +kernel
theorem dX4_finds_8 : decode cX4_finds 8 = .ok (.ifCond .ne 5, 3) := by decide +kernel
theorem dX4_finds_11 : decode cX4_finds 11 = .ok (.iconst 0, 1) := by decide +kernel
theorem dX4_finds_12 : decode cX4_finds 12 = .ok (.ireturn, 1) := by decide +kernel
theorem dX4_finds_13 : decode cX4_finds 13 = .ok (.aload_n 0, 1) := by decide +kernel
theorem dX4_finds_14 : decode cX4_finds 14 = .ok (.getfield 28, 3) := by decide +kernel
theorem dX4_finds_17 : decode cX4_finds 17 = .ok (.iload_n 1, 1) := by decide +kernel
theorem dX4_finds_18 : decode cX4_finds 18 = .ok (.iaload, 1) := by decide +kernel
theorem dX4_finds_19 : decode cX4_finds 19 = .ok (.iconst 1, 1) := by decide +kernel
theorem dX4_finds_20 : decode cX4_finds 20 = .ok (.ishr, 1) := by decide +kernel
theorem dX4_finds_21 : decode cX4_finds 21 = .ok (.aload_n 0, 1) := by decide +kernel
theorem dX4_finds_22 : decode cX4_finds 22 = .ok (.getfield 31, 3) := by decide +kernel
theorem dX4_finds_25 : decode cX4_finds 25 = .ok (.getfield 55, 3) := by decide +kernel
theorem dX4_finds_28 : decode cX4_finds 28 = .ok (.if_icmp .eq 33, 3) := by decide +kernel
theorem dX4_finds_31 : decode cX4_finds 31 = .ok (.aload_n 0, 1) := by decide +kernel
theorem dX4_finds_32 : decode cX4_finds 32 = .ok (.getfield 28, 3) := by decide +kernel
theorem dX4_finds_35 : decode cX4_finds 35 = .ok (.iload_n 1, 1) := by decide +kernel
theorem dX4_finds_36 : decode cX4_finds 36 = .ok (.aload_n 0, 1) := by decide +kernel
theorem dX4_finds_37 : decode cX4_finds 37 = .ok (.getfield 31, 3) := by decide +kernel
theorem dX4_finds_40 : decode cX4_finds 40 = .ok (.getfield 55, 3) := by decide +kernel
theorem dX4_finds_43 : decode cX4_finds 43 = .ok (.iconst 1, 1) := by decide +kernel
theorem dX4_finds_44 : decode cX4_finds 44 = .ok (.ishl, 1) := by decide +kernel
theorem dX4_finds_45 : decode cX4_finds 45 = .ok (.aload_n 0, 1) := by decide +kernel
theorem dX4_finds_46 : decode cX4_finds 46 = .ok (.iload_n 1, 1) := by decide +kernel
theorem dX4_finds_47 : decode cX4_finds 47 = .ok (.invokevirtual 58, 3) := by decide +kernel
theorem dX4_finds_50 : decode cX4_finds 50 = .ok (.iconst 1, 1) := by decide +kernel
theorem dX4_finds_51 : decode cX4_finds 51 = .ok (.if_icmp .ne 7, 3) := by decide +kernel
theorem dX4_finds_54 : decode cX4_finds 54 = .ok (.iconst 1, 1) := by decide +kernel
theorem dX4_finds_55 : decode cX4_finds 55 = .ok (.goto 4, 3) := by decide +kernel
theorem dX4_finds_58 : decode cX4_finds 58 = .ok (.iconst 0, 1) := by decide +kernel
theorem dX4_finds_59 : decode cX4_finds 59 = .ok (.ior, 1) := by decide +kernel
theorem dX4_finds_60 : decode cX4_finds 60 = .ok (.iastore, 1) := by decide +kernel
theorem dX4_finds_61 : decode cX4_finds 61 = .ok (.aload_n 0, 1) := by decide +kernel
theorem dX4_finds_62 : decode cX4_finds 62 = .ok (.getfield 28, 3) := by decide +kernel
theorem dX4_finds_65 : decode cX4_finds 65 = .ok (.iload_n 1, 1) := by decide +kernel
theorem dX4_finds_66 : decode cX4_finds 66 = .ok (.iaload, 1) := by decide +kernel
theorem dX4_finds_67 : decode cX4_finds 67 = .ok (.iconst 1, 1) := by decide +kernel
theorem dX4_finds_68 : decode cX4_finds 68 = .ok (.iand, 1) := by decide +kernel
theorem dX4_finds_69 : decode cX4_finds 69 = .ok (.ifCond .eq 7, 3) := by decide +kernel
theorem dX4_finds_72 : decode cX4_finds 72 = .ok (.iconst 1, 1) := by decide +kernel
theorem dX4_finds_73 : decode cX4_finds 73 = .ok (.goto 4, 3) := by decide +kernel
theorem dX4_finds_76 : decode cX4_finds 76 = .ok (.iconst 0, 1) := by decide +kernel
theorem dX4_finds_77 : decode cX4_finds 77 = .ok (.ireturn, 1) := by decide +kernel
theorem dX4_goOn_0 : decode cX4_goOn 0 = .ok (.iload_n 1, 1) := by decide +kernel
theorem dX4_goOn_1 : decode cX4_goOn 1 = .ok (.aload_n 0, 1) := by decide +kernel
theorem dX4_goOn_2 : decode cX4_goOn 2 = .ok (.getfield 15, 3) := by decide +kernel
theorem dX4_goOn_5 : decode cX4_goOn 5 = .ok (.if_icmp .ge 9, 3) := by decide +kernel
theorem dX4_goOn_8 : decode cX4_goOn 8 = .ok (.iload_n 1, 1) := by decide +kernel
theorem dX4_goOn_9 : decode cX4_goOn 9 = .ok (.bipush 10, 2) := by decide +kernel
theorem dX4_goOn_11 : decode cX4_goOn 11 = .ok (.if_icmp .lt 5, 3) := by decide +kernel
theorem dX4_goOn_14 : decode cX4_goOn 14 = .ok (.iconst 1, 1) := by decide +kernel
theorem dX4_goOn_15 : decode cX4_goOn 15 = .ok (.ireturn, 1) := by decide +kernel
theorem dX4_goOn_16 : decode cX4_goOn 16 = .ok (.aload_n 0, 1) := by decide +kernel
theorem dX4_goOn_17 : decode cX4_goOn 17 = .ok (.getfield 22, 3) := by decide +kernel
theorem dX4_goOn_20 : decode cX4_goOn 20 = .ok (.iload_n 1, 1) := by decide +kernel
theorem dX4_goOn_21 : decode cX4_goOn 21 = .ok (.iaload, 1) := by decide +kernel
theorem dX4_goOn_22 : decode cX4_goOn 22 = .ok (.istore_n 2, 1) := by decide +kernel
theorem dX4_goOn_23 : decode cX4_goOn 23 = .ok (.iconst 0, 1) := by decide +kernel
theorem dX4_goOn_24 : decode cX4_goOn 24 = .ok (.istore_n 3, 1) := by decide +kernel
theorem dX4_goOn_25 : decode cX4_goOn 25 = .ok (.iload_n 3, 1) := by decide +kernel
theorem dX4_goOn_26 : decode cX4_goOn 26 = .ok (.iload_n 1, 1) := by decide +kernel
theorem dX4_goOn_27 : decode cX4_goOn 27 = .ok (.if_icmp .ge 39, 3) := by decide +kernel
theorem dX4_goOn_30 : decode cX4_goOn 30 = .ok (.iload_n 2, 1) := by decide +kernel
theorem dX4_goOn_31 : decode cX4_goOn 31 = .ok (.aload_n 0, 1) := by decide +kernel
theorem dX4_goOn_32 : decode cX4_goOn 32 = .ok (.getfield 31, 3) := by decide +kernel
theorem dX4_goOn_35 : decode cX4_goOn 35 = .ok (.aload_n 0, 1) := by decide +kernel
theorem dX4_goOn_36 : decode cX4_goOn 36 = .ok (.getfield 18, 3) := by decide +kernel
theorem dX4_goOn_39 : decode cX4_goOn 39 = .ok (.iload_n 1, 1) := by decide +kernel
theorem dX4_goOn_40 : decode cX4_goOn 40 = .ok (.iaload, 1) := by decide +kernel
theorem dX4_goOn_41 : decode cX4_goOn 41 = .ok (.aload_n 0, 1) := by decide +kernel
theorem dX4_goOn_42 : decode cX4_goOn 42 = .ok (.getfield 18, 3) := by decide +kernel
theorem dX4_goOn_45 : decode cX4_goOn 45 = .ok (.iload_n 3, 1) := by decide +kernel
theorem dX4_goOn_46 : decode cX4_goOn 46 = .ok (.iaload, 1) := by decide +kernel
theorem dX4_goOn_47 : decode cX4_goOn 47 = .ok (.aload_n 0, 1) := by decide +kernel
theorem dX4_goOn_48 : decode cX4_goOn 48 = .ok (.getfield 25, 3) := by decide +kernel
theorem dX4_goOn_51 : decode cX4_goOn 51 = .ok (.iload_n 3, 1) := by decide +kernel
theorem dX4_goOn_52 : decode cX4_goOn 52 = .ok (.iaload, 1) := by decide +kernel
theorem dX4_goOn_53 : decode cX4_goOn 53 = .ok (.invokevirtual 61, 3) := by decide +kernel
theorem dX4_goOn_56 : decode cX4_goOn 56 = .ok (.iconst (-1), 1) := by decide +kernel
theorem dX4_goOn_57 : decode cX4_goOn 57 = .ok (.ixor, 1) := by decide +kernel
theorem dX4_goOn_58 : decode cX4_goOn 58 = .ok (.iand, 1) := by decide +kernel
theorem dX4_goOn_59 : decode cX4_goOn 59 = .ok (.istore_n 2, 1) := by decide +kernel
theorem dX4_goOn_60 : decode cX4_goOn 60 = .ok (.iinc 3 1, 3) := by decide +kernel
theorem dX4_goOn_63 : decode cX4_goOn 63 = .ok (.goto (-38), 3) := by decide +kernel
theorem dX4_goOn_66 : decode cX4_goOn 66 = .ok (.iconst 0, 1) := by decide +kernel
theorem dX4_goOn_67 : decode cX4_goOn 67 = .ok (.istore_n 3, 1) := by decide +kernel
theorem dX4_goOn_68 : decode cX4_goOn 68 = .ok (.iload_n 3, 1) := by decide +kernel
theorem dX4_goOn_69 : decode cX4_goOn 69 = .ok (.aload_n 0, 1) := by decide +kernel
theorem dX4_goOn_70 : decode cX4_goOn 70 = .ok (.getfield 31, 3) := by decide +kernel
theorem dX4_goOn_73 : decode cX4_goOn 73 = .ok (.getfield 65, 3) := by decide +kernel
theorem dX4_goOn_76 : decode cX4_goOn 76 = .ok (.if_icmp .ge 68, 3) := by decide +kernel
theorem dX4_goOn_79 : decode cX4_goOn 79 = .ok (.aload_n 0, 1) := by decide +kernel
theorem dX4_goOn_80 : decode cX4_goOn 80 = .ok (.getfield 9, 3) := by decide +kernel
theorem dX4_goOn_83 : decode cX4_goOn 83 = .ok (.aload_n 0, 1) := by decide +kernel
theorem dX4_goOn_84 : decode cX4_goOn 84 = .ok (.getfield 31, 3) := by decide +kernel
theorem dX4_goOn_87 : decode cX4_goOn 87 = .ok (.getfield 68, 3) := by decide +kernel
theorem dX4_goOn_90 : decode cX4_goOn 90 = .ok (.if_icmp .lt 6, 3) := by decide +kernel
theorem dX4_goOn_93 : decode cX4_goOn 93 = .ok (.bipush (-5), 2) := by decide +kernel
theorem dX4_goOn_95 : decode cX4_goOn 95 = .ok (.ireturn, 1) := by decide +kernel
theorem dX4_goOn_96 : decode cX4_goOn 96 = .ok (.aload_n 0, 1) := by decide +kernel
theorem dX4_goOn_97 : decode cX4_goOn 97 = .ok (.dup, 1) := by decide +kernel
theorem dX4_goOn_98 : decode cX4_goOn 98 = .ok (.getfield 9, 3) := by decide +kernel
theorem dX4_goOn_101 : decode cX4_goOn 101 = .ok (.iconst 1, 1) := by decide +kernel
theorem dX4_goOn_102 : decode cX4_goOn 102 = .ok (.iadd, 1) := by decide +kernel
theorem dX4_goOn_103 : decode cX4_goOn 103 = .ok (.putfield 9, 3) := by decide +kernel
theorem dX4_goOn_106 : decode cX4_goOn 106 = .ok (.iload_n 2, 1) := by decide +kernel
theorem dX4_goOn_107 : decode cX4_goOn 107 = .ok (.iload_n 3, 1) := by decide +kernel
theorem dX4_goOn_108 : decode cX4_goOn 108 = .ok (.invokestatic 40, 3) := by decide +kernel
theorem dX4_goOn_111 : decode cX4_goOn 111 = .ok (.ifCond .eq 27, 3) := by decide +kernel
theorem dX4_goOn_114 : decode cX4_goOn 114 = .ok (.aload_n 0, 1) := by decide +kernel
theorem dX4_goOn_115 : decode cX4_goOn 115 = .ok (.getfield 25, 3) := by decide +kernel
theorem dX4_goOn_118 : decode cX4_goOn 118 = .ok (.iload_n 1, 1) := by decide +kernel
theorem dX4_goOn_119 : decode cX4_goOn 119 = .ok (.iload_n 3, 1) := by decide +kernel
theorem dX4_goOn_120 : decode cX4_goOn 120 = .ok (.iastore, 1) := by decide +kernel
theorem dX4_goOn_121 : decode cX4_goOn 121 = .ok (.aload_n 0, 1) := by decide +kernel
theorem dX4_goOn_122 : decode cX4_goOn 122 = .ok (.iload_n 1, 1) := by decide +kernel
theorem dX4_goOn_123 : decode cX4_goOn 123 = .ok (.iconst 1, 1) := by decide +kernel
theorem dX4_goOn_124 : decode cX4_goOn 124 = .ok (.iadd, 1) := by decide +kernel
theorem dX4_goOn_125 : decode cX4_goOn 125 = .ok (.invokevirtual 48, 3) := by decide +kernel
theorem dX4_goOn_128 : decode cX4_goOn 128 = .ok (.istore 4, 2) := by decide +kernel
theorem dX4_goOn_130 : decode cX4_goOn 130 = .ok (.iload 4, 2) := by decide +kernel
theorem dX4_goOn_132 : decode cX4_goOn 132 = .ok (.ifCond .eq 6, 3) := by decide +kernel
theorem dX4_goOn_135 : decode cX4_goOn 135 = .ok (.iload 4, 2) := by decide +kernel
theorem dX4_goOn_137 : decode cX4_goOn 137 = .ok (.ireturn, 1) := by decide +kernel
theorem dX4_goOn_138 : decode cX4_goOn 138 = .ok (.iinc 3 1, 3) := by decide +kernel
theorem dX4_goOn_141 : decode cX4_goOn 141 = .ok (.goto (-73), 3) := by decide +kernel
theorem dX4_goOn_144 : decode cX4_goOn 144 = .ok (.iconst 0, 1) := by decide +kernel
theorem dX4_goOn_145 : decode cX4_goOn 145 = .ok (.ireturn, 1) := by decide +kernel
theorem dX5_init_0 : decode cX5_init 0 = .ok (.aload_n 0, 1) := by decide +kernel
theorem dX5_init_1 : decode cX5_init 1 = .ok (.invokespecial 3, 3) := by decide +kernel
theorem dX5_init_4 : decode cX5_init 4 = .ok (.aload_n 0, 1) := by decide +kernel
theorem dX5_init_5 : decode cX5_init 5 = .ok (.iconst 0, 1) := by decide +kernel
theorem dX5_init_6 : decode cX5_init 6 = .ok (.putfield 9, 3) := by decide +kernel
theorem dX5_init_9 : decode cX5_init 9 = .ok (.aload_n 0, 1) := by decide +kernel
theorem dX5_init_10 : decode cX5_init 10 = .ok (.iconst 0, 1) := by decide +kernel
theorem dX5_init_11 : decode cX5_init 11 = .ok (.putfield 15, 3) := by decide +kernel
theorem dX5_init_14 : decode cX5_init 14 = .ok (.aload_n 0, 1) := by decide +kernel
theorem dX5_init_15 : decode cX5_init 15 = .ok (.bipush 24, 2) := by decide +kernel
theorem dX5_init_17 : decode cX5_init 17 = .ok (.newarray .int, 2) := by decide +kernel
theorem dX5_init_19 : decode cX5_init 19 = .ok (.putfield 18, 3) := by decide +kernel
theorem dX5_init_22 : decode cX5_init 22 = .ok (.aload_n 0, 1) := by decide +kernel
theorem dX5_init_23 : decode cX5_init 23 = .ok (.bipush 24, 2) := by decide +kernel
theorem dX5_init_25 : decode cX5_init 25 = .ok (.newarray .int, 2) := by decide +kernel
theorem dX5_init_27 : decode cX5_init 27 = .ok (.putfield 22, 3) := by decide +kernel
theorem dX5_init_30 : decode cX5_init 30 = .ok (.aload_n 0, 1) := by decide +kernel
theorem dX5_init_31 : decode cX5_init 31 = .ok (.bipush 24, 2) := by decide +kernel
theorem dX5_init_33 : decode cX5_init 33 = .ok (.newarray .int, 2) := by decide +kernel
theorem dX5_init_35 : decode cX5_init 35 = .ok (.putfield 25, 3) := by decide +kernel
theorem dX5_init_38 : decode cX5_init 38 = .ok (.aload_n 0, 1) := by decide +kernel
theorem dX5_init_39 : decode cX5_init 39 = .ok (.bipush 6, 2) := by decide +kernel
theorem dX5_init_41 : decode cX5_init 41 = .ok (.newarray .int, 2) := by decide +kernel
theorem dX5_init_43 : decode cX5_init 43 = .ok (.putfield 28, 3) := by decide +kernel
theorem dX5_init_46 : decode cX5_init 46 = .ok (.aload_n 0, 1) := by decide +kernel
theorem dX5_init_47 : decode cX5_init 47 = .ok (.bipush 6, 2) := by decide +kernel
theorem dX5_init_49 : decode cX5_init 49 = .ok (.newarray .int, 2) := by decide +kernel
theorem dX5_init_51 : decode cX5_init 51 = .ok (.putfield 31, 3) := by decide +kernel
theorem dX5_init_54 : decode cX5_init 54 = .ok (.aload_n 0, 1) := by decide +kernel
theorem dX5_init_55 : decode cX5_init 55 = .ok (.sipush 4096, 3) := by decide +kernel
theorem dX5_init_58 : decode cX5_init 58 = .ok (.newarray .int, 2) := by decide +kernel
theorem dX5_init_60 : decode cX5_init 60 = .ok (.putfield 34, 3) := by decide +kernel
theorem dX5_init_63 : decode cX5_init 63 = .ok (.aload_n 0, 1) := by decide +kernel
theorem dX5_init_64 : decode cX5_init 64 = .ok (.iconst 1, 1) := by decide +kernel
theorem dX5_init_65 : decode cX5_init 65 = .ok (.putfield 37, 3) := by decide +kernel
theorem dX5_init_68 : decode cX5_init 68 = .ok (.return_, 1) := by decide +kernel
theorem dX5_isHouse_0 : decode cX5_isHouse 0 = .ok (.iload_n 1, 1) := by decide +kernel
theorem dX5_isHouse_1 : decode cX5_isHouse 1 = .ok (.ifCond .lt 15, 3) := by decide +kernel
theorem dX5_isHouse_4 : decode cX5_isHouse 4 = .ok (.iload_n 1, 1) := by decide +kernel
theorem dX5_isHouse_5 : decode cX5_isHouse 5 = .ok (.aload_n 0, 1) := by decide +kernel
theorem dX5_isHouse_6 : decode cX5_isHouse 6 = .ok (.getfield 9, 3) := by decide +kernel
theorem dX5_isHouse_9 : decode cX5_isHouse 9 = .ok (.if_icmp .ge 7, 3) := by decide +kernel
theorem dX5_isHouse_12 : decode cX5_isHouse 12 = .ok (.iconst 1, 1) := by decide +kernel
theorem dX5_isHouse_13 : decode cX5_isHouse 13 = .ok (.goto 4, 3) := by decide +kernel
theorem dX5_isHouse_16 : decode cX5_isHouse 16 = .ok (.iconst 0, 1) := by decide +kernel
theorem dX5_isHouse_17 : decode cX5_isHouse 17 = .ok (.ireturn, 1) := by decide +kernel
theorem dX5_isGroup_0 : decode cX5_isGroup 0 = .ok (.iload_n 1, 1) := by decide +kernel
theorem dX5_isGroup_1 : decode cX5_isGroup 1 = .ok (.ifCond .lt 15, 3) := by decide +kernel
theorem dX5_isGroup_4 : decode cX5_isGroup 4 = .ok (.iload_n 1, 1) := by decide +kernel
theorem dX5_isGroup_5 : decode cX5_isGroup 5 = .ok (.aload_n 0, 1) := by decide +kernel
theorem dX5_isGroup_6 : decode cX5_isGroup 6 = .ok (.invokevirtual 41, 3) := by decide +kernel
theorem dX5_isGroup_9 : decode cX5_isGroup 9 = .ok (.if_icmp .gt 7, 3) := by decide +kernel
theorem dX5_isGroup_12 : decode cX5_isGroup 12 = .ok (.iconst 1, 1) := by decide +kernel
theorem dX5_isGroup_13 : decode cX5_isGroup 13 = .ok (.goto 4, 3) := by decide +kernel
theorem dX5_isGroup_16 : decode cX5_isGroup 16 = .ok (.iconst 0, 1) := by decide +kernel
theorem dX5_isGroup_17 : decode cX5_isGroup 17 = .ok (.ireturn, 1) := by decide +kernel
theorem dX5_allHouses_0 : decode cX5_allHouses 0 = .ok (.iconst 1, 1) := by decide +kernel
theorem dX5_allHouses_1 : decode cX5_allHouses 1 = .ok (.aload_n 0, 1) := by decide +kernel
theorem dX5_allHouses_2 : decode cX5_allHouses 2 = .ok (.getfield 9, 3) := by decide +kernel
theorem dX5_allHouses_5 : decode cX5_allHouses 5 = .ok (.ishl, 1) := by decide +kernel
theorem dX5_allHouses_6 : decode cX5_allHouses 6 = .ok (.iconst 1, 1) := by decide +kernel
theorem dX5_allHouses_7 : decode cX5_allHouses 7 = .ok (.isub, 1) := by decide +kernel
theorem dX5_allHouses_8 : decode cX5_allHouses 8 = .ok (.ireturn, 1) := by decide +kernel
theorem dX5_addHouse_0 : decode cX5_addHouse 0 = .ok (.aload_n 0, 1) := by decide +kernel
theorem dX5_addHouse_1 : decode cX5_addHouse 1 = .ok (.dup, 1) := by decide +kernel
theorem dX5_addHouse_2 : decode cX5_addHouse 2 = .ok (.getfield 9, 3) := by decide +kernel
theorem dX5_addHouse_5 : decode cX5_addHouse 5 = .ok (.iconst 1, 1) := by decide +kernel
theorem dX5_addHouse_6 : decode cX5_addHouse 6 = .ok (.iadd, 1) := by decide +kernel
theorem dX5_addHouse_7 : decode cX5_addHouse 7 = .ok (.putfield 9, 3) := by decide +kernel
theorem dX5_addHouse_10 : decode cX5_addHouse 10 = .ok (.aload_n 0, 1) := by decide +kernel
theorem dX5_addHouse_11 : decode cX5_addHouse 11 = .ok (.iconst 1, 1) := by decide +kernel
theorem dX5_addHouse_12 : decode cX5_addHouse 12 = .ok (.putfield 37, 3) := by decide +kernel
theorem dX5_addHouse_15 : decode cX5_addHouse 15 = .ok (.aload_n 0, 1) := by decide +kernel
theorem dX5_addHouse_16 : decode cX5_addHouse 16 = .ok (.getfield 9, 3) := by decide +kernel
theorem dX5_addHouse_19 : decode cX5_addHouse 19 = .ok (.iconst 1, 1) := by decide +kernel
theorem dX5_addHouse_20 : decode cX5_addHouse 20 = .ok (.isub, 1) := by decide +kernel
theorem dX5_addHouse_21 : decode cX5_addHouse 21 = .ok (.ireturn, 1) := by decide +kernel
theorem dX5_addSentence_0 : decode cX5_addSentence 0 = .ok (.aload_n 0, 1) := by decide +kernel
theorem dX5_addSentence_1 : decode cX5_addSentence 1 = .ok (.getfield 15, 3) := by decide +kernel
theorem dX5_addSentence_4 : decode cX5_addSentence 4 = .ok (.bipush 24, 2) := by decide +kernel
theorem dX5_addSentence_6 : decode cX5_addSentence 6 = .ok (.if_icmp .lt 6, 3) := by decide +kernel
theorem dX5_addSentence_9 : decode cX5_addSentence 9 = .ok (.bipush (-4), 2) := by decide +kernel
theorem dX5_addSentence_11 : decode cX5_addSentence 11 = .ok (.ireturn, 1) := by decide +kernel
theorem dX5_addSentence_12 : decode cX5_addSentence 12 = .ok (.aload_n 0, 1) := by decide +kernel
theorem dX5_addSentence_13 : decode cX5_addSentence 13 = .ok (.getfield 18, 3) := by decide +kernel
theorem dX5_addSentence_16 : decode cX5_addSentence 16 = .ok (.aload_n 0, 1) := by decide +kernel
theorem dX5_addSentence_17 : decode cX5_addSentence 17 = .ok (.getfield 15, 3) := by decide +kernel
theorem dX5_addSentence_20 : decode cX5_addSentence 20 = .ok (.iload_n 1, 1) := by decide +kernel
theorem dX5_addSentence_21 : decode cX5_addSentence 21 = .ok (.iastore, 1) := by decide +kernel
theorem dX5_addSentence_22 : decode cX5_addSentence 22 = .ok (.aload_n 0, 1) := by decide +kernel
theorem dX5_addSentence_23 : decode cX5_addSentence 23 = .ok (.getfield 22, 3) := by decide +kernel
theorem dX5_addSentence_26 : decode cX5_addSentence 26 = .ok (.aload_n 0, 1) := by decide +kernel
theorem dX5_addSentence_27 : decode cX5_addSentence 27 = .ok (.getfield 15, 3) := by decide +kernel
theorem dX5_addSentence_30 : decode cX5_addSentence 30 = .ok (.iload_n 2, 1) := by decide +kernel
theorem dX5_addSentence_31 : decode cX5_addSentence 31 = .ok (.iastore, 1) := by decide +kernel
theorem dX5_addSentence_32 : decode cX5_addSentence 32 = .ok (.aload_n 0, 1) := by decide +kernel
theorem dX5_addSentence_33 : decode cX5_addSentence 33 = .ok (.getfield 25, 3) := by decide +kernel
theorem dX5_addSentence_36 : decode cX5_addSentence 36 = .ok (.aload_n 0, 1) := by decide +kernel
theorem dX5_addSentence_37 : decode cX5_addSentence 37 = .ok (.getfield 15, 3) := by decide +kernel
theorem dX5_addSentence_40 : decode cX5_addSentence 40 = .ok (.iload_n 3, 1) := by decide +kernel
theorem dX5_addSentence_41 : decode cX5_addSentence 41 = .ok (.iastore, 1) := by decide +kernel
theorem dX5_addSentence_42 : decode cX5_addSentence 42 = .ok (.aload_n 0, 1) := by decide +kernel
theorem dX5_addSentence_43 : decode cX5_addSentence 43 = .ok (.dup, 1) := by decide +kernel
theorem dX5_addSentence_44 : decode cX5_addSentence 44 = .ok (.getfield 15, 3) := by decide +kernel
theorem dX5_addSentence_47 : decode cX5_addSentence 47 = .ok (.iconst 1, 1) := by decide +kernel
theorem dX5_addSentence_48 : decode cX5_addSentence 48 = .ok (.iadd, 1) := by decide +kernel
theorem dX5_addSentence_49 : decode cX5_addSentence 49 = .ok (.putfield 15, 3) := by decide +kernel
theorem dX5_addSentence_52 : decode cX5_addSentence 52 = .ok (.aload_n 0, 1) := by decide +kernel
theorem dX5_addSentence_53 : decode cX5_addSentence 53 = .ok (.iconst 1, 1) := by decide +kernel
theorem dX5_addSentence_54 : decode cX5_addSentence 54 = .ok (.putfield 37, 3) := by decide +kernel
theorem dX5_addSentence_57 : decode cX5_addSentence 57 = .ok (.aload_n 0, 1) := by decide +kernel
theorem dX5_addSentence_58 : decode cX5_addSentence 58 = .ok (.getfield 15, 3) := by decide +kernel
theorem dX5_addSentence_61 : decode cX5_addSentence 61 = .ok (.iconst 1, 1) := by decide +kernel
theorem dX5_addSentence_62 : decode cX5_addSentence 62 = .ok (.isub, 1) := by decide +kernel
theorem dX5_addSentence_63 : decode cX5_addSentence 63 = .ok (.ireturn, 1) := by decide +kernel
theorem dX5_greatest_0 : decode cX5_greatest 0 = .ok (.aload_n 0, 1) := by decide +kernel
theorem dX5_greatest_1 : decode cX5_greatest 1 = .ok (.iload_n 1, 1) := by decide +kernel
theorem dX5_greatest_2 : decode cX5_greatest 2 = .ok (.invokevirtual 45, 3) := by decide +kernel
theorem dX5_greatest_5 : decode cX5_greatest 5 = .ok (.ifCond .ne 5, 3) := by decide +kernel
theorem dX5_greatest_8 : decode cX5_greatest 8 = .ok (.iconst 0, 1) := by decide +kernel
theorem dX5_greatest_9 : decode cX5_greatest 9 = .ok (.ireturn, 1) := by decide +kernel
theorem dX5_greatest_10 : decode cX5_greatest 10 = .ok (.aload_n 0, 1) := by decide +kernel
theorem dX5_greatest_11 : decode cX5_greatest 11 = .ok (.invokevirtual 49, 3) := by decide +kernel
theorem dX5_greatest_14 : decode cX5_greatest 14 = .ok (.aload_n 0, 1) := by decide +kernel
theorem dX5_greatest_15 : decode cX5_greatest 15 = .ok (.getfield 34, 3) := by decide +kernel
theorem dX5_greatest_18 : decode cX5_greatest 18 = .ok (.iload_n 1, 1) := by decide +kernel
theorem dX5_greatest_19 : decode cX5_greatest 19 = .ok (.bipush 64, 2) := by decide +kernel
theorem dX5_greatest_21 : decode cX5_greatest 21 = .ok (.imul, 1) := by decide +kernel
theorem dX5_greatest_22 : decode cX5_greatest 22 = .ok (.bipush 64, 2) := by decide +kernel
theorem dX5_greatest_24 : decode cX5_greatest 24 = .ok (.iadd, 1) := by decide +kernel
theorem dX5_greatest_25 : decode cX5_greatest 25 = .ok (.iconst 1, 1) := by decide +kernel
theorem dX5_greatest_26 : decode cX5_greatest 26 = .ok (.isub, 1) := by decide +kernel
theorem dX5_greatest_27 : decode cX5_greatest 27 = .ok (.iaload, 1) := by decide +kernel
theorem dX5_greatest_28 : decode cX5_greatest 28 = .ok (.ireturn, 1) := by decide +kernel
theorem dX5_share_0 : decode cX5_share 0 = .ok (.aload_n 0, 1) := by decide +kernel
theorem dX5_share_1 : decode cX5_share 1 = .ok (.invokevirtual 49, 3) := by decide +kernel
theorem dX5_share_4 : decode cX5_share 4 = .ok (.iload_n 1, 1) := by decide +kernel
theorem dX5_share_5 : decode cX5_share 5 = .ok (.aload_n 0, 1) := by decide +kernel
theorem dX5_share_6 : decode cX5_share 6 = .ok (.invokevirtual 41, 3) := by decide +kernel
theorem dX5_share_9 : decode cX5_share 9 = .ok (.iand, 1) := by decide +kernel
theorem dX5_share_10 : decode cX5_share 10 = .ok (.istore_n 2, 1) := by decide +kernel
theorem dX5_share_11 : decode cX5_share 11 = .ok (.bipush 63, 2) := by decide +kernel
theorem dX5_share_13 : decode cX5_share 13 = .ok (.istore_n 3, 1) := by decide +kernel
theorem dX5_share_14 : decode cX5_share 14 = .ok (.iconst 0, 1) := by decide +kernel
theorem dX5_share_15 : decode cX5_share 15 = .ok (.istore 4, 2) := by decide +kernel
theorem dX5_share_17 : decode cX5_share 17 = .ok (.iload 4, 2) := by decide +kernel
theorem dX5_share_19 : decode cX5_share 19 = .ok (.aload_n 0, 1) := by decide +kernel
theorem dX5_share_20 : decode cX5_share 20 = .ok (.getfield 9, 3) := by decide +kernel
theorem dX5_share_23 : decode cX5_share 23 = .ok (.if_icmp .ge 98, 3) := by decide +kernel
theorem dX5_share_26 : decode cX5_share 26 = .ok (.aload_n 0, 1) := by decide +kernel
theorem dX5_share_27 : decode cX5_share 27 = .ok (.getfield 31, 3) := by decide +kernel
theorem dX5_share_30 : decode cX5_share 30 = .ok (.iload 4, 2) := by decide +kernel
theorem dX5_share_32 : decode cX5_share 32 = .ok (.iconst (-1), 1) := by decide +kernel
theorem dX5_share_33 : decode cX5_share 33 = .ok (.iastore, 1) := by decide +kernel
theorem dX5_share_34 : decode cX5_share 34 = .ok (.iload_n 2, 1) := by decide +kernel
theorem dX5_share_35 : decode cX5_share 35 = .ok (.iload 4, 2) := by decide +kernel
theorem dX5_share_37 : decode cX5_share 37 = .ok (.invokestatic 52, 3) := by decide +kernel
theorem dX5_share_40 : decode cX5_share 40 = .ok (.ifCond .eq 75, 3) := by decide +kernel
theorem dX5_share_43 : decode cX5_share 43 = .ok (.iload_n 2, 1) := by decide +kernel
theorem dX5_share_44 : decode cX5_share 44 = .ok (.iconst 1, 1) := by decide +kernel
theorem dX5_share_45 : decode cX5_share 45 = .ok (.iload 4, 2) := by decide +kernel
theorem dX5_share_47 : decode cX5_share 47 = .ok (.ishl, 1) := by decide +kernel
theorem dX5_share_48 : decode cX5_share 48 = .ok (.iconst (-1), 1) := by decide +kernel
theorem dX5_share_49 : decode cX5_share 49 = .ok (.ixor, 1) := by decide +kernel
theorem dX5_share_50 : decode cX5_share 50 = .ok (.iand, 1) := by decide +kernel
theorem dX5_share_51 : decode cX5_share 51 = .ok (.istore 5, 2) := by decide +kernel
theorem dX5_share_53 : decode cX5_share 53 = .ok (.aload_n 0, 1) := by decide +kernel
theorem dX5_share_54 : decode cX5_share 54 = .ok (.getfield 31, 3) := by decide +kernel
theorem dX5_share_57 : decode cX5_share 57 = .ok (.iload 4, 2) := by decide +kernel
theorem dX5_share_59 : decode cX5_share 59 = .ok (.aload_n 0, 1) := by decide +kernel
theorem dX5_share_60 : decode cX5_share 60 = .ok (.aload_n 0, 1) := by decide +kernel
theorem dX5_share_61 : decode cX5_share 61 = .ok (.getfield 34, 3) := by decide +kernel
theorem dX5_share_64 : decode cX5_share 64 = .ok (.iload_n 2, 1) := by decide +kernel
theorem dX5_share_65 : decode cX5_share 65 = .ok (.bipush 64, 2) := by decide +kernel
theorem dX5_share_67 : decode cX5_share 67 = .ok (.imul, 1) := by decide +kernel
theorem dX5_share_68 : decode cX5_share 68 = .ok (.iload_n 3, 1) := by decide +kernel
theorem dX5_share_69 : decode cX5_share 69 = .ok (.iadd, 1) := by decide +kernel
theorem dX5_share_70 : decode cX5_share 70 = .ok (.iaload, 1) := by decide +kernel
theorem dX5_share_71 : decode cX5_share 71 = .ok (.iload 4, 2) := by decide +kernel
theorem dX5_share_73 : decode cX5_share 73 = .ok (.iload 5, 2) := by decide +kernel
theorem dX5_share_75 : decode cX5_share 75 = .ok (.iload_n 3, 1) := by decide +kernel
theorem dX5_share_76 : decode cX5_share 76 = .ok (.invokevirtual 56, 3) := by decide +kernel
theorem dX5_share_79 : decode cX5_share 79 = .ok (.iastore, 1) := by decide +kernel
theorem dX5_share_80 : decode cX5_share 80 = .ok (.aload_n 0, 1) := by decide +kernel
theorem dX5_share_81 : decode cX5_share 81 = .ok (.getfield 31, 3) := by decide +kernel
theorem dX5_share_84 : decode cX5_share 84 = .ok (.iload 4, 2) := by decide +kernel
theorem dX5_share_86 : decode cX5_share 86 = .ok (.iaload, 1) := by decide +kernel
theorem dX5_share_87 : decode cX5_share 87 = .ok (.iconst (-1), 1) := by decide +kernel
theorem dX5_share_88 : decode cX5_share 88 = .ok (.if_icmp .ne 7, 3) := by decide +kernel
theorem dX5_share_91 : decode cX5_share 91 = .ok (.iload_n 3, 1) := by decide +kernel
theorem dX5_share_92 : decode cX5_share 92 = .ok (.goto 19, 3) := by decide +kernel
theorem dX5_share_95 : decode cX5_share 95 = .ok (.iload_n 3, 1) := by decide +kernel
theorem dX5_share_96 : decode cX5_share 96 = .ok (.aload_n 0, 1) := by decide +kernel
theorem dX5_share_97 : decode cX5_share 97 = .ok (.getfield 22, 3) := by decide +kernel
theorem dX5_share_100 : decode cX5_share 100 = .ok (.aload_n 0, 1) := by decide +kernel
theorem dX5_share_101 : decode cX5_share 101 = .ok (.getfield 31, 3) := by decide +kernel
theorem dX5_share_104 : decode cX5_share 104 = .ok (.iload 4, 2) := by decide +kernel
theorem dX5_share_106 : decode cX5_share 106 = .ok (.iaload, 1) := by decide +kernel
theorem dX5_share_107 : decode cX5_share 107 = .ok (.iaload, 1) := by decide +kernel
theorem dX5_share_108 : decode cX5_share 108 = .ok (.iconst (-1), 1) := by decide +kernel
theorem dX5_share_109 : decode cX5_share 109 = .ok (.ixor, 1) := by decide +kernel
theorem dX5_share_110 : decode cX5_share 110 = .ok (.iand, 1) := by decide +kernel
theorem dX5_share_111 : decode cX5_share 111 = .ok (.istore_n 3, 1) := by decide +kernel
theorem dX5_share_112 : decode cX5_share 112 = .ok (.iload 5, 2) := by decide +kernel
theorem dX5_share_114 : decode cX5_share 114 = .ok (.istore_n 2, 1) := by decide +kernel
theorem dX5_share_115 : decode cX5_share 115 = .ok (.iinc 4 1, 3) := by decide +kernel
theorem dX5_share_118 : decode cX5_share 118 = .ok (.goto (-101), 3) := by decide +kernel
theorem dX5_share_121 : decode cX5_share 121 = .ok (.return_, 1) := by decide +kernel
theorem dX5_takenBy_0 : decode cX5_takenBy 0 = .ok (.aload_n 0, 1) := by decide +kernel
theorem dX5_takenBy_1 : decode cX5_takenBy 1 = .ok (.invokevirtual 41, 3) := by decide +kernel
theorem dX5_takenBy_4 : decode cX5_takenBy 4 = .ok (.istore_n 2, 1) := by decide +kernel
theorem dX5_takenBy_5 : decode cX5_takenBy 5 = .ok (.aload_n 0, 1) := by decide +kernel
theorem dX5_takenBy_6 : decode cX5_takenBy 6 = .ok (.iload_n 2, 1) := by decide +kernel
theorem dX5_takenBy_7 : decode cX5_takenBy 7 = .ok (.invokevirtual 60, 3) := by decide +kernel
theorem dX5_takenBy_10 : decode cX5_takenBy 10 = .ok (.aload_n 0, 1) := by decide +kernel
theorem dX5_takenBy_11 : decode cX5_takenBy 11 = .ok (.iload_n 2, 1) := by decide +kernel
theorem dX5_takenBy_12 : decode cX5_takenBy 12 = .ok (.invokevirtual 64, 3) := by decide +kernel
theorem dX5_takenBy_15 : decode cX5_takenBy 15 = .ok (.aload_n 0, 1) := by decide +kernel
theorem dX5_takenBy_16 : decode cX5_takenBy 16 = .ok (.iload_n 1, 1) := by decide +kernel
theorem dX5_takenBy_17 : decode cX5_takenBy 17 = .ok (.invokevirtual 68, 3) := by decide +kernel
theorem dX5_takenBy_20 : decode cX5_takenBy 20 = .ok (.isub, 1) := by decide +kernel
theorem dX5_takenBy_21 : decode cX5_takenBy 21 = .ok (.istore_n 3, 1) := by decide +kernel
theorem dX5_takenBy_22 : decode cX5_takenBy 22 = .ok (.aload_n 0, 1) := by decide +kernel
theorem dX5_takenBy_23 : decode cX5_takenBy 23 = .ok (.iload_n 2, 1) := by decide +kernel
theorem dX5_takenBy_24 : decode cX5_takenBy 24 = .ok (.iconst 1, 1) := by decide +kernel
theorem dX5_takenBy_25 : decode cX5_takenBy 25 = .ok (.iload_n 1, 1) := by decide +kernel
theorem dX5_takenBy_26 : decode cX5_takenBy 26 = .ok (.ishl, 1) := by decide +kernel
theorem dX5_takenBy_27 : decode cX5_takenBy 27 = .ok (.iconst (-1), 1) := by decide +kernel
theorem dX5_takenBy_28 : decode cX5_takenBy 28 = .ok (.ixor, 1) := by decide +kernel
theorem dX5_takenBy_29 : decode cX5_takenBy 29 = .ok (.iand, 1) := by decide +kernel
theorem dX5_takenBy_30 : decode cX5_takenBy 30 = .ok (.invokevirtual 64, 3) := by decide +kernel
theorem dX5_takenBy_33 : decode cX5_takenBy 33 = .ok (.iload_n 3, 1) := by decide +kernel
theorem dX5_takenBy_34 : decode cX5_takenBy 34 = .ok (.isub, 1) := by decide +kernel
theorem dX5_takenBy_35 : decode cX5_takenBy 35 = .ok (.ireturn, 1) := by decide +kernel
theorem dX5_wouldLeave_0 : decode cX5_wouldLeave 0 = .ok (.iconst 0, 1) := by decide +kernel
theorem dX5_wouldLeave_1 : decode cX5_wouldLeave 1 = .ok (.istore_n 2, 1) := by decide +kernel
theorem dX5_wouldLeave_2 : decode cX5_wouldLeave 2 = .ok (.iconst 0, 1) := by decide +kernel
theorem dX5_wouldLeave_3 : decode cX5_wouldLeave 3 = .ok (.istore_n 3, 1) := by decide +kernel
theorem dX5_wouldLeave_4 : decode cX5_wouldLeave 4 = .ok (.iload_n 3, 1) := by decide +kernel
theorem dX5_wouldLeave_5 : decode cX5_wouldLeave 5 = .ok (.aload_n 0, 1) := by decide +kernel
theorem dX5_wouldLeave_6 : decode cX5_wouldLeave 6 = .ok (.getfield 9, 3) := by decide +kernel
theorem dX5_wouldLeave_9 : decode cX5_wouldLeave 9 = .ok (.if_icmp .ge 59, 3) := by decide +kernel
theorem dX5_wouldLeave_12 : decode cX5_wouldLeave 12 = .ok (.aload_n 0, 1) := by decide +kernel
theorem dX5_wouldLeave_13 : decode cX5_wouldLeave 13 = .ok (.getfield 31, 3) := by decide +kernel
theorem dX5_wouldLeave_16 : decode cX5_wouldLeave 16 = .ok (.iload_n 3, 1) := by decide +kernel
theorem dX5_wouldLeave_17 : decode cX5_wouldLeave 17 = .ok (.iaload, 1) := by decide +kernel
theorem dX5_wouldLeave_18 : decode cX5_wouldLeave 18 = .ok (.iconst (-1), 1) := by decide +kernel
theorem dX5_wouldLeave_19 : decode cX5_wouldLeave 19 = .ok (.if_icmp .eq 43, 3) := by decide +kernel
theorem dX5_wouldLeave_22 : decode cX5_wouldLeave 22 = .ok (.iload_n 2, 1) := by decide +kernel
theorem dX5_wouldLeave_23 : decode cX5_wouldLeave 23 = .ok (.aload_n 0, 1) := by decide +kernel
theorem dX5_wouldLeave_24 : decode cX5_wouldLeave 24 = .ok (.getfield 28, 3) := by decide +kernel
theorem dX5_wouldLeave_27 : decode cX5_wouldLeave 27 = .ok (.iload_n 3, 1) := by decide +kernel
theorem dX5_wouldLeave_28 : decode cX5_wouldLeave 28 = .ok (.iaload, 1) := by decide +kernel
theorem dX5_wouldLeave_29 : decode cX5_wouldLeave 29 = .ok (.iadd, 1) := by decide +kernel
theorem dX5_wouldLeave_30 : decode cX5_wouldLeave 30 = .ok (.istore_n 2, 1) := by decide +kernel
theorem dX5_wouldLeave_31 : decode cX5_wouldLeave 31 = .ok (.iload_n 2, 1) := by decide +kernel
theorem dX5_wouldLeave_32 : decode cX5_wouldLeave 32 = .ok (.iload_n 1, 1) := by decide +kernel
theorem dX5_wouldLeave_33 : decode cX5_wouldLeave 33 = .ok (.iload_n 3, 1) := by decide +kernel
theorem dX5_wouldLeave_34 : decode cX5_wouldLeave 34 = .ok (.invokestatic 52, 3) := by decide +kernel
theorem dX5_wouldLeave_37 : decode cX5_wouldLeave 37 = .ok (.ifCond .eq 22, 3) := by decide +kernel
theorem dX5_wouldLeave_40 : decode cX5_wouldLeave 40 = .ok (.iconst 0, 1) := by decide +kernel
theorem dX5_wouldLeave_41 : decode cX5_wouldLeave 41 = .ok (.aload_n 0, 1) := by decide +kernel
theorem dX5_wouldLeave_42 : decode cX5_wouldLeave 42 = .ok (.iload_n 3, 1) := by decide +kernel
theorem dX5_wouldLeave_43 : decode cX5_wouldLeave 43 = .ok (.invokevirtual 68, 3) := by decide +kernel
theorem dX5_wouldLeave_46 : decode cX5_wouldLeave 46 = .ok (.aload_n 0, 1) := by decide +kernel
theorem dX5_wouldLeave_47 : decode cX5_wouldLeave 47 = .ok (.getfield 28, 3) := by decide +kernel
theorem dX5_wouldLeave_50 : decode cX5_wouldLeave 50 = .ok (.iload_n 3, 1) := by decide +kernel
theorem dX5_wouldLeave_51 : decode cX5_wouldLeave 51 = .ok (.iaload, 1) := by decide +kernel
theorem dX5_wouldLeave_52 : decode cX5_wouldLeave 52 = .ok (.isub, 1) := by decide +kernel
theorem dX5_wouldLeave_53 : decode cX5_wouldLeave 53 = .ok (.invokestatic 71, 3) := by decide +kernel
theorem dX5_wouldLeave_56 : decode cX5_wouldLeave 56 = .ok (.goto 4, 3) := by decide +kernel
theorem dX5_wouldLeave_59 : decode cX5_wouldLeave 59 = .ok (.iconst 0, 1) := by decide +kernel
theorem dX5_wouldLeave_60 : decode cX5_wouldLeave 60 = .ok (.iadd, 1) := by decide +kernel
theorem dX5_wouldLeave_61 : decode cX5_wouldLeave 61 = .ok (.istore_n 2, 1) := by decide +kernel
theorem dX5_wouldLeave_62 : decode cX5_wouldLeave 62 = .ok (.iinc 3 1, 3) := by decide +kernel
theorem dX5_wouldLeave_65 : decode cX5_wouldLeave 65 = .ok (.goto (-61), 3) := by decide +kernel
theorem dX5_wouldLeave_68 : decode cX5_wouldLeave 68 = .ok (.aload_n 0, 1) := by decide +kernel
theorem dX5_wouldLeave_69 : decode cX5_wouldLeave 69 = .ok (.iload_n 1, 1) := by decide +kernel
theorem dX5_wouldLeave_70 : decode cX5_wouldLeave 70 = .ok (.invokevirtual 64, 3) := by decide +kernel
theorem dX5_wouldLeave_73 : decode cX5_wouldLeave 73 = .ok (.iload_n 2, 1) := by decide +kernel
theorem dX5_wouldLeave_74 : decode cX5_wouldLeave 74 = .ok (.if_icmp .le 7, 3) := by decide +kernel
theorem dX5_wouldLeave_77 : decode cX5_wouldLeave 77 = .ok (.iconst 1, 1) := by decide +kernel
theorem dX5_wouldLeave_78 : decode cX5_wouldLeave 78 = .ok (.goto 4, 3) := by decide +kernel
theorem dX5_wouldLeave_81 : decode cX5_wouldLeave 81 = .ok (.iconst 0, 1) := by decide +kernel
theorem dX5_wouldLeave_82 : decode cX5_wouldLeave 82 = .ok (.ireturn, 1) := by decide +kernel
theorem dX5_firstToLeave_0 : decode cX5_firstToLeave 0 = .ok (.aload_n 0, 1) := by decide +kernel
theorem dX5_firstToLeave_1 : decode cX5_firstToLeave 1 = .ok (.aload_n 0, 1) := by decide +kernel
theorem dX5_firstToLeave_2 : decode cX5_firstToLeave 2 = .ok (.invokevirtual 41, 3) := by decide +kernel
theorem dX5_firstToLeave_5 : decode cX5_firstToLeave 5 = .ok (.invokevirtual 60, 3) := by decide +kernel
theorem dX5_firstToLeave_8 : decode cX5_firstToLeave 8 = .ok (.iconst 1, 1) := by decide +kernel
theorem dX5_firstToLeave_9 : decode cX5_firstToLeave 9 = .ok (.istore_n 1, 1) := by decide +kernel
theorem dX5_firstToLeave_10 : decode cX5_firstToLeave 10 = .ok (.iload_n 1, 1) := by decide +kernel
theorem dX5_firstToLeave_11 : decode cX5_firstToLeave 11 = .ok (.aload_n 0, 1) := by decide +kernel
theorem dX5_firstToLeave_12 : decode cX5_firstToLeave 12 = .ok (.invokevirtual 41, 3) := by decide +kernel
theorem dX5_firstToLeave_15 : decode cX5_firstToLeave 15 = .ok (.if_icmp .gt 19, 3) := by decide +kernel
theorem dX5_firstToLeave_18 : decode cX5_firstToLeave 18 = .ok (.aload_n 0, 1) := by decide +kernel
theorem dX5_firstToLeave_19 : decode cX5_firstToLeave 19 = .ok (.iload_n 1, 1) := by decide +kernel
theorem dX5_firstToLeave_20 : decode cX5_firstToLeave 20 = .ok (.invokevirtual 77, 3) := by decide +kernel
theorem dX5_firstToLeave_23 : decode cX5_firstToLeave 23 = .ok (.ifCond .eq 5, 3) := by decide +kernel
theorem dX5_firstToLeave_26 : decode cX5_firstToLeave 26 = .ok (.iload_n 1, 1) := by decide +kernel
theorem dX5_firstToLeave_27 : decode cX5_firstToLeave 27 = .ok (.ireturn, 1) := by decide +kernel
theorem dX5_firstToLeave_28 : decode cX5_firstToLeave 28 = .ok (.iinc 1 1, 3) := by decide +kernel
theorem dX5_firstToLeave_31 : decode cX5_firstToLeave 31 = .ok (.goto (-21), 3) := by decide +kernel
theorem dX5_firstToLeave_34 : decode cX5_firstToLeave 34 = .ok (.iconst (-1), 1) := by decide +kernel
theorem dX5_firstToLeave_35 : decode cX5_firstToLeave 35 = .ok (.ireturn, 1) := by decide +kernel
theorem dX5_winOf_0 : decode cX5_winOf 0 = .ok (.aload_n 0, 1) := by decide +kernel
theorem dX5_winOf_1 : decode cX5_winOf 1 = .ok (.iload_n 1, 1) := by decide +kernel
theorem dX5_winOf_2 : decode cX5_winOf 2 = .ok (.invokevirtual 80, 3) := by decide +kernel
theorem dX5_winOf_5 : decode cX5_winOf 5 = .ok (.ifCond .eq 25, 3) := by decide +kernel
theorem dX5_winOf_8 : decode cX5_winOf 8 = .ok (.aload_n 0, 1) := by decide +kernel
theorem dX5_winOf_9 : decode cX5_winOf 9 = .ok (.getfield 31, 3) := by decide +kernel
theorem dX5_winOf_12 : decode cX5_winOf 12 = .ok (.iload_n 1, 1) := by decide +kernel
theorem dX5_winOf_13 : decode cX5_winOf 13 = .ok (.iaload, 1) := by decide +kernel
theorem dX5_winOf_14 : decode cX5_winOf 14 = .ok (.ifCond .lt 16, 3) := by decide +kernel
theorem dX5_winOf_17 : decode cX5_winOf 17 = .ok (.aload_n 0, 1) := by decide +kernel
theorem dX5_winOf_18 : decode cX5_winOf 18 = .ok (.getfield 31, 3) := by decide +kernel
theorem dX5_winOf_21 : decode cX5_winOf 21 = .ok (.iload_n 1, 1) := by decide +kernel
theorem dX5_winOf_22 : decode cX5_winOf 22 = .ok (.iaload, 1) := by decide +kernel
theorem dX5_winOf_23 : decode cX5_winOf 23 = .ok (.aload_n 0, 1) := by decide +kernel
theorem dX5_winOf_24 : decode cX5_winOf 24 = .ok (.getfield 15, 3) := by decide +kernel
theorem dX5_winOf_27 : decode cX5_winOf 27 = .ok (.if_icmp .lt 5, 3) := by decide +kernel
theorem dX5_winOf_30 : decode cX5_winOf 30 = .ok (.iconst 0, 1) := by decide +kernel
theorem dX5_winOf_31 : decode cX5_winOf 31 = .ok (.ireturn, 1) := by decide +kernel
theorem dX5_winOf_32 : decode cX5_winOf 32 = .ok (.aload_n 0, 1) := by decide +kernel
theorem dX5_winOf_33 : decode cX5_winOf 33 = .ok (.getfield 25, 3) := by decide +kernel
theorem dX5_winOf_36 : decode cX5_winOf 36 = .ok (.aload_n 0, 1) := by decide +kernel
theorem dX5_winOf_37 : decode cX5_winOf 37 = .ok (.getfield 31, 3) := by decide +kernel
theorem dX5_winOf_40 : decode cX5_winOf 40 = .ok (.iload_n 1, 1) := by decide +kernel
theorem dX5_winOf_41 : decode cX5_winOf 41 = .ok (.iaload, 1) := by decide +kernel
theorem dX5_winOf_42 : decode cX5_winOf 42 = .ok (.iaload, 1) := by decide +kernel
theorem dX5_winOf_43 : decode cX5_winOf 43 = .ok (.ireturn, 1) := by decide +kernel
theorem dX5_firstToReach_0 : decode cX5_firstToReach 0 = .ok (.aload_n 0, 1) := by decide +kernel
theorem dX5_firstToReach_1 : decode cX5_firstToReach 1 = .ok (.getfield 34, 3) := by decide +kernel
theorem dX5_firstToReach_4 : decode cX5_firstToReach 4 = .ok (.iload_n 3, 1) := by decide +kernel
theorem dX5_firstToReach_5 : decode cX5_firstToReach 5 = .ok (.bipush 64, 2) := by decide +kernel
theorem dX5_firstToReach_7 : decode cX5_firstToReach 7 = .ok (.imul, 1) := by decide +kernel
theorem dX5_firstToReach_8 : decode cX5_firstToReach 8 = .ok (.iload 4, 2) := by decide +kernel
theorem dX5_firstToReach_10 : decode cX5_firstToReach 10 = .ok (.iadd, 1) := by decide +kernel
theorem dX5_firstToReach_11 : decode cX5_firstToReach 11 = .ok (.iaload, 1) := by decide +kernel
theorem dX5_firstToReach_12 : decode cX5_firstToReach 12 = .ok (.iload_n 1, 1) := by decide +kernel
theorem dX5_firstToReach_13 : decode cX5_firstToReach 13 = .ok (.if_icmp .ne 5, 3) := by decide +kernel
theorem dX5_firstToReach_16 : decode cX5_firstToReach 16 = .ok (.iconst (-1), 1) := by decide +kernel
theorem dX5_firstToReach_17 : decode cX5_firstToReach 17 = .ok (.ireturn, 1) := by decide +kernel
theorem dX5_firstToReach_18 : decode cX5_firstToReach 18 = .ok (.iconst 0, 1) := by decide +kernel
theorem dX5_firstToReach_19 : decode cX5_firstToReach 19 = .ok (.istore 5, 2) := by decide +kernel
theorem dX5_firstToReach_21 : decode cX5_firstToReach 21 = .ok (.iload 5, 2) := by decide +kernel
theorem dX5_firstToReach_23 : decode cX5_firstToReach 23 = .ok (.aload_n 0, 1) := by decide +kernel
theorem dX5_firstToReach_24 : decode cX5_firstToReach 24 = .ok (.getfield 15, 3) := by decide +kernel
theorem dX5_firstToReach_27 : decode cX5_firstToReach 27 = .ok (.if_icmp .ge 71, 3) := by decide +kernel
theorem dX5_firstToReach_30 : decode cX5_firstToReach 30 = .ok (.aload_n 0, 1) := by decide +kernel
theorem dX5_firstToReach_31 : decode cX5_firstToReach 31 = .ok (.getfield 22, 3) := by decide +kernel
theorem dX5_firstToReach_34 : decode cX5_firstToReach 34 = .ok (.iload 5, 2) := by decide +kernel
theorem dX5_firstToReach_36 : decode cX5_firstToReach 36 = .ok (.iaload, 1) := by decide +kernel
theorem dX5_firstToReach_37 : decode cX5_firstToReach 37 = .ok (.istore 6, 2) := by decide +kernel
theorem dX5_firstToReach_39 : decode cX5_firstToReach 39 = .ok (.aload_n 0, 1) := by decide +kernel
theorem dX5_firstToReach_40 : decode cX5_firstToReach 40 = .ok (.getfield 18, 3) := by decide +kernel
theorem dX5_firstToReach_43 : decode cX5_firstToReach 43 = .ok (.iload 5, 2) := by decide +kernel
theorem dX5_firstToReach_45 : decode cX5_firstToReach 45 = .ok (.iaload, 1) := by decide +kernel
theorem dX5_firstToReach_46 : decode cX5_firstToReach 46 = .ok (.iload_n 2, 1) := by decide +kernel
theorem dX5_firstToReach_47 : decode cX5_firstToReach 47 = .ok (.if_icmp .ne 45, 3) := by decide +kernel
theorem dX5_firstToReach_50 : decode cX5_firstToReach 50 = .ok (.iload 6, 2) := by decide +kernel
theorem dX5_firstToReach_52 : decode cX5_firstToReach 52 = .ok (.iload 4, 2) := by decide +kernel
theorem dX5_firstToReach_54 : decode cX5_firstToReach 54 = .ok (.iconst (-1), 1) := by decide +kernel
theorem dX5_firstToReach_55 : decode cX5_firstToReach 55 = .ok (.ixor, 1) := by decide +kernel
theorem dX5_firstToReach_56 : decode cX5_firstToReach 56 = .ok (.iand, 1) := by decide +kernel
theorem dX5_firstToReach_57 : decode cX5_firstToReach 57 = .ok (.ifCond .ne 35, 3) := by decide +kernel
theorem dX5_firstToReach_60 : decode cX5_firstToReach 60 = .ok (.aload_n 0, 1) := by decide +kernel
theorem dX5_firstToReach_61 : decode cX5_firstToReach 61 = .ok (.getfield 25, 3) := by decide +kernel
theorem dX5_firstToReach_64 : decode cX5_firstToReach 64 = .ok (.iload 5, 2) := by decide +kernel
theorem dX5_firstToReach_66 : decode cX5_firstToReach 66 = .ok (.iaload, 1) := by decide +kernel
theorem dX5_firstToReach_67 : decode cX5_firstToReach 67 = .ok (.aload_n 0, 1) := by decide +kernel
theorem dX5_firstToReach_68 : decode cX5_firstToReach 68 = .ok (.getfield 34, 3) := by decide +kernel
theorem dX5_firstToReach_71 : decode cX5_firstToReach 71 = .ok (.iload_n 3, 1) := by decide +kernel
theorem dX5_firstToReach_72 : decode cX5_firstToReach 72 = .ok (.bipush 64, 2) := by decide +kernel
theorem dX5_firstToReach_74 : decode cX5_firstToReach 74 = .ok (.imul, 1) := by decide +kernel
theorem dX5_firstToReach_75 : decode cX5_firstToReach 75 = .ok (.iload 4, 2) := by decide +kernel
theorem dX5_firstToReach_77 : decode cX5_firstToReach 77 = .ok (.iload 6, 2) := by decide +kernel
theorem dX5_firstToReach_79 : decode cX5_firstToReach 79 = .ok (.iconst (-1), 1) := by decide +kernel
theorem dX5_firstToReach_80 : decode cX5_firstToReach 80 = .ok (.ixor, 1) := by decide +kernel
theorem dX5_firstToReach_81 : decode cX5_firstToReach 81 = .ok (.iand, 1) := by decide +kernel
theorem dX5_firstToReach_82 : decode cX5_firstToReach 82 = .ok (.iadd, 1) := by decide +kernel
theorem dX5_firstToReach_83 : decode cX5_firstToReach 83 = .ok (.iaload, 1) := by decide +kernel
theorem dX5_firstToReach_84 : decode cX5_firstToReach 84 = .ok (.iadd, 1) := by decide +kernel
theorem dX5_firstToReach_85 : decode cX5_firstToReach 85 = .ok (.iload_n 1, 1) := by decide +kernel
theorem dX5_firstToReach_86 : decode cX5_firstToReach 86 = .ok (.if_icmp .ne 6, 3) := by decide +kernel
theorem dX5_firstToReach_89 : decode cX5_firstToReach 89 = .ok (.iload 5, 2) := by decide +kernel
theorem dX5_firstToReach_91 : decode cX5_firstToReach 91 = .ok (.ireturn, 1) := by decide +kernel
theorem dX5_firstToReach_92 : decode cX5_firstToReach 92 = .ok (.iinc 5 1, 3) := by decide +kernel
theorem dX5_firstToReach_95 : decode cX5_firstToReach 95 = .ok (.goto (-74), 3) := by decide +kernel
theorem dX5_firstToReach_98 : decode cX5_firstToReach 98 = .ok (.iconst (-1), 1) := by decide +kernel
theorem dX5_firstToReach_99 : decode cX5_firstToReach 99 = .ok (.ireturn, 1) := by decide +kernel
theorem dX5_weigh_0 : decode cX5_weigh 0 = .ok (.aload_n 0, 1) := by decide +kernel
theorem dX5_weigh_1 : decode cX5_weigh 1 = .ok (.getfield 37, 3) := by decide +kernel
theorem dX5_weigh_4 : decode cX5_weigh 4 = .ok (.ifCond .ne 4, 3) := by decide +kernel
theorem dX5_weigh_7 : decode cX5_weigh 7 = .ok (.return_, 1) := by decide +kernel
theorem dX5_weigh_8 : decode cX5_weigh 8 = .ok (.iconst 1, 1) := by decide +kernel
theorem dX5_weigh_9 : decode cX5_weigh 9 = .ok (.istore_n 1, 1) := by decide +kernel
theorem dX5_weigh_10 : decode cX5_weigh 10 = .ok (.iload_n 1, 1) := by decide +kernel
theorem dX5_weigh_11 : decode cX5_weigh 11 = .ok (.aload_n 0, 1) := by decide +kernel
theorem dX5_weigh_12 : decode cX5_weigh 12 = .ok (.invokevirtual 41, 3) := by decide +kernel
theorem dX5_weigh_15 : decode cX5_weigh 15 = .ok (.if_icmp .gt 94, 3) := by decide +kernel
theorem dX5_weigh_18 : decode cX5_weigh 18 = .ok (.iload_n 1, 1) := by decide +kernel
theorem dX5_weigh_19 : decode cX5_weigh 19 = .ok (.iload_n 1, 1) := by decide +kernel
theorem dX5_weigh_20 : decode cX5_weigh 20 = .ok (.iconst 1, 1) := by decide +kernel
theorem dX5_weigh_21 : decode cX5_weigh 21 = .ok (.isub, 1) := by decide +kernel
theorem dX5_weigh_22 : decode cX5_weigh 22 = .ok (.iand, 1) := by decide +kernel
theorem dX5_weigh_23 : decode cX5_weigh 23 = .ok (.istore_n 2, 1) := by decide +kernel
theorem dX5_weigh_24 : decode cX5_weigh 24 = .ok (.iload_n 1, 1) := by decide +kernel
theorem dX5_weigh_25 : decode cX5_weigh 25 = .ok (.iload_n 2, 1) := by decide +kernel
theorem dX5_weigh_26 : decode cX5_weigh 26 = .ok (.iconst (-1), 1) := by decide +kernel
theorem dX5_weigh_27 : decode cX5_weigh 27 = .ok (.ixor, 1) := by decide +kernel
theorem dX5_weigh_28 : decode cX5_weigh 28 = .ok (.iand, 1) := by decide +kernel
theorem dX5_weigh_29 : decode cX5_weigh 29 = .ok (.invokestatic 83, 3) := by decide +kernel
theorem dX5_weigh_32 : decode cX5_weigh 32 = .ok (.istore_n 3, 1) := by decide +kernel
theorem dX5_weigh_33 : decode cX5_weigh 33 = .ok (.aload_n 0, 1) := by decide +kernel
theorem dX5_weigh_34 : decode cX5_weigh 34 = .ok (.getfield 34, 3) := by decide +kernel
theorem dX5_weigh_37 : decode cX5_weigh 37 = .ok (.iload_n 2, 1) := by decide +kernel
theorem dX5_weigh_38 : decode cX5_weigh 38 = .ok (.bipush 64, 2) := by decide +kernel
theorem dX5_weigh_40 : decode cX5_weigh 40 = .ok (.imul, 1) := by decide +kernel
theorem dX5_weigh_41 : decode cX5_weigh 41 = .ok (.aload_n 0, 1) := by decide +kernel
theorem dX5_weigh_42 : decode cX5_weigh 42 = .ok (.getfield 34, 3) := by decide +kernel
theorem dX5_weigh_45 : decode cX5_weigh 45 = .ok (.iload_n 1, 1) := by decide +kernel
theorem dX5_weigh_46 : decode cX5_weigh 46 = .ok (.bipush 64, 2) := by decide +kernel
theorem dX5_weigh_48 : decode cX5_weigh 48 = .ok (.imul, 1) := by decide +kernel
theorem dX5_weigh_49 : decode cX5_weigh 49 = .ok (.bipush 64, 2) := by decide +kernel
theorem dX5_weigh_51 : decode cX5_weigh 51 = .ok (.invokestatic 86, 3) := by decide +kernel
theorem dX5_weigh_54 : decode cX5_weigh 54 = .ok (.iconst 0, 1) := by decide +kernel
theorem dX5_weigh_55 : decode cX5_weigh 55 = .ok (.istore 4, 2) := by decide +kernel
theorem dX5_weigh_57 : decode cX5_weigh 57 = .ok (.iload 4, 2) := by decide +kernel
theorem dX5_weigh_59 : decode cX5_weigh 59 = .ok (.aload_n 0, 1) := by decide +kernel
theorem dX5_weigh_60 : decode cX5_weigh 60 = .ok (.getfield 15, 3) := by decide +kernel
theorem dX5_weigh_63 : decode cX5_weigh 63 = .ok (.if_icmp .ge 40, 3) := by decide +kernel
theorem dX5_weigh_66 : decode cX5_weigh 66 = .ok (.aload_n 0, 1) := by decide +kernel
theorem dX5_weigh_67 : decode cX5_weigh 67 = .ok (.getfield 18, 3) := by decide +kernel
theorem dX5_weigh_70 : decode cX5_weigh 70 = .ok (.iload 4, 2) := by decide +kernel
theorem dX5_weigh_72 : decode cX5_weigh 72 = .ok (.iaload, 1) := by decide +kernel
theorem dX5_weigh_73 : decode cX5_weigh 73 = .ok (.iload_n 3, 1) := by decide +kernel
theorem dX5_weigh_74 : decode cX5_weigh 74 = .ok (.if_icmp .ne 23, 3) := by decide +kernel
theorem dX5_weigh_77 : decode cX5_weigh 77 = .ok (.aload_n 0, 1) := by decide +kernel
theorem dX5_weigh_78 : decode cX5_weigh 78 = .ok (.iload_n 1, 1) := by decide +kernel
theorem dX5_weigh_79 : decode cX5_weigh 79 = .ok (.iload_n 2, 1) := by decide +kernel
theorem dX5_weigh_80 : decode cX5_weigh 80 = .ok (.aload_n 0, 1) := by decide +kernel
theorem dX5_weigh_81 : decode cX5_weigh 81 = .ok (.getfield 22, 3) := by decide +kernel
theorem dX5_weigh_84 : decode cX5_weigh 84 = .ok (.iload 4, 2) := by decide +kernel
theorem dX5_weigh_86 : decode cX5_weigh 86 = .ok (.iaload, 1) := by decide +kernel
theorem dX5_weigh_87 : decode cX5_weigh 87 = .ok (.aload_n 0, 1) := by decide +kernel
theorem dX5_weigh_88 : decode cX5_weigh 88 = .ok (.getfield 25, 3) := by decide +kernel
theorem dX5_weigh_91 : decode cX5_weigh 91 = .ok (.iload 4, 2) := by decide +kernel
theorem dX5_weigh_93 : decode cX5_weigh 93 = .ok (.iaload, 1) := by decide +kernel
theorem dX5_weigh_94 : decode cX5_weigh 94 = .ok (.invokevirtual 92, 3) := by decide +kernel
theorem dX5_weigh_97 : decode cX5_weigh 97 = .ok (.iinc 4 1, 3) := by decide +kernel
theorem dX5_weigh_100 : decode cX5_weigh 100 = .ok (.goto (-43), 3) := by decide +kernel
theorem dX5_weigh_103 : decode cX5_weigh 103 = .ok (.iinc 1 1, 3) := by decide +kernel
theorem dX5_weigh_106 : decode cX5_weigh 106 = .ok (.goto (-96), 3) := by decide +kernel
theorem dX5_weigh_109 : decode cX5_weigh 109 = .ok (.aload_n 0, 1) := by decide +kernel
theorem dX5_weigh_110 : decode cX5_weigh 110 = .ok (.iconst 0, 1) := by decide +kernel
theorem dX5_weigh_111 : decode cX5_weigh 111 = .ok (.putfield 37, 3) := by decide +kernel
theorem dX5_weigh_114 : decode cX5_weigh 114 = .ok (.return_, 1) := by decide +kernel
theorem dX5_raise_0 : decode cX5_raise 0 = .ok (.iload_n 3, 1) := by decide +kernel
theorem dX5_raise_1 : decode cX5_raise 1 = .ok (.istore 5, 2) := by decide +kernel
theorem dX5_raise_3 : decode cX5_raise 3 = .ok (.iload 5, 2) := by decide +kernel
theorem dX5_raise_5 : decode cX5_raise 5 = .ok (.bipush 64, 2) := by decide +kernel
theorem dX5_raise_7 : decode cX5_raise 7 = .ok (.if_icmp .ge 67, 3) := by decide +kernel
theorem dX5_raise_10 : decode cX5_raise 10 = .ok (.iload_n 3, 1) := by decide +kernel
theorem dX5_raise_11 : decode cX5_raise 11 = .ok (.iload 5, 2) := by decide +kernel
theorem dX5_raise_13 : decode cX5_raise 13 = .ok (.iconst (-1), 1) := by decide +kernel
theorem dX5_raise_14 : decode cX5_raise 14 = .ok (.ixor, 1) := by decide +kernel
theorem dX5_raise_15 : decode cX5_raise 15 = .ok (.iand, 1) := by decide +kernel
theorem dX5_raise_16 : decode cX5_raise 16 = .ok (.ifCond .ne 52, 3) := by decide +kernel
theorem dX5_raise_19 : decode cX5_raise 19 = .ok (.iload 4, 2) := by decide +kernel
theorem dX5_raise_21 : decode cX5_raise 21 = .ok (.aload_n 0, 1) := by decide +kernel
theorem dX5_raise_22 : decode cX5_raise 22 = .ok (.getfield 34, 3) := by decide +kernel
theorem dX5_raise_25 : decode cX5_raise 25 = .ok (.iload_n 2, 1) := by decide +kernel
theorem dX5_raise_26 : decode cX5_raise 26 = .ok (.bipush 64, 2) := by decide +kernel
theorem dX5_raise_28 : decode cX5_raise 28 = .ok (.imul, 1) := by decide +kernel
theorem dX5_raise_29 : decode cX5_raise 29 = .ok (.iload 5, 2) := by decide +kernel
theorem dX5_raise_31 : decode cX5_raise 31 = .ok (.iload_n 3, 1) := by decide +kernel
theorem dX5_raise_32 : decode cX5_raise 32 = .ok (.iconst (-1), 1) := by decide +kernel
theorem dX5_raise_33 : decode cX5_raise 33 = .ok (.ixor, 1) := by decide +kernel
theorem dX5_raise_34 : decode cX5_raise 34 = .ok (.iand, 1) := by decide +kernel
theorem dX5_raise_35 : decode cX5_raise 35 = .ok (.iadd, 1) := by decide +kernel
theorem dX5_raise_36 : decode cX5_raise 36 = .ok (.iaload, 1) := by decide +kernel
theorem dX5_raise_37 : decode cX5_raise 37 = .ok (.iadd, 1) := by decide +kernel
theorem dX5_raise_38 : decode cX5_raise 38 = .ok (.istore 6, 2) := by decide +kernel
theorem dX5_raise_40 : decode cX5_raise 40 = .ok (.iload_n 1, 1) := by decide +kernel
theorem dX5_raise_41 : decode cX5_raise 41 = .ok (.bipush 64, 2) := by decide +kernel
theorem dX5_raise_43 : decode cX5_raise 43 = .ok (.imul, 1) := by decide +kernel
theorem dX5_raise_44 : decode cX5_raise 44 = .ok (.iload 5, 2) := by decide +kernel
theorem dX5_raise_46 : decode cX5_raise 46 = .ok (.iadd, 1) := by decide +kernel
theorem dX5_raise_47 : decode cX5_raise 47 = .ok (.istore 7, 2) := by decide +kernel
theorem dX5_raise_49 : decode cX5_raise 49 = .ok (.aload_n 0, 1) := by decide +kernel
theorem dX5_raise_50 : decode cX5_raise 50 = .ok (.getfield 34, 3) := by decide +kernel
theorem dX5_raise_53 : decode cX5_raise 53 = .ok (.iload 7, 2) := by decide +kernel
theorem dX5_raise_55 : decode cX5_raise 55 = .ok (.aload_n 0, 1) := by decide +kernel
theorem dX5_raise_56 : decode cX5_raise 56 = .ok (.getfield 34, 3) := by decide +kernel
theorem dX5_raise_59 : decode cX5_raise 59 = .ok (.iload 7, 2) := by decide +kernel
theorem dX5_raise_61 : decode cX5_raise 61 = .ok (.iaload, 1) := by decide +kernel
theorem dX5_raise_62 : decode cX5_raise 62 = .ok (.iload 6, 2) := by decide +kernel
theorem dX5_raise_64 : decode cX5_raise 64 = .ok (.invokestatic 71, 3) := by decide +kernel
theorem dX5_raise_67 : decode cX5_raise 67 = .ok (.iastore, 1) := by decide +kernel
theorem dX5_raise_68 : decode cX5_raise 68 = .ok (.iinc 5 1, 3) := by decide +kernel
theorem dX5_raise_71 : decode cX5_raise 71 = .ok (.goto (-68), 3) := by decide +kernel
theorem dX5_raise_74 : decode cX5_raise 74 = .ok (.return_, 1) := by decide +kernel
theorem dX6_init_0 : decode cX6_init 0 = .ok (.aload_n 0, 1) := by decide +kernel
theorem dX6_init_1 : decode cX6_init 1 = .ok (.invokespecial 3, 3) := by decide +kernel
theorem dX6_init_4 : decode cX6_init 4 = .ok (.aload_n 0, 1) := by decide +kernel
theorem dX6_init_5 : decode cX6_init 5 = .ok (.new 9, 3) := by decide +kernel
theorem dX6_init_8 : decode cX6_init 8 = .ok (.dup, 1) := by decide +kernel
theorem dX6_init_9 : decode cX6_init 9 = .ok (.invokespecial 11, 3) := by decide +kernel
theorem dX6_init_12 : decode cX6_init 12 = .ok (.putfield 12, 3) := by decide +kernel
theorem dX6_init_15 : decode cX6_init 15 = .ok (.aload_n 0, 1) := by decide +kernel
theorem dX6_init_16 : decode cX6_init 16 = .ok (.new 16, 3) := by decide +kernel
theorem dX6_init_19 : decode cX6_init 19 = .ok (.dup, 1) := by decide +kernel
theorem dX6_init_20 : decode cX6_init 20 = .ok (.aload_n 0, 1) := by decide +kernel
theorem dX6_init_21 : decode cX6_init 21 = .ok (.getfield 12, 3) := by decide +kernel
theorem dX6_init_24 : decode cX6_init 24 = .ok (.invokespecial 18, 3) := by decide +kernel
theorem dX6_init_27 : decode cX6_init 27 = .ok (.putfield 21, 3) := by decide +kernel
theorem dX6_init_30 : decode cX6_init 30 = .ok (.aload_n 0, 1) := by decide +kernel
theorem dX6_init_31 : decode cX6_init 31 = .ok (.new 25, 3) := by decide +kernel
theorem dX6_init_34 : decode cX6_init 34 = .ok (.dup, 1) := by decide +kernel
theorem dX6_init_35 : decode cX6_init 35 = .ok (.aload_n 0, 1) := by decide +kernel
theorem dX6_init_36 : decode cX6_init 36 = .ok (.getfield 12, 3) := by decide +kernel
theorem dX6_init_39 : decode cX6_init 39 = .ok (.invokespecial 27, 3) := by decide +kernel
theorem dX6_init_42 : decode cX6_init 42 = .ok (.putfield 28, 3) := by decide +kernel
theorem dX6_init_45 : decode cX6_init 45 = .ok (.aload_n 0, 1) := by decide +kernel
theorem dX6_init_46 : decode cX6_init 46 = .ok (.new 32, 3) := by decide +kernel
theorem dX6_init_49 : decode cX6_init 49 = .ok (.dup, 1) := by decide +kernel
theorem dX6_init_50 : decode cX6_init 50 = .ok (.aload_n 0, 1) := by decide +kernel
theorem dX6_init_51 : decode cX6_init 51 = .ok (.getfield 12, 3) := by decide +kernel
theorem dX6_init_54 : decode cX6_init 54 = .ok (.aload_n 0, 1) := by decide +kernel
theorem dX6_init_55 : decode cX6_init 55 = .ok (.getfield 21, 3) := by decide +kernel
theorem dX6_init_58 : decode cX6_init 58 = .ok (.invokespecial 34, 3) := by decide +kernel
theorem dX6_init_61 : decode cX6_init 61 = .ok (.putfield 37, 3) := by decide +kernel
theorem dX6_init_64 : decode cX6_init 64 = .ok (.aload_n 0, 1) := by decide +kernel
theorem dX6_init_65 : decode cX6_init 65 = .ok (.new 41, 3) := by decide +kernel
theorem dX6_init_68 : decode cX6_init 68 = .ok (.dup, 1) := by decide +kernel
theorem dX6_init_69 : decode cX6_init 69 = .ok (.invokespecial 43, 3) := by decide +kernel
theorem dX6_init_72 : decode cX6_init 72 = .ok (.putfield 44, 3) := by decide +kernel
theorem dX6_init_75 : decode cX6_init 75 = .ok (.aload_n 0, 1) := by decide +kernel
theorem dX6_init_76 : decode cX6_init 76 = .ok (.new 48, 3) := by decide +kernel
theorem dX6_init_79 : decode cX6_init 79 = .ok (.dup, 1) := by decide +kernel
theorem dX6_init_80 : decode cX6_init 80 = .ok (.aload_n 0, 1) := by decide +kernel
theorem dX6_init_81 : decode cX6_init 81 = .ok (.getfield 12, 3) := by decide +kernel
theorem dX6_init_84 : decode cX6_init 84 = .ok (.invokespecial 50, 3) := by decide +kernel
theorem dX6_init_87 : decode cX6_init 87 = .ok (.putfield 51, 3) := by decide +kernel
theorem dX6_init_90 : decode cX6_init 90 = .ok (.aload_n 0, 1) := by decide +kernel
theorem dX6_init_91 : decode cX6_init 91 = .ok (.bipush 16, 2) := by decide +kernel
theorem dX6_init_93 : decode cX6_init 93 = .ok (.newarray .int, 2) := by decide +kernel
theorem dX6_init_95 : decode cX6_init 95 = .ok (.putfield 55, 3) := by decide +kernel
theorem dX6_init_98 : decode cX6_init 98 = .ok (.return_, 1) := by decide +kernel
theorem dX6_mast_0 : decode cX6_mast 0 = .ok (.aload_n 0, 1) := by decide +kernel
theorem dX6_mast_1 : decode cX6_mast 1 = .ok (.getfield 12, 3) := by decide +kernel
theorem dX6_mast_4 : decode cX6_mast 4 = .ok (.getfield 59, 3) := by decide +kernel
theorem dX6_mast_7 : decode cX6_mast 7 = .ok (.bipush 10, 2) := by decide +kernel
theorem dX6_mast_9 : decode cX6_mast 9 = .ok (.if_icmp .lt 6, 3) := by decide +kernel
theorem dX6_mast_12 : decode cX6_mast 12 = .ok (.bipush (-4), 2) := by decide +kernel
theorem dX6_mast_14 : decode cX6_mast 14 = .ok (.ireturn, 1) := by decide +kernel
theorem dX6_mast_15 : decode cX6_mast 15 = .ok (.aload_n 0, 1) := by decide +kernel
theorem dX6_mast_16 : decode cX6_mast 16 = .ok (.getfield 12, 3) := by decide +kernel
theorem dX6_mast_19 : decode cX6_mast 19 = .ok (.dup, 1) := by decide +kernel
theorem dX6_mast_20 : decode cX6_mast 20 = .ok (.getfield 63, 3) := by decide +kernel
theorem dX6_mast_23 : decode cX6_mast 23 = .ok (.iconst 1, 1) := by decide +kernel
theorem dX6_mast_24 : decode cX6_mast 24 = .ok (.iadd, 1) := by decide +kernel
theorem dX6_mast_25 : decode cX6_mast 25 = .ok (.putfield 63, 3) := by decide +kernel
theorem dX6_mast_28 : decode cX6_mast 28 = .ok (.aload_n 0, 1) := by decide +kernel
theorem dX6_mast_29 : decode cX6_mast 29 = .ok (.getfield 12, 3) := by decide +kernel
theorem dX6_mast_32 : decode cX6_mast 32 = .ok (.dup, 1) := by decide +kernel
theorem dX6_mast_33 : decode cX6_mast 33 = .ok (.getfield 59, 3) := by decide +kernel
theorem dX6_mast_36 : decode cX6_mast 36 = .ok (.iconst 1, 1) := by decide +kernel
theorem dX6_mast_37 : decode cX6_mast 37 = .ok (.iadd, 1) := by decide +kernel
theorem dX6_mast_38 : decode cX6_mast 38 = .ok (.putfield 59, 3) := by decide +kernel
theorem dX6_mast_41 : decode cX6_mast 41 = .ok (.aload_n 0, 1) := by decide +kernel
theorem dX6_mast_42 : decode cX6_mast 42 = .ok (.getfield 12, 3) := by decide +kernel
theorem dX6_mast_45 : decode cX6_mast 45 = .ok (.getfield 59, 3) := by decide +kernel
theorem dX6_mast_48 : decode cX6_mast 48 = .ok (.iconst 1, 1) := by decide +kernel
theorem dX6_mast_49 : decode cX6_mast 49 = .ok (.isub, 1) := by decide +kernel
theorem dX6_mast_50 : decode cX6_mast 50 = .ok (.ireturn, 1) := by decide +kernel
theorem dX6_channels_0 : decode cX6_channels 0 = .ok (.iload_n 1, 1) := by decide +kernel
theorem dX6_channels_1 : decode cX6_channels 1 = .ok (.iconst 1, 1) := by decide +kernel
theorem dX6_channels_2 : decode cX6_channels 2 = .ok (.bipush 6, 2) := by decide +kernel
theorem dX6_channels_4 : decode cX6_channels 4 = .ok (.invokestatic 66, 3) := by decide +kernel
theorem dX6_channels_7 : decode cX6_channels 7 = .ok (.ifCond .ne 6, 3) := by decide +kernel
theorem dX6_channels_10 : decode cX6_channels 10 = .ok (.bipush (-2), 2) := by decide +kernel
theorem dX6_channels_12 : decode cX6_channels 12 = .ok (.ireturn, 1) := by decide +kernel
theorem dX6_channels_13 : decode cX6_channels 13 = .ok (.aload_n 0, 1) := by decide +kernel
theorem dX6_channels_14 : decode cX6_channels 14 = .ok (.getfield 12, 3) := by decide +kernel
theorem dX6_channels_17 : decode cX6_channels 17 = .ok (.getfield 70, 3) := by decide +kernel
theorem dX6_channels_20 : decode cX6_channels 20 = .ok (.istore_n 2, 1) := by decide +kernel
theorem dX6_channels_21 : decode cX6_channels 21 = .ok (.aload_n 0, 1) := by decide +kernel
theorem dX6_channels_22 : decode cX6_channels 22 = .ok (.getfield 12, 3) := by decide +kernel
theorem dX6_channels_25 : decode cX6_channels 25 = .ok (.iload_n 1, 1) := by decide +kernel
theorem dX6_channels_26 : decode cX6_channels 26 = .ok (.putfield 70, 3) := by decide +kernel
theorem dX6_channels_29 : decode cX6_channels 29 = .ok (.aload_n 0, 1) := by decide +kernel
theorem dX6_channels_30 : decode cX6_channels 30 = .ok (.getfield 12, 3) := by decide +kernel
theorem dX6_channels_33 : decode cX6_channels 33 = .ok (.dup, 1) := by decide +kernel
theorem dX6_channels_34 : decode cX6_channels 34 = .ok (.getfield 63, 3) := by decide +kernel
theorem dX6_channels_37 : decode cX6_channels 37 = .ok (.iconst 1, 1) := by decide +kernel
theorem dX6_channels_38 : decode cX6_channels 38 = .ok (.iadd, 1) := by decide +kernel
theorem dX6_channels_39 : decode cX6_channels 39 = .ok (.putfield 63, 3) := by decide +kernel
theorem dX6_channels_42 : decode cX6_channels 42 = .ok (.iload_n 2, 1) := by decide +kernel
theorem dX6_channels_43 : decode cX6_channels 43 = .ok (.ireturn, 1) := by decide +kernel
theorem dX6_pair_0 : decode cX6_pair 0 = .ok (.aload_n 0, 1) := by decide +kernel
theorem dX6_pair_1 : decode cX6_pair 1 = .ok (.getfield 12, 3) := by decide +kernel
theorem dX6_pair_4 : decode cX6_pair 4 = .ok (.iload_n 1, 1) := by decide +kernel
theorem dX6_pair_5 : decode cX6_pair 5 = .ok (.invokevirtual 73, 3) := by decide +kernel
theorem dX6_pair_8 : decode cX6_pair 8 = .ok (.ifCond .eq 28, 3) := by decide +kernel
theorem dX6_pair_11 : decode cX6_pair 11 = .ok (.aload_n 0, 1) := by decide +kernel
theorem dX6_pair_12 : decode cX6_pair 12 = .ok (.getfield 12, 3) := by decide +kernel
theorem dX6_pair_15 : decode cX6_pair 15 = .ok (.iload_n 2, 1) := by decide +kernel
theorem dX6_pair_16 : decode cX6_pair 16 = .ok (.invokevirtual 73, 3) := by decide +kernel
theorem dX6_pair_19 : decode cX6_pair 19 = .ok (.ifCond .eq 17, 3) := by decide +kernel
theorem dX6_pair_22 : decode cX6_pair 22 = .ok (.iload_n 1, 1) := by decide +kernel
theorem dX6_pair_23 : decode cX6_pair 23 = .ok (.iload_n 2, 1) := by decide +kernel
theorem dX6_pair_24 : decode cX6_pair 24 = .ok (.if_icmp .eq 12, 3) := by decide +kernel
theorem dX6_pair_27 : decode cX6_pair 27 = .ok (.iload_n 3, 1) := by decide +kernel
theorem dX6_pair_28 : decode cX6_pair 28 = .ok (.iconst 0, 1) := by decide +kernel
theorem dX6_pair_29 : decode cX6_pair 29 = .ok (.iconst 2, 1) := by decide +kernel
theorem dX6_pair_30 : decode cX6_pair 30 = .ok (.invokestatic 66, 3) := by decide +kernel
theorem dX6_pair_33 : decode cX6_pair 33 = .ok (.ifCond .ne 6, 3) := by decide +kernel
theorem dX6_pair_36 : decode cX6_pair 36 = .ok (.bipush (-2), 2) := by decide +kernel
theorem dX6_pair_38 : decode cX6_pair 38 = .ok (.ireturn, 1) := by decide +kernel
theorem dX6_pair_39 : decode cX6_pair 39 = .ok (.aload_n 0, 1) := by decide +kernel
theorem dX6_pair_40 : decode cX6_pair 40 = .ok (.getfield 12, 3) := by decide +kernel
theorem dX6_pair_43 : decode cX6_pair 43 = .ok (.iload_n 1, 1) := by decide +kernel
theorem dX6_pair_44 : decode cX6_pair 44 = .ok (.iload_n 2, 1) := by decide +kernel
theorem dX6_pair_45 : decode cX6_pair 45 = .ok (.invokevirtual 77, 3) := by decide +kernel
theorem dX6_pair_48 : decode cX6_pair 48 = .ok (.istore 4, 2) := by decide +kernel
theorem dX6_pair_50 : decode cX6_pair 50 = .ok (.aload_n 0, 1) := by decide +kernel
theorem dX6_pair_51 : decode cX6_pair 51 = .ok (.getfield 12, 3) := by decide +kernel
theorem dX6_pair_54 : decode cX6_pair 54 = .ok (.iload_n 1, 1) := by decide +kernel
theorem dX6_pair_55 : decode cX6_pair 55 = .ok (.iload_n 2, 1) := by decide +kernel
theorem dX6_pair_56 : decode cX6_pair 56 = .ok (.iload_n 3, 1) := by decide +kernel
theorem dX6_pair_57 : decode cX6_pair 57 = .ok (.invokevirtual 81, 3) := by decide +kernel
theorem dX6_pair_60 : decode cX6_pair 60 = .ok (.aload_n 0, 1) := by decide +kernel
theorem dX6_pair_61 : decode cX6_pair 61 = .ok (.getfield 12, 3) := by decide +kernel
theorem dX6_pair_64 : decode cX6_pair 64 = .ok (.dup, 1) := by decide +kernel
theorem dX6_pair_65 : decode cX6_pair 65 = .ok (.getfield 63, 3) := by decide +kernel
theorem dX6_pair_68 : decode cX6_pair 68 = .ok (.iconst 1, 1) := by decide +kernel
theorem dX6_pair_69 : decode cX6_pair 69 = .ok (.iadd, 1) := by decide +kernel
theorem dX6_pair_70 : decode cX6_pair 70 = .ok (.putfield 63, 3) := by decide +kernel
theorem dX6_pair_73 : decode cX6_pair 73 = .ok (.iload 4, 2) := by decide +kernel
theorem dX6_pair_75 : decode cX6_pair 75 = .ok (.ireturn, 1) := by decide +kernel
theorem dX6_bar_0 : decode cX6_bar 0 = .ok (.aload_n 0, 1) := by decide +kernel
theorem dX6_bar_1 : decode cX6_bar 1 = .ok (.getfield 12, 3) := by decide +kernel
theorem dX6_bar_4 : decode cX6_bar 4 = .ok (.iload_n 1, 1) := by decide +kernel
theorem dX6_bar_5 : decode cX6_bar 5 = .ok (.invokevirtual 73, 3) := by decide +kernel
theorem dX6_bar_8 : decode cX6_bar 8 = .ok (.ifCond .eq 18, 3) := by decide +kernel
theorem dX6_bar_11 : decode cX6_bar 11 = .ok (.iload_n 2, 1) := by decide +kernel
theorem dX6_bar_12 : decode cX6_bar 12 = .ok (.iconst 0, 1) := by decide +kernel
theorem dX6_bar_13 : decode cX6_bar 13 = .ok (.aload_n 0, 1) := by decide +kernel
theorem dX6_bar_14 : decode cX6_bar 14 = .ok (.getfield 12, 3) := by decide +kernel
theorem dX6_bar_17 : decode cX6_bar 17 = .ok (.invokevirtual 85, 3) := by decide +kernel
theorem dX6_bar_20 : decode cX6_bar 20 = .ok (.invokestatic 66, 3) := by decide +kernel
theorem dX6_bar_23 : decode cX6_bar 23 = .ok (.ifCond .ne 6, 3) := by decide +kernel
theorem dX6_bar_26 : decode cX6_bar 26 = .ok (.bipush (-2), 2) := by decide +kernel
theorem dX6_bar_28 : decode cX6_bar 28 = .ok (.ireturn, 1) := by decide +kernel
theorem dX6_bar_29 : decode cX6_bar 29 = .ok (.aload_n 0, 1) := by decide +kernel
theorem dX6_bar_30 : decode cX6_bar 30 = .ok (.getfield 12, 3) := by decide +kernel
theorem dX6_bar_33 : decode cX6_bar 33 = .ok (.getfield 89, 3) := by decide +kernel
theorem dX6_bar_36 : decode cX6_bar 36 = .ok (.iload_n 1, 1) := by decide +kernel
theorem dX6_bar_37 : decode cX6_bar 37 = .ok (.iaload, 1) := by decide +kernel
theorem dX6_bar_38 : decode cX6_bar 38 = .ok (.istore_n 3, 1) := by decide +kernel
theorem dX6_bar_39 : decode cX6_bar 39 = .ok (.aload_n 0, 1) := by decide +kernel
theorem dX6_bar_40 : decode cX6_bar 40 = .ok (.getfield 12, 3) := by decide +kernel
theorem dX6_bar_43 : decode cX6_bar 43 = .ok (.getfield 89, 3) := by decide +kernel
theorem dX6_bar_46 : decode cX6_bar 46 = .ok (.iload_n 1, 1) := by decide +kernel
theorem dX6_bar_47 : decode cX6_bar 47 = .ok (.iload_n 2, 1) := by decide +kernel
theorem dX6_bar_48 : decode cX6_bar 48 = .ok (.iastore, 1) := by decide +kernel
theorem dX6_bar_49 : decode cX6_bar 49 = .ok (.aload_n 0, 1) := by decide +kernel
theorem dX6_bar_50 : decode cX6_bar 50 = .ok (.getfield 12, 3) := by decide +kernel
theorem dX6_bar_53 : decode cX6_bar 53 = .ok (.dup, 1) := by decide +kernel
theorem dX6_bar_54 : decode cX6_bar 54 = .ok (.getfield 63, 3) := by decide +kernel
theorem dX6_bar_57 : decode cX6_bar 57 = .ok (.iconst 1, 1) := by decide +kernel
theorem dX6_bar_58 : decode cX6_bar 58 = .ok (.iadd, 1) := by decide +kernel
theorem dX6_bar_59 : decode cX6_bar 59 = .ok (.putfield 63, 3) := by decide +kernel
theorem dX6_bar_62 : decode cX6_bar 62 = .ok (.iload_n 3, 1) := by decide +kernel
theorem dX6_bar_63 : decode cX6_bar 63 = .ok (.ireturn, 1) := by decide +kernel
theorem dX6_limit_0 : decode cX6_limit 0 = .ok (.iload_n 1, 1) := by decide +kernel
theorem dX6_limit_1 : decode cX6_limit 1 = .ok (.iconst 1, 1) := by decide +kernel
theorem dX6_limit_2 : decode cX6_limit 2 = .ok (.sipush 2000, 3) := by decide +kernel
theorem dX6_limit_5 : decode cX6_limit 5 = .ok (.invokestatic 66, 3) := by decide +kernel
theorem dX6_limit_8 : decode cX6_limit 8 = .ok (.ifCond .ne 6, 3) := by decide +kernel
theorem dX6_limit_11 : decode cX6_limit 11 = .ok (.bipush (-2), 2) := by decide +kernel
theorem dX6_limit_13 : decode cX6_limit 13 = .ok (.ireturn, 1) := by decide +kernel
theorem dX6_limit_14 : decode cX6_limit 14 = .ok (.aload_n 0, 1) := by decide +kernel
theorem dX6_limit_15 : decode cX6_limit 15 = .ok (.getfield 12, 3) := by decide +kernel
theorem dX6_limit_18 : decode cX6_limit 18 = .ok (.getfield 92, 3) := by decide +kernel
theorem dX6_limit_21 : decode cX6_limit 21 = .ok (.istore_n 2, 1) := by decide +kernel
theorem dX6_limit_22 : decode cX6_limit 22 = .ok (.aload_n 0, 1) := by decide +kernel
theorem dX6_limit_23 : decode cX6_limit 23 = .ok (.getfield 12, 3) := by decide +kernel
theorem dX6_limit_26 : decode cX6_limit 26 = .ok (.iload_n 1, 1) := by decide +kernel
theorem dX6_limit_27 : decode cX6_limit 27 = .ok (.putfield 92, 3) := by decide +kernel
theorem dX6_limit_30 : decode cX6_limit 30 = .ok (.aload_n 0, 1) := by decide +kernel
theorem dX6_limit_31 : decode cX6_limit 31 = .ok (.getfield 12, 3) := by decide +kernel
theorem dX6_limit_34 : decode cX6_limit 34 = .ok (.dup, 1) := by decide +kernel
theorem dX6_limit_35 : decode cX6_limit 35 = .ok (.getfield 63, 3) := by decide +kernel
theorem dX6_limit_38 : decode cX6_limit 38 = .ok (.iconst 1, 1) := by decide +kernel
theorem dX6_limit_39 : decode cX6_limit 39 = .ok (.iadd, 1) := by decide +kernel
theorem dX6_limit_40 : decode cX6_limit 40 = .ok (.putfield 63, 3) := by decide +kernel
theorem dX6_limit_43 : decode cX6_limit 43 = .ok (.iload_n 2, 1) := by decide +kernel
theorem dX6_limit_44 : decode cX6_limit 44 = .ok (.ireturn, 1) := by decide +kernel
theorem dX6_fits_0 : decode cX6_fits 0 = .ok (.aload_n 0, 1) := by decide +kernel
theorem dX6_fits_1 : decode cX6_fits 1 = .ok (.getfield 12, 3) := by decide +kernel
theorem dX6_fits_4 : decode cX6_fits 4 = .ok (.iload_n 1, 1) := by decide +kernel
theorem dX6_fits_5 : decode cX6_fits 5 = .ok (.invokevirtual 95, 3) := by decide +kernel
theorem dX6_fits_8 : decode cX6_fits 8 = .ok (.ifCond .eq 14, 3) := by decide +kernel
theorem dX6_fits_11 : decode cX6_fits 11 = .ok (.aload_n 0, 1) := by decide +kernel
theorem dX6_fits_12 : decode cX6_fits 12 = .ok (.getfield 21, 3) := by decide +kernel
theorem dX6_fits_15 : decode cX6_fits 15 = .ok (.iload_n 1, 1) := by decide +kernel
theorem dX6_fits_16 : decode cX6_fits 16 = .ok (.invokevirtual 98, 3) := by decide +kernel
theorem dX6_fits_19 : decode cX6_fits 19 = .ok (.goto 5, 3) := by decide +kernel
theorem dX6_fits_22 : decode cX6_fits 22 = .ok (.bipush (-2), 2) := by decide +kernel
theorem dX6_fits_24 : decode cX6_fits 24 = .ok (.ireturn, 1) := by decide +kernel
theorem dX6_tries_0 : decode cX6_tries 0 = .ok (.aload_n 0, 1) := by decide +kernel
theorem dX6_tries_1 : decode cX6_tries 1 = .ok (.getfield 12, 3) := by decide +kernel
theorem dX6_tries_4 : decode cX6_tries 4 = .ok (.iload_n 1, 1) := by decide +kernel
theorem dX6_tries_5 : decode cX6_tries 5 = .ok (.invokevirtual 95, 3) := by decide +kernel
theorem dX6_tries_8 : decode cX6_tries 8 = .ok (.ifCond .ne 6, 3) := by decide +kernel
theorem dX6_tries_11 : decode cX6_tries 11 = .ok (.bipush (-2), 2) := by decide +kernel
theorem dX6_tries_13 : decode cX6_tries 13 = .ok (.ireturn, 1) := by decide +kernel
theorem dX6_tries_14 : decode cX6_tries 14 = .ok (.aload_n 0, 1) := by decide +kernel
theorem dX6_tries_15 : decode cX6_tries 15 = .ok (.getfield 21, 3) := by decide +kernel
theorem dX6_tries_18 : decode cX6_tries 18 = .ok (.iload_n 1, 1) := by decide +kernel
theorem dX6_tries_19 : decode cX6_tries 19 = .ok (.invokevirtual 98, 3) := by decide +kernel
theorem dX6_tries_22 : decode cX6_tries 22 = .ok (.pop, 1) := by decide +kernel
theorem dX6_tries_23 : decode cX6_tries 23 = .ok (.aload_n 0, 1) := by decide +kernel
theorem dX6_tries_24 : decode cX6_tries 24 = .ok (.getfield 21, 3) := by decide +kernel
theorem dX6_tries_27 : decode cX6_tries 27 = .ok (.getfield 102, 3) := by decide +kernel
theorem dX6_tries_30 : decode cX6_tries 30 = .ok (.ireturn, 1) := by decide +kernel
theorem dX6_packing_0 : decode cX6_packing 0 = .ok (.aload_n 0, 1) := by decide +kernel
theorem dX6_packing_1 : decode cX6_packing 1 = .ok (.getfield 12, 3) := by decide +kernel
theorem dX6_packing_4 : decode cX6_packing 4 = .ok (.iload_n 1, 1) := by decide +kernel
theorem dX6_packing_5 : decode cX6_packing 5 = .ok (.invokevirtual 95, 3) := by decide +kernel
theorem dX6_packing_8 : decode cX6_packing 8 = .ok (.ifCond .eq 22, 3) := by decide +kernel
theorem dX6_packing_11 : decode cX6_packing 11 = .ok (.aload_n 0, 1) := by decide +kernel
theorem dX6_packing_12 : decode cX6_packing 12 = .ok (.getfield 12, 3) := by decide +kernel
theorem dX6_packing_15 : decode cX6_packing 15 = .ok (.iload_n 2, 1) := by decide +kernel
theorem dX6_packing_16 : decode cX6_packing 16 = .ok (.invokevirtual 73, 3) := by decide +kernel
theorem dX6_packing_19 : decode cX6_packing 19 = .ok (.ifCond .eq 11, 3) := by decide +kernel
theorem dX6_packing_22 : decode cX6_packing 22 = .ok (.iload_n 1, 1) := by decide +kernel
theorem dX6_packing_23 : decode cX6_packing 23 = .ok (.iload_n 2, 1) := by decide +kernel
theorem dX6_packing_24 : decode cX6_packing 24 = .ok (.invokestatic 105, 3) := by decide +kernel
theorem dX6_packing_27 : decode cX6_packing 27 = .ok (.ifCond .ne 6, 3) := by decide +kernel
theorem dX6_packing_30 : decode cX6_packing 30 = .ok (.bipush (-2), 2) := by decide +kernel
theorem dX6_packing_32 : decode cX6_packing 32 = .ok (.ireturn, 1) := by decide +kernel
theorem dX6_packing_33 : decode cX6_packing 33 = .ok (.aload_n 0, 1) := by decide +kernel
theorem dX6_packing_34 : decode cX6_packing 34 = .ok (.getfield 28, 3) := by decide +kernel
theorem dX6_packing_37 : decode cX6_packing 37 = .ok (.iload_n 1, 1) := by decide +kernel
theorem dX6_packing_38 : decode cX6_packing 38 = .ok (.iload_n 2, 1) := by decide +kernel
theorem dX6_packing_39 : decode cX6_packing 39 = .ok (.invokevirtual 109, 3) := by decide +kernel
theorem dX6_packing_42 : decode cX6_packing 42 = .ok (.ireturn, 1) := by decide +kernel
theorem dX6_reason_0 : decode cX6_reason 0 = .ok (.aload_n 0, 1) := by decide +kernel
theorem dX6_reason_1 : decode cX6_reason 1 = .ok (.getfield 12, 3) := by decide +kernel
theorem dX6_reason_4 : decode cX6_reason 4 = .ok (.iload_n 1, 1) := by decide +kernel
theorem dX6_reason_5 : decode cX6_reason 5 = .ok (.invokevirtual 95, 3) := by decide +kernel
theorem dX6_reason_8 : decode cX6_reason 8 = .ok (.ifCond .ne 6, 3) := by decide +kernel
theorem dX6_reason_11 : decode cX6_reason 11 = .ok (.bipush (-2), 2) := by decide +kernel
theorem dX6_reason_13 : decode cX6_reason 13 = .ok (.ireturn, 1) := by decide +kernel
theorem dX6_reason_14 : decode cX6_reason 14 = .ok (.aload_n 0, 1) := by decide +kernel
theorem dX6_reason_15 : decode cX6_reason 15 = .ok (.getfield 28, 3) := by decide +kernel
theorem dX6_reason_18 : decode cX6_reason 18 = .ok (.iload_n 1, 1) := by decide +kernel
theorem dX6_reason_19 : decode cX6_reason 19 = .ok (.invokevirtual 112, 3) := by decide +kernel
theorem dX6_reason_22 : decode cX6_reason 22 = .ok (.ifCond .eq 8, 3) := by decide +kernel
theorem dX6_reason_25 : decode cX6_reason 25 = .ok (.bipush (-3), 2) := by decide +kernel
theorem dX6_reason_27 : decode cX6_reason 27 = .ok (.goto 11, 3) := by decide +kernel
theorem dX6_reason_30 : decode cX6_reason 30 = .ok (.aload_n 0, 1) := by decide +kernel
theorem dX6_reason_31 : decode cX6_reason 31 = .ok (.getfield 28, 3) := by decide +kernel
theorem dX6_reason_34 : decode cX6_reason 34 = .ok (.iload_n 1, 1) := by decide +kernel
theorem dX6_reason_35 : decode cX6_reason 35 = .ok (.invokevirtual 115, 3) := by decide +kernel
theorem dX6_reason_38 : decode cX6_reason 38 = .ok (.ireturn, 1) := by decide +kernel
theorem dX6_spare_0 : decode cX6_spare 0 = .ok (.aload_n 0, 1) := by decide +kernel
theorem dX6_spare_1 : decode cX6_spare 1 = .ok (.getfield 12, 3) := by decide +kernel
theorem dX6_spare_4 : decode cX6_spare 4 = .ok (.iload_n 1, 1) := by decide +kernel
theorem dX6_spare_5 : decode cX6_spare 5 = .ok (.invokevirtual 95, 3) := by decide +kernel
theorem dX6_spare_8 : decode cX6_spare 8 = .ok (.ifCond .ne 6, 3) := by decide +kernel
theorem dX6_spare_11 : decode cX6_spare 11 = .ok (.bipush (-2), 2) := by decide +kernel
theorem dX6_spare_13 : decode cX6_spare 13 = .ok (.ireturn, 1) := by decide +kernel
theorem dX6_spare_14 : decode cX6_spare 14 = .ok (.aload_n 0, 1) := by decide +kernel
theorem dX6_spare_15 : decode cX6_spare 15 = .ok (.getfield 28, 3) := by decide +kernel
theorem dX6_spare_18 : decode cX6_spare 18 = .ok (.iload_n 1, 1) := by decide +kernel
theorem dX6_spare_19 : decode cX6_spare 19 = .ok (.invokevirtual 112, 3) := by decide +kernel
theorem dX6_spare_22 : decode cX6_spare 22 = .ok (.ifCond .eq 14, 3) := by decide +kernel
theorem dX6_spare_25 : decode cX6_spare 25 = .ok (.aload_n 0, 1) := by decide +kernel
theorem dX6_spare_26 : decode cX6_spare 26 = .ok (.getfield 28, 3) := by decide +kernel
theorem dX6_spare_29 : decode cX6_spare 29 = .ok (.iload_n 1, 1) := by decide +kernel
theorem dX6_spare_30 : decode cX6_spare 30 = .ok (.invokevirtual 118, 3) := by decide +kernel
theorem dX6_spare_33 : decode cX6_spare 33 = .ok (.goto 5, 3) := by decide +kernel
theorem dX6_spare_36 : decode cX6_spare 36 = .ok (.bipush (-3), 2) := by decide +kernel
theorem dX6_spare_38 : decode cX6_spare 38 = .ok (.ireturn, 1) := by decide +kernel
theorem dX6_old_0 : decode cX6_old 0 = .ok (.aload_n 0, 1) := by decide +kernel
theorem dX6_old_1 : decode cX6_old 1 = .ok (.getfield 12, 3) := by decide +kernel
theorem dX6_old_4 : decode cX6_old 4 = .ok (.iload_n 1, 1) := by decide +kernel
theorem dX6_old_5 : decode cX6_old 5 = .ok (.invokevirtual 73, 3) := by decide +kernel
theorem dX6_old_8 : decode cX6_old 8 = .ok (.ifCond .eq 24, 3) := by decide +kernel
theorem dX6_old_11 : decode cX6_old 11 = .ok (.iload_n 2, 1) := by decide +kernel
theorem dX6_old_12 : decode cX6_old 12 = .ok (.iconst 0, 1) := by decide +kernel
theorem dX6_old_13 : decode cX6_old 13 = .ok (.sipush 1000, 3) := by decide +kernel
theorem dX6_old_16 : decode cX6_old 16 = .ok (.invokestatic 66, 3) := by decide +kernel
theorem dX6_old_19 : decode cX6_old 19 = .ok (.ifCond .eq 13, 3) := by decide +kernel
theorem dX6_old_22 : decode cX6_old 22 = .ok (.iload_n 3, 1) := by decide +kernel
theorem dX6_old_23 : decode cX6_old 23 = .ok (.iconst 1, 1) := by decide +kernel
theorem dX6_old_24 : decode cX6_old 24 = .ok (.bipush 10, 2) := by decide +kernel
theorem dX6_old_26 : decode cX6_old 26 = .ok (.invokestatic 66, 3) := by decide +kernel
theorem dX6_old_29 : decode cX6_old 29 = .ok (.ifCond .ne 6, 3) := by decide +kernel
theorem dX6_old_32 : decode cX6_old 32 = .ok (.bipush (-2), 2) := by decide +kernel
theorem dX6_old_34 : decode cX6_old 34 = .ok (.ireturn, 1) := by decide +kernel
theorem dX6_old_35 : decode cX6_old 35 = .ok (.aload_n 0, 1) := by decide +kernel
theorem dX6_old_36 : decode cX6_old 36 = .ok (.getfield 37, 3) := by decide +kernel
theorem dX6_old_39 : decode cX6_old 39 = .ok (.getfield 121, 3) := by decide +kernel
theorem dX6_old_42 : decode cX6_old 42 = .ok (.iload_n 1, 1) := by decide +kernel
theorem dX6_old_43 : decode cX6_old 43 = .ok (.invokestatic 105, 3) := by decide +kernel
theorem dX6_old_46 : decode cX6_old 46 = .ok (.ifCond .eq 6, 3) := by decide +kernel
theorem dX6_old_49 : decode cX6_old 49 = .ok (.bipush (-3), 2) := by decide +kernel
theorem dX6_old_51 : decode cX6_old 51 = .ok (.ireturn, 1) := by decide +kernel
theorem dX6_old_52 : decode cX6_old 52 = .ok (.aload_n 0, 1) := by decide +kernel
theorem dX6_old_53 : decode cX6_old 53 = .ok (.getfield 37, 3) := by decide +kernel
theorem dX6_old_56 : decode cX6_old 56 = .ok (.iload_n 1, 1) := by decide +kernel
theorem dX6_old_57 : decode cX6_old 57 = .ok (.iload_n 2, 1) := by decide +kernel
theorem dX6_old_58 : decode cX6_old 58 = .ok (.iload_n 3, 1) := by decide +kernel
theorem dX6_old_59 : decode cX6_old 59 = .ok (.invokevirtual 124, 3) := by decide +kernel
theorem dX6_old_62 : decode cX6_old 62 = .ok (.iconst 1, 1) := by decide +kernel
theorem dX6_old_63 : decode cX6_old 63 = .ok (.ireturn, 1) := by decide +kernel
theorem dX6_clock_0 : decode cX6_clock 0 = .ok (.iload_n 1, 1) := by decide +kernel
theorem dX6_clock_1 : decode cX6_clock 1 = .ok (.iconst 1, 1) := by decide +kernel
theorem dX6_clock_2 : decode cX6_clock 2 = .ok (.sipush 1000, 3) := by decide +kernel
theorem dX6_clock_5 : decode cX6_clock 5 = .ok (.invokestatic 66, 3) := by decide +kernel
theorem dX6_clock_8 : decode cX6_clock 8 = .ok (.ifCond .eq 21, 3) := by decide +kernel
theorem dX6_clock_11 : decode cX6_clock 11 = .ok (.iload_n 2, 1) := by decide +kernel
theorem dX6_clock_12 : decode cX6_clock 12 = .ok (.iconst 1, 1) := by decide +kernel
theorem dX6_clock_13 : decode cX6_clock 13 = .ok (.bipush 100, 2) := by decide +kernel
theorem dX6_clock_15 : decode cX6_clock 15 = .ok (.invokestatic 66, 3) := by decide +kernel
theorem dX6_clock_18 : decode cX6_clock 18 = .ok (.ifCond .eq 11, 3) := by decide +kernel
theorem dX6_clock_21 : decode cX6_clock 21 = .ok (.iload_n 1, 1) := by decide +kernel
theorem dX6_clock_22 : decode cX6_clock 22 = .ok (.bipush 50, 2) := by decide +kernel
theorem dX6_clock_24 : decode cX6_clock 24 = .ok (.iload_n 2, 1) := by decide +kernel
theorem dX6_clock_25 : decode cX6_clock 25 = .ok (.imul, 1) := by decide +kernel
theorem dX6_clock_26 : decode cX6_clock 26 = .ok (.if_icmp .le 6, 3) := by decide +kernel
theorem dX6_clock_29 : decode cX6_clock 29 = .ok (.bipush (-2), 2) := by decide +kernel
theorem dX6_clock_31 : decode cX6_clock 31 = .ok (.ireturn, 1) := by decide +kernel
theorem dX6_clock_32 : decode cX6_clock 32 = .ok (.aload_n 0, 1) := by decide +kernel
theorem dX6_clock_33 : decode cX6_clock 33 = .ok (.getfield 37, 3) := by decide +kernel
theorem dX6_clock_36 : decode cX6_clock 36 = .ok (.iload_n 1, 1) := by decide +kernel
theorem dX6_clock_37 : decode cX6_clock 37 = .ok (.putfield 127, 3) := by decide +kernel
theorem dX6_clock_40 : decode cX6_clock 40 = .ok (.aload_n 0, 1) := by decide +kernel
theorem dX6_clock_41 : decode cX6_clock 41 = .ok (.getfield 37, 3) := by decide +kernel
theorem dX6_clock_44 : decode cX6_clock 44 = .ok (.iload_n 2, 1) := by decide +kernel
theorem dX6_clock_45 : decode cX6_clock 45 = .ok (.putfield 130, 3) := by decide +kernel
theorem dX6_clock_48 : decode cX6_clock 48 = .ok (.iconst 1, 1) := by decide +kernel
theorem dX6_clock_49 : decode cX6_clock 49 = .ok (.ireturn, 1) := by decide +kernel
theorem dX6_run_0 : decode cX6_run 0 = .ok (.iload_n 1, 1) := by decide +kernel
theorem dX6_run_1 : decode cX6_run 1 = .ok (.iconst 0, 1) := by decide +kernel
theorem dX6_run_2 : decode cX6_run 2 = .ok (.iconst 3, 1) := by decide +kernel
theorem dX6_run_3 : decode cX6_run 3 = .ok (.invokestatic 66, 3) := by decide +kernel
theorem dX6_run_6 : decode cX6_run 6 = .ok (.ifCond .ne 6, 3) := by decide +kernel
theorem dX6_run_9 : decode cX6_run 9 = .ok (.bipush (-2), 2) := by decide +kernel
theorem dX6_run_11 : decode cX6_run 11 = .ok (.ireturn, 1) := by decide +kernel
theorem dX6_run_12 : decode cX6_run 12 = .ok (.aload_n 0, 1) := by decide +kernel
theorem dX6_run_13 : decode cX6_run 13 = .ok (.getfield 37, 3) := by decide +kernel
theorem dX6_run_16 : decode cX6_run 16 = .ok (.iconst (-1), 1) := by decide +kernel
theorem dX6_run_17 : decode cX6_run 17 = .ok (.iconst 0, 1) := by decide +kernel
theorem dX6_run_18 : decode cX6_run 18 = .ok (.invokevirtual 133, 3) := by decide +kernel
theorem dX6_run_21 : decode cX6_run 21 = .ok (.aload_n 0, 1) := by decide +kernel
theorem dX6_run_22 : decode cX6_run 22 = .ok (.getfield 37, 3) := by decide +kernel
theorem dX6_run_25 : decode cX6_run 25 = .ok (.iload_n 1, 1) := by decide +kernel
theorem dX6_run_26 : decode cX6_run 26 = .ok (.invokevirtual 137, 3) := by decide +kernel
theorem dX6_run_29 : decode cX6_run 29 = .ok (.ireturn, 1) := by decide +kernel
theorem dX6_paid_0 : decode cX6_paid 0 = .ok (.aload_n 0, 1) := by decide +kernel
theorem dX6_paid_1 : decode cX6_paid 1 = .ok (.getfield 37, 3) := by decide +kernel
theorem dX6_paid_4 : decode cX6_paid 4 = .ok (.iload_n 1, 1) := by decide +kernel
theorem dX6_paid_5 : decode cX6_paid 5 = .ok (.invokevirtual 140, 3) := by decide +kernel
theorem dX6_paid_8 : decode cX6_paid 8 = .ok (.ifCond .ne 6, 3) := by decide +kernel
theorem dX6_paid_11 : decode cX6_paid 11 = .ok (.bipush (-2), 2) := by decide +kernel
theorem dX6_paid_13 : decode cX6_paid 13 = .ok (.ireturn, 1) := by decide +kernel
theorem dX6_paid_14 : decode cX6_paid 14 = .ok (.aload_n 0, 1) := by decide +kernel
theorem dX6_paid_15 : decode cX6_paid 15 = .ok (.getfield 37, 3) := by decide +kernel
theorem dX6_paid_18 : decode cX6_paid 18 = .ok (.iconst (-1), 1) := by decide +kernel
theorem dX6_paid_19 : decode cX6_paid 19 = .ok (.iconst 0, 1) := by decide +kernel
theorem dX6_paid_20 : decode cX6_paid 20 = .ok (.invokevirtual 133, 3) := by decide +kernel
theorem dX6_paid_23 : decode cX6_paid 23 = .ok (.aload_n 0, 1) := by decide +kernel
theorem dX6_paid_24 : decode cX6_paid 24 = .ok (.getfield 37, 3) := by decide +kernel
theorem dX6_paid_27 : decode cX6_paid 27 = .ok (.getfield 143, 3) := by decide +kernel
theorem dX6_paid_30 : decode cX6_paid 30 = .ok (.iload_n 1, 1) := by decide +kernel
theorem dX6_paid_31 : decode cX6_paid 31 = .ok (.iaload, 1) := by decide +kernel
theorem dX6_paid_32 : decode cX6_paid 32 = .ok (.ireturn, 1) := by decide +kernel
theorem dX6_round_0 : decode cX6_round 0 = .ok (.aload_n 0, 1) := by decide +kernel
theorem dX6_round_1 : decode cX6_round 1 = .ok (.getfield 37, 3) := by decide +kernel
theorem dX6_round_4 : decode cX6_round 4 = .ok (.iload_n 1, 1) := by decide +kernel
theorem dX6_round_5 : decode cX6_round 5 = .ok (.invokevirtual 140, 3) := by decide +kernel
theorem dX6_round_8 : decode cX6_round 8 = .ok (.ifCond .ne 6, 3) := by decide +kernel
theorem dX6_round_11 : decode cX6_round 11 = .ok (.bipush (-2), 2) := by decide +kernel
theorem dX6_round_13 : decode cX6_round 13 = .ok (.ireturn, 1) := by decide +kernel
theorem dX6_round_14 : decode cX6_round 14 = .ok (.aload_n 0, 1) := by decide +kernel
theorem dX6_round_15 : decode cX6_round 15 = .ok (.getfield 37, 3) := by decide +kernel
theorem dX6_round_18 : decode cX6_round 18 = .ok (.iconst (-1), 1) := by decide +kernel
theorem dX6_round_19 : decode cX6_round 19 = .ok (.iconst 0, 1) := by decide +kernel
theorem dX6_round_20 : decode cX6_round 20 = .ok (.invokevirtual 133, 3) := by decide +kernel
theorem dX6_round_23 : decode cX6_round 23 = .ok (.aload_n 0, 1) := by decide +kernel
theorem dX6_round_24 : decode cX6_round 24 = .ok (.getfield 37, 3) := by decide +kernel
theorem dX6_round_27 : decode cX6_round 27 = .ok (.getfield 146, 3) := by decide +kernel
theorem dX6_round_30 : decode cX6_round 30 = .ok (.iload_n 1, 1) := by decide +kernel
theorem dX6_round_31 : decode cX6_round 31 = .ok (.iaload, 1) := by decide +kernel
theorem dX6_round_32 : decode cX6_round 32 = .ok (.ireturn, 1) := by decide +kernel
theorem dX6_gain_0 : decode cX6_gain 0 = .ok (.aload_n 0, 1) := by decide +kernel
theorem dX6_gain_1 : decode cX6_gain 1 = .ok (.getfield 37, 3) := by decide +kernel
theorem dX6_gain_4 : decode cX6_gain 4 = .ok (.iload_n 1, 1) := by decide +kernel
theorem dX6_gain_5 : decode cX6_gain 5 = .ok (.invokevirtual 140, 3) := by decide +kernel
theorem dX6_gain_8 : decode cX6_gain 8 = .ok (.ifCond .eq 14, 3) := by decide +kernel
theorem dX6_gain_11 : decode cX6_gain 11 = .ok (.iload_n 2, 1) := by decide +kernel
theorem dX6_gain_12 : decode cX6_gain 12 = .ok (.iconst 0, 1) := by decide +kernel
theorem dX6_gain_13 : decode cX6_gain 13 = .ok (.sipush 1000, 3) := by decide +kernel
theorem dX6_gain_16 : decode cX6_gain 16 = .ok (.invokestatic 66, 3) := by decide +kernel
theorem dX6_gain_19 : decode cX6_gain 19 = .ok (.ifCond .ne 6, 3) := by decide +kernel
theorem dX6_gain_22 : decode cX6_gain 22 = .ok (.ldc 149, 2) := by decide +kernel
theorem dX6_gain_24 : decode cX6_gain 24 = .ok (.ireturn, 1) := by decide +kernel
theorem dX6_gain_25 : decode cX6_gain 25 = .ok (.aload_n 0, 1) := by decide +kernel
theorem dX6_gain_26 : decode cX6_gain 26 = .ok (.getfield 37, 3) := by decide +kernel
theorem dX6_gain_29 : decode cX6_gain 29 = .ok (.iload_n 1, 1) := by decide +kernel
theorem dX6_gain_30 : decode cX6_gain 30 = .ok (.iload_n 2, 1) := by decide +kernel
theorem dX6_gain_31 : decode cX6_gain 31 = .ok (.invokevirtual 150, 3) := by decide +kernel
theorem dX6_gain_34 : decode cX6_gain 34 = .ok (.aload_n 0, 1) := by decide +kernel
theorem dX6_gain_35 : decode cX6_gain 35 = .ok (.getfield 37, 3) := by decide +kernel
theorem dX6_gain_38 : decode cX6_gain 38 = .ok (.iload_n 1, 1) := by decide +kernel
theorem dX6_gain_39 : decode cX6_gain 39 = .ok (.aload_n 0, 1) := by decide +kernel
theorem dX6_gain_40 : decode cX6_gain 40 = .ok (.getfield 37, 3) := by decide +kernel
theorem dX6_gain_43 : decode cX6_gain 43 = .ok (.getfield 153, 3) := by decide +kernel
theorem dX6_gain_46 : decode cX6_gain 46 = .ok (.iload_n 1, 1) := by decide +kernel
theorem dX6_gain_47 : decode cX6_gain 47 = .ok (.iaload, 1) := by decide +kernel
theorem dX6_gain_48 : decode cX6_gain 48 = .ok (.invokevirtual 150, 3) := by decide +kernel
theorem dX6_gain_51 : decode cX6_gain 51 = .ok (.isub, 1) := by decide +kernel
theorem dX6_gain_52 : decode cX6_gain 52 = .ok (.ireturn, 1) := by decide +kernel
theorem dX6_most_0 : decode cX6_most 0 = .ok (.aload_n 0, 1) := by decide +kernel
theorem dX6_most_1 : decode cX6_most 1 = .ok (.getfield 37, 3) := by decide +kernel
theorem dX6_most_4 : decode cX6_most 4 = .ok (.iload_n 1, 1) := by decide +kernel
theorem dX6_most_5 : decode cX6_most 5 = .ok (.invokevirtual 140, 3) := by decide +kernel
theorem dX6_most_8 : decode cX6_most 8 = .ok (.ifCond .eq 35, 3) := by decide +kernel
theorem dX6_most_11 : decode cX6_most 11 = .ok (.iload_n 2, 1) := by decide +kernel
theorem dX6_most_12 : decode cX6_most 12 = .ok (.iconst 0, 1) := by decide +kernel
theorem dX6_most_13 : decode cX6_most 13 = .ok (.sipush 1000, 3) := by decide +kernel
theorem dX6_most_16 : decode cX6_most 16 = .ok (.invokestatic 66, 3) := by decide +kernel
theorem dX6_most_19 : decode cX6_most 19 = .ok (.ifCond .eq 24, 3) := by decide +kernel
theorem dX6_most_22 : decode cX6_most 22 = .ok (.iload_n 3, 1) := by decide +kernel
theorem dX6_most_23 : decode cX6_most 23 = .ok (.iconst 1, 1) := by decide +kernel
theorem dX6_most_24 : decode cX6_most 24 = .ok (.sipush 1000, 3) := by decide +kernel
theorem dX6_most_27 : decode cX6_most 27 = .ok (.invokestatic 66, 3) := by decide +kernel
theorem dX6_most_30 : decode cX6_most 30 = .ok (.ifCond .eq 13, 3) := by decide +kernel
theorem dX6_most_33 : decode cX6_most 33 = .ok (.iload 4, 2) := by decide +kernel
theorem dX6_most_35 : decode cX6_most 35 = .ok (.iconst 0, 1) := by decide +kernel
theorem dX6_most_36 : decode cX6_most 36 = .ok (.iconst 1, 1) := by decide +kernel
theorem dX6_most_37 : decode cX6_most 37 = .ok (.invokestatic 66, 3) := by decide +kernel
theorem dX6_most_40 : decode cX6_most 40 = .ok (.ifCond .ne 6, 3) := by decide +kernel
theorem dX6_most_43 : decode cX6_most 43 = .ok (.ldc 149, 2) := by decide +kernel
theorem dX6_most_45 : decode cX6_most 45 = .ok (.ireturn, 1) := by decide +kernel
theorem dX6_most_46 : decode cX6_most 46 = .ok (.iload_n 2, 1) := by decide +kernel
theorem dX6_most_47 : decode cX6_most 47 = .ok (.iload_n 3, 1) := by decide +kernel
theorem dX6_most_48 : decode cX6_most 48 = .ok (.idiv, 1) := by decide +kernel
theorem dX6_most_49 : decode cX6_most 49 = .ok (.bipush 20, 2) := by decide +kernel
theorem dX6_most_51 : decode cX6_most 51 = .ok (.if_icmp .le 6, 3) := by decide +kernel
theorem dX6_most_54 : decode cX6_most 54 = .ok (.ldc 149, 2) := by decide +kernel
theorem dX6_most_56 : decode cX6_most 56 = .ok (.ireturn, 1) := by decide +kernel
theorem dX6_most_57 : decode cX6_most 57 = .ok (.aload_n 0, 1) := by decide +kernel
theorem dX6_most_58 : decode cX6_most 58 = .ok (.getfield 37, 3) := by decide +kernel
theorem dX6_most_61 : decode cX6_most 61 = .ok (.iload_n 1, 1) := by decide +kernel
theorem dX6_most_62 : decode cX6_most 62 = .ok (.aload_n 0, 1) := by decide +kernel
theorem dX6_most_63 : decode cX6_most 63 = .ok (.getfield 37, 3) := by decide +kernel
theorem dX6_most_66 : decode cX6_most 66 = .ok (.getfield 153, 3) := by decide +kernel
theorem dX6_most_69 : decode cX6_most 69 = .ok (.iload_n 1, 1) := by decide +kernel
theorem dX6_most_70 : decode cX6_most 70 = .ok (.iaload, 1) := by decide +kernel
theorem dX6_most_71 : decode cX6_most 71 = .ok (.invokevirtual 150, 3) := by decide +kernel
theorem dX6_most_74 : decode cX6_most 74 = .ok (.istore 5, 2) := by decide +kernel
theorem dX6_most_76 : decode cX6_most 76 = .ok (.aload_n 0, 1) := by decide +kernel
theorem dX6_most_77 : decode cX6_most 77 = .ok (.getfield 37, 3) := by decide +kernel
theorem dX6_most_80 : decode cX6_most 80 = .ok (.iload_n 1, 1) := by decide +kernel
theorem dX6_most_81 : decode cX6_most 81 = .ok (.iconst 0, 1) := by decide +kernel
theorem dX6_most_82 : decode cX6_most 82 = .ok (.invokevirtual 150, 3) := by decide +kernel
theorem dX6_most_85 : decode cX6_most 85 = .ok (.iload 5, 2) := by decide +kernel
theorem dX6_most_87 : decode cX6_most 87 = .ok (.isub, 1) := by decide +kernel
theorem dX6_most_88 : decode cX6_most 88 = .ok (.istore 6, 2) := by decide +kernel
theorem dX6_most_90 : decode cX6_most 90 = .ok (.iconst 0, 1) := by decide +kernel
theorem dX6_most_91 : decode cX6_most 91 = .ok (.istore 7, 2) := by decide +kernel
theorem dX6_most_93 : decode cX6_most 93 = .ok (.iload_n 3, 1) := by decide +kernel
theorem dX6_most_94 : decode cX6_most 94 = .ok (.istore 8, 2) := by decide +kernel
theorem dX6_most_96 : decode cX6_most 96 = .ok (.iload 8, 2) := by decide +kernel
theorem dX6_most_98 : decode cX6_most 98 = .ok (.iload_n 2, 1) := by decide +kernel
theorem dX6_most_99 : decode cX6_most 99 = .ok (.if_icmp .gt 42, 3) := by decide +kernel
theorem dX6_most_102 : decode cX6_most 102 = .ok (.aload_n 0, 1) := by decide +kernel
theorem dX6_most_103 : decode cX6_most 103 = .ok (.getfield 37, 3) := by decide +kernel
theorem dX6_most_106 : decode cX6_most 106 = .ok (.iload_n 1, 1) := by decide +kernel
theorem dX6_most_107 : decode cX6_most 107 = .ok (.iload 8, 2) := by decide +kernel
theorem dX6_most_109 : decode cX6_most 109 = .ok (.invokevirtual 150, 3) := by decide +kernel
theorem dX6_most_112 : decode cX6_most 112 = .ok (.iload 5, 2) := by decide +kernel
theorem dX6_most_114 : decode cX6_most 114 = .ok (.isub, 1) := by decide +kernel
theorem dX6_most_115 : decode cX6_most 115 = .ok (.istore 9, 2) := by decide +kernel
theorem dX6_most_117 : decode cX6_most 117 = .ok (.iload 9, 2) := by decide +kernel
theorem dX6_most_119 : decode cX6_most 119 = .ok (.iload 6, 2) := by decide +kernel
theorem dX6_most_121 : decode cX6_most 121 = .ok (.if_icmp .le 11, 3) := by decide +kernel
theorem dX6_most_124 : decode cX6_most 124 = .ok (.iload 9, 2) := by decide +kernel
theorem dX6_most_126 : decode cX6_most 126 = .ok (.istore 6, 2) := by decide +kernel
theorem dX6_most_128 : decode cX6_most 128 = .ok (.iload 8, 2) := by decide +kernel
theorem dX6_most_130 : decode cX6_most 130 = .ok (.istore 7, 2) := by decide +kernel
theorem dX6_most_132 : decode cX6_most 132 = .ok (.iload 8, 2) := by decide +kernel
theorem dX6_most_134 : decode cX6_most 134 = .ok (.iload_n 3, 1) := by decide +kernel
theorem dX6_most_135 : decode cX6_most 135 = .ok (.iadd, 1) := by decide +kernel
theorem dX6_most_136 : decode cX6_most 136 = .ok (.istore 8, 2) := by decide +kernel
theorem dX6_most_138 : decode cX6_most 138 = .ok (.goto (-42), 3) := by decide +kernel
theorem dX6_most_141 : decode cX6_most 141 = .ok (.iload 4, 2) := by decide +kernel
theorem dX6_most_143 : decode cX6_most 143 = .ok (.ifCond .ne 8, 3) := by decide +kernel
theorem dX6_most_146 : decode cX6_most 146 = .ok (.iload 6, 2) := by decide +kernel
theorem dX6_most_148 : decode cX6_most 148 = .ok (.goto 5, 3) := by decide +kernel
theorem dX6_most_151 : decode cX6_most 151 = .ok (.iload 7, 2) := by decide +kernel
theorem dX6_most_153 : decode cX6_most 153 = .ok (.ireturn, 1) := by decide +kernel
theorem dX6_house_0 : decode cX6_house 0 = .ok (.aload_n 0, 1) := by decide +kernel
theorem dX6_house_1 : decode cX6_house 1 = .ok (.getfield 44, 3) := by decide +kernel
theorem dX6_house_4 : decode cX6_house 4 = .ok (.getfield 156, 3) := by decide +kernel
theorem dX6_house_7 : decode cX6_house 7 = .ok (.bipush 6, 2) := by decide +kernel
theorem dX6_house_9 : decode cX6_house 9 = .ok (.if_icmp .lt 8, 3) := by decide +kernel
theorem dX6_house_12 : decode cX6_house 12 = .ok (.bipush (-4), 2) := by decide +kernel
theorem dX6_house_14 : decode cX6_house 14 = .ok (.goto 10, 3) := by decide +kernel
theorem dX6_house_17 : decode cX6_house 17 = .ok (.aload_n 0, 1) := by decide +kernel
theorem dX6_house_18 : decode cX6_house 18 = .ok (.getfield 44, 3) := by decide +kernel
theorem dX6_house_21 : decode cX6_house 21 = .ok (.invokevirtual 159, 3) := by decide +kernel
theorem dX6_house_24 : decode cX6_house 24 = .ok (.ireturn, 1) := by decide +kernel
theorem dX6_ask_0 : decode cX6_ask 0 = .ok (.aload_n 0, 1) := by decide +kernel
theorem dX6_ask_1 : decode cX6_ask 1 = .ok (.getfield 44, 3) := by decide +kernel
theorem dX6_ask_4 : decode cX6_ask 4 = .ok (.iload_n 1, 1) := by decide +kernel
theorem dX6_ask_5 : decode cX6_ask 5 = .ok (.invokevirtual 162, 3) := by decide +kernel
theorem dX6_ask_8 : decode cX6_ask 8 = .ok (.ifCond .eq 23, 3) := by decide +kernel
theorem dX6_ask_11 : decode cX6_ask 11 = .ok (.iload_n 2, 1) := by decide +kernel
theorem dX6_ask_12 : decode cX6_ask 12 = .ok (.iconst 1, 1) := by decide +kernel
theorem dX6_ask_13 : decode cX6_ask 13 = .ok (.bipush 63, 2) := by decide +kernel
theorem dX6_ask_15 : decode cX6_ask 15 = .ok (.invokestatic 66, 3) := by decide +kernel
theorem dX6_ask_18 : decode cX6_ask 18 = .ok (.ifCond .eq 13, 3) := by decide +kernel
theorem dX6_ask_21 : decode cX6_ask 21 = .ok (.iload_n 3, 1) := by decide +kernel
theorem dX6_ask_22 : decode cX6_ask 22 = .ok (.iconst 1, 1) := by decide +kernel
theorem dX6_ask_23 : decode cX6_ask 23 = .ok (.ldc 165, 2) := by decide +kernel
theorem dX6_ask_25 : decode cX6_ask 25 = .ok (.invokestatic 66, 3) := by decide +kernel
theorem dX6_ask_28 : decode cX6_ask 28 = .ok (.ifCond .ne 6, 3) := by decide +kernel
theorem dX6_ask_31 : decode cX6_ask 31 = .ok (.bipush (-2), 2) := by decide +kernel
theorem dX6_ask_33 : decode cX6_ask 33 = .ok (.ireturn, 1) := by decide +kernel
theorem dX6_ask_34 : decode cX6_ask 34 = .ok (.aload_n 0, 1) := by decide +kernel
theorem dX6_ask_35 : decode cX6_ask 35 = .ok (.getfield 44, 3) := by decide +kernel
theorem dX6_ask_38 : decode cX6_ask 38 = .ok (.getfield 166, 3) := by decide +kernel
theorem dX6_ask_41 : decode cX6_ask 41 = .ok (.bipush 24, 2) := by decide +kernel
theorem dX6_ask_43 : decode cX6_ask 43 = .ok (.if_icmp .lt 8, 3) := by decide +kernel
theorem dX6_ask_46 : decode cX6_ask 46 = .ok (.bipush (-4), 2) := by decide +kernel
theorem dX6_ask_48 : decode cX6_ask 48 = .ok (.goto 13, 3) := by decide +kernel
theorem dX6_ask_51 : decode cX6_ask 51 = .ok (.aload_n 0, 1) := by decide +kernel
theorem dX6_ask_52 : decode cX6_ask 52 = .ok (.getfield 44, 3) := by decide +kernel
theorem dX6_ask_55 : decode cX6_ask 55 = .ok (.iload_n 1, 1) := by decide +kernel
theorem dX6_ask_56 : decode cX6_ask 56 = .ok (.iload_n 2, 1) := by decide +kernel
theorem dX6_ask_57 : decode cX6_ask 57 = .ok (.iload_n 3, 1) := by decide +kernel
theorem dX6_ask_58 : decode cX6_ask 58 = .ok (.invokevirtual 169, 3) := by decide +kernel
theorem dX6_ask_61 : decode cX6_ask 61 = .ok (.ireturn, 1) := by decide +kernel
theorem dX6_best_0 : decode cX6_best 0 = .ok (.aload_n 0, 1) := by decide +kernel
theorem dX6_best_1 : decode cX6_best 1 = .ok (.getfield 44, 3) := by decide +kernel
theorem dX6_best_4 : decode cX6_best 4 = .ok (.iload_n 1, 1) := by decide +kernel
theorem dX6_best_5 : decode cX6_best 5 = .ok (.invokevirtual 173, 3) := by decide +kernel
theorem dX6_best_8 : decode cX6_best 8 = .ok (.ifCond .ne 6, 3) := by decide +kernel
theorem dX6_best_11 : decode cX6_best 11 = .ok (.bipush (-10), 2) := by decide +kernel
theorem dX6_best_13 : decode cX6_best 13 = .ok (.ireturn, 1) := by decide +kernel
theorem dX6_best_14 : decode cX6_best 14 = .ok (.iload_n 2, 1) := by decide +kernel
theorem dX6_best_15 : decode cX6_best 15 = .ok (.iconst (-1), 1) := by decide +kernel
theorem dX6_best_16 : decode cX6_best 16 = .ok (.if_icmp .ne 12, 3) := by decide +kernel
theorem dX6_best_19 : decode cX6_best 19 = .ok (.aload_n 0, 1) := by decide +kernel
theorem dX6_best_20 : decode cX6_best 20 = .ok (.getfield 44, 3) := by decide +kernel
theorem dX6_best_23 : decode cX6_best 23 = .ok (.iload_n 1, 1) := by decide +kernel
theorem dX6_best_24 : decode cX6_best 24 = .ok (.invokevirtual 176, 3) := by decide +kernel
theorem dX6_best_27 : decode cX6_best 27 = .ok (.ireturn, 1) := by decide +kernel
theorem dX6_best_28 : decode cX6_best 28 = .ok (.aload_n 0, 1) := by decide +kernel
theorem dX6_best_29 : decode cX6_best 29 = .ok (.getfield 44, 3) := by decide +kernel
theorem dX6_best_32 : decode cX6_best 32 = .ok (.iload_n 2, 1) := by decide +kernel
theorem dX6_best_33 : decode cX6_best 33 = .ok (.invokevirtual 162, 3) := by decide +kernel
theorem dX6_best_36 : decode cX6_best 36 = .ok (.ifCond .eq 11, 3) := by decide +kernel
theorem dX6_best_39 : decode cX6_best 39 = .ok (.iload_n 1, 1) := by decide +kernel
theorem dX6_best_40 : decode cX6_best 40 = .ok (.iload_n 2, 1) := by decide +kernel
theorem dX6_best_41 : decode cX6_best 41 = .ok (.invokestatic 105, 3) := by decide +kernel
theorem dX6_best_44 : decode cX6_best 44 = .ok (.ifCond .ne 6, 3) := by decide +kernel
theorem dX6_best_47 : decode cX6_best 47 = .ok (.bipush (-10), 2) := by decide +kernel
theorem dX6_best_49 : decode cX6_best 49 = .ok (.ireturn, 1) := by decide +kernel
theorem dX6_best_50 : decode cX6_best 50 = .ok (.aload_n 0, 1) := by decide +kernel
theorem dX6_best_51 : decode cX6_best 51 = .ok (.getfield 44, 3) := by decide +kernel
theorem dX6_best_54 : decode cX6_best 54 = .ok (.iload_n 1, 1) := by decide +kernel
theorem dX6_best_55 : decode cX6_best 55 = .ok (.invokevirtual 179, 3) := by decide +kernel
theorem dX6_best_58 : decode cX6_best 58 = .ok (.aload_n 0, 1) := by decide +kernel
theorem dX6_best_59 : decode cX6_best 59 = .ok (.getfield 44, 3) := by decide +kernel
theorem dX6_best_62 : decode cX6_best 62 = .ok (.getfield 183, 3) := by decide +kernel
theorem dX6_best_65 : decode cX6_best 65 = .ok (.iload_n 2, 1) := by decide +kernel
theorem dX6_best_66 : decode cX6_best 66 = .ok (.iaload, 1) := by decide +kernel
theorem dX6_best_67 : decode cX6_best 67 = .ok (.ireturn, 1) := by decide +kernel
theorem dX6_takes_0 : decode cX6_takes 0 = .ok (.aload_n 0, 1) := by decide +kernel
theorem dX6_takes_1 : decode cX6_takes 1 = .ok (.getfield 44, 3) := by decide +kernel
theorem dX6_takes_4 : decode cX6_takes 4 = .ok (.iload_n 1, 1) := by decide +kernel
theorem dX6_takes_5 : decode cX6_takes 5 = .ok (.invokevirtual 162, 3) := by decide +kernel
theorem dX6_takes_8 : decode cX6_takes 8 = .ok (.ifCond .eq 14, 3) := by decide +kernel
theorem dX6_takes_11 : decode cX6_takes 11 = .ok (.aload_n 0, 1) := by decide +kernel
theorem dX6_takes_12 : decode cX6_takes 12 = .ok (.getfield 44, 3) := by decide +kernel
theorem dX6_takes_15 : decode cX6_takes 15 = .ok (.iload_n 1, 1) := by decide +kernel
theorem dX6_takes_16 : decode cX6_takes 16 = .ok (.invokevirtual 186, 3) := by decide +kernel
theorem dX6_takes_19 : decode cX6_takes 19 = .ok (.goto 5, 3) := by decide +kernel
theorem dX6_takes_22 : decode cX6_takes 22 = .ok (.bipush (-2), 2) := by decide +kernel
theorem dX6_takes_24 : decode cX6_takes 24 = .ok (.ireturn, 1) := by decide +kernel
theorem dX6_price_0 : decode cX6_price 0 = .ok (.aload_n 0, 1) := by decide +kernel
theorem dX6_price_1 : decode cX6_price 1 = .ok (.getfield 44, 3) := by decide +kernel
theorem dX6_price_4 : decode cX6_price 4 = .ok (.iload_n 1, 1) := by decide +kernel
theorem dX6_price_5 : decode cX6_price 5 = .ok (.invokevirtual 162, 3) := by decide +kernel
theorem dX6_price_8 : decode cX6_price 8 = .ok (.ifCond .eq 13, 3) := by decide +kernel
theorem dX6_price_11 : decode cX6_price 11 = .ok (.iload_n 2, 1) := by decide +kernel
theorem dX6_price_12 : decode cX6_price 12 = .ok (.iconst 0, 1) := by decide +kernel
theorem dX6_price_13 : decode cX6_price 13 = .ok (.ldc 165, 2) := by decide +kernel
theorem dX6_price_15 : decode cX6_price 15 = .ok (.invokestatic 66, 3) := by decide +kernel
theorem dX6_price_18 : decode cX6_price 18 = .ok (.ifCond .ne 6, 3) := by decide +kernel
theorem dX6_price_21 : decode cX6_price 21 = .ok (.bipush (-2), 2) := by decide +kernel
theorem dX6_price_23 : decode cX6_price 23 = .ok (.ireturn, 1) := by decide +kernel
theorem dX6_price_24 : decode cX6_price 24 = .ok (.aload_n 0, 1) := by decide +kernel
theorem dX6_price_25 : decode cX6_price 25 = .ok (.getfield 44, 3) := by decide +kernel
theorem dX6_price_28 : decode cX6_price 28 = .ok (.getfield 189, 3) := by decide +kernel
theorem dX6_price_31 : decode cX6_price 31 = .ok (.iload_n 1, 1) := by decide +kernel
theorem dX6_price_32 : decode cX6_price 32 = .ok (.iaload, 1) := by decide +kernel
theorem dX6_price_33 : decode cX6_price 33 = .ok (.istore_n 3, 1) := by decide +kernel
theorem dX6_price_34 : decode cX6_price 34 = .ok (.aload_n 0, 1) := by decide +kernel
theorem dX6_price_35 : decode cX6_price 35 = .ok (.getfield 44, 3) := by decide +kernel
theorem dX6_price_38 : decode cX6_price 38 = .ok (.getfield 189, 3) := by decide +kernel
theorem dX6_price_41 : decode cX6_price 41 = .ok (.iload_n 1, 1) := by decide +kernel
theorem dX6_price_42 : decode cX6_price 42 = .ok (.iload_n 2, 1) := by decide +kernel
theorem dX6_price_43 : decode cX6_price 43 = .ok (.iastore, 1) := by decide +kernel
theorem dX6_price_44 : decode cX6_price 44 = .ok (.iload_n 3, 1) := by decide +kernel
theorem dX6_price_45 : decode cX6_price 45 = .ok (.ireturn, 1) := by decide +kernel
theorem dX6_blocks_0 : decode cX6_blocks 0 = .ok (.aload_n 0, 1) := by decide +kernel
theorem dX6_blocks_1 : decode cX6_blocks 1 = .ok (.getfield 44, 3) := by decide +kernel
theorem dX6_blocks_4 : decode cX6_blocks 4 = .ok (.iload_n 1, 1) := by decide +kernel
theorem dX6_blocks_5 : decode cX6_blocks 5 = .ok (.invokevirtual 173, 3) := by decide +kernel
theorem dX6_blocks_8 : decode cX6_blocks 8 = .ok (.ifCond .ne 6, 3) := by decide +kernel
theorem dX6_blocks_11 : decode cX6_blocks 11 = .ok (.bipush (-2), 2) := by decide +kernel
theorem dX6_blocks_13 : decode cX6_blocks 13 = .ok (.ireturn, 1) := by decide +kernel
theorem dX6_blocks_14 : decode cX6_blocks 14 = .ok (.aload_n 0, 1) := by decide +kernel
theorem dX6_blocks_15 : decode cX6_blocks 15 = .ok (.getfield 44, 3) := by decide +kernel
theorem dX6_blocks_18 : decode cX6_blocks 18 = .ok (.aload_n 0, 1) := by decide +kernel
theorem dX6_blocks_19 : decode cX6_blocks 19 = .ok (.getfield 44, 3) := by decide +kernel
theorem dX6_blocks_22 : decode cX6_blocks 22 = .ok (.invokevirtual 192, 3) := by decide +kernel
theorem dX6_blocks_25 : decode cX6_blocks 25 = .ok (.invokevirtual 179, 3) := by decide +kernel
theorem dX6_blocks_28 : decode cX6_blocks 28 = .ok (.aload_n 0, 1) := by decide +kernel
theorem dX6_blocks_29 : decode cX6_blocks 29 = .ok (.getfield 44, 3) := by decide +kernel
theorem dX6_blocks_32 : decode cX6_blocks 32 = .ok (.iload_n 1, 1) := by decide +kernel
theorem dX6_blocks_33 : decode cX6_blocks 33 = .ok (.invokevirtual 195, 3) := by decide +kernel
theorem dX6_blocks_36 : decode cX6_blocks 36 = .ok (.ifCond .eq 7, 3) := by decide +kernel
theorem dX6_blocks_39 : decode cX6_blocks 39 = .ok (.iconst 1, 1) := by decide +kernel
theorem dX6_blocks_40 : decode cX6_blocks 40 = .ok (.goto 4, 3) := by decide +kernel
theorem dX6_blocks_43 : decode cX6_blocks 43 = .ok (.iconst 0, 1) := by decide +kernel
theorem dX6_blocks_44 : decode cX6_blocks 44 = .ok (.ireturn, 1) := by decide +kernel
theorem dX6_alone_0 : decode cX6_alone 0 = .ok (.aload_n 0, 1) := by decide +kernel
theorem dX6_alone_1 : decode cX6_alone 1 = .ok (.getfield 44, 3) := by decide +kernel
theorem dX6_alone_4 : decode cX6_alone 4 = .ok (.invokevirtual 198, 3) := by decide +kernel
theorem dX6_alone_7 : decode cX6_alone 7 = .ok (.ireturn, 1) := by decide +kernel
theorem dX6_tell_0 : decode cX6_tell 0 = .ok (.aload_n 0, 1) := by decide +kernel
theorem dX6_tell_1 : decode cX6_tell 1 = .ok (.getfield 12, 3) := by decide +kernel
theorem dX6_tell_4 : decode cX6_tell 4 = .ok (.iload_n 1, 1) := by decide +kernel
theorem dX6_tell_5 : decode cX6_tell 5 = .ok (.invokevirtual 73, 3) := by decide +kernel
theorem dX6_tell_8 : decode cX6_tell 8 = .ok (.ifCond .eq 21, 3) := by decide +kernel
theorem dX6_tell_11 : decode cX6_tell 11 = .ok (.iload_n 2, 1) := by decide +kernel
theorem dX6_tell_12 : decode cX6_tell 12 = .ok (.iconst 0, 1) := by decide +kernel
theorem dX6_tell_13 : decode cX6_tell 13 = .ok (.iconst 1, 1) := by decide +kernel
theorem dX6_tell_14 : decode cX6_tell 14 = .ok (.invokestatic 66, 3) := by decide +kernel
theorem dX6_tell_17 : decode cX6_tell 17 = .ok (.ifCond .eq 12, 3) := by decide +kernel
theorem dX6_tell_20 : decode cX6_tell 20 = .ok (.iload_n 3, 1) := by decide +kernel
theorem dX6_tell_21 : decode cX6_tell 21 = .ok (.iconst (-1), 1) := by decide +kernel
theorem dX6_tell_22 : decode cX6_tell 22 = .ok (.iconst 5, 1) := by decide +kernel
theorem dX6_tell_23 : decode cX6_tell 23 = .ok (.invokestatic 66, 3) := by decide +kernel
theorem dX6_tell_26 : decode cX6_tell 26 = .ok (.ifCond .ne 6, 3) := by decide +kernel
theorem dX6_tell_29 : decode cX6_tell 29 = .ok (.bipush (-10), 2) := by decide +kernel
theorem dX6_tell_31 : decode cX6_tell 31 = .ok (.ireturn, 1) := by decide +kernel
theorem dX6_tell_32 : decode cX6_tell 32 = .ok (.iload_n 2, 1) := by decide +kernel
theorem dX6_tell_33 : decode cX6_tell 33 = .ok (.ifCond .ne 13, 3) := by decide +kernel
theorem dX6_tell_36 : decode cX6_tell 36 = .ok (.aload_n 0, 1) := by decide +kernel
theorem dX6_tell_37 : decode cX6_tell 37 = .ok (.getfield 51, 3) := by decide +kernel
theorem dX6_tell_40 : decode cX6_tell 40 = .ok (.getfield 201, 3) := by decide +kernel
theorem dX6_tell_43 : decode cX6_tell 43 = .ok (.goto 10, 3) := by decide +kernel
theorem dX6_tell_46 : decode cX6_tell 46 = .ok (.aload_n 0, 1) := by decide +kernel
theorem dX6_tell_47 : decode cX6_tell 47 = .ok (.getfield 51, 3) := by decide +kernel
theorem dX6_tell_50 : decode cX6_tell 50 = .ok (.getfield 204, 3) := by decide +kernel
theorem dX6_tell_53 : decode cX6_tell 53 = .ok (.astore 4, 2) := by decide +kernel
theorem dX6_tell_55 : decode cX6_tell 55 = .ok (.aload 4, 2) := by decide +kernel
theorem dX6_tell_57 : decode cX6_tell 57 = .ok (.iload_n 1, 1) := by decide +kernel
theorem dX6_tell_58 : decode cX6_tell 58 = .ok (.iaload, 1) := by decide +kernel
theorem dX6_tell_59 : decode cX6_tell 59 = .ok (.istore 5, 2) := by decide +kernel
theorem dX6_tell_61 : decode cX6_tell 61 = .ok (.aload 4, 2) := by decide +kernel
theorem dX6_tell_63 : decode cX6_tell 63 = .ok (.iload_n 1, 1) := by decide +kernel
theorem dX6_tell_64 : decode cX6_tell 64 = .ok (.iload_n 3, 1) := by decide +kernel
theorem dX6_tell_65 : decode cX6_tell 65 = .ok (.iastore, 1) := by decide +kernel
theorem dX6_tell_66 : decode cX6_tell 66 = .ok (.iload 5, 2) := by decide +kernel
theorem dX6_tell_68 : decode cX6_tell 68 = .ok (.ireturn, 1) := by decide +kernel
theorem dX6_weeks_0 : decode cX6_weeks 0 = .ok (.iload_n 1, 1) := by decide +kernel
theorem dX6_weeks_1 : decode cX6_weeks 1 = .ok (.iconst 1, 1) := by decide +kernel
theorem dX6_weeks_2 : decode cX6_weeks 2 = .ok (.bipush 10, 2) := by decide +kernel
theorem dX6_weeks_4 : decode cX6_weeks 4 = .ok (.invokestatic 66, 3) := by decide +kernel
theorem dX6_weeks_7 : decode cX6_weeks 7 = .ok (.ifCond .eq 8, 3) := by decide +kernel
theorem dX6_weeks_10 : decode cX6_weeks 10 = .ok (.iload_n 2, 1) := by decide +kernel
theorem dX6_weeks_11 : decode cX6_weeks 11 = .ok (.iconst (-1), 1) := by decide +kernel
theorem dX6_weeks_12 : decode cX6_weeks 12 = .ok (.if_icmp .ge 6, 3) := by decide +kernel
theorem dX6_weeks_15 : decode cX6_weeks 15 = .ok (.bipush (-10), 2) := by decide +kernel
theorem dX6_weeks_17 : decode cX6_weeks 17 = .ok (.ireturn, 1) := by decide +kernel
theorem dX6_weeks_18 : decode cX6_weeks 18 = .ok (.aload_n 0, 1) := by decide +kernel
theorem dX6_weeks_19 : decode cX6_weeks 19 = .ok (.getfield 51, 3) := by decide +kernel
theorem dX6_weeks_22 : decode cX6_weeks 22 = .ok (.iload_n 1, 1) := by decide +kernel
theorem dX6_weeks_23 : decode cX6_weeks 23 = .ok (.invokevirtual 207, 3) := by decide +kernel
theorem dX6_weeks_26 : decode cX6_weeks 26 = .ok (.istore_n 3, 1) := by decide +kernel
theorem dX6_weeks_27 : decode cX6_weeks 27 = .ok (.iload_n 3, 1) := by decide +kernel
theorem dX6_weeks_28 : decode cX6_weeks 28 = .ok (.sipush 1000, 3) := by decide +kernel
theorem dX6_weeks_31 : decode cX6_weeks 31 = .ok (.if_icmp .ne 6, 3) := by decide +kernel
theorem dX6_weeks_34 : decode cX6_weeks 34 = .ok (.bipush (-5), 2) := by decide +kernel
theorem dX6_weeks_36 : decode cX6_weeks 36 = .ok (.ireturn, 1) := by decide +kernel
theorem dX6_weeks_37 : decode cX6_weeks 37 = .ok (.iload_n 2, 1) := by decide +kernel
theorem dX6_weeks_38 : decode cX6_weeks 38 = .ok (.iconst (-1), 1) := by decide +kernel
theorem dX6_weeks_39 : decode cX6_weeks 39 = .ok (.if_icmp .ne 5, 3) := by decide +kernel
theorem dX6_weeks_42 : decode cX6_weeks 42 = .ok (.iload_n 3, 1) := by decide +kernel
theorem dX6_weeks_43 : decode cX6_weeks 43 = .ok (.ireturn, 1) := by decide +kernel
theorem dX6_weeks_44 : decode cX6_weeks 44 = .ok (.iload_n 2, 1) := by decide +kernel
theorem dX6_weeks_45 : decode cX6_weeks 45 = .ok (.iload_n 3, 1) := by decide +kernel
theorem dX6_weeks_46 : decode cX6_weeks 46 = .ok (.if_icmp .ge 15, 3) := by decide +kernel
theorem dX6_weeks_49 : decode cX6_weeks 49 = .ok (.aload_n 0, 1) := by decide +kernel
theorem dX6_weeks_50 : decode cX6_weeks 50 = .ok (.getfield 51, 3) := by decide +kernel
theorem dX6_weeks_53 : decode cX6_weeks 53 = .ok (.iload_n 2, 1) := by decide +kernel
theorem dX6_weeks_54 : decode cX6_weeks 54 = .ok (.iload_n 1, 1) := by decide +kernel
theorem dX6_weeks_55 : decode cX6_weeks 55 = .ok (.invokevirtual 210, 3) := by decide +kernel
theorem dX6_weeks_58 : decode cX6_weeks 58 = .ok (.goto 4, 3) := by decide +kernel
theorem dX6_weeks_61 : decode cX6_weeks 61 = .ok (.iconst (-1), 1) := by decide +kernel
theorem dX6_weeks_62 : decode cX6_weeks 62 = .ok (.ireturn, 1) := by decide +kernel
theorem dX6_tower_0 : decode cX6_tower 0 = .ok (.aload_n 0, 1) := by decide +kernel
theorem dX6_tower_1 : decode cX6_tower 1 = .ok (.getfield 12, 3) := by decide +kernel
theorem dX6_tower_4 : decode cX6_tower 4 = .ok (.iload_n 1, 1) := by decide +kernel
theorem dX6_tower_5 : decode cX6_tower 5 = .ok (.invokevirtual 73, 3) := by decide +kernel
theorem dX6_tower_8 : decode cX6_tower 8 = .ok (.ifCond .eq 20, 3) := by decide +kernel
theorem dX6_tower_11 : decode cX6_tower 11 = .ok (.iload_n 2, 1) := by decide +kernel
theorem dX6_tower_12 : decode cX6_tower 12 = .ok (.iconst 0, 1) := by decide +kernel
theorem dX6_tower_13 : decode cX6_tower 13 = .ok (.aload_n 0, 1) := by decide +kernel
theorem dX6_tower_14 : decode cX6_tower 14 = .ok (.getfield 12, 3) := by decide +kernel
theorem dX6_tower_17 : decode cX6_tower 17 = .ok (.getfield 70, 3) := by decide +kernel
theorem dX6_tower_20 : decode cX6_tower 20 = .ok (.iconst 1, 1) := by decide +kernel
theorem dX6_tower_21 : decode cX6_tower 21 = .ok (.isub, 1) := by decide +kernel
theorem dX6_tower_22 : decode cX6_tower 22 = .ok (.invokestatic 66, 3) := by decide +kernel
theorem dX6_tower_25 : decode cX6_tower 25 = .ok (.ifCond .ne 6, 3) := by decide +kernel
theorem dX6_tower_28 : decode cX6_tower 28 = .ok (.bipush (-2), 2) := by decide +kernel
theorem dX6_tower_30 : decode cX6_tower 30 = .ok (.ireturn, 1) := by decide +kernel
theorem dX6_tower_31 : decode cX6_tower 31 = .ok (.aload_n 0, 1) := by decide +kernel
theorem dX6_tower_32 : decode cX6_tower 32 = .ok (.getfield 51, 3) := by decide +kernel
theorem dX6_tower_35 : decode cX6_tower 35 = .ok (.iload_n 1, 1) := by decide +kernel
theorem dX6_tower_36 : decode cX6_tower 36 = .ok (.iload_n 2, 1) := by decide +kernel
theorem dX6_tower_37 : decode cX6_tower 37 = .ok (.invokevirtual 213, 3) := by decide +kernel
theorem dX6_tower_40 : decode cX6_tower 40 = .ok (.ireturn, 1) := by decide +kernel
theorem dX6_free_0 : decode cX6_free 0 = .ok (.aload_n 0, 1) := by decide +kernel
theorem dX6_free_1 : decode cX6_free 1 = .ok (.getfield 12, 3) := by decide +kernel
theorem dX6_free_4 : decode cX6_free 4 = .ok (.iload_n 1, 1) := by decide +kernel
theorem dX6_free_5 : decode cX6_free 5 = .ok (.invokevirtual 73, 3) := by decide +kernel
theorem dX6_free_8 : decode cX6_free 8 = .ok (.ifCond .eq 14, 3) := by decide +kernel
theorem dX6_free_11 : decode cX6_free 11 = .ok (.aload_n 0, 1) := by decide +kernel
theorem dX6_free_12 : decode cX6_free 12 = .ok (.getfield 51, 3) := by decide +kernel
theorem dX6_free_15 : decode cX6_free 15 = .ok (.iload_n 1, 1) := by decide +kernel
theorem dX6_free_16 : decode cX6_free 16 = .ok (.invokevirtual 216, 3) := by decide +kernel
theorem dX6_free_19 : decode cX6_free 19 = .ok (.goto 5, 3) := by decide +kernel
theorem dX6_free_22 : decode cX6_free 22 = .ok (.bipush (-2), 2) := by decide +kernel
theorem dX6_free_24 : decode cX6_free 24 = .ok (.ireturn, 1) := by decide +kernel
theorem dX6_heard_0 : decode cX6_heard 0 = .ok (.iload_n 1, 1) := by decide +kernel
theorem dX6_heard_1 : decode cX6_heard 1 = .ok (.iconst 0, 1) := by decide +kernel
theorem dX6_heard_2 : decode cX6_heard 2 = .ok (.bipush 15, 2) := by decide +kernel
theorem dX6_heard_4 : decode cX6_heard 4 = .ok (.invokestatic 66, 3) := by decide +kernel
theorem dX6_heard_7 : decode cX6_heard 7 = .ok (.ifCond .eq 14, 3) := by decide +kernel
theorem dX6_heard_10 : decode cX6_heard 10 = .ok (.aload_n 0, 1) := by decide +kernel
theorem dX6_heard_11 : decode cX6_heard 11 = .ok (.getfield 12, 3) := by decide +kernel
theorem dX6_heard_14 : decode cX6_heard 14 = .ok (.iload_n 2, 1) := by decide +kernel
theorem dX6_heard_15 : decode cX6_heard 15 = .ok (.invokevirtual 95, 3) := by decide +kernel
theorem dX6_heard_18 : decode cX6_heard 18 = .ok (.ifCond .ne 6, 3) := by decide +kernel
theorem dX6_heard_21 : decode cX6_heard 21 = .ok (.bipush (-2), 2) := by decide +kernel
theorem dX6_heard_23 : decode cX6_heard 23 = .ok (.ireturn, 1) := by decide +kernel
theorem dX6_heard_24 : decode cX6_heard 24 = .ok (.aload_n 0, 1) := by decide +kernel
theorem dX6_heard_25 : decode cX6_heard 25 = .ok (.getfield 55, 3) := by decide +kernel
theorem dX6_heard_28 : decode cX6_heard 28 = .ok (.iload_n 1, 1) := by decide +kernel
theorem dX6_heard_29 : decode cX6_heard 29 = .ok (.iaload, 1) := by decide +kernel
theorem dX6_heard_30 : decode cX6_heard 30 = .ok (.istore_n 3, 1) := by decide +kernel
theorem dX6_heard_31 : decode cX6_heard 31 = .ok (.aload_n 0, 1) := by decide +kernel
theorem dX6_heard_32 : decode cX6_heard 32 = .ok (.getfield 55, 3) := by decide +kernel
theorem dX6_heard_35 : decode cX6_heard 35 = .ok (.iload_n 1, 1) := by decide +kernel
theorem dX6_heard_36 : decode cX6_heard 36 = .ok (.iload_n 2, 1) := by decide +kernel
theorem dX6_heard_37 : decode cX6_heard 37 = .ok (.iastore, 1) := by decide +kernel
theorem dX6_heard_38 : decode cX6_heard 38 = .ok (.iload_n 3, 1) := by decide +kernel
theorem dX6_heard_39 : decode cX6_heard 39 = .ok (.ireturn, 1) := by decide +kernel
theorem dX6_could_0 : decode cX6_could 0 = .ok (.aload_n 0, 1) := by decide +kernel
theorem dX6_could_1 : decode cX6_could 1 = .ok (.getfield 12, 3) := by decide +kernel
theorem dX6_could_4 : decode cX6_could 4 = .ok (.iload_n 1, 1) := by decide +kernel
theorem dX6_could_5 : decode cX6_could 5 = .ok (.invokevirtual 95, 3) := by decide +kernel
theorem dX6_could_8 : decode cX6_could 8 = .ok (.ifCond .eq 22, 3) := by decide +kernel
theorem dX6_could_11 : decode cX6_could 11 = .ok (.aload_n 0, 1) := by decide +kernel
theorem dX6_could_12 : decode cX6_could 12 = .ok (.getfield 12, 3) := by decide +kernel
theorem dX6_could_15 : decode cX6_could 15 = .ok (.iload_n 2, 1) := by decide +kernel
theorem dX6_could_16 : decode cX6_could 16 = .ok (.invokevirtual 95, 3) := by decide +kernel
theorem dX6_could_19 : decode cX6_could 19 = .ok (.ifCond .eq 11, 3) := by decide +kernel
theorem dX6_could_22 : decode cX6_could 22 = .ok (.iload_n 2, 1) := by decide +kernel
theorem dX6_could_23 : decode cX6_could 23 = .ok (.iload_n 1, 1) := by decide +kernel
theorem dX6_could_24 : decode cX6_could 24 = .ok (.iconst (-1), 1) := by decide +kernel
theorem dX6_could_25 : decode cX6_could 25 = .ok (.ixor, 1) := by decide +kernel
theorem dX6_could_26 : decode cX6_could 26 = .ok (.iand, 1) := by decide +kernel
theorem dX6_could_27 : decode cX6_could 27 = .ok (.ifCond .eq 6, 3) := by decide +kernel
theorem dX6_could_30 : decode cX6_could 30 = .ok (.bipush (-2), 2) := by decide +kernel
theorem dX6_could_32 : decode cX6_could 32 = .ok (.ireturn, 1) := by decide +kernel
theorem dX6_could_33 : decode cX6_could 33 = .ok (.iconst 0, 1) := by decide +kernel
theorem dX6_could_34 : decode cX6_could 34 = .ok (.istore_n 3, 1) := by decide +kernel
theorem dX6_could_35 : decode cX6_could 35 = .ok (.iconst 0, 1) := by decide +kernel
theorem dX6_could_36 : decode cX6_could 36 = .ok (.istore 4, 2) := by decide +kernel
theorem dX6_could_38 : decode cX6_could 38 = .ok (.iload 4, 2) := by decide +kernel
theorem dX6_could_40 : decode cX6_could 40 = .ok (.bipush 16, 2) := by decide +kernel
theorem dX6_could_42 : decode cX6_could 42 = .ok (.if_icmp .ge 29, 3) := by decide +kernel
theorem dX6_could_45 : decode cX6_could 45 = .ok (.aload_n 0, 1) := by decide +kernel
theorem dX6_could_46 : decode cX6_could 46 = .ok (.getfield 55, 3) := by decide +kernel
theorem dX6_could_49 : decode cX6_could 49 = .ok (.iload 4, 2) := by decide +kernel
theorem dX6_could_51 : decode cX6_could 51 = .ok (.iaload, 1) := by decide +kernel
theorem dX6_could_52 : decode cX6_could 52 = .ok (.iload_n 1, 1) := by decide +kernel
theorem dX6_could_53 : decode cX6_could 53 = .ok (.iand, 1) := by decide +kernel
theorem dX6_could_54 : decode cX6_could 54 = .ok (.iload_n 2, 1) := by decide +kernel
theorem dX6_could_55 : decode cX6_could 55 = .ok (.if_icmp .ne 10, 3) := by decide +kernel
theorem dX6_could_58 : decode cX6_could 58 = .ok (.iload_n 3, 1) := by decide +kernel
theorem dX6_could_59 : decode cX6_could 59 = .ok (.iconst 1, 1) := by decide +kernel
theorem dX6_could_60 : decode cX6_could 60 = .ok (.iload 4, 2) := by decide +kernel
theorem dX6_could_62 : decode cX6_could 62 = .ok (.ishl, 1) := by decide +kernel
theorem dX6_could_63 : decode cX6_could 63 = .ok (.ior, 1) := by decide +kernel
theorem dX6_could_64 : decode cX6_could 64 = .ok (.istore_n 3, 1) := by decide +kernel
theorem dX6_could_65 : decode cX6_could 65 = .ok (.iinc 4 1, 3) := by decide +kernel
theorem dX6_could_68 : decode cX6_could 68 = .ok (.goto (-30), 3) := by decide +kernel
theorem dX6_could_71 : decode cX6_could 71 = .ok (.iload_n 3, 1) := by decide +kernel
theorem dX6_could_72 : decode cX6_could 72 = .ok (.ireturn, 1) := by decide +kernel
theorem dX6_count_0 : decode cX6_count 0 = .ok (.iload_n 1, 1) := by decide +kernel
theorem dX6_count_1 : decode cX6_count 1 = .ok (.tableswitch 66 0 3 #[31, 39, 50, 58], 31) := by decide +kernel
theorem dX6_count_32 : decode cX6_count 32 = .ok (.aload_n 0, 1) := by decide +kernel
theorem dX6_count_33 : decode cX6_count 33 = .ok (.getfield 12, 3) := by decide +kernel
theorem dX6_count_36 : decode cX6_count 36 = .ok (.getfield 59, 3) := by decide +kernel
theorem dX6_count_39 : decode cX6_count 39 = .ok (.ireturn, 1) := by decide +kernel
theorem dX6_count_40 : decode cX6_count 40 = .ok (.aload_n 0, 1) := by decide +kernel
theorem dX6_count_41 : decode cX6_count 41 = .ok (.getfield 37, 3) := by decide +kernel
theorem dX6_count_44 : decode cX6_count 44 = .ok (.getfield 121, 3) := by decide +kernel
theorem dX6_count_47 : decode cX6_count 47 = .ok (.invokestatic 219, 3) := by decide +kernel
theorem dX6_count_50 : decode cX6_count 50 = .ok (.ireturn, 1) := by decide +kernel
theorem dX6_count_51 : decode cX6_count 51 = .ok (.aload_n 0, 1) := by decide +kernel
theorem dX6_count_52 : decode cX6_count 52 = .ok (.getfield 44, 3) := by decide +kernel
theorem dX6_count_55 : decode cX6_count 55 = .ok (.getfield 156, 3) := by decide +kernel
theorem dX6_count_58 : decode cX6_count 58 = .ok (.ireturn, 1) := by decide +kernel
theorem dX6_count_59 : decode cX6_count 59 = .ok (.aload_n 0, 1) := by decide +kernel
theorem dX6_count_60 : decode cX6_count 60 = .ok (.getfield 44, 3) := by decide +kernel
theorem dX6_count_63 : decode cX6_count 63 = .ok (.getfield 166, 3) := by decide +kernel
theorem dX6_count_66 : decode cX6_count 66 = .ok (.ireturn, 1) := by decide +kernel
theorem dX6_count_67 : decode cX6_count 67 = .ok (.bipush (-2), 2) := by decide +kernel
theorem dX6_count_69 : decode cX6_count 69 = .ok (.ireturn, 1) := by decide +kernel
theorem dX6_digest_0 : decode cX6_digest 0 = .ok (.ldc2_w 224, 3) := by decide +kernel
theorem dX6_digest_3 : decode cX6_digest 3 = .ok (.lstore_n 1, 1) := by decide +kernel
theorem dX6_digest_4 : decode cX6_digest 4 = .ok (.iconst 0, 1) := by decide +kernel
theorem dX6_digest_5 : decode cX6_digest 5 = .ok (.istore_n 3, 1) := by decide +kernel
theorem dX6_digest_6 : decode cX6_digest 6 = .ok (.iload_n 3, 1) := by decide +kernel
theorem dX6_digest_7 : decode cX6_digest 7 = .ok (.iconst 3, 1) := by decide +kernel
theorem dX6_digest_8 : decode cX6_digest 8 = .ok (.if_icmp .gt 19, 3) := by decide +kernel
theorem dX6_digest_11 : decode cX6_digest 11 = .ok (.lload_n 1, 1) := by decide +kernel
theorem dX6_digest_12 : decode cX6_digest 12 = .ok (.aload_n 0, 1) := by decide +kernel
theorem dX6_digest_13 : decode cX6_digest 13 = .ok (.iload_n 3, 1) := by decide +kernel
theorem dX6_digest_14 : decode cX6_digest 14 = .ok (.invokevirtual 226, 3) := by decide +kernel
theorem dX6_digest_17 : decode cX6_digest 17 = .ok (.invokestatic 229, 3) := by decide +kernel
theorem dX6_digest_20 : decode cX6_digest 20 = .ok (.lstore_n 1, 1) := by decide +kernel
theorem dX6_digest_21 : decode cX6_digest 21 = .ok (.iinc 3 1, 3) := by decide +kernel
theorem dX6_digest_24 : decode cX6_digest 24 = .ok (.goto (-18), 3) := by decide +kernel
theorem dX6_digest_27 : decode cX6_digest 27 = .ok (.lload_n 1, 1) := by decide +kernel
theorem dX6_digest_28 : decode cX6_digest 28 = .ok (.aload_n 0, 1) := by decide +kernel
theorem dX6_digest_29 : decode cX6_digest 29 = .ok (.getfield 12, 3) := by decide +kernel
theorem dX6_digest_32 : decode cX6_digest 32 = .ok (.getfield 70, 3) := by decide +kernel
theorem dX6_digest_35 : decode cX6_digest 35 = .ok (.invokestatic 229, 3) := by decide +kernel
theorem dX6_digest_38 : decode cX6_digest 38 = .ok (.aload_n 0, 1) := by decide +kernel
theorem dX6_digest_39 : decode cX6_digest 39 = .ok (.getfield 12, 3) := by decide +kernel
theorem dX6_digest_42 : decode cX6_digest 42 = .ok (.getfield 92, 3) := by decide +kernel
theorem dX6_digest_45 : decode cX6_digest 45 = .ok (.invokestatic 229, 3) := by decide +kernel
theorem dX6_digest_48 : decode cX6_digest 48 = .ok (.lstore_n 1, 1) := by decide +kernel
theorem dX6_digest_49 : decode cX6_digest 49 = .ok (.lload_n 1, 1) := by decide +kernel
theorem dX6_digest_50 : decode cX6_digest 50 = .ok (.aload_n 0, 1) := by decide +kernel
theorem dX6_digest_51 : decode cX6_digest 51 = .ok (.getfield 37, 3) := by decide +kernel
theorem dX6_digest_54 : decode cX6_digest 54 = .ok (.getfield 127, 3) := by decide +kernel
theorem dX6_digest_57 : decode cX6_digest 57 = .ok (.invokestatic 229, 3) := by decide +kernel
theorem dX6_digest_60 : decode cX6_digest 60 = .ok (.aload_n 0, 1) := by decide +kernel
theorem dX6_digest_61 : decode cX6_digest 61 = .ok (.getfield 37, 3) := by decide +kernel
theorem dX6_digest_64 : decode cX6_digest 64 = .ok (.getfield 130, 3) := by decide +kernel
theorem dX6_digest_67 : decode cX6_digest 67 = .ok (.invokestatic 229, 3) := by decide +kernel
theorem dX6_digest_70 : decode cX6_digest 70 = .ok (.lstore_n 1, 1) := by decide +kernel
theorem dX6_digest_71 : decode cX6_digest 71 = .ok (.iconst 0, 1) := by decide +kernel
theorem dX6_digest_72 : decode cX6_digest 72 = .ok (.istore_n 3, 1) := by decide +kernel
theorem dX6_digest_73 : decode cX6_digest 73 = .ok (.iload_n 3, 1) := by decide +kernel
theorem dX6_digest_74 : decode cX6_digest 74 = .ok (.aload_n 0, 1) := by decide +kernel
theorem dX6_digest_75 : decode cX6_digest 75 = .ok (.getfield 12, 3) := by decide +kernel
theorem dX6_digest_78 : decode cX6_digest 78 = .ok (.getfield 59, 3) := by decide +kernel
theorem dX6_digest_81 : decode cX6_digest 81 = .ok (.if_icmp .ge 16, 3) := by decide +kernel
theorem dX6_digest_84 : decode cX6_digest 84 = .ok (.aload_n 0, 1) := by decide +kernel
theorem dX6_digest_85 : decode cX6_digest 85 = .ok (.lload_n 1, 1) := by decide +kernel
theorem dX6_digest_86 : decode cX6_digest 86 = .ok (.iload_n 3, 1) := by decide +kernel
theorem dX6_digest_87 : decode cX6_digest 87 = .ok (.invokevirtual 233, 3) := by decide +kernel
theorem dX6_digest_90 : decode cX6_digest 90 = .ok (.lstore_n 1, 1) := by decide +kernel
theorem dX6_digest_91 : decode cX6_digest 91 = .ok (.iinc 3 1, 3) := by decide +kernel
theorem dX6_digest_94 : decode cX6_digest 94 = .ok (.goto (-21), 3) := by decide +kernel
theorem dX6_digest_97 : decode cX6_digest 97 = .ok (.iconst 0, 1) := by decide +kernel
theorem dX6_digest_98 : decode cX6_digest 98 = .ok (.istore_n 3, 1) := by decide +kernel
theorem dX6_digest_99 : decode cX6_digest 99 = .ok (.iload_n 3, 1) := by decide +kernel
theorem dX6_digest_100 : decode cX6_digest 100 = .ok (.aload_n 0, 1) := by decide +kernel
theorem dX6_digest_101 : decode cX6_digest 101 = .ok (.getfield 44, 3) := by decide +kernel
theorem dX6_digest_104 : decode cX6_digest 104 = .ok (.getfield 166, 3) := by decide +kernel
theorem dX6_digest_107 : decode cX6_digest 107 = .ok (.if_icmp .ge 51, 3) := by decide +kernel
theorem dX6_digest_110 : decode cX6_digest 110 = .ok (.lload_n 1, 1) := by decide +kernel
theorem dX6_digest_111 : decode cX6_digest 111 = .ok (.aload_n 0, 1) := by decide +kernel
theorem dX6_digest_112 : decode cX6_digest 112 = .ok (.getfield 44, 3) := by decide +kernel
theorem dX6_digest_115 : decode cX6_digest 115 = .ok (.getfield 236, 3) := by decide +kernel
theorem dX6_digest_118 : decode cX6_digest 118 = .ok (.iload_n 3, 1) := by decide +kernel
theorem dX6_digest_119 : decode cX6_digest 119 = .ok (.iaload, 1) := by decide +kernel
theorem dX6_digest_120 : decode cX6_digest 120 = .ok (.invokestatic 229, 3) := by decide +kernel
theorem dX6_digest_123 : decode cX6_digest 123 = .ok (.lstore_n 1, 1) := by decide +kernel
theorem dX6_digest_124 : decode cX6_digest 124 = .ok (.lload_n 1, 1) := by decide +kernel
theorem dX6_digest_125 : decode cX6_digest 125 = .ok (.aload_n 0, 1) := by decide +kernel
theorem dX6_digest_126 : decode cX6_digest 126 = .ok (.getfield 44, 3) := by decide +kernel
theorem dX6_digest_129 : decode cX6_digest 129 = .ok (.getfield 239, 3) := by decide +kernel
theorem dX6_digest_132 : decode cX6_digest 132 = .ok (.iload_n 3, 1) := by decide +kernel
theorem dX6_digest_133 : decode cX6_digest 133 = .ok (.iaload, 1) := by decide +kernel
theorem dX6_digest_134 : decode cX6_digest 134 = .ok (.invokestatic 229, 3) := by decide +kernel
theorem dX6_digest_137 : decode cX6_digest 137 = .ok (.lstore_n 1, 1) := by decide +kernel
theorem dX6_digest_138 : decode cX6_digest 138 = .ok (.lload_n 1, 1) := by decide +kernel
theorem dX6_digest_139 : decode cX6_digest 139 = .ok (.aload_n 0, 1) := by decide +kernel
theorem dX6_digest_140 : decode cX6_digest 140 = .ok (.getfield 44, 3) := by decide +kernel
theorem dX6_digest_143 : decode cX6_digest 143 = .ok (.getfield 242, 3) := by decide +kernel
theorem dX6_digest_146 : decode cX6_digest 146 = .ok (.iload_n 3, 1) := by decide +kernel
theorem dX6_digest_147 : decode cX6_digest 147 = .ok (.iaload, 1) := by decide +kernel
theorem dX6_digest_148 : decode cX6_digest 148 = .ok (.invokestatic 229, 3) := by decide +kernel
theorem dX6_digest_151 : decode cX6_digest 151 = .ok (.lstore_n 1, 1) := by decide +kernel
theorem dX6_digest_152 : decode cX6_digest 152 = .ok (.iinc 3 1, 3) := by decide +kernel
theorem dX6_digest_155 : decode cX6_digest 155 = .ok (.goto (-56), 3) := by decide +kernel
theorem dX6_digest_158 : decode cX6_digest 158 = .ok (.iconst 0, 1) := by decide +kernel
theorem dX6_digest_159 : decode cX6_digest 159 = .ok (.istore_n 3, 1) := by decide +kernel
theorem dX6_digest_160 : decode cX6_digest 160 = .ok (.iload_n 3, 1) := by decide +kernel
theorem dX6_digest_161 : decode cX6_digest 161 = .ok (.aload_n 0, 1) := by decide +kernel
theorem dX6_digest_162 : decode cX6_digest 162 = .ok (.getfield 44, 3) := by decide +kernel
theorem dX6_digest_165 : decode cX6_digest 165 = .ok (.getfield 156, 3) := by decide +kernel
theorem dX6_digest_168 : decode cX6_digest 168 = .ok (.if_icmp .ge 23, 3) := by decide +kernel
theorem dX6_digest_171 : decode cX6_digest 171 = .ok (.lload_n 1, 1) := by decide +kernel
theorem dX6_digest_172 : decode cX6_digest 172 = .ok (.aload_n 0, 1) := by decide +kernel
theorem dX6_digest_173 : decode cX6_digest 173 = .ok (.getfield 44, 3) := by decide +kernel
theorem dX6_digest_176 : decode cX6_digest 176 = .ok (.getfield 189, 3) := by decide +kernel
theorem dX6_digest_179 : decode cX6_digest 179 = .ok (.iload_n 3, 1) := by decide +kernel
theorem dX6_digest_180 : decode cX6_digest 180 = .ok (.iaload, 1) := by decide +kernel
theorem dX6_digest_181 : decode cX6_digest 181 = .ok (.invokestatic 229, 3) := by decide +kernel
theorem dX6_digest_184 : decode cX6_digest 184 = .ok (.lstore_n 1, 1) := by decide +kernel
theorem dX6_digest_185 : decode cX6_digest 185 = .ok (.iinc 3 1, 3) := by decide +kernel
theorem dX6_digest_188 : decode cX6_digest 188 = .ok (.goto (-28), 3) := by decide +kernel
theorem dX6_digest_191 : decode cX6_digest 191 = .ok (.iconst 0, 1) := by decide +kernel
theorem dX6_digest_192 : decode cX6_digest 192 = .ok (.istore_n 3, 1) := by decide +kernel
theorem dX6_digest_193 : decode cX6_digest 193 = .ok (.iload_n 3, 1) := by decide +kernel
theorem dX6_digest_194 : decode cX6_digest 194 = .ok (.bipush 16, 2) := by decide +kernel
theorem dX6_digest_196 : decode cX6_digest 196 = .ok (.if_icmp .ge 20, 3) := by decide +kernel
theorem dX6_digest_199 : decode cX6_digest 199 = .ok (.lload_n 1, 1) := by decide +kernel
theorem dX6_digest_200 : decode cX6_digest 200 = .ok (.aload_n 0, 1) := by decide +kernel
theorem dX6_digest_201 : decode cX6_digest 201 = .ok (.getfield 55, 3) := by decide +kernel
theorem dX6_digest_204 : decode cX6_digest 204 = .ok (.iload_n 3, 1) := by decide +kernel
theorem dX6_digest_205 : decode cX6_digest 205 = .ok (.iaload, 1) := by decide +kernel
theorem dX6_digest_206 : decode cX6_digest 206 = .ok (.invokestatic 229, 3) := by decide +kernel
theorem dX6_digest_209 : decode cX6_digest 209 = .ok (.lstore_n 1, 1) := by decide +kernel
theorem dX6_digest_210 : decode cX6_digest 210 = .ok (.iinc 3 1, 3) := by decide +kernel
theorem dX6_digest_213 : decode cX6_digest 213 = .ok (.goto (-20), 3) := by decide +kernel
theorem dX6_digest_216 : decode cX6_digest 216 = .ok (.aload_n 0, 1) := by decide +kernel
theorem dX6_digest_217 : decode cX6_digest 217 = .ok (.getfield 37, 3) := by decide +kernel
theorem dX6_digest_220 : decode cX6_digest 220 = .ok (.iconst (-1), 1) := by decide +kernel
theorem dX6_digest_221 : decode cX6_digest 221 = .ok (.iconst 0, 1) := by decide +kernel
theorem dX6_digest_222 : decode cX6_digest 222 = .ok (.invokevirtual 133, 3) := by decide +kernel
theorem dX6_digest_225 : decode cX6_digest 225 = .ok (.iconst 0, 1) := by decide +kernel
theorem dX6_digest_226 : decode cX6_digest 226 = .ok (.istore_n 3, 1) := by decide +kernel
theorem dX6_digest_227 : decode cX6_digest 227 = .ok (.iload_n 3, 1) := by decide +kernel
theorem dX6_digest_228 : decode cX6_digest 228 = .ok (.iconst 3, 1) := by decide +kernel
theorem dX6_digest_229 : decode cX6_digest 229 = .ok (.if_icmp .gt 22, 3) := by decide +kernel
theorem dX6_digest_232 : decode cX6_digest 232 = .ok (.lload_n 1, 1) := by decide +kernel
theorem dX6_digest_233 : decode cX6_digest 233 = .ok (.aload_n 0, 1) := by decide +kernel
theorem dX6_digest_234 : decode cX6_digest 234 = .ok (.getfield 37, 3) := by decide +kernel
theorem dX6_digest_237 : decode cX6_digest 237 = .ok (.iload_n 3, 1) := by decide +kernel
theorem dX6_digest_238 : decode cX6_digest 238 = .ok (.invokevirtual 137, 3) := by decide +kernel
theorem dX6_digest_241 : decode cX6_digest 241 = .ok (.invokestatic 229, 3) := by decide +kernel
theorem dX6_digest_244 : decode cX6_digest 244 = .ok (.lstore_n 1, 1) := by decide +kernel
theorem dX6_digest_245 : decode cX6_digest 245 = .ok (.iinc 3 1, 3) := by decide +kernel
theorem dX6_digest_248 : decode cX6_digest 248 = .ok (.goto (-21), 3) := by decide +kernel
theorem dX6_digest_251 : decode cX6_digest 251 = .ok (.lload_n 1, 1) := by decide +kernel
theorem dX6_digest_252 : decode cX6_digest 252 = .ok (.lreturn, 1) := by decide +kernel
theorem dX6_mixMast_0 : decode cX6_mixMast 0 = .ok (.lload_n 1, 1) := by decide +kernel
theorem dX6_mixMast_1 : decode cX6_mixMast 1 = .ok (.aload_n 0, 1) := by decide +kernel
theorem dX6_mixMast_2 : decode cX6_mixMast 2 = .ok (.getfield 12, 3) := by decide +kernel
theorem dX6_mixMast_5 : decode cX6_mixMast 5 = .ok (.getfield 89, 3) := by decide +kernel
theorem dX6_mixMast_8 : decode cX6_mixMast 8 = .ok (.iload_n 3, 1) := by decide +kernel
theorem dX6_mixMast_9 : decode cX6_mixMast 9 = .ok (.iaload, 1) := by decide +kernel
theorem dX6_mixMast_10 : decode cX6_mixMast 10 = .ok (.invokestatic 229, 3) := by decide +kernel
theorem dX6_mixMast_13 : decode cX6_mixMast 13 = .ok (.lstore 4, 2) := by decide +kernel
theorem dX6_mixMast_15 : decode cX6_mixMast 15 = .ok (.iconst 0, 1) := by decide +kernel
theorem dX6_mixMast_16 : decode cX6_mixMast 16 = .ok (.istore 6, 2) := by decide +kernel
theorem dX6_mixMast_18 : decode cX6_mixMast 18 = .ok (.iload 6, 2) := by decide +kernel
theorem dX6_mixMast_20 : decode cX6_mixMast 20 = .ok (.aload_n 0, 1) := by decide +kernel
theorem dX6_mixMast_21 : decode cX6_mixMast 21 = .ok (.getfield 12, 3) := by decide +kernel
theorem dX6_mixMast_24 : decode cX6_mixMast 24 = .ok (.getfield 59, 3) := by decide +kernel
theorem dX6_mixMast_27 : decode cX6_mixMast 27 = .ok (.if_icmp .ge 32, 3) := by decide +kernel
theorem dX6_mixMast_30 : decode cX6_mixMast 30 = .ok (.iload 6, 2) := by decide +kernel
theorem dX6_mixMast_32 : decode cX6_mixMast 32 = .ok (.iload_n 3, 1) := by decide +kernel
theorem dX6_mixMast_33 : decode cX6_mixMast 33 = .ok (.if_icmp .eq 20, 3) := by decide +kernel
theorem dX6_mixMast_36 : decode cX6_mixMast 36 = .ok (.lload 4, 2) := by decide +kernel
theorem dX6_mixMast_38 : decode cX6_mixMast 38 = .ok (.aload_n 0, 1) := by decide +kernel
theorem dX6_mixMast_39 : decode cX6_mixMast 39 = .ok (.getfield 12, 3) := by decide +kernel
theorem dX6_mixMast_42 : decode cX6_mixMast 42 = .ok (.iload_n 3, 1) := by decide +kernel
theorem dX6_mixMast_43 : decode cX6_mixMast 43 = .ok (.iload 6, 2) := by decide +kernel
theorem dX6_mixMast_45 : decode cX6_mixMast 45 = .ok (.invokevirtual 77, 3) := by decide +kernel
theorem dX6_mixMast_48 : decode cX6_mixMast 48 = .ok (.invokestatic 229, 3) := by decide +kernel
theorem dX6_mixMast_51 : decode cX6_mixMast 51 = .ok (.lstore 4, 2) := by decide +kernel
theorem dX6_mixMast_53 : decode cX6_mixMast 53 = .ok (.iinc 6 1, 3) := by decide +kernel
theorem dX6_mixMast_56 : decode cX6_mixMast 56 = .ok (.goto (-38), 3) := by decide +kernel
theorem dX6_mixMast_59 : decode cX6_mixMast 59 = .ok (.lload 4, 2) := by decide +kernel
theorem dX6_mixMast_61 : decode cX6_mixMast 61 = .ok (.aload_n 0, 1) := by decide +kernel
theorem dX6_mixMast_62 : decode cX6_mixMast 62 = .ok (.getfield 37, 3) := by decide +kernel
theorem dX6_mixMast_65 : decode cX6_mixMast 65 = .ok (.getfield 153, 3) := by decide +kernel
theorem dX6_mixMast_68 : decode cX6_mixMast 68 = .ok (.iload_n 3, 1) := by decide +kernel
theorem dX6_mixMast_69 : decode cX6_mixMast 69 = .ok (.iaload, 1) := by decide +kernel
theorem dX6_mixMast_70 : decode cX6_mixMast 70 = .ok (.invokestatic 229, 3) := by decide +kernel
theorem dX6_mixMast_73 : decode cX6_mixMast 73 = .ok (.aload_n 0, 1) := by decide +kernel
theorem dX6_mixMast_74 : decode cX6_mixMast 74 = .ok (.getfield 37, 3) := by decide +kernel
theorem dX6_mixMast_77 : decode cX6_mixMast 77 = .ok (.getfield 245, 3) := by decide +kernel
theorem dX6_mixMast_80 : decode cX6_mixMast 80 = .ok (.iload_n 3, 1) := by decide +kernel
theorem dX6_mixMast_81 : decode cX6_mixMast 81 = .ok (.iaload, 1) := by decide +kernel
theorem dX6_mixMast_82 : decode cX6_mixMast 82 = .ok (.invokestatic 229, 3) := by decide +kernel
theorem dX6_mixMast_85 : decode cX6_mixMast 85 = .ok (.lstore 4, 2) := by decide +kernel
theorem dX6_mixMast_87 : decode cX6_mixMast 87 = .ok (.lload 4, 2) := by decide +kernel
theorem dX6_mixMast_89 : decode cX6_mixMast 89 = .ok (.aload_n 0, 1) := by decide +kernel
theorem dX6_mixMast_90 : decode cX6_mixMast 90 = .ok (.getfield 51, 3) := by decide +kernel
theorem dX6_mixMast_93 : decode cX6_mixMast 93 = .ok (.getfield 201, 3) := by decide +kernel
theorem dX6_mixMast_96 : decode cX6_mixMast 96 = .ok (.iload_n 3, 1) := by decide +kernel
theorem dX6_mixMast_97 : decode cX6_mixMast 97 = .ok (.iaload, 1) := by decide +kernel
theorem dX6_mixMast_98 : decode cX6_mixMast 98 = .ok (.invokestatic 229, 3) := by decide +kernel
theorem dX6_mixMast_101 : decode cX6_mixMast 101 = .ok (.aload_n 0, 1) := by decide +kernel
theorem dX6_mixMast_102 : decode cX6_mixMast 102 = .ok (.getfield 51, 3) := by decide +kernel
theorem dX6_mixMast_105 : decode cX6_mixMast 105 = .ok (.getfield 204, 3) := by decide +kernel
theorem dX6_mixMast_108 : decode cX6_mixMast 108 = .ok (.iload_n 3, 1) := by decide +kernel
theorem dX6_mixMast_109 : decode cX6_mixMast 109 = .ok (.iaload, 1) := by decide +kernel
theorem dX6_mixMast_110 : decode cX6_mixMast 110 = .ok (.invokestatic 229, 3) := by decide +kernel
theorem dX6_mixMast_113 : decode cX6_mixMast 113 = .ok (.lreturn, 1) := by decide +kernel
theorem dX6_mix_0 : decode cX6_mix 0 = .ok (.ldc2_w 248, 3) := by decide +kernel
theorem dX6_mix_3 : decode cX6_mix 3 = .ok (.lload_n 0, 1) := by decide +kernel
theorem dX6_mix_4 : decode cX6_mix 4 = .ok (.lmul, 1) := by decide +kernel
theorem dX6_mix_5 : decode cX6_mix 5 = .ok (.iload_n 2, 1) := by decide +kernel
theorem dX6_mix_6 : decode cX6_mix 6 = .ok (.i2l, 1) := by decide +kernel
theorem dX6_mix_7 : decode cX6_mix 7 = .ok (.ladd, 1) := by decide +kernel
theorem dX6_mix_8 : decode cX6_mix 8 = .ok (.lreturn, 1) := by decide +kernel
theorem dX6_within_0 : decode cX6_within 0 = .ok (.iload_n 0, 1) := by decide +kernel
theorem dX6_within_1 : decode cX6_within 1 = .ok (.iload_n 1, 1) := by decide +kernel
theorem dX6_within_2 : decode cX6_within 2 = .ok (.if_icmp .lt 12, 3) := by decide +kernel
theorem dX6_within_5 : decode cX6_within 5 = .ok (.iload_n 0, 1) := by decide +kernel
theorem dX6_within_6 : decode cX6_within 6 = .ok (.iload_n 2, 1) := by decide +kernel
theorem dX6_within_7 : decode cX6_within 7 = .ok (.if_icmp .gt 7, 3) := by decide +kernel
theorem dX6_within_10 : decode cX6_within 10 = .ok (.iconst 1, 1) := by decide +kernel
theorem dX6_within_11 : decode cX6_within 11 = .ok (.goto 4, 3) := by decide +kernel
theorem dX6_within_14 : decode cX6_within 14 = .ok (.iconst 0, 1) := by decide +kernel
theorem dX6_within_15 : decode cX6_within 15 = .ok (.ireturn, 1) := by decide +kernel
theorem dX6_has_0 : decode cX6_has 0 = .ok (.iload_n 0, 1) := by decide +kernel
theorem dX6_has_1 : decode cX6_has 1 = .ok (.iload_n 1, 1) := by decide +kernel
theorem dX6_has_2 : decode cX6_has 2 = .ok (.ishr, 1) := by decide +kernel
theorem dX6_has_3 : decode cX6_has 3 = .ok (.iconst 1, 1) := by decide +kernel
theorem dX6_has_4 : decode cX6_has 4 = .ok (.iand, 1) := by decide +kernel
theorem dX6_has_5 : decode cX6_has 5 = .ok (.ifCond .eq 7, 3) := by decide +kernel
theorem dX6_has_8 : decode cX6_has 8 = .ok (.iconst 1, 1) := by decide +kernel
theorem dX6_has_9 : decode cX6_has 9 = .ok (.goto 4, 3) := by decide +kernel
theorem dX6_has_12 : decode cX6_has 12 = .ok (.iconst 0, 1) := by decide +kernel
theorem dX6_has_13 : decode cX6_has 13 = .ok (.ireturn, 1) := by decide +kernel
theorem dX6_placeOf_0 : decode cX6_placeOf 0 = .ok (.iload_n 0, 1) := by decide +kernel
theorem dX6_placeOf_1 : decode cX6_placeOf 1 = .ok (.iconst 1, 1) := by decide +kernel
theorem dX6_placeOf_2 : decode cX6_placeOf 2 = .ok (.isub, 1) := by decide +kernel
theorem dX6_placeOf_3 : decode cX6_placeOf 3 = .ok (.invokestatic 219, 3) := by decide +kernel
theorem dX6_placeOf_6 : decode cX6_placeOf 6 = .ok (.ireturn, 1) := by decide +kernel
theorem dJ6_bitCount_0f7a4_0 : decode cJ6_bitCount_0f7a4 0 = .ok (.iload_n 0, 1) := by decide +kernel
theorem dJ6_bitCount_0f7a4_1 : decode cJ6_bitCount_0f7a4 1 = .ok (.iload_n 0, 1) := by decide +kernel
theorem dJ6_bitCount_0f7a4_2 : decode cJ6_bitCount_0f7a4 2 = .ok (.iconst 1, 1) := by decide +kernel
theorem dJ6_bitCount_0f7a4_3 : decode cJ6_bitCount_0f7a4 3 = .ok (.iushr, 1) := by decide +kernel
theorem dJ6_bitCount_0f7a4_4 : decode cJ6_bitCount_0f7a4 4 = .ok (.ldc_w 265, 3) := by decide +kernel
theorem dJ6_bitCount_0f7a4_7 : decode cJ6_bitCount_0f7a4 7 = .ok (.iand, 1) := by decide +kernel
theorem dJ6_bitCount_0f7a4_8 : decode cJ6_bitCount_0f7a4 8 = .ok (.isub, 1) := by decide +kernel
theorem dJ6_bitCount_0f7a4_9 : decode cJ6_bitCount_0f7a4 9 = .ok (.istore_n 0, 1) := by decide +kernel
theorem dJ6_bitCount_0f7a4_10 : decode cJ6_bitCount_0f7a4 10 = .ok (.iload_n 0, 1) := by decide +kernel
theorem dJ6_bitCount_0f7a4_11 : decode cJ6_bitCount_0f7a4 11 = .ok (.ldc_w 266, 3) := by decide +kernel
theorem dJ6_bitCount_0f7a4_14 : decode cJ6_bitCount_0f7a4 14 = .ok (.iand, 1) := by decide +kernel
theorem dJ6_bitCount_0f7a4_15 : decode cJ6_bitCount_0f7a4 15 = .ok (.iload_n 0, 1) := by decide +kernel
theorem dJ6_bitCount_0f7a4_16 : decode cJ6_bitCount_0f7a4 16 = .ok (.iconst 2, 1) := by decide +kernel
theorem dJ6_bitCount_0f7a4_17 : decode cJ6_bitCount_0f7a4 17 = .ok (.iushr, 1) := by decide +kernel
theorem dJ6_bitCount_0f7a4_18 : decode cJ6_bitCount_0f7a4 18 = .ok (.ldc_w 266, 3) := by decide +kernel
theorem dJ6_bitCount_0f7a4_21 : decode cJ6_bitCount_0f7a4 21 = .ok (.iand, 1) := by decide +kernel
theorem dJ6_bitCount_0f7a4_22 : decode cJ6_bitCount_0f7a4 22 = .ok (.iadd, 1) := by decide +kernel
theorem dJ6_bitCount_0f7a4_23 : decode cJ6_bitCount_0f7a4 23 = .ok (.istore_n 0, 1) := by decide +kernel
theorem dJ6_bitCount_0f7a4_24 : decode cJ6_bitCount_0f7a4 24 = .ok (.iload_n 0, 1) := by decide +kernel
theorem dJ6_bitCount_0f7a4_25 : decode cJ6_bitCount_0f7a4 25 = .ok (.iload_n 0, 1) := by decide +kernel
theorem dJ6_bitCount_0f7a4_26 : decode cJ6_bitCount_0f7a4 26 = .ok (.iconst 4, 1) := by decide +kernel
theorem dJ6_bitCount_0f7a4_27 : decode cJ6_bitCount_0f7a4 27 = .ok (.iushr, 1) := by decide +kernel
theorem dJ6_bitCount_0f7a4_28 : decode cJ6_bitCount_0f7a4 28 = .ok (.iadd, 1) := by decide +kernel
theorem dJ6_bitCount_0f7a4_29 : decode cJ6_bitCount_0f7a4 29 = .ok (.ldc_w 267, 3) := by decide +kernel
theorem dJ6_bitCount_0f7a4_32 : decode cJ6_bitCount_0f7a4 32 = .ok (.iand, 1) := by decide +kernel
theorem dJ6_bitCount_0f7a4_33 : decode cJ6_bitCount_0f7a4 33 = .ok (.istore_n 0, 1) := by decide +kernel
theorem dJ6_bitCount_0f7a4_34 : decode cJ6_bitCount_0f7a4 34 = .ok (.iload_n 0, 1) := by decide +kernel
theorem dJ6_bitCount_0f7a4_35 : decode cJ6_bitCount_0f7a4 35 = .ok (.iload_n 0, 1) := by decide +kernel
theorem dJ6_bitCount_0f7a4_36 : decode cJ6_bitCount_0f7a4 36 = .ok (.bipush 8, 2) := by decide +kernel
theorem dJ6_bitCount_0f7a4_38 : decode cJ6_bitCount_0f7a4 38 = .ok (.iushr, 1) := by decide +kernel
theorem dJ6_bitCount_0f7a4_39 : decode cJ6_bitCount_0f7a4 39 = .ok (.iadd, 1) := by decide +kernel
theorem dJ6_bitCount_0f7a4_40 : decode cJ6_bitCount_0f7a4 40 = .ok (.istore_n 0, 1) := by decide +kernel
theorem dJ6_bitCount_0f7a4_41 : decode cJ6_bitCount_0f7a4 41 = .ok (.iload_n 0, 1) := by decide +kernel
theorem dJ6_bitCount_0f7a4_42 : decode cJ6_bitCount_0f7a4 42 = .ok (.iload_n 0, 1) := by decide +kernel
theorem dJ6_bitCount_0f7a4_43 : decode cJ6_bitCount_0f7a4 43 = .ok (.bipush 16, 2) := by decide +kernel
theorem dJ6_bitCount_0f7a4_45 : decode cJ6_bitCount_0f7a4 45 = .ok (.iushr, 1) := by decide +kernel
theorem dJ6_bitCount_0f7a4_46 : decode cJ6_bitCount_0f7a4 46 = .ok (.iadd, 1) := by decide +kernel
theorem dJ6_bitCount_0f7a4_47 : decode cJ6_bitCount_0f7a4 47 = .ok (.istore_n 0, 1) := by decide +kernel
theorem dJ6_bitCount_0f7a4_48 : decode cJ6_bitCount_0f7a4 48 = .ok (.iload_n 0, 1) := by decide +kernel
theorem dJ6_bitCount_0f7a4_49 : decode cJ6_bitCount_0f7a4 49 = .ok (.bipush 63, 2) := by decide +kernel
theorem dJ6_bitCount_0f7a4_51 : decode cJ6_bitCount_0f7a4 51 = .ok (.iand, 1) := by decide +kernel
theorem dJ6_bitCount_0f7a4_52 : decode cJ6_bitCount_0f7a4 52 = .ok (.ireturn, 1) := by decide +kernel
theorem dJ9_max_7cf53_0 : decode cJ9_max_7cf53 0 = .ok (.iload_n 0, 1) := by decide +kernel
theorem dJ9_max_7cf53_1 : decode cJ9_max_7cf53 1 = .ok (.iload_n 1, 1) := by decide +kernel
theorem dJ9_max_7cf53_2 : decode cJ9_max_7cf53 2 = .ok (.if_icmp .lt 7, 3) := by decide +kernel
theorem dJ9_max_7cf53_5 : decode cJ9_max_7cf53 5 = .ok (.iload_n 0, 1) := by decide +kernel
theorem dJ9_max_7cf53_6 : decode cJ9_max_7cf53 6 = .ok (.goto 4, 3) := by decide +kernel
theorem dJ9_max_7cf53_9 : decode cJ9_max_7cf53 9 = .ok (.iload_n 1, 1) := by decide +kernel
theorem dJ9_max_7cf53_10 : decode cJ9_max_7cf53 10 = .ok (.ireturn, 1) := by decide +kernel
theorem dJ9_min_7cf53_0 : decode cJ9_min_7cf53 0 = .ok (.iload_n 0, 1) := by decide +kernel
theorem dJ9_min_7cf53_1 : decode cJ9_min_7cf53 1 = .ok (.iload_n 1, 1) := by decide +kernel
theorem dJ9_min_7cf53_2 : decode cJ9_min_7cf53 2 = .ok (.if_icmp .gt 7, 3) := by decide +kernel
theorem dJ9_min_7cf53_5 : decode cJ9_min_7cf53 5 = .ok (.iload_n 0, 1) := by decide +kernel
theorem dJ9_min_7cf53_6 : decode cJ9_min_7cf53 6 = .ok (.goto 4, 3) := by decide +kernel
theorem dJ9_min_7cf53_9 : decode cJ9_min_7cf53 9 = .ok (.iload_n 1, 1) := by decide +kernel
theorem dJ9_min_7cf53_10 : decode cJ9_min_7cf53 10 = .ok (.ireturn, 1) := by decide +kernel
