theorem dX0_init_0 : decode cX0_init 0 = .ok (.aload_n 0, 1) := by decide +kernel
theorem dX0_init_1 : decode cX0_init 1 = .ok (.invokespecial 3, 3) := by decide +kernel
theorem dX0_init_4 : decode cX0_init 4 = .ok (.aload_n 0, 1) := by decide +kernel
theorem dX0_init_5 : decode cX0_init 5 = .ok (.new 9, 3) := by decide +kernel
theorem dX0_init_8 : decode cX0_init 8 = .ok (.dup, 1) := by decide +kernel
theorem dX0_init_9 : decode cX0_init 9 = .ok (.invokespecial 11, 3) := by decide +kernel
theorem dX0_init_12 : decode cX0_init 12 = .ok (.putfield 12, 3) := by decide +kernel
theorem dX0_init_15 : decode cX0_init 15 = .ok (.aload_n 0, 1) := by decide +kernel
theorem dX0_init_16 : decode cX0_init 16 = .ok (.new 9, 3) := by decide +kernel
theorem dX0_init_19 : decode cX0_init 19 = .ok (.dup, 1) := by decide +kernel
theorem dX0_init_20 : decode cX0_init 20 = .ok (.invokespecial 11, 3) := by decide +kernel
theorem dX0_init_23 : decode cX0_init 23 = .ok (.putfield 18, 3) := by decide +kernel
theorem dX0_init_26 : decode cX0_init 26 = .ok (.aload_n 0, 1) := by decide +kernel
theorem dX0_init_27 : decode cX0_init 27 = .ok (.bipush 8, 2) := by decide +kernel
theorem dX0_init_29 : decode cX0_init 29 = .ok (.newarray .int, 2) := by decide +kernel
theorem dX0_init_31 : decode cX0_init 31 = .ok (.putfield 21, 3) := by decide +kernel
theorem dX0_init_34 : decode cX0_init 34 = .ok (.aload_n 0, 1) := by decide +kernel
theorem dX0_init_35 : decode cX0_init 35 = .ok (.bipush 8, 2) := by decide +kernel
theorem dX0_init_37 : decode cX0_init 37 = .ok (.newarray .int, 2) := by decide +kernel
theorem dX0_init_39 : decode cX0_init 39 = .ok (.putfield 25, 3) := by decide +kernel
theorem dX0_init_42 : decode cX0_init 42 = .ok (.return_, 1) := by decide +kernel
theorem dX0_run_0 : decode cX0_run 0 = .ok (.aload_n 0, 1) := by decide +kernel
theorem dX0_run_1 : decode cX0_run 1 = .ok (.getfield 12, 3) := by decide +kernel
theorem dX0_run_4 : decode cX0_run 4 = .ok (.aload_n 1, 1) := by decide +kernel
theorem dX0_run_5 : decode cX0_run 5 = .ok (.invokevirtual 28, 3) := by decide +kernel
theorem dX0_run_8 : decode cX0_run 8 = .ok (.aload_n 0, 1) := by decide +kernel
theorem dX0_run_9 : decode cX0_run 9 = .ok (.getfield 18, 3) := by decide +kernel
theorem dX0_run_12 : decode cX0_run 12 = .ok (.aload_n 2, 1) := by decide +kernel
theorem dX0_run_13 : decode cX0_run 13 = .ok (.invokevirtual 28, 3) := by decide +kernel
theorem dX0_run_16 : decode cX0_run 16 = .ok (.iconst 0, 1) := by decide +kernel
theorem dX0_run_17 : decode cX0_run 17 = .ok (.istore_n 3, 1) := by decide +kernel
theorem dX0_run_18 : decode cX0_run 18 = .ok (.iload_n 3, 1) := by decide +kernel
theorem dX0_run_19 : decode cX0_run 19 = .ok (.bipush 8, 2) := by decide +kernel
theorem dX0_run_21 : decode cX0_run 21 = .ok (.if_icmp .ge 23, 3) := by decide +kernel
theorem dX0_run_24 : decode cX0_run 24 = .ok (.aload_n 0, 1) := by decide +kernel
theorem dX0_run_25 : decode cX0_run 25 = .ok (.getfield 21, 3) := by decide +kernel
theorem dX0_run_28 : decode cX0_run 28 = .ok (.iload_n 3, 1) := by decide +kernel
theorem dX0_run_29 : decode cX0_run 29 = .ok (.iconst (-1), 1) := by decide +kernel
theorem dX0_run_30 : decode cX0_run 30 = .ok (.iastore, 1) := by decide +kernel
theorem dX0_run_31 : decode cX0_run 31 = .ok (.aload_n 0, 1) := by decide +kernel
theorem dX0_run_32 : decode cX0_run 32 = .ok (.getfield 25, 3) := by decide +kernel
theorem dX0_run_35 : decode cX0_run 35 = .ok (.iload_n 3, 1) := by decide +kernel
theorem dX0_run_36 : decode cX0_run 36 = .ok (.iconst (-1), 1) := by decide +kernel
theorem dX0_run_37 : decode cX0_run 37 = .ok (.iastore, 1) := by decide +kernel
theorem dX0_run_38 : decode cX0_run 38 = .ok (.iinc 3 1, 3) := by decide +kernel
theorem dX0_run_41 : decode cX0_run 41 = .ok (.goto (-23), 3) := by decide +kernel
theorem dX0_run_44 : decode cX0_run 44 = .ok (.iconst 4, 1) := by decide +kernel
theorem dX0_run_45 : decode cX0_run 45 = .ok (.istore_n 3, 1) := by decide +kernel
theorem dX0_run_46 : decode cX0_run 46 = .ok (.iload_n 3, 1) := by decide +kernel
theorem dX0_run_47 : decode cX0_run 47 = .ok (.iconst 3, 1) := by decide +kernel
theorem dX0_run_48 : decode cX0_run 48 = .ok (.if_icmp .lt 14, 3) := by decide +kernel
theorem dX0_run_51 : decode cX0_run 51 = .ok (.aload_n 0, 1) := by decide +kernel
theorem dX0_run_52 : decode cX0_run 52 = .ok (.iload_n 3, 1) := by decide +kernel
theorem dX0_run_53 : decode cX0_run 53 = .ok (.invokevirtual 32, 3) := by decide +kernel
theorem dX0_run_56 : decode cX0_run 56 = .ok (.iinc 3 (-1), 3) := by decide +kernel
theorem dX0_run_59 : decode cX0_run 59 = .ok (.goto (-13), 3) := by decide +kernel
theorem dX0_run_62 : decode cX0_run 62 = .ok (.return_, 1) := by decide +kernel
theorem dX0_takeMoves_0 : decode cX0_takeMoves 0 = .ok (.iconst 0, 1) := by decide +kernel
theorem dX0_takeMoves_1 : decode cX0_takeMoves 1 = .ok (.istore_n 2, 1) := by decide +kernel
theorem dX0_takeMoves_2 : decode cX0_takeMoves 2 = .ok (.iload_n 2, 1) := by decide +kernel
theorem dX0_takeMoves_3 : decode cX0_takeMoves 3 = .ok (.bipush 8, 2) := by decide +kernel
theorem dX0_takeMoves_5 : decode cX0_takeMoves 5 = .ok (.if_icmp .ge 76, 3) := by decide +kernel
theorem dX0_takeMoves_8 : decode cX0_takeMoves 8 = .ok (.iconst 0, 1) := by decide +kernel
theorem dX0_takeMoves_9 : decode cX0_takeMoves 9 = .ok (.istore_n 3, 1) := by decide +kernel
theorem dX0_takeMoves_10 : decode cX0_takeMoves 10 = .ok (.iload_n 3, 1) := by decide +kernel
theorem dX0_takeMoves_11 : decode cX0_takeMoves 11 = .ok (.bipush 8, 2) := by decide +kernel
theorem dX0_takeMoves_13 : decode cX0_takeMoves 13 = .ok (.if_icmp .ge 62, 3) := by decide +kernel
theorem dX0_takeMoves_16 : decode cX0_takeMoves 16 = .ok (.aload_n 0, 1) := by decide +kernel
theorem dX0_takeMoves_17 : decode cX0_takeMoves 17 = .ok (.iload_n 2, 1) := by decide +kernel
theorem dX0_takeMoves_18 : decode cX0_takeMoves 18 = .ok (.invokevirtual 36, 3) := by decide +kernel
theorem dX0_takeMoves_21 : decode cX0_takeMoves 21 = .ok (.ifCond .eq 54, 3) := by decide +kernel
theorem dX0_takeMoves_24 : decode cX0_takeMoves 24 = .ok (.aload_n 0, 1) := by decide +kernel
theorem dX0_takeMoves_25 : decode cX0_takeMoves 25 = .ok (.iload_n 3, 1) := by decide +kernel
theorem dX0_takeMoves_26 : decode cX0_takeMoves 26 = .ok (.invokevirtual 40, 3) := by decide +kernel
theorem dX0_takeMoves_29 : decode cX0_takeMoves 29 = .ok (.ifCond .eq 40, 3) := by decide +kernel
theorem dX0_takeMoves_32 : decode cX0_takeMoves 32 = .ok (.aload_n 0, 1) := by decide +kernel
theorem dX0_takeMoves_33 : decode cX0_takeMoves 33 = .ok (.getfield 12, 3) := by decide +kernel
theorem dX0_takeMoves_36 : decode cX0_takeMoves 36 = .ok (.iload_n 2, 1) := by decide +kernel
theorem dX0_takeMoves_37 : decode cX0_takeMoves 37 = .ok (.invokevirtual 43, 3) := by decide +kernel
theorem dX0_takeMoves_40 : decode cX0_takeMoves 40 = .ok (.aload_n 0, 1) := by decide +kernel
theorem dX0_takeMoves_41 : decode cX0_takeMoves 41 = .ok (.getfield 18, 3) := by decide +kernel
theorem dX0_takeMoves_44 : decode cX0_takeMoves 44 = .ok (.iload_n 3, 1) := by decide +kernel
theorem dX0_takeMoves_45 : decode cX0_takeMoves 45 = .ok (.invokevirtual 43, 3) := by decide +kernel
theorem dX0_takeMoves_48 : decode cX0_takeMoves 48 = .ok (.invokestatic 47, 3) := by decide +kernel
theorem dX0_takeMoves_51 : decode cX0_takeMoves 51 = .ok (.iload_n 1, 1) := by decide +kernel
theorem dX0_takeMoves_52 : decode cX0_takeMoves 52 = .ok (.if_icmp .ne 17, 3) := by decide +kernel
theorem dX0_takeMoves_55 : decode cX0_takeMoves 55 = .ok (.aload_n 0, 1) := by decide +kernel
theorem dX0_takeMoves_56 : decode cX0_takeMoves 56 = .ok (.getfield 21, 3) := by decide +kernel
theorem dX0_takeMoves_59 : decode cX0_takeMoves 59 = .ok (.iload_n 2, 1) := by decide +kernel
theorem dX0_takeMoves_60 : decode cX0_takeMoves 60 = .ok (.iload_n 3, 1) := by decide +kernel
theorem dX0_takeMoves_61 : decode cX0_takeMoves 61 = .ok (.iastore, 1) := by decide +kernel
theorem dX0_takeMoves_62 : decode cX0_takeMoves 62 = .ok (.aload_n 0, 1) := by decide +kernel
theorem dX0_takeMoves_63 : decode cX0_takeMoves 63 = .ok (.getfield 25, 3) := by decide +kernel
theorem dX0_takeMoves_66 : decode cX0_takeMoves 66 = .ok (.iload_n 3, 1) := by decide +kernel
theorem dX0_takeMoves_67 : decode cX0_takeMoves 67 = .ok (.iload_n 2, 1) := by decide +kernel
theorem dX0_takeMoves_68 : decode cX0_takeMoves 68 = .ok (.iastore, 1) := by decide +kernel
theorem dX0_takeMoves_69 : decode cX0_takeMoves 69 = .ok (.iinc 3 1, 3) := by decide +kernel
theorem dX0_takeMoves_72 : decode cX0_takeMoves 72 = .ok (.goto (-62), 3) := by decide +kernel
theorem dX0_takeMoves_75 : decode cX0_takeMoves 75 = .ok (.iinc 2 1, 3) := by decide +kernel
theorem dX0_takeMoves_78 : decode cX0_takeMoves 78 = .ok (.goto (-76), 3) := by decide +kernel
theorem dX0_takeMoves_81 : decode cX0_takeMoves 81 = .ok (.return_, 1) := by decide +kernel
theorem dX0_isFreeToLeave_0 : decode cX0_isFreeToLeave 0 = .ok (.aload_n 0, 1) := by decide +kernel
theorem dX0_isFreeToLeave_1 : decode cX0_isFreeToLeave 1 = .ok (.getfield 12, 3) := by decide +kernel
theorem dX0_isFreeToLeave_4 : decode cX0_isFreeToLeave 4 = .ok (.iload_n 1, 1) := by decide +kernel
theorem dX0_isFreeToLeave_5 : decode cX0_isFreeToLeave 5 = .ok (.invokevirtual 43, 3) := by decide +kernel
theorem dX0_isFreeToLeave_8 : decode cX0_isFreeToLeave 8 = .ok (.iconst (-1), 1) := by decide +kernel
theorem dX0_isFreeToLeave_9 : decode cX0_isFreeToLeave 9 = .ok (.if_icmp .eq 28, 3) := by decide +kernel
theorem dX0_isFreeToLeave_12 : decode cX0_isFreeToLeave 12 = .ok (.aload_n 0, 1) := by decide +kernel
theorem dX0_isFreeToLeave_13 : decode cX0_isFreeToLeave 13 = .ok (.getfield 18, 3) := by decide +kernel
theorem dX0_isFreeToLeave_16 : decode cX0_isFreeToLeave 16 = .ok (.iload_n 1, 1) := by decide +kernel
theorem dX0_isFreeToLeave_17 : decode cX0_isFreeToLeave 17 = .ok (.invokevirtual 43, 3) := by decide +kernel
theorem dX0_isFreeToLeave_20 : decode cX0_isFreeToLeave 20 = .ok (.iconst (-1), 1) := by decide +kernel
theorem dX0_isFreeToLeave_21 : decode cX0_isFreeToLeave 21 = .ok (.if_icmp .ne 16, 3) := by decide +kernel
theorem dX0_isFreeToLeave_24 : decode cX0_isFreeToLeave 24 = .ok (.aload_n 0, 1) := by decide +kernel
theorem dX0_isFreeToLeave_25 : decode cX0_isFreeToLeave 25 = .ok (.iload_n 1, 1) := by decide +kernel
theorem dX0_isFreeToLeave_26 : decode cX0_isFreeToLeave 26 = .ok (.invokevirtual 53, 3) := by decide +kernel
theorem dX0_isFreeToLeave_29 : decode cX0_isFreeToLeave 29 = .ok (.iconst (-1), 1) := by decide +kernel
theorem dX0_isFreeToLeave_30 : decode cX0_isFreeToLeave 30 = .ok (.if_icmp .ne 7, 3) := by decide +kernel
theorem dX0_isFreeToLeave_33 : decode cX0_isFreeToLeave 33 = .ok (.iconst 1, 1) := by decide +kernel
theorem dX0_isFreeToLeave_34 : decode cX0_isFreeToLeave 34 = .ok (.goto 4, 3) := by decide +kernel
theorem dX0_isFreeToLeave_37 : decode cX0_isFreeToLeave 37 = .ok (.iconst 0, 1) := by decide +kernel
theorem dX0_isFreeToLeave_38 : decode cX0_isFreeToLeave 38 = .ok (.ireturn, 1) := by decide +kernel
theorem dX0_isFreeToCome_0 : decode cX0_isFreeToCome 0 = .ok (.aload_n 0, 1) := by decide +kernel
theorem dX0_isFreeToCome_1 : decode cX0_isFreeToCome 1 = .ok (.getfield 12, 3) := by decide +kernel
theorem dX0_isFreeToCome_4 : decode cX0_isFreeToCome 4 = .ok (.iload_n 1, 1) := by decide +kernel
theorem dX0_isFreeToCome_5 : decode cX0_isFreeToCome 5 = .ok (.invokevirtual 43, 3) := by decide +kernel
theorem dX0_isFreeToCome_8 : decode cX0_isFreeToCome 8 = .ok (.iconst (-1), 1) := by decide +kernel
theorem dX0_isFreeToCome_9 : decode cX0_isFreeToCome 9 = .ok (.if_icmp .ne 28, 3) := by decide +kernel
theorem dX0_isFreeToCome_12 : decode cX0_isFreeToCome 12 = .ok (.aload_n 0, 1) := by decide +kernel
theorem dX0_isFreeToCome_13 : decode cX0_isFreeToCome 13 = .ok (.getfield 18, 3) := by decide +kernel
theorem dX0_isFreeToCome_16 : decode cX0_isFreeToCome 16 = .ok (.iload_n 1, 1) := by decide +kernel
theorem dX0_isFreeToCome_17 : decode cX0_isFreeToCome 17 = .ok (.invokevirtual 43, 3) := by decide +kernel
theorem dX0_isFreeToCome_20 : decode cX0_isFreeToCome 20 = .ok (.iconst (-1), 1) := by decide +kernel
theorem dX0_isFreeToCome_21 : decode cX0_isFreeToCome 21 = .ok (.if_icmp .eq 16, 3) := by decide +kernel
theorem dX0_isFreeToCome_24 : decode cX0_isFreeToCome 24 = .ok (.aload_n 0, 1) := by decide +kernel
theorem dX0_isFreeToCome_25 : decode cX0_isFreeToCome 25 = .ok (.iload_n 1, 1) := by decide +kernel
theorem dX0_isFreeToCome_26 : decode cX0_isFreeToCome 26 = .ok (.invokevirtual 56, 3) := by decide +kernel
theorem dX0_isFreeToCome_29 : decode cX0_isFreeToCome 29 = .ok (.iconst (-1), 1) := by decide +kernel
theorem dX0_isFreeToCome_30 : decode cX0_isFreeToCome 30 = .ok (.if_icmp .ne 7, 3) := by decide +kernel
theorem dX0_isFreeToCome_33 : decode cX0_isFreeToCome 33 = .ok (.iconst 1, 1) := by decide +kernel
theorem dX0_isFreeToCome_34 : decode cX0_isFreeToCome 34 = .ok (.goto 4, 3) := by decide +kernel
theorem dX0_isFreeToCome_37 : decode cX0_isFreeToCome 37 = .ok (.iconst 0, 1) := by decide +kernel
theorem dX0_isFreeToCome_38 : decode cX0_isFreeToCome 38 = .ok (.ireturn, 1) := by decide +kernel
theorem dX0_target_0 : decode cX0_target 0 = .ok (.iload_n 1, 1) := by decide +kernel
theorem dX0_target_1 : decode cX0_target 1 = .ok (.ifCond .lt 21, 3) := by decide +kernel
theorem dX0_target_4 : decode cX0_target 4 = .ok (.iload_n 1, 1) := by decide +kernel
theorem dX0_target_5 : decode cX0_target 5 = .ok (.aload_n 0, 1) := by decide +kernel
theorem dX0_target_6 : decode cX0_target 6 = .ok (.getfield 21, 3) := by decide +kernel
theorem dX0_target_9 : decode cX0_target 9 = .ok (.arraylength, 1) := by decide +kernel
theorem dX0_target_10 : decode cX0_target 10 = .ok (.if_icmp .ge 12, 3) := by decide +kernel
theorem dX0_target_13 : decode cX0_target 13 = .ok (.aload_n 0, 1) := by decide +kernel
theorem dX0_target_14 : decode cX0_target 14 = .ok (.getfield 21, 3) := by decide +kernel
theorem dX0_target_17 : decode cX0_target 17 = .ok (.iload_n 1, 1) := by decide +kernel
theorem dX0_target_18 : decode cX0_target 18 = .ok (.iaload, 1) := by decide +kernel
theorem dX0_target_19 : decode cX0_target 19 = .ok (.goto 4, 3) := by decide +kernel
theorem dX0_target_22 : decode cX0_target 22 = .ok (.iconst (-1), 1) := by decide +kernel
theorem dX0_target_23 : decode cX0_target 23 = .ok (.ireturn, 1) := by decide +kernel
theorem dX0_source_0 : decode cX0_source 0 = .ok (.iload_n 1, 1) := by decide +kernel
theorem dX0_source_1 : decode cX0_source 1 = .ok (.ifCond .lt 21, 3) := by decide +kernel
theorem dX0_source_4 : decode cX0_source 4 = .ok (.iload_n 1, 1) := by decide +kernel
theorem dX0_source_5 : decode cX0_source 5 = .ok (.aload_n 0, 1) := by decide +kernel
theorem dX0_source_6 : decode cX0_source 6 = .ok (.getfield 25, 3) := by decide +kernel
theorem dX0_source_9 : decode cX0_source 9 = .ok (.arraylength, 1) := by decide +kernel
theorem dX0_source_10 : decode cX0_source 10 = .ok (.if_icmp .ge 12, 3) := by decide +kernel
theorem dX0_source_13 : decode cX0_source 13 = .ok (.aload_n 0, 1) := by decide +kernel
theorem dX0_source_14 : decode cX0_source 14 = .ok (.getfield 25, 3) := by decide +kernel
theorem dX0_source_17 : decode cX0_source 17 = .ok (.iload_n 1, 1) := by decide +kernel
theorem dX0_source_18 : decode cX0_source 18 = .ok (.iaload, 1) := by decide +kernel
theorem dX0_source_19 : decode cX0_source 19 = .ok (.goto 4, 3) := by decide +kernel
theorem dX0_source_22 : decode cX0_source 22 = .ok (.iconst (-1), 1) := by decide +kernel
theorem dX0_source_23 : decode cX0_source 23 = .ok (.ireturn, 1) := by decide +kernel
theorem dX0_contentBefore_0 : decode cX0_contentBefore 0 = .ok (.aload_n 0, 1) := by decide +kernel
theorem dX0_contentBefore_1 : decode cX0_contentBefore 1 = .ok (.getfield 12, 3) := by decide +kernel
theorem dX0_contentBefore_4 : decode cX0_contentBefore 4 = .ok (.iload_n 1, 1) := by decide +kernel
theorem dX0_contentBefore_5 : decode cX0_contentBefore 5 = .ok (.invokevirtual 43, 3) := by decide +kernel
theorem dX0_contentBefore_8 : decode cX0_contentBefore 8 = .ok (.ireturn, 1) := by decide +kernel
theorem dX0_contentAfter_0 : decode cX0_contentAfter 0 = .ok (.aload_n 0, 1) := by decide +kernel
theorem dX0_contentAfter_1 : decode cX0_contentAfter 1 = .ok (.getfield 18, 3) := by decide +kernel
theorem dX0_contentAfter_4 : decode cX0_contentAfter 4 = .ok (.iload_n 1, 1) := by decide +kernel
theorem dX0_contentAfter_5 : decode cX0_contentAfter 5 = .ok (.invokevirtual 43, 3) := by decide +kernel
theorem dX0_contentAfter_8 : decode cX0_contentAfter 8 = .ok (.ireturn, 1) := by decide +kernel
theorem dX0_placeOf_0 : decode cX0_placeOf 0 = .ok (.aload_n 0, 1) := by decide +kernel
theorem dX0_placeOf_1 : decode cX0_placeOf 1 = .ok (.getfield 18, 3) := by decide +kernel
theorem dX0_placeOf_4 : decode cX0_placeOf 4 = .ok (.iload_n 1, 1) := by decide +kernel
theorem dX0_placeOf_5 : decode cX0_placeOf 5 = .ok (.invokevirtual 43, 3) := by decide +kernel
theorem dX0_placeOf_8 : decode cX0_placeOf 8 = .ok (.iconst (-1), 1) := by decide +kernel
theorem dX0_placeOf_9 : decode cX0_placeOf 9 = .ok (.if_icmp .eq 7, 3) := by decide +kernel
theorem dX0_placeOf_12 : decode cX0_placeOf 12 = .ok (.iload_n 1, 1) := by decide +kernel
theorem dX0_placeOf_13 : decode cX0_placeOf 13 = .ok (.goto 8, 3) := by decide +kernel
theorem dX0_placeOf_16 : decode cX0_placeOf 16 = .ok (.aload_n 0, 1) := by decide +kernel
theorem dX0_placeOf_17 : decode cX0_placeOf 17 = .ok (.iload_n 1, 1) := by decide +kernel
theorem dX0_placeOf_18 : decode cX0_placeOf 18 = .ok (.invokevirtual 53, 3) := by decide +kernel
theorem dX0_placeOf_21 : decode cX0_placeOf 21 = .ok (.ireturn, 1) := by decide +kernel
theorem dX0_isNowhereOrUnchanged_0 : decode cX0_isNowhereOrUnchanged 0 = .ok (.aload_n 0, 1) := by decide +kernel
theorem dX0_isNowhereOrUnchanged_1 : decode cX0_isNowhereOrUnchanged 1 = .ok (.iload_n 1, 1) := by decide +kernel
theorem dX0_isNowhereOrUnchanged_2 : decode cX0_isNowhereOrUnchanged 2 = .ok (.invokevirtual 59, 3) := by decide +kernel
theorem dX0_isNowhereOrUnchanged_5 : decode cX0_isNowhereOrUnchanged 5 = .ok (.iconst (-1), 1) := by decide +kernel
theorem dX0_isNowhereOrUnchanged_6 : decode cX0_isNowhereOrUnchanged 6 = .ok (.if_icmp .eq 22, 3) := by decide +kernel
theorem dX0_isNowhereOrUnchanged_9 : decode cX0_isNowhereOrUnchanged 9 = .ok (.aload_n 0, 1) := by decide +kernel
theorem dX0_isNowhereOrUnchanged_10 : decode cX0_isNowhereOrUnchanged 10 = .ok (.getfield 18, 3) := by decide +kernel
theorem dX0_isNowhereOrUnchanged_13 : decode cX0_isNowhereOrUnchanged 13 = .ok (.iload_n 1, 1) := by decide +kernel
theorem dX0_isNowhereOrUnchanged_14 : decode cX0_isNowhereOrUnchanged 14 = .ok (.invokevirtual 43, 3) := by decide +kernel
theorem dX0_isNowhereOrUnchanged_17 : decode cX0_isNowhereOrUnchanged 17 = .ok (.aload_n 0, 1) := by decide +kernel
theorem dX0_isNowhereOrUnchanged_18 : decode cX0_isNowhereOrUnchanged 18 = .ok (.getfield 12, 3) := by decide +kernel
theorem dX0_isNowhereOrUnchanged_21 : decode cX0_isNowhereOrUnchanged 21 = .ok (.iload_n 1, 1) := by decide +kernel
theorem dX0_isNowhereOrUnchanged_22 : decode cX0_isNowhereOrUnchanged 22 = .ok (.invokevirtual 43, 3) := by decide +kernel
theorem dX0_isNowhereOrUnchanged_25 : decode cX0_isNowhereOrUnchanged 25 = .ok (.if_icmp .ne 7, 3) := by decide +kernel
theorem dX0_isNowhereOrUnchanged_28 : decode cX0_isNowhereOrUnchanged 28 = .ok (.iconst 1, 1) := by decide +kernel
theorem dX0_isNowhereOrUnchanged_29 : decode cX0_isNowhereOrUnchanged 29 = .ok (.goto 4, 3) := by decide +kernel
theorem dX0_isNowhereOrUnchanged_32 : decode cX0_isNowhereOrUnchanged 32 = .ok (.iconst 0, 1) := by decide +kernel
theorem dX0_isNowhereOrUnchanged_33 : decode cX0_isNowhereOrUnchanged 33 = .ok (.ireturn, 1) := by decide +kernel
theorem dX0_newContentAt_0 : decode cX0_newContentAt 0 = .ok (.aload_n 0, 1) := by decide +kernel
theorem dX0_newContentAt_1 : decode cX0_newContentAt 1 = .ok (.iload_n 1, 1) := by decide +kernel
theorem dX0_newContentAt_2 : decode cX0_newContentAt 2 = .ok (.invokevirtual 40, 3) := by decide +kernel
theorem dX0_newContentAt_5 : decode cX0_newContentAt 5 = .ok (.ifCond .eq 14, 3) := by decide +kernel
theorem dX0_newContentAt_8 : decode cX0_newContentAt 8 = .ok (.aload_n 0, 1) := by decide +kernel
theorem dX0_newContentAt_9 : decode cX0_newContentAt 9 = .ok (.getfield 18, 3) := by decide +kernel
theorem dX0_newContentAt_12 : decode cX0_newContentAt 12 = .ok (.iload_n 1, 1) := by decide +kernel
theorem dX0_newContentAt_13 : decode cX0_newContentAt 13 = .ok (.invokevirtual 43, 3) := by decide +kernel
theorem dX0_newContentAt_16 : decode cX0_newContentAt 16 = .ok (.goto 4, 3) := by decide +kernel
theorem dX0_newContentAt_19 : decode cX0_newContentAt 19 = .ok (.iconst (-1), 1) := by decide +kernel
theorem dX0_newContentAt_20 : decode cX0_newContentAt 20 = .ok (.ireturn, 1) := by decide +kernel
theorem dX1_init_0 : decode cX1_init 0 = .ok (.aload_n 0, 1) := by decide +kernel
theorem dX1_init_1 : decode cX1_init 1 = .ok (.invokespecial 3, 3) := by decide +kernel
theorem dX1_init_4 : decode cX1_init 4 = .ok (.aload_n 0, 1) := by decide +kernel
theorem dX1_init_5 : decode cX1_init 5 = .ok (.bipush 60, 2) := by decide +kernel
theorem dX1_init_7 : decode cX1_init 7 = .ok (.anewarray 9, 3) := by decide +kernel
theorem dX1_init_10 : decode cX1_init 10 = .ok (.putfield 11, 3) := by decide +kernel
theorem dX1_init_13 : decode cX1_init 13 = .ok (.aload_n 0, 1) := by decide +kernel
theorem dX1_init_14 : decode cX1_init 14 = .ok (.new 9, 3) := by decide +kernel
theorem dX1_init_17 : decode cX1_init 17 = .ok (.dup, 1) := by decide +kernel
theorem dX1_init_18 : decode cX1_init 18 = .ok (.invokespecial 17, 3) := by decide +kernel
theorem dX1_init_21 : decode cX1_init 21 = .ok (.putfield 18, 3) := by decide +kernel
theorem dX1_init_24 : decode cX1_init 24 = .ok (.aload_n 0, 1) := by decide +kernel
theorem dX1_init_25 : decode cX1_init 25 = .ok (.bipush 60, 2) := by decide +kernel
theorem dX1_init_27 : decode cX1_init 27 = .ok (.newarray .int, 2) := by decide +kernel
theorem dX1_init_29 : decode cX1_init 29 = .ok (.putfield 22, 3) := by decide +kernel
theorem dX1_init_32 : decode cX1_init 32 = .ok (.aload_n 0, 1) := by decide +kernel
theorem dX1_init_33 : decode cX1_init 33 = .ok (.bipush 60, 2) := by decide +kernel
theorem dX1_init_35 : decode cX1_init 35 = .ok (.newarray .int, 2) := by decide +kernel
theorem dX1_init_37 : decode cX1_init 37 = .ok (.putfield 26, 3) := by decide +kernel
theorem dX1_init_40 : decode cX1_init 40 = .ok (.aload_n 0, 1) := by decide +kernel
theorem dX1_init_41 : decode cX1_init 41 = .ok (.bipush 60, 2) := by decide +kernel
theorem dX1_init_43 : decode cX1_init 43 = .ok (.newarray .int, 2) := by decide +kernel
theorem dX1_init_45 : decode cX1_init 45 = .ok (.putfield 29, 3) := by decide +kernel
theorem dX1_init_48 : decode cX1_init 48 = .ok (.aload_n 0, 1) := by decide +kernel
theorem dX1_init_49 : decode cX1_init 49 = .ok (.bipush 60, 2) := by decide +kernel
theorem dX1_init_51 : decode cX1_init 51 = .ok (.newarray .long, 2) := by decide +kernel
theorem dX1_init_53 : decode cX1_init 53 = .ok (.putfield 32, 3) := by decide +kernel
theorem dX1_init_56 : decode cX1_init 56 = .ok (.aload_n 0, 1) := by decide +kernel
theorem dX1_init_57 : decode cX1_init 57 = .ok (.bipush 60, 2) := by decide +kernel
theorem dX1_init_59 : decode cX1_init 59 = .ok (.newarray .int, 2) := by decide +kernel
theorem dX1_init_61 : decode cX1_init 61 = .ok (.putfield 36, 3) := by decide +kernel
theorem dX1_init_64 : decode cX1_init 64 = .ok (.iconst 0, 1) := by decide +kernel
theorem dX1_init_65 : decode cX1_init 65 = .ok (.istore_n 1, 1) := by decide +kernel
theorem dX1_init_66 : decode cX1_init 66 = .ok (.iload_n 1, 1) := by decide +kernel
theorem dX1_init_67 : decode cX1_init 67 = .ok (.bipush 60, 2) := by decide +kernel
theorem dX1_init_69 : decode cX1_init 69 = .ok (.if_icmp .ge 36, 3) := by decide +kernel
theorem dX1_init_72 : decode cX1_init 72 = .ok (.aload_n 0, 1) := by decide +kernel
theorem dX1_init_73 : decode cX1_init 73 = .ok (.getfield 11, 3) := by decide +kernel
theorem dX1_init_76 : decode cX1_init 76 = .ok (.iload_n 1, 1) := by decide +kernel
theorem dX1_init_77 : decode cX1_init 77 = .ok (.new 9, 3) := by decide +kernel
theorem dX1_init_80 : decode cX1_init 80 = .ok (.dup, 1) := by decide +kernel
theorem dX1_init_81 : decode cX1_init 81 = .ok (.invokespecial 17, 3) := by decide +kernel
theorem dX1_init_84 : decode cX1_init 84 = .ok (.aastore, 1) := by decide +kernel
theorem dX1_init_85 : decode cX1_init 85 = .ok (.aload_n 0, 1) := by decide +kernel
theorem dX1_init_86 : decode cX1_init 86 = .ok (.getfield 22, 3) := by decide +kernel
theorem dX1_init_89 : decode cX1_init 89 = .ok (.iload_n 1, 1) := by decide +kernel
theorem dX1_init_90 : decode cX1_init 90 = .ok (.iconst (-1), 1) := by decide +kernel
theorem dX1_init_91 : decode cX1_init 91 = .ok (.iastore, 1) := by decide +kernel
theorem dX1_init_92 : decode cX1_init 92 = .ok (.aload_n 0, 1) := by decide +kernel
theorem dX1_init_93 : decode cX1_init 93 = .ok (.getfield 26, 3) := by decide +kernel
theorem dX1_init_96 : decode cX1_init 96 = .ok (.iload_n 1, 1) := by decide +kernel
theorem dX1_init_97 : decode cX1_init 97 = .ok (.iconst (-1), 1) := by decide +kernel
theorem dX1_init_98 : decode cX1_init 98 = .ok (.iastore, 1) := by decide +kernel
theorem dX1_init_99 : decode cX1_init 99 = .ok (.iinc 1 1, 3) := by decide +kernel
theorem dX1_init_102 : decode cX1_init 102 = .ok (.goto (-36), 3) := by decide +kernel
theorem dX1_init_105 : decode cX1_init 105 = .ok (.aload_n 0, 1) := by decide +kernel
theorem dX1_init_106 : decode cX1_init 106 = .ok (.getfield 32, 3) := by decide +kernel
theorem dX1_init_109 : decode cX1_init 109 = .ok (.iconst 0, 1) := by decide +kernel
theorem dX1_init_110 : decode cX1_init 110 = .ok (.lconst 1, 1) := by decide +kernel
theorem dX1_init_111 : decode cX1_init 111 = .ok (.lastore, 1) := by decide +kernel
theorem dX1_init_112 : decode cX1_init 112 = .ok (.aload_n 0, 1) := by decide +kernel
theorem dX1_init_113 : decode cX1_init 113 = .ok (.iconst 1, 1) := by decide +kernel
theorem dX1_init_114 : decode cX1_init 114 = .ok (.putfield 39, 3) := by decide +kernel
theorem dX1_init_117 : decode cX1_init 117 = .ok (.return_, 1) := by decide +kernel
theorem dX1_size_0 : decode cX1_size 0 = .ok (.aload_n 0, 1) := by decide +kernel
theorem dX1_size_1 : decode cX1_size 1 = .ok (.getfield 39, 3) := by decide +kernel
theorem dX1_size_4 : decode cX1_size 4 = .ok (.ireturn, 1) := by decide +kernel
theorem dX1_has_0 : decode cX1_has 0 = .ok (.iload_n 1, 1) := by decide +kernel
theorem dX1_has_1 : decode cX1_has 1 = .ok (.ifCond .lt 15, 3) := by decide +kernel
theorem dX1_has_4 : decode cX1_has 4 = .ok (.iload_n 1, 1) := by decide +kernel
theorem dX1_has_5 : decode cX1_has 5 = .ok (.aload_n 0, 1) := by decide +kernel
theorem dX1_has_6 : decode cX1_has 6 = .ok (.getfield 39, 3) := by decide +kernel
theorem dX1_has_9 : decode cX1_has 9 = .ok (.if_icmp .ge 7, 3) := by decide +kernel
theorem dX1_has_12 : decode cX1_has 12 = .ok (.iconst 1, 1) := by decide +kernel
theorem dX1_has_13 : decode cX1_has 13 = .ok (.goto 4, 3) := by decide +kernel
theorem dX1_has_16 : decode cX1_has 16 = .ok (.iconst 0, 1) := by decide +kernel
theorem dX1_has_17 : decode cX1_has 17 = .ok (.ireturn, 1) := by decide +kernel
theorem dX1_treeOf_0 : decode cX1_treeOf 0 = .ok (.aload_n 0, 1) := by decide +kernel
theorem dX1_treeOf_1 : decode cX1_treeOf 1 = .ok (.iload_n 1, 1) := by decide +kernel
theorem dX1_treeOf_2 : decode cX1_treeOf 2 = .ok (.invokevirtual 43, 3) := by decide +kernel
theorem dX1_treeOf_5 : decode cX1_treeOf 5 = .ok (.ifCond .eq 12, 3) := by decide +kernel
theorem dX1_treeOf_8 : decode cX1_treeOf 8 = .ok (.aload_n 0, 1) := by decide +kernel
theorem dX1_treeOf_9 : decode cX1_treeOf 9 = .ok (.getfield 11, 3) := by decide +kernel
theorem dX1_treeOf_12 : decode cX1_treeOf 12 = .ok (.iload_n 1, 1) := by decide +kernel
theorem dX1_treeOf_13 : decode cX1_treeOf 13 = .ok (.aaload, 1) := by decide +kernel
theorem dX1_treeOf_14 : decode cX1_treeOf 14 = .ok (.goto 7, 3) := by decide +kernel
theorem dX1_treeOf_17 : decode cX1_treeOf 17 = .ok (.aload_n 0, 1) := by decide +kernel
theorem dX1_treeOf_18 : decode cX1_treeOf 18 = .ok (.getfield 18, 3) := by decide +kernel
theorem dX1_treeOf_21 : decode cX1_treeOf 21 = .ok (.astore_n 2, 1) := by decide +kernel
theorem dX1_treeOf_22 : decode cX1_treeOf 22 = .ok (.aload_n 2, 1) := by decide +kernel
theorem dX1_treeOf_23 : decode cX1_treeOf 23 = .ok (.ifnonnull 10, 3) := by decide +kernel
theorem dX1_treeOf_26 : decode cX1_treeOf 26 = .ok (.aload_n 0, 1) := by decide +kernel
theorem dX1_treeOf_27 : decode cX1_treeOf 27 = .ok (.getfield 18, 3) := by decide +kernel
theorem dX1_treeOf_30 : decode cX1_treeOf 30 = .ok (.goto 4, 3) := by decide +kernel
theorem dX1_treeOf_33 : decode cX1_treeOf 33 = .ok (.aload_n 2, 1) := by decide +kernel
theorem dX1_treeOf_34 : decode cX1_treeOf 34 = .ok (.areturn, 1) := by decide +kernel
theorem dX1_firstParent_0 : decode cX1_firstParent 0 = .ok (.aload_n 0, 1) := by decide +kernel
theorem dX1_firstParent_1 : decode cX1_firstParent 1 = .ok (.iload_n 1, 1) := by decide +kernel
theorem dX1_firstParent_2 : decode cX1_firstParent 2 = .ok (.invokevirtual 43, 3) := by decide +kernel
theorem dX1_firstParent_5 : decode cX1_firstParent 5 = .ok (.ifCond .eq 12, 3) := by decide +kernel
theorem dX1_firstParent_8 : decode cX1_firstParent 8 = .ok (.aload_n 0, 1) := by decide +kernel
theorem dX1_firstParent_9 : decode cX1_firstParent 9 = .ok (.getfield 22, 3) := by decide +kernel
theorem dX1_firstParent_12 : decode cX1_firstParent 12 = .ok (.iload_n 1, 1) := by decide +kernel
theorem dX1_firstParent_13 : decode cX1_firstParent 13 = .ok (.iaload, 1) := by decide +kernel
theorem dX1_firstParent_14 : decode cX1_firstParent 14 = .ok (.goto 4, 3) := by decide +kernel
theorem dX1_firstParent_17 : decode cX1_firstParent 17 = .ok (.iconst (-1), 1) := by decide +kernel
theorem dX1_firstParent_18 : decode cX1_firstParent 18 = .ok (.ireturn, 1) := by decide +kernel
theorem dX1_secondParent_0 : decode cX1_secondParent 0 = .ok (.aload_n 0, 1) := by decide +kernel
theorem dX1_secondParent_1 : decode cX1_secondParent 1 = .ok (.iload_n 1, 1) := by decide +kernel
theorem dX1_secondParent_2 : decode cX1_secondParent 2 = .ok (.invokevirtual 43, 3) := by decide +kernel
theorem dX1_secondParent_5 : decode cX1_secondParent 5 = .ok (.ifCond .eq 12, 3) := by decide +kernel
theorem dX1_secondParent_8 : decode cX1_secondParent 8 = .ok (.aload_n 0, 1) := by decide +kernel
theorem dX1_secondParent_9 : decode cX1_secondParent 9 = .ok (.getfield 26, 3) := by decide +kernel
theorem dX1_secondParent_12 : decode cX1_secondParent 12 = .ok (.iload_n 1, 1) := by decide +kernel
theorem dX1_secondParent_13 : decode cX1_secondParent 13 = .ok (.iaload, 1) := by decide +kernel
theorem dX1_secondParent_14 : decode cX1_secondParent 14 = .ok (.goto 4, 3) := by decide +kernel
theorem dX1_secondParent_17 : decode cX1_secondParent 17 = .ok (.iconst (-1), 1) := by decide +kernel
theorem dX1_secondParent_18 : decode cX1_secondParent 18 = .ok (.ireturn, 1) := by decide +kernel
theorem dX1_generationAt_0 : decode cX1_generationAt 0 = .ok (.aload_n 0, 1) := by decide +kernel
theorem dX1_generationAt_1 : decode cX1_generationAt 1 = .ok (.iload_n 1, 1) := by decide +kernel
theorem dX1_generationAt_2 : decode cX1_generationAt 2 = .ok (.invokevirtual 43, 3) := by decide +kernel
theorem dX1_generationAt_5 : decode cX1_generationAt 5 = .ok (.ifCond .eq 12, 3) := by decide +kernel
theorem dX1_generationAt_8 : decode cX1_generationAt 8 = .ok (.aload_n 0, 1) := by decide +kernel
theorem dX1_generationAt_9 : decode cX1_generationAt 9 = .ok (.getfield 29, 3) := by decide +kernel
theorem dX1_generationAt_12 : decode cX1_generationAt 12 = .ok (.iload_n 1, 1) := by decide +kernel
theorem dX1_generationAt_13 : decode cX1_generationAt 13 = .ok (.iaload, 1) := by decide +kernel
theorem dX1_generationAt_14 : decode cX1_generationAt 14 = .ok (.goto 4, 3) := by decide +kernel
theorem dX1_generationAt_17 : decode cX1_generationAt 17 = .ok (.iconst (-1), 1) := by decide +kernel
theorem dX1_generationAt_18 : decode cX1_generationAt 18 = .ok (.ireturn, 1) := by decide +kernel
theorem dX1_ancestorsAt_0 : decode cX1_ancestorsAt 0 = .ok (.aload_n 0, 1) := by decide +kernel
theorem dX1_ancestorsAt_1 : decode cX1_ancestorsAt 1 = .ok (.iload_n 1, 1) := by decide +kernel
theorem dX1_ancestorsAt_2 : decode cX1_ancestorsAt 2 = .ok (.invokevirtual 43, 3) := by decide +kernel
theorem dX1_ancestorsAt_5 : decode cX1_ancestorsAt 5 = .ok (.ifCond .eq 12, 3) := by decide +kernel
theorem dX1_ancestorsAt_8 : decode cX1_ancestorsAt 8 = .ok (.aload_n 0, 1) := by decide +kernel
theorem dX1_ancestorsAt_9 : decode cX1_ancestorsAt 9 = .ok (.getfield 32, 3) := by decide +kernel
theorem dX1_ancestorsAt_12 : decode cX1_ancestorsAt 12 = .ok (.iload_n 1, 1) := by decide +kernel
theorem dX1_ancestorsAt_13 : decode cX1_ancestorsAt 13 = .ok (.laload, 1) := by decide +kernel
theorem dX1_ancestorsAt_14 : decode cX1_ancestorsAt 14 = .ok (.goto 4, 3) := by decide +kernel
theorem dX1_ancestorsAt_17 : decode cX1_ancestorsAt 17 = .ok (.lconst 0, 1) := by decide +kernel
theorem dX1_ancestorsAt_18 : decode cX1_ancestorsAt 18 = .ok (.lreturn, 1) := by decide +kernel
theorem dX1_record_0 : decode cX1_record 0 = .ok (.aload_n 0, 1) := by decide +kernel
theorem dX1_record_1 : decode cX1_record 1 = .ok (.aload_n 1, 1) := by decide +kernel
theorem dX1_record_2 : decode cX1_record 2 = .ok (.iload_n 2, 1) := by decide +kernel
theorem dX1_record_3 : decode cX1_record 3 = .ok (.iload_n 3, 1) := by decide +kernel
theorem dX1_record_4 : decode cX1_record 4 = .ok (.invokevirtual 47, 3) := by decide +kernel
theorem dX1_record_7 : decode cX1_record 7 = .ok (.istore 4, 2) := by decide +kernel
theorem dX1_record_9 : decode cX1_record 9 = .ok (.iload 4, 2) := by decide +kernel
theorem dX1_record_11 : decode cX1_record 11 = .ok (.iconst (-1), 1) := by decide +kernel
theorem dX1_record_12 : decode cX1_record 12 = .ok (.if_icmp .ne 12, 3) := by decide +kernel
theorem dX1_record_15 : decode cX1_record 15 = .ok (.aload_n 0, 1) := by decide +kernel
theorem dX1_record_16 : decode cX1_record 16 = .ok (.getfield 39, 3) := by decide +kernel
theorem dX1_record_19 : decode cX1_record 19 = .ok (.bipush 60, 2) := by decide +kernel
theorem dX1_record_21 : decode cX1_record 21 = .ok (.if_icmp .lt 6, 3) := by decide +kernel
theorem dX1_record_24 : decode cX1_record 24 = .ok (.iload 4, 2) := by decide +kernel
theorem dX1_record_26 : decode cX1_record 26 = .ok (.ireturn, 1) := by decide +kernel
theorem dX1_record_27 : decode cX1_record 27 = .ok (.aload_n 0, 1) := by decide +kernel
theorem dX1_record_28 : decode cX1_record 28 = .ok (.getfield 39, 3) := by decide +kernel
theorem dX1_record_31 : decode cX1_record 31 = .ok (.istore 5, 2) := by decide +kernel
theorem dX1_record_33 : decode cX1_record 33 = .ok (.aload_n 0, 1) := by decide +kernel
theorem dX1_record_34 : decode cX1_record 34 = .ok (.dup, 1) := by decide +kernel
theorem dX1_record_35 : decode cX1_record 35 = .ok (.getfield 39, 3) := by decide +kernel
theorem dX1_record_38 : decode cX1_record 38 = .ok (.iconst 1, 1) := by decide +kernel
theorem dX1_record_39 : decode cX1_record 39 = .ok (.iadd, 1) := by decide +kernel
theorem dX1_record_40 : decode cX1_record 40 = .ok (.putfield 39, 3) := by decide +kernel
theorem dX1_record_43 : decode cX1_record 43 = .ok (.aload_n 0, 1) := by decide +kernel
theorem dX1_record_44 : decode cX1_record 44 = .ok (.iload 5, 2) := by decide +kernel
theorem dX1_record_46 : decode cX1_record 46 = .ok (.invokevirtual 51, 3) := by decide +kernel
theorem dX1_record_49 : decode cX1_record 49 = .ok (.aload_n 1, 1) := by decide +kernel
theorem dX1_record_50 : decode cX1_record 50 = .ok (.invokevirtual 55, 3) := by decide +kernel
theorem dX1_record_53 : decode cX1_record 53 = .ok (.aload_n 0, 1) := by decide +kernel
theorem dX1_record_54 : decode cX1_record 54 = .ok (.getfield 22, 3) := by decide +kernel
theorem dX1_record_57 : decode cX1_record 57 = .ok (.iload 5, 2) := by decide +kernel
theorem dX1_record_59 : decode cX1_record 59 = .ok (.iload_n 2, 1) := by decide +kernel
theorem dX1_record_60 : decode cX1_record 60 = .ok (.iastore, 1) := by decide +kernel
theorem dX1_record_61 : decode cX1_record 61 = .ok (.aload_n 0, 1) := by decide +kernel
theorem dX1_record_62 : decode cX1_record 62 = .ok (.getfield 26, 3) := by decide +kernel
theorem dX1_record_65 : decode cX1_record 65 = .ok (.iload 5, 2) := by decide +kernel
theorem dX1_record_67 : decode cX1_record 67 = .ok (.iload_n 3, 1) := by decide +kernel
theorem dX1_record_68 : decode cX1_record 68 = .ok (.iastore, 1) := by decide +kernel
theorem dX1_record_69 : decode cX1_record 69 = .ok (.aload_n 0, 1) := by decide +kernel
theorem dX1_record_70 : decode cX1_record 70 = .ok (.getfield 29, 3) := by decide +kernel
theorem dX1_record_73 : decode cX1_record 73 = .ok (.iload 5, 2) := by decide +kernel
theorem dX1_record_75 : decode cX1_record 75 = .ok (.iconst 1, 1) := by decide +kernel
theorem dX1_record_76 : decode cX1_record 76 = .ok (.aload_n 0, 1) := by decide +kernel
theorem dX1_record_77 : decode cX1_record 77 = .ok (.iload_n 2, 1) := by decide +kernel
theorem dX1_record_78 : decode cX1_record 78 = .ok (.invokevirtual 59, 3) := by decide +kernel
theorem dX1_record_81 : decode cX1_record 81 = .ok (.aload_n 0, 1) := by decide +kernel
theorem dX1_record_82 : decode cX1_record 82 = .ok (.iload_n 3, 1) := by decide +kernel
theorem dX1_record_83 : decode cX1_record 83 = .ok (.invokevirtual 59, 3) := by decide +kernel
theorem dX1_record_86 : decode cX1_record 86 = .ok (.invokestatic 63, 3) := by decide +kernel
theorem dX1_record_89 : decode cX1_record 89 = .ok (.iadd, 1) := by decide +kernel
theorem dX1_record_90 : decode cX1_record 90 = .ok (.iastore, 1) := by decide +kernel
theorem dX1_record_91 : decode cX1_record 91 = .ok (.aload_n 0, 1) := by decide +kernel
theorem dX1_record_92 : decode cX1_record 92 = .ok (.getfield 32, 3) := by decide +kernel
theorem dX1_record_95 : decode cX1_record 95 = .ok (.iload 5, 2) := by decide +kernel
theorem dX1_record_97 : decode cX1_record 97 = .ok (.aload_n 0, 1) := by decide +kernel
theorem dX1_record_98 : decode cX1_record 98 = .ok (.iload_n 2, 1) := by decide +kernel
theorem dX1_record_99 : decode cX1_record 99 = .ok (.invokevirtual 69, 3) := by decide +kernel
theorem dX1_record_102 : decode cX1_record 102 = .ok (.aload_n 0, 1) := by decide +kernel
theorem dX1_record_103 : decode cX1_record 103 = .ok (.iload_n 3, 1) := by decide +kernel
theorem dX1_record_104 : decode cX1_record 104 = .ok (.invokevirtual 69, 3) := by decide +kernel
theorem dX1_record_107 : decode cX1_record 107 = .ok (.lor, 1) := by decide +kernel
theorem dX1_record_108 : decode cX1_record 108 = .ok (.lconst 1, 1) := by decide +kernel
theorem dX1_record_109 : decode cX1_record 109 = .ok (.iload 5, 2) := by decide +kernel
theorem dX1_record_111 : decode cX1_record 111 = .ok (.lshl, 1) := by decide +kernel
theorem dX1_record_112 : decode cX1_record 112 = .ok (.lor, 1) := by decide +kernel
theorem dX1_record_113 : decode cX1_record 113 = .ok (.lastore, 1) := by decide +kernel
theorem dX1_record_114 : decode cX1_record 114 = .ok (.iload 5, 2) := by decide +kernel
theorem dX1_record_116 : decode cX1_record 116 = .ok (.ireturn, 1) := by decide +kernel
theorem dX1_findSame_0 : decode cX1_findSame 0 = .ok (.iconst 0, 1) := by decide +kernel
theorem dX1_findSame_1 : decode cX1_findSame 1 = .ok (.istore 4, 2) := by decide +kernel
theorem dX1_findSame_3 : decode cX1_findSame 3 = .ok (.iload 4, 2) := by decide +kernel
theorem dX1_findSame_5 : decode cX1_findSame 5 = .ok (.aload_n 0, 1) := by decide +kernel
theorem dX1_findSame_6 : decode cX1_findSame 6 = .ok (.getfield 39, 3) := by decide +kernel
theorem dX1_findSame_9 : decode cX1_findSame 9 = .ok (.if_icmp .ge 45, 3) := by decide +kernel
theorem dX1_findSame_12 : decode cX1_findSame 12 = .ok (.aload_n 0, 1) := by decide +kernel
theorem dX1_findSame_13 : decode cX1_findSame 13 = .ok (.iload 4, 2) := by decide +kernel
theorem dX1_findSame_15 : decode cX1_findSame 15 = .ok (.invokevirtual 73, 3) := by decide +kernel
theorem dX1_findSame_18 : decode cX1_findSame 18 = .ok (.iload_n 2, 1) := by decide +kernel
theorem dX1_findSame_19 : decode cX1_findSame 19 = .ok (.if_icmp .ne 29, 3) := by decide +kernel
theorem dX1_findSame_22 : decode cX1_findSame 22 = .ok (.aload_n 0, 1) := by decide +kernel
theorem dX1_findSame_23 : decode cX1_findSame 23 = .ok (.iload 4, 2) := by decide +kernel
theorem dX1_findSame_25 : decode cX1_findSame 25 = .ok (.invokevirtual 76, 3) := by decide +kernel
theorem dX1_findSame_28 : decode cX1_findSame 28 = .ok (.iload_n 3, 1) := by decide +kernel
theorem dX1_findSame_29 : decode cX1_findSame 29 = .ok (.if_icmp .ne 19, 3) := by decide +kernel
theorem dX1_findSame_32 : decode cX1_findSame 32 = .ok (.aload_n 0, 1) := by decide +kernel
theorem dX1_findSame_33 : decode cX1_findSame 33 = .ok (.iload 4, 2) := by decide +kernel
theorem dX1_findSame_35 : decode cX1_findSame 35 = .ok (.invokevirtual 51, 3) := by decide +kernel
theorem dX1_findSame_38 : decode cX1_findSame 38 = .ok (.aload_n 1, 1) := by decide +kernel
theorem dX1_findSame_39 : decode cX1_findSame 39 = .ok (.invokevirtual 79, 3) := by decide +kernel
theorem dX1_findSame_42 : decode cX1_findSame 42 = .ok (.ifCond .ne 6, 3) := by decide +kernel
theorem dX1_findSame_45 : decode cX1_findSame 45 = .ok (.iload 4, 2) := by decide +kernel
theorem dX1_findSame_47 : decode cX1_findSame 47 = .ok (.ireturn, 1) := by decide +kernel
theorem dX1_findSame_48 : decode cX1_findSame 48 = .ok (.iinc 4 1, 3) := by decide +kernel
theorem dX1_findSame_51 : decode cX1_findSame 51 = .ok (.goto (-48), 3) := by decide +kernel
theorem dX1_findSame_54 : decode cX1_findSame 54 = .ok (.iconst (-1), 1) := by decide +kernel
theorem dX1_findSame_55 : decode cX1_findSame 55 = .ok (.ireturn, 1) := by decide +kernel
theorem dX1_dropBackTo_0 : decode cX1_dropBackTo 0 = .ok (.iload_n 1, 1) := by decide +kernel
theorem dX1_dropBackTo_1 : decode cX1_dropBackTo 1 = .ok (.ifCond .le 16, 3) := by decide +kernel
theorem dX1_dropBackTo_4 : decode cX1_dropBackTo 4 = .ok (.iload_n 1, 1) := by decide +kernel
theorem dX1_dropBackTo_5 : decode cX1_dropBackTo 5 = .ok (.aload_n 0, 1) := by decide +kernel
theorem dX1_dropBackTo_6 : decode cX1_dropBackTo 6 = .ok (.getfield 39, 3) := by decide +kernel
theorem dX1_dropBackTo_9 : decode cX1_dropBackTo 9 = .ok (.if_icmp .ge 8, 3) := by decide +kernel
theorem dX1_dropBackTo_12 : decode cX1_dropBackTo 12 = .ok (.aload_n 0, 1) := by decide +kernel
theorem dX1_dropBackTo_13 : decode cX1_dropBackTo 13 = .ok (.iload_n 1, 1) := by decide +kernel
theorem dX1_dropBackTo_14 : decode cX1_dropBackTo 14 = .ok (.putfield 39, 3) := by decide +kernel
theorem dX1_dropBackTo_17 : decode cX1_dropBackTo 17 = .ok (.return_, 1) := by decide +kernel
theorem dX1_isIn_0 : decode cX1_isIn 0 = .ok (.aload_n 0, 1) := by decide +kernel
theorem dX1_isIn_1 : decode cX1_isIn 1 = .ok (.iload_n 3, 1) := by decide +kernel
theorem dX1_isIn_2 : decode cX1_isIn 2 = .ok (.invokevirtual 43, 3) := by decide +kernel
theorem dX1_isIn_5 : decode cX1_isIn 5 = .ok (.ifCond .eq 17, 3) := by decide +kernel
theorem dX1_isIn_8 : decode cX1_isIn 8 = .ok (.lload_n 1, 1) := by decide +kernel
theorem dX1_isIn_9 : decode cX1_isIn 9 = .ok (.iload_n 3, 1) := by decide +kernel
theorem dX1_isIn_10 : decode cX1_isIn 10 = .ok (.lushr, 1) := by decide +kernel
theorem dX1_isIn_11 : decode cX1_isIn 11 = .ok (.lconst 1, 1) := by decide +kernel
theorem dX1_isIn_12 : decode cX1_isIn 12 = .ok (.land, 1) := by decide +kernel
theorem dX1_isIn_13 : decode cX1_isIn 13 = .ok (.lconst 0, 1) := by decide +kernel
theorem dX1_isIn_14 : decode cX1_isIn 14 = .ok (.lcmp, 1) := by decide +kernel
theorem dX1_isIn_15 : decode cX1_isIn 15 = .ok (.ifCond .eq 7, 3) := by decide +kernel
theorem dX1_isIn_18 : decode cX1_isIn 18 = .ok (.iconst 1, 1) := by decide +kernel
theorem dX1_isIn_19 : decode cX1_isIn 19 = .ok (.goto 4, 3) := by decide +kernel
theorem dX1_isIn_22 : decode cX1_isIn 22 = .ok (.iconst 0, 1) := by decide +kernel
theorem dX1_isIn_23 : decode cX1_isIn 23 = .ok (.ireturn, 1) := by decide +kernel
theorem dX1_contains_0 : decode cX1_contains 0 = .ok (.aload_n 0, 1) := by decide +kernel
theorem dX1_contains_1 : decode cX1_contains 1 = .ok (.aload_n 0, 1) := by decide +kernel
theorem dX1_contains_2 : decode cX1_contains 2 = .ok (.iload_n 1, 1) := by decide +kernel
theorem dX1_contains_3 : decode cX1_contains 3 = .ok (.invokevirtual 69, 3) := by decide +kernel
theorem dX1_contains_6 : decode cX1_contains 6 = .ok (.iload_n 2, 1) := by decide +kernel
theorem dX1_contains_7 : decode cX1_contains 7 = .ok (.invokevirtual 83, 3) := by decide +kernel
theorem dX1_contains_10 : decode cX1_contains 10 = .ok (.ireturn, 1) := by decide +kernel
theorem dX1_bestBase_0 : decode cX1_bestBase 0 = .ok (.aload_n 0, 1) := by decide +kernel
theorem dX1_bestBase_1 : decode cX1_bestBase 1 = .ok (.iload_n 1, 1) := by decide +kernel
theorem dX1_bestBase_2 : decode cX1_bestBase 2 = .ok (.invokevirtual 69, 3) := by decide +kernel
theorem dX1_bestBase_5 : decode cX1_bestBase 5 = .ok (.aload_n 0, 1) := by decide +kernel
theorem dX1_bestBase_6 : decode cX1_bestBase 6 = .ok (.iload_n 2, 1) := by decide +kernel
theorem dX1_bestBase_7 : decode cX1_bestBase 7 = .ok (.invokevirtual 69, 3) := by decide +kernel
theorem dX1_bestBase_10 : decode cX1_bestBase 10 = .ok (.land, 1) := by decide +kernel
theorem dX1_bestBase_11 : decode cX1_bestBase 11 = .ok (.lstore_n 3, 1) := by decide +kernel
theorem dX1_bestBase_12 : decode cX1_bestBase 12 = .ok (.aload_n 0, 1) := by decide +kernel
theorem dX1_bestBase_13 : decode cX1_bestBase 13 = .ok (.getfield 39, 3) := by decide +kernel
theorem dX1_bestBase_16 : decode cX1_bestBase 16 = .ok (.iconst 1, 1) := by decide +kernel
theorem dX1_bestBase_17 : decode cX1_bestBase 17 = .ok (.isub, 1) := by decide +kernel
theorem dX1_bestBase_18 : decode cX1_bestBase 18 = .ok (.istore 5, 2) := by decide +kernel
theorem dX1_bestBase_20 : decode cX1_bestBase 20 = .ok (.iload 5, 2) := by decide +kernel
theorem dX1_bestBase_22 : decode cX1_bestBase 22 = .ok (.ifCond .lt 19, 3) := by decide +kernel
theorem dX1_bestBase_25 : decode cX1_bestBase 25 = .ok (.aload_n 0, 1) := by decide +kernel
theorem dX1_bestBase_26 : decode cX1_bestBase 26 = .ok (.lload_n 3, 1) := by decide +kernel
theorem dX1_bestBase_27 : decode cX1_bestBase 27 = .ok (.iload 5, 2) := by decide +kernel
theorem dX1_bestBase_29 : decode cX1_bestBase 29 = .ok (.invokevirtual 83, 3) := by decide +kernel
theorem dX1_bestBase_32 : decode cX1_bestBase 32 = .ok (.ifCond .ne 9, 3) := by decide +kernel
theorem dX1_bestBase_35 : decode cX1_bestBase 35 = .ok (.iinc 5 (-1), 3) := by decide +kernel
theorem dX1_bestBase_38 : decode cX1_bestBase 38 = .ok (.goto (-18), 3) := by decide +kernel
theorem dX1_bestBase_41 : decode cX1_bestBase 41 = .ok (.iload 5, 2) := by decide +kernel
theorem dX1_bestBase_43 : decode cX1_bestBase 43 = .ok (.ireturn, 1) := by decide +kernel
theorem dX1_countBases_0 : decode cX1_countBases 0 = .ok (.aload_n 0, 1) := by decide +kernel
theorem dX1_countBases_1 : decode cX1_countBases 1 = .ok (.iload_n 1, 1) := by decide +kernel
theorem dX1_countBases_2 : decode cX1_countBases 2 = .ok (.invokevirtual 69, 3) := by decide +kernel
theorem dX1_countBases_5 : decode cX1_countBases 5 = .ok (.aload_n 0, 1) := by decide +kernel
theorem dX1_countBases_6 : decode cX1_countBases 6 = .ok (.iload_n 2, 1) := by decide +kernel
theorem dX1_countBases_7 : decode cX1_countBases 7 = .ok (.invokevirtual 69, 3) := by decide +kernel
theorem dX1_countBases_10 : decode cX1_countBases 10 = .ok (.land, 1) := by decide +kernel
theorem dX1_countBases_11 : decode cX1_countBases 11 = .ok (.lstore_n 3, 1) := by decide +kernel
theorem dX1_countBases_12 : decode cX1_countBases 12 = .ok (.lconst 0, 1) := by decide +kernel
theorem dX1_countBases_13 : decode cX1_countBases 13 = .ok (.lstore 5, 2) := by decide +kernel
theorem dX1_countBases_15 : decode cX1_countBases 15 = .ok (.iconst 0, 1) := by decide +kernel
theorem dX1_countBases_16 : decode cX1_countBases 16 = .ok (.istore 7, 2) := by decide +kernel
theorem dX1_countBases_18 : decode cX1_countBases 18 = .ok (.iload 7, 2) := by decide +kernel
theorem dX1_countBases_20 : decode cX1_countBases 20 = .ok (.aload_n 0, 1) := by decide +kernel
theorem dX1_countBases_21 : decode cX1_countBases 21 = .ok (.getfield 39, 3) := by decide +kernel
theorem dX1_countBases_24 : decode cX1_countBases 24 = .ok (.if_icmp .ge 39, 3) := by decide +kernel
theorem dX1_countBases_27 : decode cX1_countBases 27 = .ok (.aload_n 0, 1) := by decide +kernel
theorem dX1_countBases_28 : decode cX1_countBases 28 = .ok (.lload_n 3, 1) := by decide +kernel
theorem dX1_countBases_29 : decode cX1_countBases 29 = .ok (.iload 7, 2) := by decide +kernel
theorem dX1_countBases_31 : decode cX1_countBases 31 = .ok (.invokevirtual 83, 3) := by decide +kernel
theorem dX1_countBases_34 : decode cX1_countBases 34 = .ok (.ifCond .eq 23, 3) := by decide +kernel
theorem dX1_countBases_37 : decode cX1_countBases 37 = .ok (.lload 5, 2) := by decide +kernel
theorem dX1_countBases_39 : decode cX1_countBases 39 = .ok (.aload_n 0, 1) := by decide +kernel
theorem dX1_countBases_40 : decode cX1_countBases 40 = .ok (.iload 7, 2) := by decide +kernel
theorem dX1_countBases_42 : decode cX1_countBases 42 = .ok (.invokevirtual 69, 3) := by decide +kernel
theorem dX1_countBases_45 : decode cX1_countBases 45 = .ok (.lconst 1, 1) := by decide +kernel
theorem dX1_countBases_46 : decode cX1_countBases 46 = .ok (.iload 7, 2) := by decide +kernel
theorem dX1_countBases_48 : decode cX1_countBases 48 = .ok (.lshl, 1) := by decide +kernel
theorem dX1_countBases_49 : decode cX1_countBases 49 = .ok (.ldc2_w 87, 3) := by decide +kernel
theorem dX1_countBases_52 : decode cX1_countBases 52 = .ok (.lxor, 1) := by decide +kernel
theorem dX1_countBases_53 : decode cX1_countBases 53 = .ok (.land, 1) := by decide +kernel
theorem dX1_countBases_54 : decode cX1_countBases 54 = .ok (.lor, 1) := by decide +kernel
theorem dX1_countBases_55 : decode cX1_countBases 55 = .ok (.lstore 5, 2) := by decide +kernel
theorem dX1_countBases_57 : decode cX1_countBases 57 = .ok (.iinc 7 1, 3) := by decide +kernel
theorem dX1_countBases_60 : decode cX1_countBases 60 = .ok (.goto (-42), 3) := by decide +kernel
theorem dX1_countBases_63 : decode cX1_countBases 63 = .ok (.lload_n 3, 1) := by decide +kernel
theorem dX1_countBases_64 : decode cX1_countBases 64 = .ok (.lload 5, 2) := by decide +kernel
theorem dX1_countBases_66 : decode cX1_countBases 66 = .ok (.ldc2_w 87, 3) := by decide +kernel
theorem dX1_countBases_69 : decode cX1_countBases 69 = .ok (.lxor, 1) := by decide +kernel
theorem dX1_countBases_70 : decode cX1_countBases 70 = .ok (.land, 1) := by decide +kernel
theorem dX1_countBases_71 : decode cX1_countBases 71 = .ok (.invokestatic 89, 3) := by decide +kernel
theorem dX1_countBases_74 : decode cX1_countBases 74 = .ok (.ireturn, 1) := by decide +kernel
theorem dX1_walkMeets_0 : decode cX1_walkMeets 0 = .ok (.aload_n 0, 1) := by decide +kernel
theorem dX1_walkMeets_1 : decode cX1_walkMeets 1 = .ok (.invokevirtual 95, 3) := by decide +kernel
theorem dX1_walkMeets_4 : decode cX1_walkMeets 4 = .ok (.aload_n 0, 1) := by decide +kernel
theorem dX1_walkMeets_5 : decode cX1_walkMeets 5 = .ok (.iload_n 1, 1) := by decide +kernel
theorem dX1_walkMeets_6 : decode cX1_walkMeets 6 = .ok (.iconst 1, 1) := by decide +kernel
theorem dX1_walkMeets_7 : decode cX1_walkMeets 7 = .ok (.invokevirtual 98, 3) := by decide +kernel
theorem dX1_walkMeets_10 : decode cX1_walkMeets 10 = .ok (.aload_n 0, 1) := by decide +kernel
theorem dX1_walkMeets_11 : decode cX1_walkMeets 11 = .ok (.getfield 39, 3) := by decide +kernel
theorem dX1_walkMeets_14 : decode cX1_walkMeets 14 = .ok (.iconst 1, 1) := by decide +kernel
theorem dX1_walkMeets_15 : decode cX1_walkMeets 15 = .ok (.isub, 1) := by decide +kernel
theorem dX1_walkMeets_16 : decode cX1_walkMeets 16 = .ok (.istore_n 3, 1) := by decide +kernel
theorem dX1_walkMeets_17 : decode cX1_walkMeets 17 = .ok (.iload_n 3, 1) := by decide +kernel
theorem dX1_walkMeets_18 : decode cX1_walkMeets 18 = .ok (.ifCond .lt 14, 3) := by decide +kernel
theorem dX1_walkMeets_21 : decode cX1_walkMeets 21 = .ok (.aload_n 0, 1) := by decide +kernel
theorem dX1_walkMeets_22 : decode cX1_walkMeets 22 = .ok (.iload_n 3, 1) := by decide +kernel
theorem dX1_walkMeets_23 : decode cX1_walkMeets 23 = .ok (.invokevirtual 102, 3) := by decide +kernel
theorem dX1_walkMeets_26 : decode cX1_walkMeets 26 = .ok (.iinc 3 (-1), 3) := by decide +kernel
theorem dX1_walkMeets_29 : decode cX1_walkMeets 29 = .ok (.goto (-12), 3) := by decide +kernel
theorem dX1_walkMeets_32 : decode cX1_walkMeets 32 = .ok (.aload_n 0, 1) := by decide +kernel
theorem dX1_walkMeets_33 : decode cX1_walkMeets 33 = .ok (.iload_n 2, 1) := by decide +kernel
theorem dX1_walkMeets_34 : decode cX1_walkMeets 34 = .ok (.invokevirtual 106, 3) := by decide +kernel
theorem dX1_walkMeets_37 : decode cX1_walkMeets 37 = .ok (.iconst 1, 1) := by decide +kernel
theorem dX1_walkMeets_38 : decode cX1_walkMeets 38 = .ok (.if_icmp .ne 7, 3) := by decide +kernel
theorem dX1_walkMeets_41 : decode cX1_walkMeets 41 = .ok (.iconst 1, 1) := by decide +kernel
theorem dX1_walkMeets_42 : decode cX1_walkMeets 42 = .ok (.goto 4, 3) := by decide +kernel
theorem dX1_walkMeets_45 : decode cX1_walkMeets 45 = .ok (.iconst 0, 1) := by decide +kernel
theorem dX1_walkMeets_46 : decode cX1_walkMeets 46 = .ok (.ireturn, 1) := by decide +kernel
theorem dX1_walkToBestBase_0 : decode cX1_walkToBestBase 0 = .ok (.aload_n 0, 1) := by decide +kernel
theorem dX1_walkToBestBase_1 : decode cX1_walkToBestBase 1 = .ok (.invokevirtual 95, 3) := by decide +kernel
theorem dX1_walkToBestBase_4 : decode cX1_walkToBestBase 4 = .ok (.aload_n 0, 1) := by decide +kernel
theorem dX1_walkToBestBase_5 : decode cX1_walkToBestBase 5 = .ok (.iload_n 1, 1) := by decide +kernel
theorem dX1_walkToBestBase_6 : decode cX1_walkToBestBase 6 = .ok (.iconst 1, 1) := by decide +kernel
theorem dX1_walkToBestBase_7 : decode cX1_walkToBestBase 7 = .ok (.invokevirtual 98, 3) := by decide +kernel
theorem dX1_walkToBestBase_10 : decode cX1_walkToBestBase 10 = .ok (.aload_n 0, 1) := by decide +kernel
theorem dX1_walkToBestBase_11 : decode cX1_walkToBestBase 11 = .ok (.iload_n 2, 1) := by decide +kernel
theorem dX1_walkToBestBase_12 : decode cX1_walkToBestBase 12 = .ok (.iconst 2, 1) := by decide +kernel
theorem dX1_walkToBestBase_13 : decode cX1_walkToBestBase 13 = .ok (.invokevirtual 98, 3) := by decide +kernel
theorem dX1_walkToBestBase_16 : decode cX1_walkToBestBase 16 = .ok (.aload_n 0, 1) := by decide +kernel
theorem dX1_walkToBestBase_17 : decode cX1_walkToBestBase 17 = .ok (.getfield 39, 3) := by decide +kernel
theorem dX1_walkToBestBase_20 : decode cX1_walkToBestBase 20 = .ok (.iconst 1, 1) := by decide +kernel
theorem dX1_walkToBestBase_21 : decode cX1_walkToBestBase 21 = .ok (.isub, 1) := by decide +kernel
theorem dX1_walkToBestBase_22 : decode cX1_walkToBestBase 22 = .ok (.istore_n 3, 1) := by decide +kernel
theorem dX1_walkToBestBase_23 : decode cX1_walkToBestBase 23 = .ok (.iload_n 3, 1) := by decide +kernel
theorem dX1_walkToBestBase_24 : decode cX1_walkToBestBase 24 = .ok (.ifCond .lt 25, 3) := by decide +kernel
theorem dX1_walkToBestBase_27 : decode cX1_walkToBestBase 27 = .ok (.aload_n 0, 1) := by decide +kernel
theorem dX1_walkToBestBase_28 : decode cX1_walkToBestBase 28 = .ok (.iload_n 3, 1) := by decide +kernel
theorem dX1_walkToBestBase_29 : decode cX1_walkToBestBase 29 = .ok (.invokevirtual 106, 3) := by decide +kernel
theorem dX1_walkToBestBase_32 : decode cX1_walkToBestBase 32 = .ok (.iconst 3, 1) := by decide +kernel
theorem dX1_walkToBestBase_33 : decode cX1_walkToBestBase 33 = .ok (.if_icmp .ne 5, 3) := by decide +kernel
theorem dX1_walkToBestBase_36 : decode cX1_walkToBestBase 36 = .ok (.iload_n 3, 1) := by decide +kernel
theorem dX1_walkToBestBase_37 : decode cX1_walkToBestBase 37 = .ok (.ireturn, 1) := by decide +kernel
theorem dX1_walkToBestBase_38 : decode cX1_walkToBestBase 38 = .ok (.aload_n 0, 1) := by decide +kernel
theorem dX1_walkToBestBase_39 : decode cX1_walkToBestBase 39 = .ok (.iload_n 3, 1) := by decide +kernel
theorem dX1_walkToBestBase_40 : decode cX1_walkToBestBase 40 = .ok (.invokevirtual 102, 3) := by decide +kernel
theorem dX1_walkToBestBase_43 : decode cX1_walkToBestBase 43 = .ok (.iinc 3 (-1), 3) := by decide +kernel
theorem dX1_walkToBestBase_46 : decode cX1_walkToBestBase 46 = .ok (.goto (-23), 3) := by decide +kernel
theorem dX1_walkToBestBase_49 : decode cX1_walkToBestBase 49 = .ok (.iconst (-1), 1) := by decide +kernel
theorem dX1_walkToBestBase_50 : decode cX1_walkToBestBase 50 = .ok (.ireturn, 1) := by decide +kernel
theorem dX1_clearMarks_0 : decode cX1_clearMarks 0 = .ok (.iconst 0, 1) := by decide +kernel
theorem dX1_clearMarks_1 : decode cX1_clearMarks 1 = .ok (.istore_n 1, 1) := by decide +kernel
theorem dX1_clearMarks_2 : decode cX1_clearMarks 2 = .ok (.iload_n 1, 1) := by decide +kernel
theorem dX1_clearMarks_3 : decode cX1_clearMarks 3 = .ok (.aload_n 0, 1) := by decide +kernel
theorem dX1_clearMarks_4 : decode cX1_clearMarks 4 = .ok (.getfield 36, 3) := by decide +kernel
theorem dX1_clearMarks_7 : decode cX1_clearMarks 7 = .ok (.arraylength, 1) := by decide +kernel
theorem dX1_clearMarks_8 : decode cX1_clearMarks 8 = .ok (.if_icmp .ge 16, 3) := by decide +kernel
theorem dX1_clearMarks_11 : decode cX1_clearMarks 11 = .ok (.aload_n 0, 1) := by decide +kernel
theorem dX1_clearMarks_12 : decode cX1_clearMarks 12 = .ok (.getfield 36, 3) := by decide +kernel
theorem dX1_clearMarks_15 : decode cX1_clearMarks 15 = .ok (.iload_n 1, 1) := by decide +kernel
theorem dX1_clearMarks_16 : decode cX1_clearMarks 16 = .ok (.iconst 0, 1) := by decide +kernel
theorem dX1_clearMarks_17 : decode cX1_clearMarks 17 = .ok (.iastore, 1) := by decide +kernel
theorem dX1_clearMarks_18 : decode cX1_clearMarks 18 = .ok (.iinc 1 1, 3) := by decide +kernel
theorem dX1_clearMarks_21 : decode cX1_clearMarks 21 = .ok (.goto (-19), 3) := by decide +kernel
theorem dX1_clearMarks_24 : decode cX1_clearMarks 24 = .ok (.return_, 1) := by decide +kernel
theorem dX1_marksAt_0 : decode cX1_marksAt 0 = .ok (.aload_n 0, 1) := by decide +kernel
theorem dX1_marksAt_1 : decode cX1_marksAt 1 = .ok (.iload_n 1, 1) := by decide +kernel
theorem dX1_marksAt_2 : decode cX1_marksAt 2 = .ok (.invokevirtual 43, 3) := by decide +kernel
theorem dX1_marksAt_5 : decode cX1_marksAt 5 = .ok (.ifCond .eq 12, 3) := by decide +kernel
theorem dX1_marksAt_8 : decode cX1_marksAt 8 = .ok (.aload_n 0, 1) := by decide +kernel
theorem dX1_marksAt_9 : decode cX1_marksAt 9 = .ok (.getfield 36, 3) := by decide +kernel
theorem dX1_marksAt_12 : decode cX1_marksAt 12 = .ok (.iload_n 1, 1) := by decide +kernel
theorem dX1_marksAt_13 : decode cX1_marksAt 13 = .ok (.iaload, 1) := by decide +kernel
theorem dX1_marksAt_14 : decode cX1_marksAt 14 = .ok (.goto 4, 3) := by decide +kernel
theorem dX1_marksAt_17 : decode cX1_marksAt 17 = .ok (.iconst 0, 1) := by decide +kernel
theorem dX1_marksAt_18 : decode cX1_marksAt 18 = .ok (.ireturn, 1) := by decide +kernel
theorem dX1_mark_0 : decode cX1_mark 0 = .ok (.aload_n 0, 1) := by decide +kernel
theorem dX1_mark_1 : decode cX1_mark 1 = .ok (.iload_n 1, 1) := by decide +kernel
theorem dX1_mark_2 : decode cX1_mark 2 = .ok (.invokevirtual 43, 3) := by decide +kernel
theorem dX1_mark_5 : decode cX1_mark 5 = .ok (.ifCond .eq 13, 3) := by decide +kernel
theorem dX1_mark_8 : decode cX1_mark 8 = .ok (.aload_n 0, 1) := by decide +kernel
theorem dX1_mark_9 : decode cX1_mark 9 = .ok (.getfield 36, 3) := by decide +kernel
theorem dX1_mark_12 : decode cX1_mark 12 = .ok (.iload_n 1, 1) := by decide +kernel
theorem dX1_mark_13 : decode cX1_mark 13 = .ok (.dup2, 1) := by decide +kernel
theorem dX1_mark_14 : decode cX1_mark 14 = .ok (.iaload, 1) := by decide +kernel
theorem dX1_mark_15 : decode cX1_mark 15 = .ok (.iload_n 2, 1) := by decide +kernel
theorem dX1_mark_16 : decode cX1_mark 16 = .ok (.ior, 1) := by decide +kernel
theorem dX1_mark_17 : decode cX1_mark 17 = .ok (.iastore, 1) := by decide +kernel
theorem dX1_mark_18 : decode cX1_mark 18 = .ok (.return_, 1) := by decide +kernel
theorem dX1_markParents_0 : decode cX1_markParents 0 = .ok (.aload_n 0, 1) := by decide +kernel
theorem dX1_markParents_1 : decode cX1_markParents 1 = .ok (.aload_n 0, 1) := by decide +kernel
theorem dX1_markParents_2 : decode cX1_markParents 2 = .ok (.iload_n 1, 1) := by decide +kernel
theorem dX1_markParents_3 : decode cX1_markParents 3 = .ok (.invokevirtual 73, 3) := by decide +kernel
theorem dX1_markParents_6 : decode cX1_markParents 6 = .ok (.aload_n 0, 1) := by decide +kernel
theorem dX1_markParents_7 : decode cX1_markParents 7 = .ok (.iload_n 1, 1) := by decide +kernel
theorem dX1_markParents_8 : decode cX1_markParents 8 = .ok (.invokevirtual 106, 3) := by decide +kernel
theorem dX1_markParents_11 : decode cX1_markParents 11 = .ok (.invokevirtual 98, 3) := by decide +kernel
theorem dX1_markParents_14 : decode cX1_markParents 14 = .ok (.aload_n 0, 1) := by decide +kernel
theorem dX1_markParents_15 : decode cX1_markParents 15 = .ok (.aload_n 0, 1) := by decide +kernel
theorem dX1_markParents_16 : decode cX1_markParents 16 = .ok (.iload_n 1, 1) := by decide +kernel
theorem dX1_markParents_17 : decode cX1_markParents 17 = .ok (.invokevirtual 76, 3) := by decide +kernel
theorem dX1_markParents_20 : decode cX1_markParents 20 = .ok (.aload_n 0, 1) := by decide +kernel
theorem dX1_markParents_21 : decode cX1_markParents 21 = .ok (.iload_n 1, 1) := by decide +kernel
theorem dX1_markParents_22 : decode cX1_markParents 22 = .ok (.invokevirtual 106, 3) := by decide +kernel
theorem dX1_markParents_25 : decode cX1_markParents 25 = .ok (.invokevirtual 98, 3) := by decide +kernel
theorem dX1_markParents_28 : decode cX1_markParents 28 = .ok (.return_, 1) := by decide +kernel
theorem dX1_lastChangeAt_0 : decode cX1_lastChangeAt 0 = .ok (.iload_n 2, 1) := by decide +kernel
theorem dX1_lastChangeAt_1 : decode cX1_lastChangeAt 1 = .ok (.istore_n 3, 1) := by decide +kernel
theorem dX1_lastChangeAt_2 : decode cX1_lastChangeAt 2 = .ok (.iconst 0, 1) := by decide +kernel
theorem dX1_lastChangeAt_3 : decode cX1_lastChangeAt 3 = .ok (.istore 4, 2) := by decide +kernel
theorem dX1_lastChangeAt_5 : decode cX1_lastChangeAt 5 = .ok (.iload 4, 2) := by decide +kernel
theorem dX1_lastChangeAt_7 : decode cX1_lastChangeAt 7 = .ok (.bipush 60, 2) := by decide +kernel
theorem dX1_lastChangeAt_9 : decode cX1_lastChangeAt 9 = .ok (.if_icmp .ge 52, 3) := by decide +kernel
theorem dX1_lastChangeAt_12 : decode cX1_lastChangeAt 12 = .ok (.aload_n 0, 1) := by decide +kernel
theorem dX1_lastChangeAt_13 : decode cX1_lastChangeAt 13 = .ok (.iload_n 3, 1) := by decide +kernel
theorem dX1_lastChangeAt_14 : decode cX1_lastChangeAt 14 = .ok (.invokevirtual 73, 3) := by decide +kernel
theorem dX1_lastChangeAt_17 : decode cX1_lastChangeAt 17 = .ok (.iconst (-1), 1) := by decide +kernel
theorem dX1_lastChangeAt_18 : decode cX1_lastChangeAt 18 = .ok (.if_icmp .eq 43, 3) := by decide +kernel
theorem dX1_lastChangeAt_21 : decode cX1_lastChangeAt 21 = .ok (.aload_n 0, 1) := by decide +kernel
theorem dX1_lastChangeAt_22 : decode cX1_lastChangeAt 22 = .ok (.iload_n 3, 1) := by decide +kernel
theorem dX1_lastChangeAt_23 : decode cX1_lastChangeAt 23 = .ok (.invokevirtual 73, 3) := by decide +kernel
theorem dX1_lastChangeAt_26 : decode cX1_lastChangeAt 26 = .ok (.istore 5, 2) := by decide +kernel
theorem dX1_lastChangeAt_28 : decode cX1_lastChangeAt 28 = .ok (.aload_n 0, 1) := by decide +kernel
theorem dX1_lastChangeAt_29 : decode cX1_lastChangeAt 29 = .ok (.iload_n 3, 1) := by decide +kernel
theorem dX1_lastChangeAt_30 : decode cX1_lastChangeAt 30 = .ok (.invokevirtual 51, 3) := by decide +kernel
theorem dX1_lastChangeAt_33 : decode cX1_lastChangeAt 33 = .ok (.iload_n 1, 1) := by decide +kernel
theorem dX1_lastChangeAt_34 : decode cX1_lastChangeAt 34 = .ok (.invokevirtual 109, 3) := by decide +kernel
theorem dX1_lastChangeAt_37 : decode cX1_lastChangeAt 37 = .ok (.aload_n 0, 1) := by decide +kernel
theorem dX1_lastChangeAt_38 : decode cX1_lastChangeAt 38 = .ok (.iload 5, 2) := by decide +kernel
theorem dX1_lastChangeAt_40 : decode cX1_lastChangeAt 40 = .ok (.invokevirtual 51, 3) := by decide +kernel
theorem dX1_lastChangeAt_43 : decode cX1_lastChangeAt 43 = .ok (.iload_n 1, 1) := by decide +kernel
theorem dX1_lastChangeAt_44 : decode cX1_lastChangeAt 44 = .ok (.invokevirtual 109, 3) := by decide +kernel
theorem dX1_lastChangeAt_47 : decode cX1_lastChangeAt 47 = .ok (.if_icmp .eq 5, 3) := by decide +kernel
theorem dX1_lastChangeAt_50 : decode cX1_lastChangeAt 50 = .ok (.iload_n 3, 1) := by decide +kernel
theorem dX1_lastChangeAt_51 : decode cX1_lastChangeAt 51 = .ok (.ireturn, 1) := by decide +kernel
theorem dX1_lastChangeAt_52 : decode cX1_lastChangeAt 52 = .ok (.iload 5, 2) := by decide +kernel
theorem dX1_lastChangeAt_54 : decode cX1_lastChangeAt 54 = .ok (.istore_n 3, 1) := by decide +kernel
theorem dX1_lastChangeAt_55 : decode cX1_lastChangeAt 55 = .ok (.iinc 4 1, 3) := by decide +kernel
theorem dX1_lastChangeAt_58 : decode cX1_lastChangeAt 58 = .ok (.goto (-53), 3) := by decide +kernel
theorem dX1_lastChangeAt_61 : decode cX1_lastChangeAt 61 = .ok (.iconst (-1), 1) := by decide +kernel
theorem dX1_lastChangeAt_62 : decode cX1_lastChangeAt 62 = .ok (.ireturn, 1) := by decide +kernel
theorem dX2_likeness_0 : decode cX2_likeness 0 = .ok (.iconst 0, 1) := by decide +kernel
theorem dX2_likeness_1 : decode cX2_likeness 1 = .ok (.istore_n 2, 1) := by decide +kernel
theorem dX2_likeness_2 : decode cX2_likeness 2 = .ok (.iload_n 0, 1) := by decide +kernel
theorem dX2_likeness_3 : decode cX2_likeness 3 = .ok (.istore_n 3, 1) := by decide +kernel
theorem dX2_likeness_4 : decode cX2_likeness 4 = .ok (.iload_n 1, 1) := by decide +kernel
theorem dX2_likeness_5 : decode cX2_likeness 5 = .ok (.istore 4, 2) := by decide +kernel
theorem dX2_likeness_7 : decode cX2_likeness 7 = .ok (.iconst 0, 1) := by decide +kernel
theorem dX2_likeness_8 : decode cX2_likeness 8 = .ok (.istore 5, 2) := by decide +kernel
theorem dX2_likeness_10 : decode cX2_likeness 10 = .ok (.iload 5, 2) := by decide +kernel
theorem dX2_likeness_12 : decode cX2_likeness 12 = .ok (.iconst 4, 1) := by decide +kernel
theorem dX2_likeness_13 : decode cX2_likeness 13 = .ok (.if_icmp .ge 36, 3) := by decide +kernel
theorem dX2_likeness_16 : decode cX2_likeness 16 = .ok (.iload_n 3, 1) := by decide +kernel
theorem dX2_likeness_17 : decode cX2_likeness 17 = .ok (.bipush 10, 2) := by decide +kernel
theorem dX2_likeness_19 : decode cX2_likeness 19 = .ok (.irem, 1) := by decide +kernel
theorem dX2_likeness_20 : decode cX2_likeness 20 = .ok (.iload 4, 2) := by decide +kernel
theorem dX2_likeness_22 : decode cX2_likeness 22 = .ok (.bipush 10, 2) := by decide +kernel
theorem dX2_likeness_24 : decode cX2_likeness 24 = .ok (.irem, 1) := by decide +kernel
theorem dX2_likeness_25 : decode cX2_likeness 25 = .ok (.if_icmp .ne 6, 3) := by decide +kernel
theorem dX2_likeness_28 : decode cX2_likeness 28 = .ok (.iinc 2 1, 3) := by decide +kernel
theorem dX2_likeness_31 : decode cX2_likeness 31 = .ok (.iload_n 3, 1) := by decide +kernel
theorem dX2_likeness_32 : decode cX2_likeness 32 = .ok (.bipush 10, 2) := by decide +kernel
theorem dX2_likeness_34 : decode cX2_likeness 34 = .ok (.idiv, 1) := by decide +kernel
theorem dX2_likeness_35 : decode cX2_likeness 35 = .ok (.istore_n 3, 1) := by decide +kernel
theorem dX2_likeness_36 : decode cX2_likeness 36 = .ok (.iload 4, 2) := by decide +kernel
theorem dX2_likeness_38 : decode cX2_likeness 38 = .ok (.bipush 10, 2) := by decide +kernel
theorem dX2_likeness_40 : decode cX2_likeness 40 = .ok (.idiv, 1) := by decide +kernel
theorem dX2_likeness_41 : decode cX2_likeness 41 = .ok (.istore 4, 2) := by decide +kernel
theorem dX2_likeness_43 : decode cX2_likeness 43 = .ok (.iinc 5 1, 3) := by decide +kernel
theorem dX2_likeness_46 : decode cX2_likeness 46 = .ok (.goto (-36), 3) := by decide +kernel
theorem dX2_likeness_49 : decode cX2_likeness 49 = .ok (.iload_n 2, 1) := by decide +kernel
theorem dX2_likeness_50 : decode cX2_likeness 50 = .ok (.ireturn, 1) := by decide +kernel
theorem dX2_changed_0 : decode cX2_changed 0 = .ok (.iload_n 1, 1) := by decide +kernel
theorem dX2_changed_1 : decode cX2_changed 1 = .ok (.iload_n 0, 1) := by decide +kernel
theorem dX2_changed_2 : decode cX2_changed 2 = .ok (.if_icmp .ne 5, 3) := by decide +kernel
theorem dX2_changed_5 : decode cX2_changed 5 = .ok (.iload_n 2, 1) := by decide +kernel
theorem dX2_changed_6 : decode cX2_changed 6 = .ok (.ireturn, 1) := by decide +kernel
theorem dX2_changed_7 : decode cX2_changed 7 = .ok (.iload_n 2, 1) := by decide +kernel
theorem dX2_changed_8 : decode cX2_changed 8 = .ok (.iload_n 0, 1) := by decide +kernel
theorem dX2_changed_9 : decode cX2_changed 9 = .ok (.if_icmp .eq 8, 3) := by decide +kernel
theorem dX2_changed_12 : decode cX2_changed 12 = .ok (.iload_n 2, 1) := by decide +kernel
theorem dX2_changed_13 : decode cX2_changed 13 = .ok (.iload_n 1, 1) := by decide +kernel
theorem dX2_changed_14 : decode cX2_changed 14 = .ok (.if_icmp .ne 7, 3) := by decide +kernel
theorem dX2_changed_17 : decode cX2_changed 17 = .ok (.iload_n 1, 1) := by decide +kernel
theorem dX2_changed_18 : decode cX2_changed 18 = .ok (.goto 4, 3) := by decide +kernel
theorem dX2_changed_21 : decode cX2_changed 21 = .ok (.iconst (-1), 1) := by decide +kernel
theorem dX2_changed_22 : decode cX2_changed 22 = .ok (.ireturn, 1) := by decide +kernel
theorem dX2_mergeContents_0 : decode cX2_mergeContents 0 = .ok (.iload_n 0, 1) := by decide +kernel
theorem dX2_mergeContents_1 : decode cX2_mergeContents 1 = .ok (.istore_n 3, 1) := by decide +kernel
theorem dX2_mergeContents_2 : decode cX2_mergeContents 2 = .ok (.iload_n 1, 1) := by decide +kernel
theorem dX2_mergeContents_3 : decode cX2_mergeContents 3 = .ok (.istore 4, 2) := by decide +kernel
theorem dX2_mergeContents_5 : decode cX2_mergeContents 5 = .ok (.iload_n 2, 1) := by decide +kernel
theorem dX2_mergeContents_6 : decode cX2_mergeContents 6 = .ok (.istore 5, 2) := by decide +kernel
theorem dX2_mergeContents_8 : decode cX2_mergeContents 8 = .ok (.iconst 0, 1) := by decide +kernel
theorem dX2_mergeContents_9 : decode cX2_mergeContents 9 = .ok (.istore 6, 2) := by decide +kernel
theorem dX2_mergeContents_11 : decode cX2_mergeContents 11 = .ok (.iconst 1, 1) := by decide +kernel
theorem dX2_mergeContents_12 : decode cX2_mergeContents 12 = .ok (.istore 7, 2) := by decide +kernel
theorem dX2_mergeContents_14 : decode cX2_mergeContents 14 = .ok (.iconst 0, 1) := by decide +kernel
theorem dX2_mergeContents_15 : decode cX2_mergeContents 15 = .ok (.istore 8, 2) := by decide +kernel
theorem dX2_mergeContents_17 : decode cX2_mergeContents 17 = .ok (.iload 8, 2) := by decide +kernel
theorem dX2_mergeContents_19 : decode cX2_mergeContents 19 = .ok (.iconst 4, 1) := by decide +kernel
theorem dX2_mergeContents_20 : decode cX2_mergeContents 20 = .ok (.if_icmp .ge 72, 3) := by decide +kernel
theorem dX2_mergeContents_23 : decode cX2_mergeContents 23 = .ok (.iload_n 3, 1) := by decide +kernel
theorem dX2_mergeContents_24 : decode cX2_mergeContents 24 = .ok (.bipush 10, 2) := by decide +kernel
theorem dX2_mergeContents_26 : decode cX2_mergeContents 26 = .ok (.irem, 1) := by decide +kernel
theorem dX2_mergeContents_27 : decode cX2_mergeContents 27 = .ok (.iload 4, 2) := by decide +kernel
theorem dX2_mergeContents_29 : decode cX2_mergeContents 29 = .ok (.bipush 10, 2) := by decide +kernel
theorem dX2_mergeContents_31 : decode cX2_mergeContents 31 = .ok (.irem, 1) := by decide +kernel
theorem dX2_mergeContents_32 : decode cX2_mergeContents 32 = .ok (.iload 5, 2) := by decide +kernel
theorem dX2_mergeContents_34 : decode cX2_mergeContents 34 = .ok (.bipush 10, 2) := by decide +kernel
theorem dX2_mergeContents_36 : decode cX2_mergeContents 36 = .ok (.irem, 1) := by decide +kernel
theorem dX2_mergeContents_37 : decode cX2_mergeContents 37 = .ok (.invokestatic 9, 3) := by decide +kernel
theorem dX2_mergeContents_40 : decode cX2_mergeContents 40 = .ok (.istore 9, 2) := by decide +kernel
theorem dX2_mergeContents_42 : decode cX2_mergeContents 42 = .ok (.iload 9, 2) := by decide +kernel
theorem dX2_mergeContents_44 : decode cX2_mergeContents 44 = .ok (.iconst (-1), 1) := by decide +kernel
theorem dX2_mergeContents_45 : decode cX2_mergeContents 45 = .ok (.if_icmp .ne 5, 3) := by decide +kernel
theorem dX2_mergeContents_48 : decode cX2_mergeContents 48 = .ok (.iconst (-1), 1) := by decide +kernel
theorem dX2_mergeContents_49 : decode cX2_mergeContents 49 = .ok (.ireturn, 1) := by decide +kernel
theorem dX2_mergeContents_50 : decode cX2_mergeContents 50 = .ok (.iload 6, 2) := by decide +kernel
theorem dX2_mergeContents_52 : decode cX2_mergeContents 52 = .ok (.iload 9, 2) := by decide +kernel
theorem dX2_mergeContents_54 : decode cX2_mergeContents 54 = .ok (.iload 7, 2) := by decide +kernel
theorem dX2_mergeContents_56 : decode cX2_mergeContents 56 = .ok (.imul, 1) := by decide +kernel
theorem dX2_mergeContents_57 : decode cX2_mergeContents 57 = .ok (.iadd, 1) := by decide +kernel
theorem dX2_mergeContents_58 : decode cX2_mergeContents 58 = .ok (.istore 6, 2) := by decide +kernel
theorem dX2_mergeContents_60 : decode cX2_mergeContents 60 = .ok (.iload 7, 2) := by decide +kernel
theorem dX2_mergeContents_62 : decode cX2_mergeContents 62 = .ok (.bipush 10, 2) := by decide +kernel
theorem dX2_mergeContents_64 : decode cX2_mergeContents 64 = .ok (.imul, 1) := by decide +kernel
theorem dX2_mergeContents_65 : decode cX2_mergeContents 65 = .ok (.istore 7, 2) := by decide +kernel
theorem dX2_mergeContents_67 : decode cX2_mergeContents 67 = .ok (.iload_n 3, 1) := by decide +kernel
theorem dX2_mergeContents_68 : decode cX2_mergeContents 68 = .ok (.bipush 10, 2) := by decide +kernel
theorem dX2_mergeContents_70 : decode cX2_mergeContents 70 = .ok (.idiv, 1) := by decide +kernel
theorem dX2_mergeContents_71 : decode cX2_mergeContents 71 = .ok (.istore_n 3, 1) := by decide +kernel
theorem dX2_mergeContents_72 : decode cX2_mergeContents 72 = .ok (.iload 4, 2) := by decide +kernel
theorem dX2_mergeContents_74 : decode cX2_mergeContents 74 = .ok (.bipush 10, 2) := by decide +kernel
theorem dX2_mergeContents_76 : decode cX2_mergeContents 76 = .ok (.idiv, 1) := by decide +kernel
theorem dX2_mergeContents_77 : decode cX2_mergeContents 77 = .ok (.istore 4, 2) := by decide +kernel
theorem dX2_mergeContents_79 : decode cX2_mergeContents 79 = .ok (.iload 5, 2) := by decide +kernel
theorem dX2_mergeContents_81 : decode cX2_mergeContents 81 = .ok (.bipush 10, 2) := by decide +kernel
theorem dX2_mergeContents_83 : decode cX2_mergeContents 83 = .ok (.idiv, 1) := by decide +kernel
theorem dX2_mergeContents_84 : decode cX2_mergeContents 84 = .ok (.istore 5, 2) := by decide +kernel
theorem dX2_mergeContents_86 : decode cX2_mergeContents 86 = .ok (.iinc 8 1, 3) := by decide +kernel
theorem dX2_mergeContents_89 : decode cX2_mergeContents 89 = .ok (.goto (-72), 3) := by decide +kernel
theorem dX2_mergeContents_92 : decode cX2_mergeContents 92 = .ok (.iload 6, 2) := by decide +kernel
theorem dX2_mergeContents_94 : decode cX2_mergeContents 94 = .ok (.ireturn, 1) := by decide +kernel
theorem dX3_init_0 : decode cX3_init 0 = .ok (.aload_n 0, 1) := by decide +kernel
theorem dX3_init_1 : decode cX3_init 1 = .ok (.invokespecial 3, 3) := by decide +kernel
theorem dX3_init_4 : decode cX3_init 4 = .ok (.aload_n 0, 1) := by decide +kernel
theorem dX3_init_5 : decode cX3_init 5 = .ok (.sipush 480, 3) := by decide +kernel
theorem dX3_init_8 : decode cX3_init 8 = .ok (.newarray .int, 2) := by decide +kernel
theorem dX3_init_10 : decode cX3_init 10 = .ok (.putfield 9, 3) := by decide +kernel
theorem dX3_init_13 : decode cX3_init 13 = .ok (.aload_n 0, 1) := by decide +kernel
theorem dX3_init_14 : decode cX3_init 14 = .ok (.sipush 480, 3) := by decide +kernel
theorem dX3_init_17 : decode cX3_init 17 = .ok (.newarray .int, 2) := by decide +kernel
theorem dX3_init_19 : decode cX3_init 19 = .ok (.putfield 15, 3) := by decide +kernel
theorem dX3_init_22 : decode cX3_init 22 = .ok (.aload_n 0, 1) := by decide +kernel
theorem dX3_init_23 : decode cX3_init 23 = .ok (.sipush 480, 3) := by decide +kernel
theorem dX3_init_26 : decode cX3_init 26 = .ok (.newarray .int, 2) := by decide +kernel
theorem dX3_init_28 : decode cX3_init 28 = .ok (.putfield 18, 3) := by decide +kernel
theorem dX3_init_31 : decode cX3_init 31 = .ok (.return_, 1) := by decide +kernel
theorem dX3_size_0 : decode cX3_size 0 = .ok (.aload_n 0, 1) := by decide +kernel
theorem dX3_size_1 : decode cX3_size 1 = .ok (.getfield 21, 3) := by decide +kernel
theorem dX3_size_4 : decode cX3_size 4 = .ok (.ireturn, 1) := by decide +kernel
theorem dX3_sumOfSizes_0 : decode cX3_sumOfSizes 0 = .ok (.aload_n 0, 1) := by decide +kernel
theorem dX3_sumOfSizes_1 : decode cX3_sumOfSizes 1 = .ok (.getfield 25, 3) := by decide +kernel
theorem dX3_sumOfSizes_4 : decode cX3_sumOfSizes 4 = .ok (.lreturn, 1) := by decide +kernel
theorem dX3_hasPlace_0 : decode cX3_hasPlace 0 = .ok (.iload_n 1, 1) := by decide +kernel
theorem dX3_hasPlace_1 : decode cX3_hasPlace 1 = .ok (.ifCond .lt 15, 3) := by decide +kernel
theorem dX3_hasPlace_4 : decode cX3_hasPlace 4 = .ok (.iload_n 1, 1) := by decide +kernel
theorem dX3_hasPlace_5 : decode cX3_hasPlace 5 = .ok (.aload_n 0, 1) := by decide +kernel
theorem dX3_hasPlace_6 : decode cX3_hasPlace 6 = .ok (.getfield 21, 3) := by decide +kernel
theorem dX3_hasPlace_9 : decode cX3_hasPlace 9 = .ok (.if_icmp .ge 7, 3) := by decide +kernel
theorem dX3_hasPlace_12 : decode cX3_hasPlace 12 = .ok (.iconst 1, 1) := by decide +kernel
theorem dX3_hasPlace_13 : decode cX3_hasPlace 13 = .ok (.goto 4, 3) := by decide +kernel
theorem dX3_hasPlace_16 : decode cX3_hasPlace 16 = .ok (.iconst 0, 1) := by decide +kernel
theorem dX3_hasPlace_17 : decode cX3_hasPlace 17 = .ok (.ireturn, 1) := by decide +kernel
theorem dX3_find_0 : decode cX3_find 0 = .ok (.iconst 0, 1) := by decide +kernel
theorem dX3_find_1 : decode cX3_find 1 = .ok (.istore_n 2, 1) := by decide +kernel
theorem dX3_find_2 : decode cX3_find 2 = .ok (.iload_n 2, 1) := by decide +kernel
theorem dX3_find_3 : decode cX3_find 3 = .ok (.aload_n 0, 1) := by decide +kernel
theorem dX3_find_4 : decode cX3_find 4 = .ok (.getfield 21, 3) := by decide +kernel
theorem dX3_find_7 : decode cX3_find 7 = .ok (.if_icmp .ge 21, 3) := by decide +kernel
theorem dX3_find_10 : decode cX3_find 10 = .ok (.aload_n 0, 1) := by decide +kernel
theorem dX3_find_11 : decode cX3_find 11 = .ok (.getfield 9, 3) := by decide +kernel
theorem dX3_find_14 : decode cX3_find 14 = .ok (.iload_n 2, 1) := by decide +kernel
theorem dX3_find_15 : decode cX3_find 15 = .ok (.iaload, 1) := by decide +kernel
theorem dX3_find_16 : decode cX3_find 16 = .ok (.iload_n 1, 1) := by decide +kernel
theorem dX3_find_17 : decode cX3_find 17 = .ok (.if_icmp .ne 5, 3) := by decide +kernel
theorem dX3_find_20 : decode cX3_find 20 = .ok (.iload_n 2, 1) := by decide +kernel
theorem dX3_find_21 : decode cX3_find 21 = .ok (.ireturn, 1) := by decide +kernel
theorem dX3_find_22 : decode cX3_find 22 = .ok (.iinc 2 1, 3) := by decide +kernel
theorem dX3_find_25 : decode cX3_find 25 = .ok (.goto (-23), 3) := by decide +kernel
theorem dX3_find_28 : decode cX3_find 28 = .ok (.iconst (-1), 1) := by decide +kernel
theorem dX3_find_29 : decode cX3_find 29 = .ok (.ireturn, 1) := by decide +kernel
theorem dX3_depthAt_0 : decode cX3_depthAt 0 = .ok (.aload_n 0, 1) := by decide +kernel
theorem dX3_depthAt_1 : decode cX3_depthAt 1 = .ok (.iload_n 1, 1) := by decide +kernel
theorem dX3_depthAt_2 : decode cX3_depthAt 2 = .ok (.invokevirtual 29, 3) := by decide +kernel
theorem dX3_depthAt_5 : decode cX3_depthAt 5 = .ok (.ifCond .eq 12, 3) := by decide +kernel
theorem dX3_depthAt_8 : decode cX3_depthAt 8 = .ok (.aload_n 0, 1) := by decide +kernel
theorem dX3_depthAt_9 : decode cX3_depthAt 9 = .ok (.getfield 18, 3) := by decide +kernel
theorem dX3_depthAt_12 : decode cX3_depthAt 12 = .ok (.iload_n 1, 1) := by decide +kernel
theorem dX3_depthAt_13 : decode cX3_depthAt 13 = .ok (.iaload, 1) := by decide +kernel
theorem dX3_depthAt_14 : decode cX3_depthAt 14 = .ok (.goto 4, 3) := by decide +kernel
theorem dX3_depthAt_17 : decode cX3_depthAt 17 = .ok (.iconst (-1), 1) := by decide +kernel
theorem dX3_depthAt_18 : decode cX3_depthAt 18 = .ok (.ireturn, 1) := by decide +kernel
theorem dX3_sourceAt_0 : decode cX3_sourceAt 0 = .ok (.aload_n 0, 1) := by decide +kernel
theorem dX3_sourceAt_1 : decode cX3_sourceAt 1 = .ok (.iload_n 1, 1) := by decide +kernel
theorem dX3_sourceAt_2 : decode cX3_sourceAt 2 = .ok (.invokevirtual 29, 3) := by decide +kernel
theorem dX3_sourceAt_5 : decode cX3_sourceAt 5 = .ok (.ifCond .eq 12, 3) := by decide +kernel
theorem dX3_sourceAt_8 : decode cX3_sourceAt 8 = .ok (.aload_n 0, 1) := by decide +kernel
theorem dX3_sourceAt_9 : decode cX3_sourceAt 9 = .ok (.getfield 15, 3) := by decide +kernel
theorem dX3_sourceAt_12 : decode cX3_sourceAt 12 = .ok (.iload_n 1, 1) := by decide +kernel
theorem dX3_sourceAt_13 : decode cX3_sourceAt 13 = .ok (.iaload, 1) := by decide +kernel
theorem dX3_sourceAt_14 : decode cX3_sourceAt 14 = .ok (.goto 4, 3) := by decide +kernel
theorem dX3_sourceAt_17 : decode cX3_sourceAt 17 = .ok (.iconst (-1), 1) := by decide +kernel
theorem dX3_sourceAt_18 : decode cX3_sourceAt 18 = .ok (.ireturn, 1) := by decide +kernel
theorem dX3_catchUpWith_0 : decode cX3_catchUpWith 0 = .ok (.aload_n 0, 1) := by decide +kernel
theorem dX3_catchUpWith_1 : decode cX3_catchUpWith 1 = .ok (.getfield 33, 3) := by decide +kernel
theorem dX3_catchUpWith_4 : decode cX3_catchUpWith 4 = .ok (.aload_n 1, 1) := by decide +kernel
theorem dX3_catchUpWith_5 : decode cX3_catchUpWith 5 = .ok (.invokevirtual 36, 3) := by decide +kernel
theorem dX3_catchUpWith_8 : decode cX3_catchUpWith 8 = .ok (.if_icmp .ge 48, 3) := by decide +kernel
theorem dX3_catchUpWith_11 : decode cX3_catchUpWith 11 = .ok (.aload_n 1, 1) := by decide +kernel
theorem dX3_catchUpWith_12 : decode cX3_catchUpWith 12 = .ok (.aload_n 0, 1) := by decide +kernel
theorem dX3_catchUpWith_13 : decode cX3_catchUpWith 13 = .ok (.getfield 33, 3) := by decide +kernel
theorem dX3_catchUpWith_16 : decode cX3_catchUpWith 16 = .ok (.invokevirtual 42, 3) := by decide +kernel
theorem dX3_catchUpWith_19 : decode cX3_catchUpWith 19 = .ok (.astore_n 2, 1) := by decide +kernel
theorem dX3_catchUpWith_20 : decode cX3_catchUpWith 20 = .ok (.iconst 0, 1) := by decide +kernel
theorem dX3_catchUpWith_21 : decode cX3_catchUpWith 21 = .ok (.istore_n 3, 1) := by decide +kernel
theorem dX3_catchUpWith_22 : decode cX3_catchUpWith 22 = .ok (.iload_n 3, 1) := by decide +kernel
theorem dX3_catchUpWith_23 : decode cX3_catchUpWith 23 = .ok (.bipush 8, 2) := by decide +kernel
theorem dX3_catchUpWith_25 : decode cX3_catchUpWith 25 = .ok (.if_icmp .ge 18, 3) := by decide +kernel
theorem dX3_catchUpWith_28 : decode cX3_catchUpWith 28 = .ok (.aload_n 0, 1) := by decide +kernel
theorem dX3_catchUpWith_29 : decode cX3_catchUpWith 29 = .ok (.aload_n 2, 1) := by decide +kernel
theorem dX3_catchUpWith_30 : decode cX3_catchUpWith 30 = .ok (.iload_n 3, 1) := by decide +kernel
theorem dX3_catchUpWith_31 : decode cX3_catchUpWith 31 = .ok (.invokevirtual 46, 3) := by decide +kernel
theorem dX3_catchUpWith_34 : decode cX3_catchUpWith 34 = .ok (.invokevirtual 52, 3) := by decide +kernel
theorem dX3_catchUpWith_37 : decode cX3_catchUpWith 37 = .ok (.iinc 3 1, 3) := by decide +kernel
theorem dX3_catchUpWith_40 : decode cX3_catchUpWith 40 = .ok (.goto (-18), 3) := by decide +kernel
theorem dX3_catchUpWith_43 : decode cX3_catchUpWith 43 = .ok (.aload_n 0, 1) := by decide +kernel
theorem dX3_catchUpWith_44 : decode cX3_catchUpWith 44 = .ok (.dup, 1) := by decide +kernel
theorem dX3_catchUpWith_45 : decode cX3_catchUpWith 45 = .ok (.getfield 33, 3) := by decide +kernel
theorem dX3_catchUpWith_48 : decode cX3_catchUpWith 48 = .ok (.iconst 1, 1) := by decide +kernel
theorem dX3_catchUpWith_49 : decode cX3_catchUpWith 49 = .ok (.iadd, 1) := by decide +kernel
theorem dX3_catchUpWith_50 : decode cX3_catchUpWith 50 = .ok (.putfield 33, 3) := by decide +kernel
theorem dX3_catchUpWith_53 : decode cX3_catchUpWith 53 = .ok (.goto (-53), 3) := by decide +kernel
theorem dX3_catchUpWith_56 : decode cX3_catchUpWith 56 = .ok (.return_, 1) := by decide +kernel
theorem dX3_add_0 : decode cX3_add 0 = .ok (.iload_n 1, 1) := by decide +kernel
theorem dX3_add_1 : decode cX3_add 1 = .ok (.iconst (-1), 1) := by decide +kernel
theorem dX3_add_2 : decode cX3_add 2 = .ok (.if_icmp .eq 24, 3) := by decide +kernel
theorem dX3_add_5 : decode cX3_add 5 = .ok (.aload_n 0, 1) := by decide +kernel
theorem dX3_add_6 : decode cX3_add 6 = .ok (.iload_n 1, 1) := by decide +kernel
theorem dX3_add_7 : decode cX3_add 7 = .ok (.invokevirtual 56, 3) := by decide +kernel
theorem dX3_add_10 : decode cX3_add 10 = .ok (.iconst (-1), 1) := by decide +kernel
theorem dX3_add_11 : decode cX3_add 11 = .ok (.if_icmp .ne 15, 3) := by decide +kernel
theorem dX3_add_14 : decode cX3_add 14 = .ok (.aload_n 0, 1) := by decide +kernel
theorem dX3_add_15 : decode cX3_add 15 = .ok (.getfield 21, 3) := by decide +kernel
theorem dX3_add_18 : decode cX3_add 18 = .ok (.aload_n 0, 1) := by decide +kernel
theorem dX3_add_19 : decode cX3_add 19 = .ok (.getfield 9, 3) := by decide +kernel
theorem dX3_add_22 : decode cX3_add 22 = .ok (.arraylength, 1) := by decide +kernel
theorem dX3_add_23 : decode cX3_add 23 = .ok (.if_icmp .lt 4, 3) := by decide +kernel
theorem dX3_add_26 : decode cX3_add 26 = .ok (.return_, 1) := by decide +kernel
theorem dX3_add_27 : decode cX3_add 27 = .ok (.iconst (-1), 1) := by decide +kernel
theorem dX3_add_28 : decode cX3_add 28 = .ok (.istore_n 2, 1) := by decide +kernel
theorem dX3_add_29 : decode cX3_add 29 = .ok (.iconst 4, 1) := by decide +kernel
theorem dX3_add_30 : decode cX3_add 30 = .ok (.istore_n 3, 1) := by decide +kernel
theorem dX3_add_31 : decode cX3_add 31 = .ok (.iconst 0, 1) := by decide +kernel
theorem dX3_add_32 : decode cX3_add 32 = .ok (.istore 4, 2) := by decide +kernel
theorem dX3_add_34 : decode cX3_add 34 = .ok (.iload 4, 2) := by decide +kernel
theorem dX3_add_36 : decode cX3_add 36 = .ok (.aload_n 0, 1) := by decide +kernel
theorem dX3_add_37 : decode cX3_add 37 = .ok (.getfield 21, 3) := by decide +kernel
theorem dX3_add_40 : decode cX3_add 40 = .ok (.if_icmp .ge 47, 3) := by decide +kernel
theorem dX3_add_43 : decode cX3_add 43 = .ok (.iconst 5, 1) := by decide +kernel
theorem dX3_add_44 : decode cX3_add 44 = .ok (.aload_n 0, 1) := by decide +kernel
theorem dX3_add_45 : decode cX3_add 45 = .ok (.getfield 9, 3) := by decide +kernel
theorem dX3_add_48 : decode cX3_add 48 = .ok (.iload 4, 2) := by decide +kernel
theorem dX3_add_50 : decode cX3_add 50 = .ok (.iaload, 1) := by decide +kernel
theorem dX3_add_51 : decode cX3_add 51 = .ok (.iload_n 1, 1) := by decide +kernel
theorem dX3_add_52 : decode cX3_add 52 = .ok (.invokestatic 59, 3) := by decide +kernel
theorem dX3_add_55 : decode cX3_add 55 = .ok (.isub, 1) := by decide +kernel
theorem dX3_add_56 : decode cX3_add 56 = .ok (.istore 5, 2) := by decide +kernel
theorem dX3_add_58 : decode cX3_add 58 = .ok (.aload_n 0, 1) := by decide +kernel
theorem dX3_add_59 : decode cX3_add 59 = .ok (.getfield 18, 3) := by decide +kernel
theorem dX3_add_62 : decode cX3_add 62 = .ok (.iload 4, 2) := by decide +kernel
theorem dX3_add_64 : decode cX3_add 64 = .ok (.iaload, 1) := by decide +kernel
theorem dX3_add_65 : decode cX3_add 65 = .ok (.iconst 2, 1) := by decide +kernel
theorem dX3_add_66 : decode cX3_add 66 = .ok (.if_icmp .gt 15, 3) := by decide +kernel
theorem dX3_add_69 : decode cX3_add 69 = .ok (.iload 5, 2) := by decide +kernel
theorem dX3_add_71 : decode cX3_add 71 = .ok (.iload_n 3, 1) := by decide +kernel
theorem dX3_add_72 : decode cX3_add 72 = .ok (.if_icmp .ge 9, 3) := by decide +kernel
theorem dX3_add_75 : decode cX3_add 75 = .ok (.iload 4, 2) := by decide +kernel
theorem dX3_add_77 : decode cX3_add 77 = .ok (.istore_n 2, 1) := by decide +kernel
theorem dX3_add_78 : decode cX3_add 78 = .ok (.iload 5, 2) := by decide +kernel
theorem dX3_add_80 : decode cX3_add 80 = .ok (.istore_n 3, 1) := by decide +kernel
theorem dX3_add_81 : decode cX3_add 81 = .ok (.iinc 4 1, 3) := by decide +kernel
theorem dX3_add_84 : decode cX3_add 84 = .ok (.goto (-50), 3) := by decide +kernel
theorem dX3_add_87 : decode cX3_add 87 = .ok (.aload_n 0, 1) := by decide +kernel
theorem dX3_add_88 : decode cX3_add 88 = .ok (.getfield 9, 3) := by decide +kernel
theorem dX3_add_91 : decode cX3_add 91 = .ok (.aload_n 0, 1) := by decide +kernel
theorem dX3_add_92 : decode cX3_add 92 = .ok (.getfield 21, 3) := by decide +kernel
theorem dX3_add_95 : decode cX3_add 95 = .ok (.iload_n 1, 1) := by decide +kernel
theorem dX3_add_96 : decode cX3_add 96 = .ok (.iastore, 1) := by decide +kernel
theorem dX3_add_97 : decode cX3_add 97 = .ok (.aload_n 0, 1) := by decide +kernel
theorem dX3_add_98 : decode cX3_add 98 = .ok (.getfield 15, 3) := by decide +kernel
theorem dX3_add_101 : decode cX3_add 101 = .ok (.aload_n 0, 1) := by decide +kernel
theorem dX3_add_102 : decode cX3_add 102 = .ok (.getfield 21, 3) := by decide +kernel
theorem dX3_add_105 : decode cX3_add 105 = .ok (.iload_n 2, 1) := by decide +kernel
theorem dX3_add_106 : decode cX3_add 106 = .ok (.iconst (-1), 1) := by decide +kernel
theorem dX3_add_107 : decode cX3_add 107 = .ok (.if_icmp .ne 7, 3) := by decide +kernel
theorem dX3_add_110 : decode cX3_add 110 = .ok (.iconst (-1), 1) := by decide +kernel
theorem dX3_add_111 : decode cX3_add 111 = .ok (.goto 9, 3) := by decide +kernel
theorem dX3_add_114 : decode cX3_add 114 = .ok (.aload_n 0, 1) := by decide +kernel
theorem dX3_add_115 : decode cX3_add 115 = .ok (.getfield 9, 3) := by decide +kernel
theorem dX3_add_118 : decode cX3_add 118 = .ok (.iload_n 2, 1) := by decide +kernel
theorem dX3_add_119 : decode cX3_add 119 = .ok (.iaload, 1) := by decide +kernel
theorem dX3_add_120 : decode cX3_add 120 = .ok (.iastore, 1) := by decide +kernel
theorem dX3_add_121 : decode cX3_add 121 = .ok (.aload_n 0, 1) := by decide +kernel
theorem dX3_add_122 : decode cX3_add 122 = .ok (.getfield 18, 3) := by decide +kernel
theorem dX3_add_125 : decode cX3_add 125 = .ok (.aload_n 0, 1) := by decide +kernel
theorem dX3_add_126 : decode cX3_add 126 = .ok (.getfield 21, 3) := by decide +kernel
theorem dX3_add_129 : decode cX3_add 129 = .ok (.iload_n 2, 1) := by decide +kernel
theorem dX3_add_130 : decode cX3_add 130 = .ok (.iconst (-1), 1) := by decide +kernel
theorem dX3_add_131 : decode cX3_add 131 = .ok (.if_icmp .ne 7, 3) := by decide +kernel
theorem dX3_add_134 : decode cX3_add 134 = .ok (.iconst 0, 1) := by decide +kernel
theorem dX3_add_135 : decode cX3_add 135 = .ok (.goto 11, 3) := by decide +kernel
theorem dX3_add_138 : decode cX3_add 138 = .ok (.aload_n 0, 1) := by decide +kernel
theorem dX3_add_139 : decode cX3_add 139 = .ok (.getfield 18, 3) := by decide +kernel
theorem dX3_add_142 : decode cX3_add 142 = .ok (.iload_n 2, 1) := by decide +kernel
theorem dX3_add_143 : decode cX3_add 143 = .ok (.iaload, 1) := by decide +kernel
theorem dX3_add_144 : decode cX3_add 144 = .ok (.iconst 1, 1) := by decide +kernel
theorem dX3_add_145 : decode cX3_add 145 = .ok (.iadd, 1) := by decide +kernel
theorem dX3_add_146 : decode cX3_add 146 = .ok (.iastore, 1) := by decide +kernel
theorem dX3_add_147 : decode cX3_add 147 = .ok (.aload_n 0, 1) := by decide +kernel
theorem dX3_add_148 : decode cX3_add 148 = .ok (.dup, 1) := by decide +kernel
theorem dX3_add_149 : decode cX3_add 149 = .ok (.getfield 25, 3) := by decide +kernel
theorem dX3_add_152 : decode cX3_add 152 = .ok (.iload_n 3, 1) := by decide +kernel
theorem dX3_add_153 : decode cX3_add 153 = .ok (.i2l, 1) := by decide +kernel
theorem dX3_add_154 : decode cX3_add 154 = .ok (.ladd, 1) := by decide +kernel
theorem dX3_add_155 : decode cX3_add 155 = .ok (.putfield 25, 3) := by decide +kernel
theorem dX3_add_158 : decode cX3_add 158 = .ok (.aload_n 0, 1) := by decide +kernel
theorem dX3_add_159 : decode cX3_add 159 = .ok (.dup, 1) := by decide +kernel
theorem dX3_add_160 : decode cX3_add 160 = .ok (.getfield 21, 3) := by decide +kernel
theorem dX3_add_163 : decode cX3_add 163 = .ok (.iconst 1, 1) := by decide +kernel
theorem dX3_add_164 : decode cX3_add 164 = .ok (.iadd, 1) := by decide +kernel
theorem dX3_add_165 : decode cX3_add 165 = .ok (.putfield 21, 3) := by decide +kernel
theorem dX3_add_168 : decode cX3_add 168 = .ok (.return_, 1) := by decide +kernel
theorem dX4_init_0 : decode cX4_init 0 = .ok (.aload_n 0, 1) := by decide +kernel
theorem dX4_init_1 : decode cX4_init 1 = .ok (.invokespecial 3, 3) := by decide +kernel
theorem dX4_init_4 : decode cX4_init 4 = .ok (.aload_n 0, 1) := by decide +kernel
theorem dX4_init_5 : decode cX4_init 5 = .ok (.bipush 8, 2) := by decide +kernel
theorem dX4_init_7 : decode cX4_init 7 = .ok (.newarray .int, 2) := by decide +kernel
theorem dX4_init_9 : decode cX4_init 9 = .ok (.putfield 9, 3) := by decide +kernel
theorem dX4_init_12 : decode cX4_init 12 = .ok (.iconst 0, 1) := by decide +kernel
theorem dX4_init_13 : decode cX4_init 13 = .ok (.istore_n 1, 1) := by decide +kernel
theorem dX4_init_14 : decode cX4_init 14 = .ok (.iload_n 1, 1) := by decide +kernel
theorem dX4_init_15 : decode cX4_init 15 = .ok (.aload_n 0, 1) := by decide +kernel
theorem dX4_init_16 : decode cX4_init 16 = .ok (.getfield 9, 3) := by decide +kernel
theorem dX4_init_19 : decode cX4_init 19 = .ok (.arraylength, 1) := by decide +kernel
theorem dX4_init_20 : decode cX4_init 20 = .ok (.if_icmp .ge 16, 3) := by decide +kernel
theorem dX4_init_23 : decode cX4_init 23 = .ok (.aload_n 0, 1) := by decide +kernel
theorem dX4_init_24 : decode cX4_init 24 = .ok (.getfield 9, 3) := by decide +kernel
theorem dX4_init_27 : decode cX4_init 27 = .ok (.iload_n 1, 1) := by decide +kernel
theorem dX4_init_28 : decode cX4_init 28 = .ok (.iconst (-1), 1) := by decide +kernel
theorem dX4_init_29 : decode cX4_init 29 = .ok (.iastore, 1) := by decide +kernel
theorem dX4_init_30 : decode cX4_init 30 = .ok (.iinc 1 1, 3) := by decide +kernel
theorem dX4_init_33 : decode cX4_init 33 = .ok (.goto (-19), 3) := by decide +kernel
theorem dX4_init_36 : decode cX4_init 36 = .ok (.return_, 1) := by decide +kernel
theorem dX4_at_0 : decode cX4_at 0 = .ok (.iload_n 1, 1) := by decide +kernel
theorem dX4_at_1 : decode cX4_at 1 = .ok (.ifCond .lt 21, 3) := by decide +kernel
theorem dX4_at_4 : decode cX4_at 4 = .ok (.iload_n 1, 1) := by decide +kernel
theorem dX4_at_5 : decode cX4_at 5 = .ok (.aload_n 0, 1) := by decide +kernel
theorem dX4_at_6 : decode cX4_at 6 = .ok (.getfield 9, 3) := by decide +kernel
theorem dX4_at_9 : decode cX4_at 9 = .ok (.arraylength, 1) := by decide +kernel
theorem dX4_at_10 : decode cX4_at 10 = .ok (.if_icmp .ge 12, 3) := by decide +kernel
theorem dX4_at_13 : decode cX4_at 13 = .ok (.aload_n 0, 1) := by decide +kernel
theorem dX4_at_14 : decode cX4_at 14 = .ok (.getfield 9, 3) := by decide +kernel
theorem dX4_at_17 : decode cX4_at 17 = .ok (.iload_n 1, 1) := by decide +kernel
theorem dX4_at_18 : decode cX4_at 18 = .ok (.iaload, 1) := by decide +kernel
theorem dX4_at_19 : decode cX4_at 19 = .ok (.goto 4, 3) := by decide +kernel
theorem dX4_at_22 : decode cX4_at 22 = .ok (.iconst (-1), 1) := by decide +kernel
theorem dX4_at_23 : decode cX4_at 23 = .ok (.ireturn, 1) := by decide +kernel
theorem dX4_put_0 : decode cX4_put 0 = .ok (.iload_n 1, 1) := by decide +kernel
theorem dX4_put_1 : decode cX4_put 1 = .ok (.ifCond .lt 19, 3) := by decide +kernel
theorem dX4_put_4 : decode cX4_put 4 = .ok (.iload_n 1, 1) := by decide +kernel
theorem dX4_put_5 : decode cX4_put 5 = .ok (.aload_n 0, 1) := by decide +kernel
theorem dX4_put_6 : decode cX4_put 6 = .ok (.getfield 9, 3) := by decide +kernel
theorem dX4_put_9 : decode cX4_put 9 = .ok (.arraylength, 1) := by decide +kernel
theorem dX4_put_10 : decode cX4_put 10 = .ok (.if_icmp .ge 10, 3) := by decide +kernel
theorem dX4_put_13 : decode cX4_put 13 = .ok (.aload_n 0, 1) := by decide +kernel
theorem dX4_put_14 : decode cX4_put 14 = .ok (.getfield 9, 3) := by decide +kernel
theorem dX4_put_17 : decode cX4_put 17 = .ok (.iload_n 1, 1) := by decide +kernel
theorem dX4_put_18 : decode cX4_put 18 = .ok (.iload_n 2, 1) := by decide +kernel
theorem dX4_put_19 : decode cX4_put 19 = .ok (.iastore, 1) := by decide +kernel
theorem dX4_put_20 : decode cX4_put 20 = .ok (.return_, 1) := by decide +kernel
theorem dX4_copy_0 : decode cX4_copy 0 = .ok (.iconst 0, 1) := by decide +kernel
theorem dX4_copy_1 : decode cX4_copy 1 = .ok (.istore_n 2, 1) := by decide +kernel
theorem dX4_copy_2 : decode cX4_copy 2 = .ok (.iload_n 2, 1) := by decide +kernel
theorem dX4_copy_3 : decode cX4_copy 3 = .ok (.aload_n 0, 1) := by decide +kernel
theorem dX4_copy_4 : decode cX4_copy 4 = .ok (.getfield 9, 3) := by decide +kernel
theorem dX4_copy_7 : decode cX4_copy 7 = .ok (.arraylength, 1) := by decide +kernel
theorem dX4_copy_8 : decode cX4_copy 8 = .ok (.if_icmp .ge 20, 3) := by decide +kernel
theorem dX4_copy_11 : decode cX4_copy 11 = .ok (.aload_n 0, 1) := by decide +kernel
theorem dX4_copy_12 : decode cX4_copy 12 = .ok (.getfield 9, 3) := by decide +kernel
theorem dX4_copy_15 : decode cX4_copy 15 = .ok (.iload_n 2, 1) := by decide +kernel
theorem dX4_copy_16 : decode cX4_copy 16 = .ok (.aload_n 1, 1) := by decide +kernel
theorem dX4_copy_17 : decode cX4_copy 17 = .ok (.iload_n 2, 1) := by decide +kernel
theorem dX4_copy_18 : decode cX4_copy 18 = .ok (.invokevirtual 15, 3) := by decide +kernel
theorem dX4_copy_21 : decode cX4_copy 21 = .ok (.iastore, 1) := by decide +kernel
theorem dX4_copy_22 : decode cX4_copy 22 = .ok (.iinc 2 1, 3) := by decide +kernel
theorem dX4_copy_25 : decode cX4_copy 25 = .ok (.goto (-23), 3) := by decide +kernel
theorem dX4_copy_28 : decode cX4_copy 28 = .ok (.return_, 1) := by decide +kernel
theorem dX4_differences_0 : decode cX4_differences 0 = .ok (.iconst 0, 1) := by decide +kernel
theorem dX4_differences_1 : decode cX4_differences 1 = .ok (.istore_n 2, 1) := by decide +kernel
theorem dX4_differences_2 : decode cX4_differences 2 = .ok (.iconst 0, 1) := by decide +kernel
theorem dX4_differences_3 : decode cX4_differences 3 = .ok (.istore_n 3, 1) := by decide +kernel
theorem dX4_differences_4 : decode cX4_differences 4 = .ok (.iload_n 3, 1) := by decide +kernel
theorem dX4_differences_5 : decode cX4_differences 5 = .ok (.aload_n 0, 1) := by decide +kernel
theorem dX4_differences_6 : decode cX4_differences 6 = .ok (.getfield 9, 3) := by decide +kernel
theorem dX4_differences_9 : decode cX4_differences 9 = .ok (.arraylength, 1) := by decide +kernel
theorem dX4_differences_10 : decode cX4_differences 10 = .ok (.if_icmp .ge 26, 3) := by decide +kernel
theorem dX4_differences_13 : decode cX4_differences 13 = .ok (.aload_n 0, 1) := by decide +kernel
theorem dX4_differences_14 : decode cX4_differences 14 = .ok (.getfield 9, 3) := by decide +kernel
theorem dX4_differences_17 : decode cX4_differences 17 = .ok (.iload_n 3, 1) := by decide +kernel
theorem dX4_differences_18 : decode cX4_differences 18 = .ok (.iaload, 1) := by decide +kernel
theorem dX4_differences_19 : decode cX4_differences 19 = .ok (.aload_n 1, 1) := by decide +kernel
theorem dX4_differences_20 : decode cX4_differences 20 = .ok (.iload_n 3, 1) := by decide +kernel
theorem dX4_differences_21 : decode cX4_differences 21 = .ok (.invokevirtual 15, 3) := by decide +kernel
theorem dX4_differences_24 : decode cX4_differences 24 = .ok (.if_icmp .eq 6, 3) := by decide +kernel
theorem dX4_differences_27 : decode cX4_differences 27 = .ok (.iinc 2 1, 3) := by decide +kernel
theorem dX4_differences_30 : decode cX4_differences 30 = .ok (.iinc 3 1, 3) := by decide +kernel
theorem dX4_differences_33 : decode cX4_differences 33 = .ok (.goto (-29), 3) := by decide +kernel
theorem dX4_differences_36 : decode cX4_differences 36 = .ok (.iload_n 2, 1) := by decide +kernel
theorem dX4_differences_37 : decode cX4_differences 37 = .ok (.ireturn, 1) := by decide +kernel
theorem dX5_init_0 : decode cX5_init 0 = .ok (.aload_n 0, 1) := by decide +kernel
theorem dX5_init_1 : decode cX5_init 1 = .ok (.invokespecial 3, 3) := by decide +kernel
theorem dX5_init_4 : decode cX5_init 4 = .ok (.aload_n 0, 1) := by decide +kernel
theorem dX5_init_5 : decode cX5_init 5 = .ok (.new 9, 3) := by decide +kernel
theorem dX5_init_8 : decode cX5_init 8 = .ok (.dup, 1) := by decide +kernel
theorem dX5_init_9 : decode cX5_init 9 = .ok (.invokespecial 11, 3) := by decide +kernel
theorem dX5_init_12 : decode cX5_init 12 = .ok (.putfield 12, 3) := by decide +kernel
theorem dX5_init_15 : decode cX5_init 15 = .ok (.aload_n 0, 1) := by decide +kernel
theorem dX5_init_16 : decode cX5_init 16 = .ok (.new 9, 3) := by decide +kernel
theorem dX5_init_19 : decode cX5_init 19 = .ok (.dup, 1) := by decide +kernel
theorem dX5_init_20 : decode cX5_init 20 = .ok (.invokespecial 11, 3) := by decide +kernel
theorem dX5_init_23 : decode cX5_init 23 = .ok (.putfield 18, 3) := by decide +kernel
theorem dX5_init_26 : decode cX5_init 26 = .ok (.aload_n 0, 1) := by decide +kernel
theorem dX5_init_27 : decode cX5_init 27 = .ok (.new 21, 3) := by decide +kernel
theorem dX5_init_30 : decode cX5_init 30 = .ok (.dup, 1) := by decide +kernel
theorem dX5_init_31 : decode cX5_init 31 = .ok (.invokespecial 23, 3) := by decide +kernel
theorem dX5_init_34 : decode cX5_init 34 = .ok (.putfield 24, 3) := by decide +kernel
theorem dX5_init_37 : decode cX5_init 37 = .ok (.aload_n 0, 1) := by decide +kernel
theorem dX5_init_38 : decode cX5_init 38 = .ok (.bipush 8, 2) := by decide +kernel
theorem dX5_init_40 : decode cX5_init 40 = .ok (.newarray .int, 2) := by decide +kernel
theorem dX5_init_42 : decode cX5_init 42 = .ok (.putfield 28, 3) := by decide +kernel
theorem dX5_init_45 : decode cX5_init 45 = .ok (.return_, 1) := by decide +kernel
theorem dX5_merged_0 : decode cX5_merged 0 = .ok (.aload_n 0, 1) := by decide +kernel
theorem dX5_merged_1 : decode cX5_merged 1 = .ok (.getfield 24, 3) := by decide +kernel
theorem dX5_merged_4 : decode cX5_merged 4 = .ok (.areturn, 1) := by decide +kernel
theorem dX5_moveBetween_0 : decode cX5_moveBetween 0 = .ok (.aload_n 0, 1) := by decide +kernel
theorem dX5_moveBetween_1 : decode cX5_moveBetween 1 = .ok (.getfield 12, 3) := by decide +kernel
theorem dX5_moveBetween_4 : decode cX5_moveBetween 4 = .ok (.aload_n 1, 1) := by decide +kernel
theorem dX5_moveBetween_5 : decode cX5_moveBetween 5 = .ok (.aload_n 2, 1) := by decide +kernel
theorem dX5_moveBetween_6 : decode cX5_moveBetween 6 = .ok (.invokevirtual 32, 3) := by decide +kernel
theorem dX5_moveBetween_9 : decode cX5_moveBetween 9 = .ok (.aload_n 0, 1) := by decide +kernel
theorem dX5_moveBetween_10 : decode cX5_moveBetween 10 = .ok (.getfield 12, 3) := by decide +kernel
theorem dX5_moveBetween_13 : decode cX5_moveBetween 13 = .ok (.iload_n 3, 1) := by decide +kernel
theorem dX5_moveBetween_14 : decode cX5_moveBetween 14 = .ok (.invokevirtual 36, 3) := by decide +kernel
theorem dX5_moveBetween_17 : decode cX5_moveBetween 17 = .ok (.ireturn, 1) := by decide +kernel
theorem dX5_run_0 : decode cX5_run 0 = .ok (.aload_n 0, 1) := by decide +kernel
theorem dX5_run_1 : decode cX5_run 1 = .ok (.getfield 12, 3) := by decide +kernel
theorem dX5_run_4 : decode cX5_run 4 = .ok (.aload_n 1, 1) := by decide +kernel
theorem dX5_run_5 : decode cX5_run 5 = .ok (.iload_n 2, 1) := by decide +kernel
theorem dX5_run_6 : decode cX5_run 6 = .ok (.invokevirtual 40, 3) := by decide +kernel
theorem dX5_run_9 : decode cX5_run 9 = .ok (.aload_n 1, 1) := by decide +kernel
theorem dX5_run_10 : decode cX5_run 10 = .ok (.iload_n 3, 1) := by decide +kernel
theorem dX5_run_11 : decode cX5_run 11 = .ok (.invokevirtual 40, 3) := by decide +kernel
theorem dX5_run_14 : decode cX5_run 14 = .ok (.invokevirtual 32, 3) := by decide +kernel
theorem dX5_run_17 : decode cX5_run 17 = .ok (.aload_n 0, 1) := by decide +kernel
theorem dX5_run_18 : decode cX5_run 18 = .ok (.getfield 18, 3) := by decide +kernel
theorem dX5_run_21 : decode cX5_run 21 = .ok (.aload_n 1, 1) := by decide +kernel
theorem dX5_run_22 : decode cX5_run 22 = .ok (.iload_n 2, 1) := by decide +kernel
theorem dX5_run_23 : decode cX5_run 23 = .ok (.invokevirtual 40, 3) := by decide +kernel
theorem dX5_run_26 : decode cX5_run 26 = .ok (.aload_n 1, 1) := by decide +kernel
theorem dX5_run_27 : decode cX5_run 27 = .ok (.iload 4, 2) := by decide +kernel
theorem dX5_run_29 : decode cX5_run 29 = .ok (.invokevirtual 40, 3) := by decide +kernel
theorem dX5_run_32 : decode cX5_run 32 = .ok (.invokevirtual 32, 3) := by decide +kernel
theorem dX5_run_35 : decode cX5_run 35 = .ok (.aload_n 0, 1) := by decide +kernel
theorem dX5_run_36 : decode cX5_run 36 = .ok (.iconst 0, 1) := by decide +kernel
theorem dX5_run_37 : decode cX5_run 37 = .ok (.putfield 46, 3) := by decide +kernel
theorem dX5_run_40 : decode cX5_run 40 = .ok (.iconst 0, 1) := by decide +kernel
theorem dX5_run_41 : decode cX5_run 41 = .ok (.istore 5, 2) := by decide +kernel
theorem dX5_run_43 : decode cX5_run 43 = .ok (.iload 5, 2) := by decide +kernel
theorem dX5_run_45 : decode cX5_run 45 = .ok (.aload_n 0, 1) := by decide +kernel
theorem dX5_run_46 : decode cX5_run 46 = .ok (.getfield 28, 3) := by decide +kernel
theorem dX5_run_49 : decode cX5_run 49 = .ok (.arraylength, 1) := by decide +kernel
theorem dX5_run_50 : decode cX5_run 50 = .ok (.if_icmp .ge 27, 3) := by decide +kernel
theorem dX5_run_53 : decode cX5_run 53 = .ok (.aload_n 0, 1) := by decide +kernel
theorem dX5_run_54 : decode cX5_run 54 = .ok (.getfield 28, 3) := by decide +kernel
theorem dX5_run_57 : decode cX5_run 57 = .ok (.iload 5, 2) := by decide +kernel
theorem dX5_run_59 : decode cX5_run 59 = .ok (.iconst 0, 1) := by decide +kernel
theorem dX5_run_60 : decode cX5_run 60 = .ok (.iastore, 1) := by decide +kernel
theorem dX5_run_61 : decode cX5_run 61 = .ok (.aload_n 0, 1) := by decide +kernel
theorem dX5_run_62 : decode cX5_run 62 = .ok (.getfield 24, 3) := by decide +kernel
theorem dX5_run_65 : decode cX5_run 65 = .ok (.iload 5, 2) := by decide +kernel
theorem dX5_run_67 : decode cX5_run 67 = .ok (.iconst (-1), 1) := by decide +kernel
theorem dX5_run_68 : decode cX5_run 68 = .ok (.invokevirtual 50, 3) := by decide +kernel
theorem dX5_run_71 : decode cX5_run 71 = .ok (.iinc 5 1, 3) := by decide +kernel
theorem dX5_run_74 : decode cX5_run 74 = .ok (.goto (-31), 3) := by decide +kernel
theorem dX5_run_77 : decode cX5_run 77 = .ok (.iconst 0, 1) := by decide +kernel
theorem dX5_run_78 : decode cX5_run 78 = .ok (.istore 5, 2) := by decide +kernel
theorem dX5_run_80 : decode cX5_run 80 = .ok (.iload 5, 2) := by decide +kernel
theorem dX5_run_82 : decode cX5_run 82 = .ok (.bipush 8, 2) := by decide +kernel
theorem dX5_run_84 : decode cX5_run 84 = .ok (.if_icmp .ge 34, 3) := by decide +kernel
theorem dX5_run_87 : decode cX5_run 87 = .ok (.aload_n 0, 1) := by decide +kernel
theorem dX5_run_88 : decode cX5_run 88 = .ok (.getfield 12, 3) := by decide +kernel
theorem dX5_run_91 : decode cX5_run 91 = .ok (.iload 5, 2) := by decide +kernel
theorem dX5_run_93 : decode cX5_run 93 = .ok (.invokevirtual 54, 3) := by decide +kernel
theorem dX5_run_96 : decode cX5_run 96 = .ok (.iconst (-1), 1) := by decide +kernel
theorem dX5_run_97 : decode cX5_run 97 = .ok (.if_icmp .eq 9, 3) := by decide +kernel
theorem dX5_run_100 : decode cX5_run 100 = .ok (.aload_n 0, 1) := by decide +kernel
theorem dX5_run_101 : decode cX5_run 101 = .ok (.iload 5, 2) := by decide +kernel
theorem dX5_run_103 : decode cX5_run 103 = .ok (.invokevirtual 57, 3) := by decide +kernel
theorem dX5_run_106 : decode cX5_run 106 = .ok (.aload_n 0, 1) := by decide +kernel
theorem dX5_run_107 : decode cX5_run 107 = .ok (.iload 5, 2) := by decide +kernel
theorem dX5_run_109 : decode cX5_run 109 = .ok (.invokevirtual 61, 3) := by decide +kernel
theorem dX5_run_112 : decode cX5_run 112 = .ok (.iinc 5 1, 3) := by decide +kernel
theorem dX5_run_115 : decode cX5_run 115 = .ok (.goto (-35), 3) := by decide +kernel
theorem dX5_run_118 : decode cX5_run 118 = .ok (.aload_n 0, 1) := by decide +kernel
theorem dX5_run_119 : decode cX5_run 119 = .ok (.getfield 46, 3) := by decide +kernel
theorem dX5_run_122 : decode cX5_run 122 = .ok (.aload_n 0, 1) := by decide +kernel
theorem dX5_run_123 : decode cX5_run 123 = .ok (.invokevirtual 64, 3) := by decide +kernel
theorem dX5_run_126 : decode cX5_run 126 = .ok (.iadd, 1) := by decide +kernel
theorem dX5_run_127 : decode cX5_run 127 = .ok (.ireturn, 1) := by decide +kernel
theorem dX5_follow_0 : decode cX5_follow 0 = .ok (.aload_n 0, 1) := by decide +kernel
theorem dX5_follow_1 : decode cX5_follow 1 = .ok (.getfield 12, 3) := by decide +kernel
theorem dX5_follow_4 : decode cX5_follow 4 = .ok (.iload_n 1, 1) := by decide +kernel
theorem dX5_follow_5 : decode cX5_follow 5 = .ok (.invokevirtual 68, 3) := by decide +kernel
theorem dX5_follow_8 : decode cX5_follow 8 = .ok (.istore_n 2, 1) := by decide +kernel
theorem dX5_follow_9 : decode cX5_follow 9 = .ok (.aload_n 0, 1) := by decide +kernel
theorem dX5_follow_10 : decode cX5_follow 10 = .ok (.getfield 18, 3) := by decide +kernel
theorem dX5_follow_13 : decode cX5_follow 13 = .ok (.iload_n 1, 1) := by decide +kernel
theorem dX5_follow_14 : decode cX5_follow 14 = .ok (.invokevirtual 68, 3) := by decide +kernel
theorem dX5_follow_17 : decode cX5_follow 17 = .ok (.istore_n 3, 1) := by decide +kernel
theorem dX5_follow_18 : decode cX5_follow 18 = .ok (.iload_n 2, 1) := by decide +kernel
theorem dX5_follow_19 : decode cX5_follow 19 = .ok (.iconst (-1), 1) := by decide +kernel
theorem dX5_follow_20 : decode cX5_follow 20 = .ok (.if_icmp .eq 8, 3) := by decide +kernel
theorem dX5_follow_23 : decode cX5_follow 23 = .ok (.iload_n 3, 1) := by decide +kernel
theorem dX5_follow_24 : decode cX5_follow 24 = .ok (.iconst (-1), 1) := by decide +kernel
theorem dX5_follow_25 : decode cX5_follow 25 = .ok (.if_icmp .ne 36, 3) := by decide +kernel
theorem dX5_follow_28 : decode cX5_follow 28 = .ok (.aload_n 0, 1) := by decide +kernel
theorem dX5_follow_29 : decode cX5_follow 29 = .ok (.getfield 12, 3) := by decide +kernel
theorem dX5_follow_32 : decode cX5_follow 32 = .ok (.iload_n 1, 1) := by decide +kernel
theorem dX5_follow_33 : decode cX5_follow 33 = .ok (.invokevirtual 71, 3) := by decide +kernel
theorem dX5_follow_36 : decode cX5_follow 36 = .ok (.ifCond .eq 14, 3) := by decide +kernel
theorem dX5_follow_39 : decode cX5_follow 39 = .ok (.aload_n 0, 1) := by decide +kernel
theorem dX5_follow_40 : decode cX5_follow 40 = .ok (.getfield 18, 3) := by decide +kernel
theorem dX5_follow_43 : decode cX5_follow 43 = .ok (.iload_n 1, 1) := by decide +kernel
theorem dX5_follow_44 : decode cX5_follow 44 = .ok (.invokevirtual 71, 3) := by decide +kernel
theorem dX5_follow_47 : decode cX5_follow 47 = .ok (.ifCond .ne 13, 3) := by decide +kernel
theorem dX5_follow_50 : decode cX5_follow 50 = .ok (.aload_n 0, 1) := by decide +kernel
theorem dX5_follow_51 : decode cX5_follow 51 = .ok (.dup, 1) := by decide +kernel
theorem dX5_follow_52 : decode cX5_follow 52 = .ok (.getfield 46, 3) := by decide +kernel
theorem dX5_follow_55 : decode cX5_follow 55 = .ok (.iconst 1, 1) := by decide +kernel
theorem dX5_follow_56 : decode cX5_follow 56 = .ok (.iadd, 1) := by decide +kernel
theorem dX5_follow_57 : decode cX5_follow 57 = .ok (.putfield 46, 3) := by decide +kernel
theorem dX5_follow_60 : decode cX5_follow 60 = .ok (.return_, 1) := by decide +kernel
theorem dX5_follow_61 : decode cX5_follow 61 = .ok (.iload_n 1, 1) := by decide +kernel
theorem dX5_follow_62 : decode cX5_follow 62 = .ok (.iload_n 2, 1) := by decide +kernel
theorem dX5_follow_63 : decode cX5_follow 63 = .ok (.iload_n 3, 1) := by decide +kernel
theorem dX5_follow_64 : decode cX5_follow 64 = .ok (.invokestatic 75, 3) := by decide +kernel
theorem dX5_follow_67 : decode cX5_follow 67 = .ok (.istore 4, 2) := by decide +kernel
theorem dX5_follow_69 : decode cX5_follow 69 = .ok (.aload_n 0, 1) := by decide +kernel
theorem dX5_follow_70 : decode cX5_follow 70 = .ok (.getfield 12, 3) := by decide +kernel
theorem dX5_follow_73 : decode cX5_follow 73 = .ok (.iload_n 1, 1) := by decide +kernel
theorem dX5_follow_74 : decode cX5_follow 74 = .ok (.invokevirtual 54, 3) := by decide +kernel
theorem dX5_follow_77 : decode cX5_follow 77 = .ok (.aload_n 0, 1) := by decide +kernel
theorem dX5_follow_78 : decode cX5_follow 78 = .ok (.getfield 12, 3) := by decide +kernel
theorem dX5_follow_81 : decode cX5_follow 81 = .ok (.iload_n 2, 1) := by decide +kernel
theorem dX5_follow_82 : decode cX5_follow 82 = .ok (.invokevirtual 81, 3) := by decide +kernel
theorem dX5_follow_85 : decode cX5_follow 85 = .ok (.aload_n 0, 1) := by decide +kernel
theorem dX5_follow_86 : decode cX5_follow 86 = .ok (.getfield 18, 3) := by decide +kernel
theorem dX5_follow_89 : decode cX5_follow 89 = .ok (.iload_n 3, 1) := by decide +kernel
theorem dX5_follow_90 : decode cX5_follow 90 = .ok (.invokevirtual 81, 3) := by decide +kernel
theorem dX5_follow_93 : decode cX5_follow 93 = .ok (.invokestatic 84, 3) := by decide +kernel
theorem dX5_follow_96 : decode cX5_follow 96 = .ok (.istore 5, 2) := by decide +kernel
theorem dX5_follow_98 : decode cX5_follow 98 = .ok (.iload 4, 2) := by decide +kernel
theorem dX5_follow_100 : decode cX5_follow 100 = .ok (.iconst (-1), 1) := by decide +kernel
theorem dX5_follow_101 : decode cX5_follow 101 = .ok (.if_icmp .eq 9, 3) := by decide +kernel
theorem dX5_follow_104 : decode cX5_follow 104 = .ok (.iload 5, 2) := by decide +kernel
theorem dX5_follow_106 : decode cX5_follow 106 = .ok (.iconst (-1), 1) := by decide +kernel
theorem dX5_follow_107 : decode cX5_follow 107 = .ok (.if_icmp .ne 16, 3) := by decide +kernel
theorem dX5_follow_110 : decode cX5_follow 110 = .ok (.aload_n 0, 1) := by decide +kernel
theorem dX5_follow_111 : decode cX5_follow 111 = .ok (.dup, 1) := by decide +kernel
theorem dX5_follow_112 : decode cX5_follow 112 = .ok (.getfield 46, 3) := by decide +kernel
theorem dX5_follow_115 : decode cX5_follow 115 = .ok (.iconst 1, 1) := by decide +kernel
theorem dX5_follow_116 : decode cX5_follow 116 = .ok (.iadd, 1) := by decide +kernel
theorem dX5_follow_117 : decode cX5_follow 117 = .ok (.putfield 46, 3) := by decide +kernel
theorem dX5_follow_120 : decode cX5_follow 120 = .ok (.goto 11, 3) := by decide +kernel
theorem dX5_follow_123 : decode cX5_follow 123 = .ok (.aload_n 0, 1) := by decide +kernel
theorem dX5_follow_124 : decode cX5_follow 124 = .ok (.iload 4, 2) := by decide +kernel
theorem dX5_follow_126 : decode cX5_follow 126 = .ok (.iload 5, 2) := by decide +kernel
theorem dX5_follow_128 : decode cX5_follow 128 = .ok (.invokevirtual 87, 3) := by decide +kernel
theorem dX5_follow_131 : decode cX5_follow 131 = .ok (.return_, 1) := by decide +kernel
theorem dX5_bringNewFiles_0 : decode cX5_bringNewFiles 0 = .ok (.aload_n 0, 1) := by decide +kernel
theorem dX5_bringNewFiles_1 : decode cX5_bringNewFiles 1 = .ok (.getfield 12, 3) := by decide +kernel
theorem dX5_bringNewFiles_4 : decode cX5_bringNewFiles 4 = .ok (.iload_n 1, 1) := by decide +kernel
theorem dX5_bringNewFiles_5 : decode cX5_bringNewFiles 5 = .ok (.invokevirtual 90, 3) := by decide +kernel
theorem dX5_bringNewFiles_8 : decode cX5_bringNewFiles 8 = .ok (.istore_n 2, 1) := by decide +kernel
theorem dX5_bringNewFiles_9 : decode cX5_bringNewFiles 9 = .ok (.aload_n 0, 1) := by decide +kernel
theorem dX5_bringNewFiles_10 : decode cX5_bringNewFiles 10 = .ok (.getfield 18, 3) := by decide +kernel
theorem dX5_bringNewFiles_13 : decode cX5_bringNewFiles 13 = .ok (.iload_n 1, 1) := by decide +kernel
theorem dX5_bringNewFiles_14 : decode cX5_bringNewFiles 14 = .ok (.invokevirtual 90, 3) := by decide +kernel
theorem dX5_bringNewFiles_17 : decode cX5_bringNewFiles 17 = .ok (.istore_n 3, 1) := by decide +kernel
theorem dX5_bringNewFiles_18 : decode cX5_bringNewFiles 18 = .ok (.iload_n 2, 1) := by decide +kernel
theorem dX5_bringNewFiles_19 : decode cX5_bringNewFiles 19 = .ok (.iconst (-1), 1) := by decide +kernel
theorem dX5_bringNewFiles_20 : decode cX5_bringNewFiles 20 = .ok (.if_icmp .eq 9, 3) := by decide +kernel
theorem dX5_bringNewFiles_23 : decode cX5_bringNewFiles 23 = .ok (.aload_n 0, 1) := by decide +kernel
theorem dX5_bringNewFiles_24 : decode cX5_bringNewFiles 24 = .ok (.iload_n 1, 1) := by decide +kernel
theorem dX5_bringNewFiles_25 : decode cX5_bringNewFiles 25 = .ok (.iload_n 2, 1) := by decide +kernel
theorem dX5_bringNewFiles_26 : decode cX5_bringNewFiles 26 = .ok (.invokevirtual 87, 3) := by decide +kernel
theorem dX5_bringNewFiles_29 : decode cX5_bringNewFiles 29 = .ok (.iload_n 3, 1) := by decide +kernel
theorem dX5_bringNewFiles_30 : decode cX5_bringNewFiles 30 = .ok (.iconst (-1), 1) := by decide +kernel
theorem dX5_bringNewFiles_31 : decode cX5_bringNewFiles 31 = .ok (.if_icmp .eq 14, 3) := by decide +kernel
theorem dX5_bringNewFiles_34 : decode cX5_bringNewFiles 34 = .ok (.iload_n 3, 1) := by decide +kernel
theorem dX5_bringNewFiles_35 : decode cX5_bringNewFiles 35 = .ok (.iload_n 2, 1) := by decide +kernel
theorem dX5_bringNewFiles_36 : decode cX5_bringNewFiles 36 = .ok (.if_icmp .eq 9, 3) := by decide +kernel
theorem dX5_bringNewFiles_39 : decode cX5_bringNewFiles 39 = .ok (.aload_n 0, 1) := by decide +kernel
theorem dX5_bringNewFiles_40 : decode cX5_bringNewFiles 40 = .ok (.iload_n 1, 1) := by decide +kernel
theorem dX5_bringNewFiles_41 : decode cX5_bringNewFiles 41 = .ok (.iload_n 3, 1) := by decide +kernel
theorem dX5_bringNewFiles_42 : decode cX5_bringNewFiles 42 = .ok (.invokevirtual 87, 3) := by decide +kernel
theorem dX5_bringNewFiles_45 : decode cX5_bringNewFiles 45 = .ok (.return_, 1) := by decide +kernel
theorem dX5_arrive_0 : decode cX5_arrive 0 = .ok (.iload_n 1, 1) := by decide +kernel
theorem dX5_arrive_1 : decode cX5_arrive 1 = .ok (.ifCond .lt 31, 3) := by decide +kernel
theorem dX5_arrive_4 : decode cX5_arrive 4 = .ok (.iload_n 1, 1) := by decide +kernel
theorem dX5_arrive_5 : decode cX5_arrive 5 = .ok (.aload_n 0, 1) := by decide +kernel
theorem dX5_arrive_6 : decode cX5_arrive 6 = .ok (.getfield 28, 3) := by decide +kernel
theorem dX5_arrive_9 : decode cX5_arrive 9 = .ok (.arraylength, 1) := by decide +kernel
theorem dX5_arrive_10 : decode cX5_arrive 10 = .ok (.if_icmp .ge 22, 3) := by decide +kernel
theorem dX5_arrive_13 : decode cX5_arrive 13 = .ok (.aload_n 0, 1) := by decide +kernel
theorem dX5_arrive_14 : decode cX5_arrive 14 = .ok (.getfield 28, 3) := by decide +kernel
theorem dX5_arrive_17 : decode cX5_arrive 17 = .ok (.iload_n 1, 1) := by decide +kernel
theorem dX5_arrive_18 : decode cX5_arrive 18 = .ok (.dup2, 1) := by decide +kernel
theorem dX5_arrive_19 : decode cX5_arrive 19 = .ok (.iaload, 1) := by decide +kernel
theorem dX5_arrive_20 : decode cX5_arrive 20 = .ok (.iconst 1, 1) := by decide +kernel
theorem dX5_arrive_21 : decode cX5_arrive 21 = .ok (.iadd, 1) := by decide +kernel
theorem dX5_arrive_22 : decode cX5_arrive 22 = .ok (.iastore, 1) := by decide +kernel
theorem dX5_arrive_23 : decode cX5_arrive 23 = .ok (.aload_n 0, 1) := by decide +kernel
theorem dX5_arrive_24 : decode cX5_arrive 24 = .ok (.getfield 24, 3) := by decide +kernel
theorem dX5_arrive_27 : decode cX5_arrive 27 = .ok (.iload_n 1, 1) := by decide +kernel
theorem dX5_arrive_28 : decode cX5_arrive 28 = .ok (.iload_n 2, 1) := by decide +kernel
theorem dX5_arrive_29 : decode cX5_arrive 29 = .ok (.invokevirtual 50, 3) := by decide +kernel
theorem dX5_arrive_32 : decode cX5_arrive 32 = .ok (.return_, 1) := by decide +kernel
theorem dX5_countCrowdedPaths_0 : decode cX5_countCrowdedPaths 0 = .ok (.iconst 0, 1) := by decide +kernel
theorem dX5_countCrowdedPaths_1 : decode cX5_countCrowdedPaths 1 = .ok (.istore_n 1, 1) := by decide +kernel
theorem dX5_countCrowdedPaths_2 : decode cX5_countCrowdedPaths 2 = .ok (.iconst 0, 1) := by decide +kernel
theorem dX5_countCrowdedPaths_3 : decode cX5_countCrowdedPaths 3 = .ok (.istore_n 2, 1) := by decide +kernel
theorem dX5_countCrowdedPaths_4 : decode cX5_countCrowdedPaths 4 = .ok (.iload_n 2, 1) := by decide +kernel
theorem dX5_countCrowdedPaths_5 : decode cX5_countCrowdedPaths 5 = .ok (.aload_n 0, 1) := by decide +kernel
theorem dX5_countCrowdedPaths_6 : decode cX5_countCrowdedPaths 6 = .ok (.getfield 28, 3) := by decide +kernel
theorem dX5_countCrowdedPaths_9 : decode cX5_countCrowdedPaths 9 = .ok (.arraylength, 1) := by decide +kernel
theorem dX5_countCrowdedPaths_10 : decode cX5_countCrowdedPaths 10 = .ok (.if_icmp .ge 22, 3) := by decide +kernel
theorem dX5_countCrowdedPaths_13 : decode cX5_countCrowdedPaths 13 = .ok (.aload_n 0, 1) := by decide +kernel
theorem dX5_countCrowdedPaths_14 : decode cX5_countCrowdedPaths 14 = .ok (.getfield 28, 3) := by decide +kernel
theorem dX5_countCrowdedPaths_17 : decode cX5_countCrowdedPaths 17 = .ok (.iload_n 2, 1) := by decide +kernel
theorem dX5_countCrowdedPaths_18 : decode cX5_countCrowdedPaths 18 = .ok (.iaload, 1) := by decide +kernel
theorem dX5_countCrowdedPaths_19 : decode cX5_countCrowdedPaths 19 = .ok (.iconst 1, 1) := by decide +kernel
theorem dX5_countCrowdedPaths_20 : decode cX5_countCrowdedPaths 20 = .ok (.if_icmp .le 6, 3) := by decide +kernel
theorem dX5_countCrowdedPaths_23 : decode cX5_countCrowdedPaths 23 = .ok (.iinc 1 1, 3) := by decide +kernel
theorem dX5_countCrowdedPaths_26 : decode cX5_countCrowdedPaths 26 = .ok (.iinc 2 1, 3) := by decide +kernel
theorem dX5_countCrowdedPaths_29 : decode cX5_countCrowdedPaths 29 = .ok (.goto (-25), 3) := by decide +kernel
theorem dX5_countCrowdedPaths_32 : decode cX5_countCrowdedPaths 32 = .ok (.iload_n 1, 1) := by decide +kernel
theorem dX5_countCrowdedPaths_33 : decode cX5_countCrowdedPaths 33 = .ok (.ireturn, 1) := by decide +kernel
theorem dX6_init_0 : decode cX6_init 0 = .ok (.aload_n 0, 1) := by decide +kernel
theorem dX6_init_1 : decode cX6_init 1 = .ok (.invokespecial 1, 3) := by decide +kernel
theorem dX6_init_4 : decode cX6_init 4 = .ok (.aload_n 0, 1) := by decide +kernel
theorem dX6_init_5 : decode cX6_init 5 = .ok (.new 7, 3) := by decide +kernel
theorem dX6_init_8 : decode cX6_init 8 = .ok (.dup, 1) := by decide +kernel
theorem dX6_init_9 : decode cX6_init 9 = .ok (.invokespecial 9, 3) := by decide +kernel
theorem dX6_init_12 : decode cX6_init 12 = .ok (.putfield 10, 3) := by decide +kernel
theorem dX6_init_15 : decode cX6_init 15 = .ok (.aload_n 0, 1) := by decide +kernel
theorem dX6_init_16 : decode cX6_init 16 = .ok (.new 16, 3) := by decide +kernel
theorem dX6_init_19 : decode cX6_init 19 = .ok (.dup, 1) := by decide +kernel
theorem dX6_init_20 : decode cX6_init 20 = .ok (.invokespecial 18, 3) := by decide +kernel
theorem dX6_init_23 : decode cX6_init 23 = .ok (.putfield 19, 3) := by decide +kernel
theorem dX6_init_26 : decode cX6_init 26 = .ok (.aload_n 0, 1) := by decide +kernel
theorem dX6_init_27 : decode cX6_init 27 = .ok (.new 23, 3) := by decide +kernel
theorem dX6_init_30 : decode cX6_init 30 = .ok (.dup, 1) := by decide +kernel
theorem dX6_init_31 : decode cX6_init 31 = .ok (.invokespecial 25, 3) := by decide +kernel
theorem dX6_init_34 : decode cX6_init 34 = .ok (.putfield 26, 3) := by decide +kernel
theorem dX6_init_37 : decode cX6_init 37 = .ok (.aload_n 0, 1) := by decide +kernel
theorem dX6_init_38 : decode cX6_init 38 = .ok (.new 30, 3) := by decide +kernel
theorem dX6_init_41 : decode cX6_init 41 = .ok (.dup, 1) := by decide +kernel
theorem dX6_init_42 : decode cX6_init 42 = .ok (.invokespecial 32, 3) := by decide +kernel
theorem dX6_init_45 : decode cX6_init 45 = .ok (.putfield 33, 3) := by decide +kernel
theorem dX6_init_48 : decode cX6_init 48 = .ok (.aload_n 0, 1) := by decide +kernel
theorem dX6_init_49 : decode cX6_init 49 = .ok (.iconst 5, 1) := by decide +kernel
theorem dX6_init_50 : decode cX6_init 50 = .ok (.newarray .int, 2) := by decide +kernel
theorem dX6_init_52 : decode cX6_init 52 = .ok (.putfield 37, 3) := by decide +kernel
theorem dX6_init_55 : decode cX6_init 55 = .ok (.aload_n 0, 1) := by decide +kernel
theorem dX6_init_56 : decode cX6_init 56 = .ok (.bipush 60, 2) := by decide +kernel
theorem dX6_init_58 : decode cX6_init 58 = .ok (.newarray .int, 2) := by decide +kernel
theorem dX6_init_60 : decode cX6_init 60 = .ok (.putfield 41, 3) := by decide +kernel
theorem dX6_init_63 : decode cX6_init 63 = .ok (.iconst 1, 1) := by decide +kernel
theorem dX6_init_64 : decode cX6_init 64 = .ok (.istore_n 1, 1) := by decide +kernel
theorem dX6_init_65 : decode cX6_init 65 = .ok (.iload_n 1, 1) := by decide +kernel
theorem dX6_init_66 : decode cX6_init 66 = .ok (.aload_n 0, 1) := by decide +kernel
theorem dX6_init_67 : decode cX6_init 67 = .ok (.getfield 37, 3) := by decide +kernel
theorem dX6_init_70 : decode cX6_init 70 = .ok (.arraylength, 1) := by decide +kernel
theorem dX6_init_71 : decode cX6_init 71 = .ok (.if_icmp .ge 16, 3) := by decide +kernel
theorem dX6_init_74 : decode cX6_init 74 = .ok (.aload_n 0, 1) := by decide +kernel
theorem dX6_init_75 : decode cX6_init 75 = .ok (.getfield 37, 3) := by decide +kernel
theorem dX6_init_78 : decode cX6_init 78 = .ok (.iload_n 1, 1) := by decide +kernel
theorem dX6_init_79 : decode cX6_init 79 = .ok (.iconst (-1), 1) := by decide +kernel
theorem dX6_init_80 : decode cX6_init 80 = .ok (.iastore, 1) := by decide +kernel
theorem dX6_init_81 : decode cX6_init 81 = .ok (.iinc 1 1, 3) := by decide +kernel
theorem dX6_init_84 : decode cX6_init 84 = .ok (.goto (-19), 3) := by decide +kernel
theorem dX6_init_87 : decode cX6_init 87 = .ok (.aload_n 0, 1) := by decide +kernel
theorem dX6_init_88 : decode cX6_init 88 = .ok (.getfield 37, 3) := by decide +kernel
theorem dX6_init_91 : decode cX6_init 91 = .ok (.iconst 0, 1) := by decide +kernel
theorem dX6_init_92 : decode cX6_init 92 = .ok (.iconst 0, 1) := by decide +kernel
theorem dX6_init_93 : decode cX6_init 93 = .ok (.iastore, 1) := by decide +kernel
theorem dX6_init_94 : decode cX6_init 94 = .ok (.aload_n 0, 1) := by decide +kernel
theorem dX6_init_95 : decode cX6_init 95 = .ok (.iconst 0, 1) := by decide +kernel
theorem dX6_init_96 : decode cX6_init 96 = .ok (.putfield 44, 3) := by decide +kernel
theorem dX6_init_99 : decode cX6_init 99 = .ok (.return_, 1) := by decide +kernel
theorem dX6_write_0 : decode cX6_write 0 = .ok (.iload_n 1, 1) := by decide +kernel
theorem dX6_write_1 : decode cX6_write 1 = .ok (.invokestatic 48, 3) := by decide +kernel
theorem dX6_write_4 : decode cX6_write 4 = .ok (.iload_n 2, 1) := by decide +kernel
theorem dX6_write_5 : decode cX6_write 5 = .ok (.ifCond .lt 10, 3) := by decide +kernel
theorem dX6_write_8 : decode cX6_write 8 = .ok (.iload_n 2, 1) := by decide +kernel
theorem dX6_write_9 : decode cX6_write 9 = .ok (.sipush 10000, 3) := by decide +kernel
theorem dX6_write_12 : decode cX6_write 12 = .ok (.if_icmp .lt 13, 3) := by decide +kernel
theorem dX6_write_15 : decode cX6_write 15 = .ok (.new 52, 3) := by decide +kernel
theorem dX6_write_18 : decode cX6_write 18 = .ok (.dup, 1) := by decide +kernel
theorem dX6_write_19 : decode cX6_write 19 = .ok (.ldc 54, 2) := by decide +kernel
theorem dX6_write_21 : decode cX6_write 21 = .ok (.invokespecial 56, 3) := by decide +kernel
theorem dX6_write_24 : decode cX6_write 24 = .ok (.athrow, 1) := by decide +kernel
theorem dX6_write_25 : decode cX6_write 25 = .ok (.aload_n 0, 1) := by decide +kernel
theorem dX6_write_26 : decode cX6_write 26 = .ok (.getfield 33, 3) := by decide +kernel
theorem dX6_write_29 : decode cX6_write 29 = .ok (.iload_n 1, 1) := by decide +kernel
theorem dX6_write_30 : decode cX6_write 30 = .ok (.invokevirtual 59, 3) := by decide +kernel
theorem dX6_write_33 : decode cX6_write 33 = .ok (.istore_n 3, 1) := by decide +kernel
theorem dX6_write_34 : decode cX6_write 34 = .ok (.aload_n 0, 1) := by decide +kernel
theorem dX6_write_35 : decode cX6_write 35 = .ok (.getfield 33, 3) := by decide +kernel
theorem dX6_write_38 : decode cX6_write 38 = .ok (.iload_n 1, 1) := by decide +kernel
theorem dX6_write_39 : decode cX6_write 39 = .ok (.iload_n 2, 1) := by decide +kernel
theorem dX6_write_40 : decode cX6_write 40 = .ok (.invokevirtual 63, 3) := by decide +kernel
theorem dX6_write_43 : decode cX6_write 43 = .ok (.iload_n 3, 1) := by decide +kernel
theorem dX6_write_44 : decode cX6_write 44 = .ok (.ireturn, 1) := by decide +kernel
theorem dX6_erase_0 : decode cX6_erase 0 = .ok (.iload_n 1, 1) := by decide +kernel
theorem dX6_erase_1 : decode cX6_erase 1 = .ok (.invokestatic 48, 3) := by decide +kernel
theorem dX6_erase_4 : decode cX6_erase 4 = .ok (.aload_n 0, 1) := by decide +kernel
theorem dX6_erase_5 : decode cX6_erase 5 = .ok (.getfield 33, 3) := by decide +kernel
theorem dX6_erase_8 : decode cX6_erase 8 = .ok (.iload_n 1, 1) := by decide +kernel
theorem dX6_erase_9 : decode cX6_erase 9 = .ok (.invokestatic 67, 3) := by decide +kernel
theorem dX6_erase_12 : decode cX6_erase 12 = .ok (.istore_n 2, 1) := by decide +kernel
theorem dX6_erase_13 : decode cX6_erase 13 = .ok (.aload_n 0, 1) := by decide +kernel
theorem dX6_erase_14 : decode cX6_erase 14 = .ok (.getfield 33, 3) := by decide +kernel
theorem dX6_erase_17 : decode cX6_erase 17 = .ok (.iload_n 1, 1) := by decide +kernel
theorem dX6_erase_18 : decode cX6_erase 18 = .ok (.iconst (-1), 1) := by decide +kernel
theorem dX6_erase_19 : decode cX6_erase 19 = .ok (.invokevirtual 63, 3) := by decide +kernel
theorem dX6_erase_22 : decode cX6_erase 22 = .ok (.iload_n 2, 1) := by decide +kernel
theorem dX6_erase_23 : decode cX6_erase 23 = .ok (.ireturn, 1) := by decide +kernel
theorem dX6_move_0 : decode cX6_move 0 = .ok (.iload_n 1, 1) := by decide +kernel
theorem dX6_move_1 : decode cX6_move 1 = .ok (.invokestatic 48, 3) := by decide +kernel
theorem dX6_move_4 : decode cX6_move 4 = .ok (.iload_n 2, 1) := by decide +kernel
theorem dX6_move_5 : decode cX6_move 5 = .ok (.invokestatic 48, 3) := by decide +kernel
theorem dX6_move_8 : decode cX6_move 8 = .ok (.aload_n 0, 1) := by decide +kernel
theorem dX6_move_9 : decode cX6_move 9 = .ok (.getfield 33, 3) := by decide +kernel
theorem dX6_move_12 : decode cX6_move 12 = .ok (.iload_n 1, 1) := by decide +kernel
theorem dX6_move_13 : decode cX6_move 13 = .ok (.invokestatic 67, 3) := by decide +kernel
theorem dX6_move_16 : decode cX6_move 16 = .ok (.istore_n 3, 1) := by decide +kernel
theorem dX6_move_17 : decode cX6_move 17 = .ok (.aload_n 0, 1) := by decide +kernel
theorem dX6_move_18 : decode cX6_move 18 = .ok (.getfield 33, 3) := by decide +kernel
theorem dX6_move_21 : decode cX6_move 21 = .ok (.iload_n 2, 1) := by decide +kernel
theorem dX6_move_22 : decode cX6_move 22 = .ok (.invokevirtual 59, 3) := by decide +kernel
theorem dX6_move_25 : decode cX6_move 25 = .ok (.iconst (-1), 1) := by decide +kernel
theorem dX6_move_26 : decode cX6_move 26 = .ok (.if_icmp .eq 13, 3) := by decide +kernel
theorem dX6_move_29 : decode cX6_move 29 = .ok (.new 71, 3) := by decide +kernel
theorem dX6_move_32 : decode cX6_move 32 = .ok (.dup, 1) := by decide +kernel
theorem dX6_move_33 : decode cX6_move 33 = .ok (.ldc 73, 2) := by decide +kernel
theorem dX6_move_35 : decode cX6_move 35 = .ok (.invokespecial 75, 3) := by decide +kernel
theorem dX6_move_38 : decode cX6_move 38 = .ok (.athrow, 1) := by decide +kernel
theorem dX6_move_39 : decode cX6_move 39 = .ok (.aload_n 0, 1) := by decide +kernel
theorem dX6_move_40 : decode cX6_move 40 = .ok (.getfield 33, 3) := by decide +kernel
theorem dX6_move_43 : decode cX6_move 43 = .ok (.iload_n 1, 1) := by decide +kernel
theorem dX6_move_44 : decode cX6_move 44 = .ok (.iconst (-1), 1) := by decide +kernel
theorem dX6_move_45 : decode cX6_move 45 = .ok (.invokevirtual 63, 3) := by decide +kernel
theorem dX6_move_48 : decode cX6_move 48 = .ok (.aload_n 0, 1) := by decide +kernel
theorem dX6_move_49 : decode cX6_move 49 = .ok (.getfield 33, 3) := by decide +kernel
theorem dX6_move_52 : decode cX6_move 52 = .ok (.iload_n 2, 1) := by decide +kernel
theorem dX6_move_53 : decode cX6_move 53 = .ok (.iload_n 3, 1) := by decide +kernel
theorem dX6_move_54 : decode cX6_move 54 = .ok (.invokevirtual 63, 3) := by decide +kernel
theorem dX6_move_57 : decode cX6_move 57 = .ok (.iload_n 3, 1) := by decide +kernel
theorem dX6_move_58 : decode cX6_move 58 = .ok (.ireturn, 1) := by decide +kernel
theorem dX6_content_0 : decode cX6_content 0 = .ok (.iload_n 1, 1) := by decide +kernel
theorem dX6_content_1 : decode cX6_content 1 = .ok (.invokestatic 48, 3) := by decide +kernel
theorem dX6_content_4 : decode cX6_content 4 = .ok (.aload_n 0, 1) := by decide +kernel
theorem dX6_content_5 : decode cX6_content 5 = .ok (.getfield 33, 3) := by decide +kernel
theorem dX6_content_8 : decode cX6_content 8 = .ok (.iload_n 1, 1) := by decide +kernel
theorem dX6_content_9 : decode cX6_content 9 = .ok (.invokestatic 67, 3) := by decide +kernel
theorem dX6_content_12 : decode cX6_content 12 = .ok (.ireturn, 1) := by decide +kernel
theorem dX6_changedPaths_0 : decode cX6_changedPaths 0 = .ok (.aload_n 0, 1) := by decide +kernel
theorem dX6_changedPaths_1 : decode cX6_changedPaths 1 = .ok (.getfield 33, 3) := by decide +kernel
theorem dX6_changedPaths_4 : decode cX6_changedPaths 4 = .ok (.aload_n 0, 1) := by decide +kernel
theorem dX6_changedPaths_5 : decode cX6_changedPaths 5 = .ok (.getfield 10, 3) := by decide +kernel
theorem dX6_changedPaths_8 : decode cX6_changedPaths 8 = .ok (.aload_n 0, 1) := by decide +kernel
theorem dX6_changedPaths_9 : decode cX6_changedPaths 9 = .ok (.aload_n 0, 1) := by decide +kernel
theorem dX6_changedPaths_10 : decode cX6_changedPaths 10 = .ok (.getfield 44, 3) := by decide +kernel
theorem dX6_changedPaths_13 : decode cX6_changedPaths 13 = .ok (.invokevirtual 76, 3) := by decide +kernel
theorem dX6_changedPaths_16 : decode cX6_changedPaths 16 = .ok (.invokevirtual 79, 3) := by decide +kernel
theorem dX6_changedPaths_19 : decode cX6_changedPaths 19 = .ok (.invokevirtual 83, 3) := by decide +kernel
theorem dX6_changedPaths_22 : decode cX6_changedPaths 22 = .ok (.ireturn, 1) := by decide +kernel
theorem dX6_commit_0 : decode cX6_commit 0 = .ok (.aload_n 0, 1) := by decide +kernel
theorem dX6_commit_1 : decode cX6_commit 1 = .ok (.invokevirtual 87, 3) := by decide +kernel
theorem dX6_commit_4 : decode cX6_commit 4 = .ok (.ifCond .ne 13, 3) := by decide +kernel
theorem dX6_commit_7 : decode cX6_commit 7 = .ok (.new 71, 3) := by decide +kernel
theorem dX6_commit_10 : decode cX6_commit 10 = .ok (.dup, 1) := by decide +kernel
theorem dX6_commit_11 : decode cX6_commit 11 = .ok (.ldc 91, 2) := by decide +kernel
theorem dX6_commit_13 : decode cX6_commit 13 = .ok (.invokespecial 75, 3) := by decide +kernel
theorem dX6_commit_16 : decode cX6_commit 16 = .ok (.athrow, 1) := by decide +kernel
theorem dX6_commit_17 : decode cX6_commit 17 = .ok (.aload_n 0, 1) := by decide +kernel
theorem dX6_commit_18 : decode cX6_commit 18 = .ok (.getfield 10, 3) := by decide +kernel
theorem dX6_commit_21 : decode cX6_commit 21 = .ok (.aload_n 0, 1) := by decide +kernel
theorem dX6_commit_22 : decode cX6_commit 22 = .ok (.getfield 33, 3) := by decide +kernel
theorem dX6_commit_25 : decode cX6_commit 25 = .ok (.aload_n 0, 1) := by decide +kernel
theorem dX6_commit_26 : decode cX6_commit 26 = .ok (.aload_n 0, 1) := by decide +kernel
theorem dX6_commit_27 : decode cX6_commit 27 = .ok (.getfield 44, 3) := by decide +kernel
theorem dX6_commit_30 : decode cX6_commit 30 = .ok (.invokevirtual 76, 3) := by decide +kernel
theorem dX6_commit_33 : decode cX6_commit 33 = .ok (.iconst (-1), 1) := by decide +kernel
theorem dX6_commit_34 : decode cX6_commit 34 = .ok (.invokevirtual 93, 3) := by decide +kernel
theorem dX6_commit_37 : decode cX6_commit 37 = .ok (.istore_n 1, 1) := by decide +kernel
theorem dX6_commit_38 : decode cX6_commit 38 = .ok (.iload_n 1, 1) := by decide +kernel
theorem dX6_commit_39 : decode cX6_commit 39 = .ok (.iconst (-1), 1) := by decide +kernel
theorem dX6_commit_40 : decode cX6_commit 40 = .ok (.if_icmp .ne 13, 3) := by decide +kernel
theorem dX6_commit_43 : decode cX6_commit 43 = .ok (.new 71, 3) := by decide +kernel
theorem dX6_commit_46 : decode cX6_commit 46 = .ok (.dup, 1) := by decide +kernel
theorem dX6_commit_47 : decode cX6_commit 47 = .ok (.ldc 97, 2) := by decide +kernel
theorem dX6_commit_49 : decode cX6_commit 49 = .ok (.invokespecial 75, 3) := by decide +kernel
theorem dX6_commit_52 : decode cX6_commit 52 = .ok (.athrow, 1) := by decide +kernel
theorem dX6_commit_53 : decode cX6_commit 53 = .ok (.aload_n 0, 1) := by decide +kernel
theorem dX6_commit_54 : decode cX6_commit 54 = .ok (.iload_n 1, 1) := by decide +kernel
theorem dX6_commit_55 : decode cX6_commit 55 = .ok (.invokevirtual 99, 3) := by decide +kernel
theorem dX6_commit_58 : decode cX6_commit 58 = .ok (.iload_n 1, 1) := by decide +kernel
theorem dX6_commit_59 : decode cX6_commit 59 = .ok (.ireturn, 1) := by decide +kernel
theorem dX6_branch_0 : decode cX6_branch 0 = .ok (.iload_n 1, 1) := by decide +kernel
theorem dX6_branch_1 : decode cX6_branch 1 = .ok (.invokestatic 102, 3) := by decide +kernel
theorem dX6_branch_4 : decode cX6_branch 4 = .ok (.ifCond .ne 13, 3) := by decide +kernel
theorem dX6_branch_7 : decode cX6_branch 7 = .ok (.new 106, 3) := by decide +kernel
theorem dX6_branch_10 : decode cX6_branch 10 = .ok (.dup, 1) := by decide +kernel
theorem dX6_branch_11 : decode cX6_branch 11 = .ok (.ldc 108, 2) := by decide +kernel
theorem dX6_branch_13 : decode cX6_branch 13 = .ok (.invokespecial 110, 3) := by decide +kernel
theorem dX6_branch_16 : decode cX6_branch 16 = .ok (.athrow, 1) := by decide +kernel
theorem dX6_branch_17 : decode cX6_branch 17 = .ok (.aload_n 0, 1) := by decide +kernel
theorem dX6_branch_18 : decode cX6_branch 18 = .ok (.getfield 37, 3) := by decide +kernel
theorem dX6_branch_21 : decode cX6_branch 21 = .ok (.iload_n 1, 1) := by decide +kernel
theorem dX6_branch_22 : decode cX6_branch 22 = .ok (.iaload, 1) := by decide +kernel
theorem dX6_branch_23 : decode cX6_branch 23 = .ok (.iconst (-1), 1) := by decide +kernel
theorem dX6_branch_24 : decode cX6_branch 24 = .ok (.if_icmp .eq 13, 3) := by decide +kernel
theorem dX6_branch_27 : decode cX6_branch 27 = .ok (.new 71, 3) := by decide +kernel
theorem dX6_branch_30 : decode cX6_branch 30 = .ok (.dup, 1) := by decide +kernel
theorem dX6_branch_31 : decode cX6_branch 31 = .ok (.ldc 111, 2) := by decide +kernel
theorem dX6_branch_33 : decode cX6_branch 33 = .ok (.invokespecial 75, 3) := by decide +kernel
theorem dX6_branch_36 : decode cX6_branch 36 = .ok (.athrow, 1) := by decide +kernel
theorem dX6_branch_37 : decode cX6_branch 37 = .ok (.aload_n 0, 1) := by decide +kernel
theorem dX6_branch_38 : decode cX6_branch 38 = .ok (.getfield 37, 3) := by decide +kernel
theorem dX6_branch_41 : decode cX6_branch 41 = .ok (.iload_n 1, 1) := by decide +kernel
theorem dX6_branch_42 : decode cX6_branch 42 = .ok (.aload_n 0, 1) := by decide +kernel
theorem dX6_branch_43 : decode cX6_branch 43 = .ok (.aload_n 0, 1) := by decide +kernel
theorem dX6_branch_44 : decode cX6_branch 44 = .ok (.getfield 44, 3) := by decide +kernel
theorem dX6_branch_47 : decode cX6_branch 47 = .ok (.invokevirtual 76, 3) := by decide +kernel
theorem dX6_branch_50 : decode cX6_branch 50 = .ok (.iastore, 1) := by decide +kernel
theorem dX6_branch_51 : decode cX6_branch 51 = .ok (.aload_n 0, 1) := by decide +kernel
theorem dX6_branch_52 : decode cX6_branch 52 = .ok (.getfield 37, 3) := by decide +kernel
theorem dX6_branch_55 : decode cX6_branch 55 = .ok (.iload_n 1, 1) := by decide +kernel
theorem dX6_branch_56 : decode cX6_branch 56 = .ok (.iaload, 1) := by decide +kernel
theorem dX6_branch_57 : decode cX6_branch 57 = .ok (.ireturn, 1) := by decide +kernel
theorem dX6_checkOut_0 : decode cX6_checkOut 0 = .ok (.aload_n 0, 1) := by decide +kernel
theorem dX6_checkOut_1 : decode cX6_checkOut 1 = .ok (.iload_n 1, 1) := by decide +kernel
theorem dX6_checkOut_2 : decode cX6_checkOut 2 = .ok (.invokevirtual 113, 3) := by decide +kernel
theorem dX6_checkOut_5 : decode cX6_checkOut 5 = .ok (.istore_n 2, 1) := by decide +kernel
theorem dX6_checkOut_6 : decode cX6_checkOut 6 = .ok (.aload_n 0, 1) := by decide +kernel
theorem dX6_checkOut_7 : decode cX6_checkOut 7 = .ok (.invokevirtual 116, 3) := by decide +kernel
theorem dX6_checkOut_10 : decode cX6_checkOut 10 = .ok (.aload_n 0, 1) := by decide +kernel
theorem dX6_checkOut_11 : decode cX6_checkOut 11 = .ok (.iload_n 1, 1) := by decide +kernel
theorem dX6_checkOut_12 : decode cX6_checkOut 12 = .ok (.putfield 44, 3) := by decide +kernel
theorem dX6_checkOut_15 : decode cX6_checkOut 15 = .ok (.aload_n 0, 1) := by decide +kernel
theorem dX6_checkOut_16 : decode cX6_checkOut 16 = .ok (.getfield 33, 3) := by decide +kernel
theorem dX6_checkOut_19 : decode cX6_checkOut 19 = .ok (.aload_n 0, 1) := by decide +kernel
theorem dX6_checkOut_20 : decode cX6_checkOut 20 = .ok (.getfield 10, 3) := by decide +kernel
theorem dX6_checkOut_23 : decode cX6_checkOut 23 = .ok (.iload_n 2, 1) := by decide +kernel
theorem dX6_checkOut_24 : decode cX6_checkOut 24 = .ok (.invokevirtual 79, 3) := by decide +kernel
theorem dX6_checkOut_27 : decode cX6_checkOut 27 = .ok (.invokevirtual 119, 3) := by decide +kernel
theorem dX6_checkOut_30 : decode cX6_checkOut 30 = .ok (.iload_n 2, 1) := by decide +kernel
theorem dX6_checkOut_31 : decode cX6_checkOut 31 = .ok (.ireturn, 1) := by decide +kernel
theorem dX6_reset_0 : decode cX6_reset 0 = .ok (.aload_n 0, 1) := by decide +kernel
theorem dX6_reset_1 : decode cX6_reset 1 = .ok (.iload_n 1, 1) := by decide +kernel
theorem dX6_reset_2 : decode cX6_reset 2 = .ok (.invokevirtual 123, 3) := by decide +kernel
theorem dX6_reset_5 : decode cX6_reset 5 = .ok (.aload_n 0, 1) := by decide +kernel
theorem dX6_reset_6 : decode cX6_reset 6 = .ok (.aload_n 0, 1) := by decide +kernel
theorem dX6_reset_7 : decode cX6_reset 7 = .ok (.getfield 44, 3) := by decide +kernel
theorem dX6_reset_10 : decode cX6_reset 10 = .ok (.invokevirtual 76, 3) := by decide +kernel
theorem dX6_reset_13 : decode cX6_reset 13 = .ok (.istore_n 2, 1) := by decide +kernel
theorem dX6_reset_14 : decode cX6_reset 14 = .ok (.aload_n 0, 1) := by decide +kernel
theorem dX6_reset_15 : decode cX6_reset 15 = .ok (.iload_n 1, 1) := by decide +kernel
theorem dX6_reset_16 : decode cX6_reset 16 = .ok (.invokevirtual 99, 3) := by decide +kernel
theorem dX6_reset_19 : decode cX6_reset 19 = .ok (.iload_n 2, 1) := by decide +kernel
theorem dX6_reset_20 : decode cX6_reset 20 = .ok (.ireturn, 1) := by decide +kernel
theorem dX6_merge_0 : decode cX6_merge 0 = .ok (.aload_n 0, 1) := by decide +kernel
theorem dX6_merge_1 : decode cX6_merge 1 = .ok (.iload_n 1, 1) := by decide +kernel
theorem dX6_merge_2 : decode cX6_merge 2 = .ok (.invokevirtual 113, 3) := by decide +kernel
theorem dX6_merge_5 : decode cX6_merge 5 = .ok (.istore_n 2, 1) := by decide +kernel
theorem dX6_merge_6 : decode cX6_merge 6 = .ok (.aload_n 0, 1) := by decide +kernel
theorem dX6_merge_7 : decode cX6_merge 7 = .ok (.invokevirtual 116, 3) := by decide +kernel
theorem dX6_merge_10 : decode cX6_merge 10 = .ok (.aload_n 0, 1) := by decide +kernel
theorem dX6_merge_11 : decode cX6_merge 11 = .ok (.aload_n 0, 1) := by decide +kernel
theorem dX6_merge_12 : decode cX6_merge 12 = .ok (.getfield 44, 3) := by decide +kernel
theorem dX6_merge_15 : decode cX6_merge 15 = .ok (.invokevirtual 76, 3) := by decide +kernel
theorem dX6_merge_18 : decode cX6_merge 18 = .ok (.istore_n 3, 1) := by decide +kernel
theorem dX6_merge_19 : decode cX6_merge 19 = .ok (.aload_n 0, 1) := by decide +kernel
theorem dX6_merge_20 : decode cX6_merge 20 = .ok (.getfield 10, 3) := by decide +kernel
theorem dX6_merge_23 : decode cX6_merge 23 = .ok (.iload_n 3, 1) := by decide +kernel
theorem dX6_merge_24 : decode cX6_merge 24 = .ok (.iload_n 2, 1) := by decide +kernel
theorem dX6_merge_25 : decode cX6_merge 25 = .ok (.invokevirtual 126, 3) := by decide +kernel
theorem dX6_merge_28 : decode cX6_merge 28 = .ok (.ifCond .eq 13, 3) := by decide +kernel
theorem dX6_merge_31 : decode cX6_merge 31 = .ok (.new 71, 3) := by decide +kernel
theorem dX6_merge_34 : decode cX6_merge 34 = .ok (.dup, 1) := by decide +kernel
theorem dX6_merge_35 : decode cX6_merge 35 = .ok (.ldc 130, 2) := by decide +kernel
theorem dX6_merge_37 : decode cX6_merge 37 = .ok (.invokespecial 75, 3) := by decide +kernel
theorem dX6_merge_40 : decode cX6_merge 40 = .ok (.athrow, 1) := by decide +kernel
theorem dX6_merge_41 : decode cX6_merge 41 = .ok (.aload_n 0, 1) := by decide +kernel
theorem dX6_merge_42 : decode cX6_merge 42 = .ok (.getfield 10, 3) := by decide +kernel
theorem dX6_merge_45 : decode cX6_merge 45 = .ok (.iload_n 2, 1) := by decide +kernel
theorem dX6_merge_46 : decode cX6_merge 46 = .ok (.iload_n 3, 1) := by decide +kernel
theorem dX6_merge_47 : decode cX6_merge 47 = .ok (.invokevirtual 126, 3) := by decide +kernel
theorem dX6_merge_50 : decode cX6_merge 50 = .ok (.ifCond .eq 7, 3) := by decide +kernel
theorem dX6_merge_53 : decode cX6_merge 53 = .ok (.iload_n 2, 1) := by decide +kernel
theorem dX6_merge_54 : decode cX6_merge 54 = .ok (.goto 9, 3) := by decide +kernel
theorem dX6_merge_57 : decode cX6_merge 57 = .ok (.aload_n 0, 1) := by decide +kernel
theorem dX6_merge_58 : decode cX6_merge 58 = .ok (.iload_n 3, 1) := by decide +kernel
theorem dX6_merge_59 : decode cX6_merge 59 = .ok (.iload_n 2, 1) := by decide +kernel
theorem dX6_merge_60 : decode cX6_merge 60 = .ok (.invokevirtual 132, 3) := by decide +kernel
theorem dX6_merge_63 : decode cX6_merge 63 = .ok (.istore 4, 2) := by decide +kernel
theorem dX6_merge_65 : decode cX6_merge 65 = .ok (.iload 4, 2) := by decide +kernel
theorem dX6_merge_67 : decode cX6_merge 67 = .ok (.iconst (-1), 1) := by decide +kernel
theorem dX6_merge_68 : decode cX6_merge 68 = .ok (.if_icmp .ne 13, 3) := by decide +kernel
theorem dX6_merge_71 : decode cX6_merge 71 = .ok (.new 136, 3) := by decide +kernel
theorem dX6_merge_74 : decode cX6_merge 74 = .ok (.dup, 1) := by decide +kernel
theorem dX6_merge_75 : decode cX6_merge 75 = .ok (.ldc 138, 2) := by decide +kernel
theorem dX6_merge_77 : decode cX6_merge 77 = .ok (.invokespecial 140, 3) := by decide +kernel
theorem dX6_merge_80 : decode cX6_merge 80 = .ok (.athrow, 1) := by decide +kernel
theorem dX6_merge_81 : decode cX6_merge 81 = .ok (.aload_n 0, 1) := by decide +kernel
theorem dX6_merge_82 : decode cX6_merge 82 = .ok (.iload 4, 2) := by decide +kernel
theorem dX6_merge_84 : decode cX6_merge 84 = .ok (.invokevirtual 99, 3) := by decide +kernel
theorem dX6_merge_87 : decode cX6_merge 87 = .ok (.iload 4, 2) := by decide +kernel
theorem dX6_merge_89 : decode cX6_merge 89 = .ok (.ireturn, 1) := by decide +kernel
theorem dX6_putOnto_0 : decode cX6_putOnto 0 = .ok (.aload_n 0, 1) := by decide +kernel
theorem dX6_putOnto_1 : decode cX6_putOnto 1 = .ok (.iload_n 1, 1) := by decide +kernel
theorem dX6_putOnto_2 : decode cX6_putOnto 2 = .ok (.invokevirtual 113, 3) := by decide +kernel
theorem dX6_putOnto_5 : decode cX6_putOnto 5 = .ok (.istore_n 2, 1) := by decide +kernel
theorem dX6_putOnto_6 : decode cX6_putOnto 6 = .ok (.aload_n 0, 1) := by decide +kernel
theorem dX6_putOnto_7 : decode cX6_putOnto 7 = .ok (.invokevirtual 116, 3) := by decide +kernel
theorem dX6_putOnto_10 : decode cX6_putOnto 10 = .ok (.aload_n 0, 1) := by decide +kernel
theorem dX6_putOnto_11 : decode cX6_putOnto 11 = .ok (.aload_n 0, 1) := by decide +kernel
theorem dX6_putOnto_12 : decode cX6_putOnto 12 = .ok (.getfield 44, 3) := by decide +kernel
theorem dX6_putOnto_15 : decode cX6_putOnto 15 = .ok (.invokevirtual 76, 3) := by decide +kernel
theorem dX6_putOnto_18 : decode cX6_putOnto 18 = .ok (.istore_n 3, 1) := by decide +kernel
theorem dX6_putOnto_19 : decode cX6_putOnto 19 = .ok (.aload_n 0, 1) := by decide +kernel
theorem dX6_putOnto_20 : decode cX6_putOnto 20 = .ok (.getfield 10, 3) := by decide +kernel
theorem dX6_putOnto_23 : decode cX6_putOnto 23 = .ok (.iload_n 2, 1) := by decide +kernel
theorem dX6_putOnto_24 : decode cX6_putOnto 24 = .ok (.iload_n 3, 1) := by decide +kernel
theorem dX6_putOnto_25 : decode cX6_putOnto 25 = .ok (.invokevirtual 126, 3) := by decide +kernel
theorem dX6_putOnto_28 : decode cX6_putOnto 28 = .ok (.ifCond .eq 13, 3) := by decide +kernel
theorem dX6_putOnto_31 : decode cX6_putOnto 31 = .ok (.new 71, 3) := by decide +kernel
theorem dX6_putOnto_34 : decode cX6_putOnto 34 = .ok (.dup, 1) := by decide +kernel
theorem dX6_putOnto_35 : decode cX6_putOnto 35 = .ok (.ldc 141, 2) := by decide +kernel
theorem dX6_putOnto_37 : decode cX6_putOnto 37 = .ok (.invokespecial 75, 3) := by decide +kernel
theorem dX6_putOnto_40 : decode cX6_putOnto 40 = .ok (.athrow, 1) := by decide +kernel
theorem dX6_putOnto_41 : decode cX6_putOnto 41 = .ok (.aload_n 0, 1) := by decide +kernel
theorem dX6_putOnto_42 : decode cX6_putOnto 42 = .ok (.getfield 10, 3) := by decide +kernel
theorem dX6_putOnto_45 : decode cX6_putOnto 45 = .ok (.invokevirtual 143, 3) := by decide +kernel
theorem dX6_putOnto_48 : decode cX6_putOnto 48 = .ok (.istore 4, 2) := by decide +kernel
theorem dX6_putOnto_50 : decode cX6_putOnto 50 = .ok (.aload_n 0, 1) := by decide +kernel
theorem dX6_putOnto_51 : decode cX6_putOnto 51 = .ok (.iload_n 2, 1) := by decide +kernel
theorem dX6_putOnto_52 : decode cX6_putOnto 52 = .ok (.iload_n 3, 1) := by decide +kernel
theorem dX6_putOnto_53 : decode cX6_putOnto 53 = .ok (.invokevirtual 146, 3) := by decide +kernel
theorem dX6_putOnto_56 : decode cX6_putOnto 56 = .ok (.istore 5, 2) := by decide +kernel
theorem dX6_putOnto_58 : decode cX6_putOnto 58 = .ok (.aload_n 0, 1) := by decide +kernel
theorem dX6_putOnto_59 : decode cX6_putOnto 59 = .ok (.iload 5, 2) := by decide +kernel
theorem dX6_putOnto_61 : decode cX6_putOnto 61 = .ok (.iload_n 2, 1) := by decide +kernel
theorem dX6_putOnto_62 : decode cX6_putOnto 62 = .ok (.invokevirtual 149, 3) := by decide +kernel
theorem dX6_putOnto_65 : decode cX6_putOnto 65 = .ok (.istore 6, 2) := by decide +kernel
theorem dX6_putOnto_67 : decode cX6_putOnto 67 = .ok (.iload 6, 2) := by decide +kernel
theorem dX6_putOnto_69 : decode cX6_putOnto 69 = .ok (.iconst (-1), 1) := by decide +kernel
theorem dX6_putOnto_70 : decode cX6_putOnto 70 = .ok (.if_icmp .ne 22, 3) := by decide +kernel
theorem dX6_putOnto_73 : decode cX6_putOnto 73 = .ok (.aload_n 0, 1) := by decide +kernel
theorem dX6_putOnto_74 : decode cX6_putOnto 74 = .ok (.getfield 10, 3) := by decide +kernel
theorem dX6_putOnto_77 : decode cX6_putOnto 77 = .ok (.iload 4, 2) := by decide +kernel
theorem dX6_putOnto_79 : decode cX6_putOnto 79 = .ok (.invokevirtual 152, 3) := by decide +kernel
theorem dX6_putOnto_82 : decode cX6_putOnto 82 = .ok (.new 136, 3) := by decide +kernel
theorem dX6_putOnto_85 : decode cX6_putOnto 85 = .ok (.dup, 1) := by decide +kernel
theorem dX6_putOnto_86 : decode cX6_putOnto 86 = .ok (.ldc 138, 2) := by decide +kernel
theorem dX6_putOnto_88 : decode cX6_putOnto 88 = .ok (.invokespecial 140, 3) := by decide +kernel
theorem dX6_putOnto_91 : decode cX6_putOnto 91 = .ok (.athrow, 1) := by decide +kernel
theorem dX6_putOnto_92 : decode cX6_putOnto 92 = .ok (.aload_n 0, 1) := by decide +kernel
theorem dX6_putOnto_93 : decode cX6_putOnto 93 = .ok (.iload 6, 2) := by decide +kernel
theorem dX6_putOnto_95 : decode cX6_putOnto 95 = .ok (.invokevirtual 99, 3) := by decide +kernel
theorem dX6_putOnto_98 : decode cX6_putOnto 98 = .ok (.iload 5, 2) := by decide +kernel
theorem dX6_putOnto_100 : decode cX6_putOnto 100 = .ok (.ireturn, 1) := by decide +kernel
theorem dX6_currentBranch_0 : decode cX6_currentBranch 0 = .ok (.aload_n 0, 1) := by decide +kernel
theorem dX6_currentBranch_1 : decode cX6_currentBranch 1 = .ok (.getfield 44, 3) := by decide +kernel
theorem dX6_currentBranch_4 : decode cX6_currentBranch 4 = .ok (.ireturn, 1) := by decide +kernel
theorem dX6_head_0 : decode cX6_head 0 = .ok (.aload_n 0, 1) := by decide +kernel
theorem dX6_head_1 : decode cX6_head 1 = .ok (.iload_n 1, 1) := by decide +kernel
theorem dX6_head_2 : decode cX6_head 2 = .ok (.invokevirtual 113, 3) := by decide +kernel
theorem dX6_head_5 : decode cX6_head 5 = .ok (.ireturn, 1) := by decide +kernel
theorem dX6_commits_0 : decode cX6_commits 0 = .ok (.aload_n 0, 1) := by decide +kernel
theorem dX6_commits_1 : decode cX6_commits 1 = .ok (.getfield 10, 3) := by decide +kernel
theorem dX6_commits_4 : decode cX6_commits 4 = .ok (.invokevirtual 143, 3) := by decide +kernel
theorem dX6_commits_7 : decode cX6_commits 7 = .ok (.ireturn, 1) := by decide +kernel
theorem dX6_contentIn_0 : decode cX6_contentIn 0 = .ok (.aload_n 0, 1) := by decide +kernel
theorem dX6_contentIn_1 : decode cX6_contentIn 1 = .ok (.iload_n 1, 1) := by decide +kernel
theorem dX6_contentIn_2 : decode cX6_contentIn 2 = .ok (.invokevirtual 123, 3) := by decide +kernel
theorem dX6_contentIn_5 : decode cX6_contentIn 5 = .ok (.iload_n 2, 1) := by decide +kernel
theorem dX6_contentIn_6 : decode cX6_contentIn 6 = .ok (.invokestatic 48, 3) := by decide +kernel
theorem dX6_contentIn_9 : decode cX6_contentIn 9 = .ok (.aload_n 0, 1) := by decide +kernel
theorem dX6_contentIn_10 : decode cX6_contentIn 10 = .ok (.getfield 10, 3) := by decide +kernel
theorem dX6_contentIn_13 : decode cX6_contentIn 13 = .ok (.iload_n 1, 1) := by decide +kernel
theorem dX6_contentIn_14 : decode cX6_contentIn 14 = .ok (.invokevirtual 79, 3) := by decide +kernel
theorem dX6_contentIn_17 : decode cX6_contentIn 17 = .ok (.iload_n 2, 1) := by decide +kernel
theorem dX6_contentIn_18 : decode cX6_contentIn 18 = .ok (.invokestatic 67, 3) := by decide +kernel
theorem dX6_contentIn_21 : decode cX6_contentIn 21 = .ok (.ireturn, 1) := by decide +kernel
theorem dX6_parentOf_0 : decode cX6_parentOf 0 = .ok (.aload_n 0, 1) := by decide +kernel
theorem dX6_parentOf_1 : decode cX6_parentOf 1 = .ok (.iload_n 1, 1) := by decide +kernel
theorem dX6_parentOf_2 : decode cX6_parentOf 2 = .ok (.invokevirtual 123, 3) := by decide +kernel
theorem dX6_parentOf_5 : decode cX6_parentOf 5 = .ok (.iload_n 2, 1) := by decide +kernel
theorem dX6_parentOf_6 : decode cX6_parentOf 6 = .ok (.ifCond .eq 18, 3) := by decide +kernel
theorem dX6_parentOf_9 : decode cX6_parentOf 9 = .ok (.iload_n 2, 1) := by decide +kernel
theorem dX6_parentOf_10 : decode cX6_parentOf 10 = .ok (.iconst 1, 1) := by decide +kernel
theorem dX6_parentOf_11 : decode cX6_parentOf 11 = .ok (.if_icmp .eq 13, 3) := by decide +kernel
theorem dX6_parentOf_14 : decode cX6_parentOf 14 = .ok (.new 106, 3) := by decide +kernel
theorem dX6_parentOf_17 : decode cX6_parentOf 17 = .ok (.dup, 1) := by decide +kernel
theorem dX6_parentOf_18 : decode cX6_parentOf 18 = .ok (.ldc 155, 2) := by decide +kernel
theorem dX6_parentOf_20 : decode cX6_parentOf 20 = .ok (.invokespecial 110, 3) := by decide +kernel
theorem dX6_parentOf_23 : decode cX6_parentOf 23 = .ok (.athrow, 1) := by decide +kernel
theorem dX6_parentOf_24 : decode cX6_parentOf 24 = .ok (.iload_n 2, 1) := by decide +kernel
theorem dX6_parentOf_25 : decode cX6_parentOf 25 = .ok (.ifCond .ne 14, 3) := by decide +kernel
theorem dX6_parentOf_28 : decode cX6_parentOf 28 = .ok (.aload_n 0, 1) := by decide +kernel
theorem dX6_parentOf_29 : decode cX6_parentOf 29 = .ok (.getfield 10, 3) := by decide +kernel
theorem dX6_parentOf_32 : decode cX6_parentOf 32 = .ok (.iload_n 1, 1) := by decide +kernel
theorem dX6_parentOf_33 : decode cX6_parentOf 33 = .ok (.invokevirtual 157, 3) := by decide +kernel
theorem dX6_parentOf_36 : decode cX6_parentOf 36 = .ok (.goto 11, 3) := by decide +kernel
theorem dX6_parentOf_39 : decode cX6_parentOf 39 = .ok (.aload_n 0, 1) := by decide +kernel
theorem dX6_parentOf_40 : decode cX6_parentOf 40 = .ok (.getfield 10, 3) := by decide +kernel
theorem dX6_parentOf_43 : decode cX6_parentOf 43 = .ok (.iload_n 1, 1) := by decide +kernel
theorem dX6_parentOf_44 : decode cX6_parentOf 44 = .ok (.invokevirtual 160, 3) := by decide +kernel
theorem dX6_parentOf_47 : decode cX6_parentOf 47 = .ok (.istore_n 3, 1) := by decide +kernel
theorem dX6_parentOf_48 : decode cX6_parentOf 48 = .ok (.iload_n 3, 1) := by decide +kernel
theorem dX6_parentOf_49 : decode cX6_parentOf 49 = .ok (.iconst (-1), 1) := by decide +kernel
theorem dX6_parentOf_50 : decode cX6_parentOf 50 = .ok (.if_icmp .ne 13, 3) := by decide +kernel
theorem dX6_parentOf_53 : decode cX6_parentOf 53 = .ok (.new 163, 3) := by decide +kernel
theorem dX6_parentOf_56 : decode cX6_parentOf 56 = .ok (.dup, 1) := by decide +kernel
theorem dX6_parentOf_57 : decode cX6_parentOf 57 = .ok (.ldc 165, 2) := by decide +kernel
theorem dX6_parentOf_59 : decode cX6_parentOf 59 = .ok (.invokespecial 167, 3) := by decide +kernel
theorem dX6_parentOf_62 : decode cX6_parentOf 62 = .ok (.athrow, 1) := by decide +kernel
theorem dX6_parentOf_63 : decode cX6_parentOf 63 = .ok (.iload_n 3, 1) := by decide +kernel
theorem dX6_parentOf_64 : decode cX6_parentOf 64 = .ok (.ireturn, 1) := by decide +kernel
theorem dX6_generation_0 : decode cX6_generation 0 = .ok (.aload_n 0, 1) := by decide +kernel
theorem dX6_generation_1 : decode cX6_generation 1 = .ok (.iload_n 1, 1) := by decide +kernel
theorem dX6_generation_2 : decode cX6_generation 2 = .ok (.invokevirtual 123, 3) := by decide +kernel
theorem dX6_generation_5 : decode cX6_generation 5 = .ok (.aload_n 0, 1) := by decide +kernel
theorem dX6_generation_6 : decode cX6_generation 6 = .ok (.getfield 10, 3) := by decide +kernel
theorem dX6_generation_9 : decode cX6_generation 9 = .ok (.iload_n 1, 1) := by decide +kernel
theorem dX6_generation_10 : decode cX6_generation 10 = .ok (.invokevirtual 168, 3) := by decide +kernel
theorem dX6_generation_13 : decode cX6_generation 13 = .ok (.ireturn, 1) := by decide +kernel
theorem dX6_isAncestor_0 : decode cX6_isAncestor 0 = .ok (.aload_n 0, 1) := by decide +kernel
theorem dX6_isAncestor_1 : decode cX6_isAncestor 1 = .ok (.iload_n 1, 1) := by decide +kernel
theorem dX6_isAncestor_2 : decode cX6_isAncestor 2 = .ok (.invokevirtual 123, 3) := by decide +kernel
theorem dX6_isAncestor_5 : decode cX6_isAncestor 5 = .ok (.aload_n 0, 1) := by decide +kernel
theorem dX6_isAncestor_6 : decode cX6_isAncestor 6 = .ok (.iload_n 2, 1) := by decide +kernel
theorem dX6_isAncestor_7 : decode cX6_isAncestor 7 = .ok (.invokevirtual 123, 3) := by decide +kernel
theorem dX6_isAncestor_10 : decode cX6_isAncestor 10 = .ok (.aload_n 0, 1) := by decide +kernel
theorem dX6_isAncestor_11 : decode cX6_isAncestor 11 = .ok (.getfield 10, 3) := by decide +kernel
theorem dX6_isAncestor_14 : decode cX6_isAncestor 14 = .ok (.iload_n 2, 1) := by decide +kernel
theorem dX6_isAncestor_15 : decode cX6_isAncestor 15 = .ok (.iload_n 1, 1) := by decide +kernel
theorem dX6_isAncestor_16 : decode cX6_isAncestor 16 = .ok (.invokevirtual 126, 3) := by decide +kernel
theorem dX6_isAncestor_19 : decode cX6_isAncestor 19 = .ok (.ireturn, 1) := by decide +kernel
theorem dX6_isAncestorByWalking_0 : decode cX6_isAncestorByWalking 0 = .ok (.aload_n 0, 1) := by decide +kernel
theorem dX6_isAncestorByWalking_1 : decode cX6_isAncestorByWalking 1 = .ok (.iload_n 1, 1) := by decide +kernel
theorem dX6_isAncestorByWalking_2 : decode cX6_isAncestorByWalking 2 = .ok (.invokevirtual 123, 3) := by decide +kernel
theorem dX6_isAncestorByWalking_5 : decode cX6_isAncestorByWalking 5 = .ok (.aload_n 0, 1) := by decide +kernel
theorem dX6_isAncestorByWalking_6 : decode cX6_isAncestorByWalking 6 = .ok (.iload_n 2, 1) := by decide +kernel
theorem dX6_isAncestorByWalking_7 : decode cX6_isAncestorByWalking 7 = .ok (.invokevirtual 123, 3) := by decide +kernel
theorem dX6_isAncestorByWalking_10 : decode cX6_isAncestorByWalking 10 = .ok (.aload_n 0, 1) := by decide +kernel
theorem dX6_isAncestorByWalking_11 : decode cX6_isAncestorByWalking 11 = .ok (.getfield 10, 3) := by decide +kernel
theorem dX6_isAncestorByWalking_14 : decode cX6_isAncestorByWalking 14 = .ok (.iload_n 2, 1) := by decide +kernel
theorem dX6_isAncestorByWalking_15 : decode cX6_isAncestorByWalking 15 = .ok (.iload_n 1, 1) := by decide +kernel
theorem dX6_isAncestorByWalking_16 : decode cX6_isAncestorByWalking 16 = .ok (.invokevirtual 171, 3) := by decide +kernel
theorem dX6_isAncestorByWalking_19 : decode cX6_isAncestorByWalking 19 = .ok (.ireturn, 1) := by decide +kernel
theorem dX6_base_0 : decode cX6_base 0 = .ok (.aload_n 0, 1) := by decide +kernel
theorem dX6_base_1 : decode cX6_base 1 = .ok (.iload_n 1, 1) := by decide +kernel
theorem dX6_base_2 : decode cX6_base 2 = .ok (.invokevirtual 123, 3) := by decide +kernel
theorem dX6_base_5 : decode cX6_base 5 = .ok (.aload_n 0, 1) := by decide +kernel
theorem dX6_base_6 : decode cX6_base 6 = .ok (.iload_n 2, 1) := by decide +kernel
theorem dX6_base_7 : decode cX6_base 7 = .ok (.invokevirtual 123, 3) := by decide +kernel
theorem dX6_base_10 : decode cX6_base 10 = .ok (.aload_n 0, 1) := by decide +kernel
theorem dX6_base_11 : decode cX6_base 11 = .ok (.getfield 10, 3) := by decide +kernel
theorem dX6_base_14 : decode cX6_base 14 = .ok (.iload_n 1, 1) := by decide +kernel
theorem dX6_base_15 : decode cX6_base 15 = .ok (.iload_n 2, 1) := by decide +kernel
theorem dX6_base_16 : decode cX6_base 16 = .ok (.invokevirtual 174, 3) := by decide +kernel
theorem dX6_base_19 : decode cX6_base 19 = .ok (.ireturn, 1) := by decide +kernel
theorem dX6_baseByWalking_0 : decode cX6_baseByWalking 0 = .ok (.aload_n 0, 1) := by decide +kernel
theorem dX6_baseByWalking_1 : decode cX6_baseByWalking 1 = .ok (.iload_n 1, 1) := by decide +kernel
theorem dX6_baseByWalking_2 : decode cX6_baseByWalking 2 = .ok (.invokevirtual 123, 3) := by decide +kernel
theorem dX6_baseByWalking_5 : decode cX6_baseByWalking 5 = .ok (.aload_n 0, 1) := by decide +kernel
theorem dX6_baseByWalking_6 : decode cX6_baseByWalking 6 = .ok (.iload_n 2, 1) := by decide +kernel
theorem dX6_baseByWalking_7 : decode cX6_baseByWalking 7 = .ok (.invokevirtual 123, 3) := by decide +kernel
theorem dX6_baseByWalking_10 : decode cX6_baseByWalking 10 = .ok (.aload_n 0, 1) := by decide +kernel
theorem dX6_baseByWalking_11 : decode cX6_baseByWalking 11 = .ok (.getfield 10, 3) := by decide +kernel
theorem dX6_baseByWalking_14 : decode cX6_baseByWalking 14 = .ok (.iload_n 1, 1) := by decide +kernel
theorem dX6_baseByWalking_15 : decode cX6_baseByWalking 15 = .ok (.iload_n 2, 1) := by decide +kernel
theorem dX6_baseByWalking_16 : decode cX6_baseByWalking 16 = .ok (.invokevirtual 177, 3) := by decide +kernel
theorem dX6_baseByWalking_19 : decode cX6_baseByWalking 19 = .ok (.ireturn, 1) := by decide +kernel
theorem dX6_bases_0 : decode cX6_bases 0 = .ok (.aload_n 0, 1) := by decide +kernel
theorem dX6_bases_1 : decode cX6_bases 1 = .ok (.iload_n 1, 1) := by decide +kernel
theorem dX6_bases_2 : decode cX6_bases 2 = .ok (.invokevirtual 123, 3) := by decide +kernel
theorem dX6_bases_5 : decode cX6_bases 5 = .ok (.aload_n 0, 1) := by decide +kernel
theorem dX6_bases_6 : decode cX6_bases 6 = .ok (.iload_n 2, 1) := by decide +kernel
theorem dX6_bases_7 : decode cX6_bases 7 = .ok (.invokevirtual 123, 3) := by decide +kernel
theorem dX6_bases_10 : decode cX6_bases 10 = .ok (.aload_n 0, 1) := by decide +kernel
theorem dX6_bases_11 : decode cX6_bases 11 = .ok (.getfield 10, 3) := by decide +kernel
theorem dX6_bases_14 : decode cX6_bases 14 = .ok (.iload_n 1, 1) := by decide +kernel
theorem dX6_bases_15 : decode cX6_bases 15 = .ok (.iload_n 2, 1) := by decide +kernel
theorem dX6_bases_16 : decode cX6_bases 16 = .ok (.invokevirtual 180, 3) := by decide +kernel
theorem dX6_bases_19 : decode cX6_bases 19 = .ok (.ireturn, 1) := by decide +kernel
theorem dX6_movedTo_0 : decode cX6_movedTo 0 = .ok (.aload_n 0, 1) := by decide +kernel
theorem dX6_movedTo_1 : decode cX6_movedTo 1 = .ok (.iload_n 1, 1) := by decide +kernel
theorem dX6_movedTo_2 : decode cX6_movedTo 2 = .ok (.invokevirtual 123, 3) := by decide +kernel
theorem dX6_movedTo_5 : decode cX6_movedTo 5 = .ok (.aload_n 0, 1) := by decide +kernel
theorem dX6_movedTo_6 : decode cX6_movedTo 6 = .ok (.iload_n 2, 1) := by decide +kernel
theorem dX6_movedTo_7 : decode cX6_movedTo 7 = .ok (.invokevirtual 123, 3) := by decide +kernel
theorem dX6_movedTo_10 : decode cX6_movedTo 10 = .ok (.iload_n 3, 1) := by decide +kernel
theorem dX6_movedTo_11 : decode cX6_movedTo 11 = .ok (.invokestatic 48, 3) := by decide +kernel
theorem dX6_movedTo_14 : decode cX6_movedTo 14 = .ok (.aload_n 0, 1) := by decide +kernel
theorem dX6_movedTo_15 : decode cX6_movedTo 15 = .ok (.getfield 19, 3) := by decide +kernel
theorem dX6_movedTo_18 : decode cX6_movedTo 18 = .ok (.aload_n 0, 1) := by decide +kernel
theorem dX6_movedTo_19 : decode cX6_movedTo 19 = .ok (.getfield 10, 3) := by decide +kernel
theorem dX6_movedTo_22 : decode cX6_movedTo 22 = .ok (.iload_n 1, 1) := by decide +kernel
theorem dX6_movedTo_23 : decode cX6_movedTo 23 = .ok (.invokevirtual 79, 3) := by decide +kernel
theorem dX6_movedTo_26 : decode cX6_movedTo 26 = .ok (.aload_n 0, 1) := by decide +kernel
theorem dX6_movedTo_27 : decode cX6_movedTo 27 = .ok (.getfield 10, 3) := by decide +kernel
theorem dX6_movedTo_30 : decode cX6_movedTo 30 = .ok (.iload_n 2, 1) := by decide +kernel
theorem dX6_movedTo_31 : decode cX6_movedTo 31 = .ok (.invokevirtual 79, 3) := by decide +kernel
theorem dX6_movedTo_34 : decode cX6_movedTo 34 = .ok (.iload_n 3, 1) := by decide +kernel
theorem dX6_movedTo_35 : decode cX6_movedTo 35 = .ok (.invokevirtual 183, 3) := by decide +kernel
theorem dX6_movedTo_38 : decode cX6_movedTo 38 = .ok (.istore 4, 2) := by decide +kernel
theorem dX6_movedTo_40 : decode cX6_movedTo 40 = .ok (.iload 4, 2) := by decide +kernel
theorem dX6_movedTo_42 : decode cX6_movedTo 42 = .ok (.iconst (-1), 1) := by decide +kernel
theorem dX6_movedTo_43 : decode cX6_movedTo 43 = .ok (.if_icmp .ne 13, 3) := by decide +kernel
theorem dX6_movedTo_46 : decode cX6_movedTo 46 = .ok (.new 163, 3) := by decide +kernel
theorem dX6_movedTo_49 : decode cX6_movedTo 49 = .ok (.dup, 1) := by decide +kernel
theorem dX6_movedTo_50 : decode cX6_movedTo 50 = .ok (.ldc 187, 2) := by decide +kernel
theorem dX6_movedTo_52 : decode cX6_movedTo 52 = .ok (.invokespecial 167, 3) := by decide +kernel
theorem dX6_movedTo_55 : decode cX6_movedTo 55 = .ok (.athrow, 1) := by decide +kernel
theorem dX6_movedTo_56 : decode cX6_movedTo 56 = .ok (.iload 4, 2) := by decide +kernel
theorem dX6_movedTo_58 : decode cX6_movedTo 58 = .ok (.ireturn, 1) := by decide +kernel
theorem dX6_conflicts_0 : decode cX6_conflicts 0 = .ok (.aload_n 0, 1) := by decide +kernel
theorem dX6_conflicts_1 : decode cX6_conflicts 1 = .ok (.iload_n 1, 1) := by decide +kernel
theorem dX6_conflicts_2 : decode cX6_conflicts 2 = .ok (.invokevirtual 123, 3) := by decide +kernel
theorem dX6_conflicts_5 : decode cX6_conflicts 5 = .ok (.aload_n 0, 1) := by decide +kernel
theorem dX6_conflicts_6 : decode cX6_conflicts 6 = .ok (.iload_n 2, 1) := by decide +kernel
theorem dX6_conflicts_7 : decode cX6_conflicts 7 = .ok (.invokevirtual 123, 3) := by decide +kernel
theorem dX6_conflicts_10 : decode cX6_conflicts 10 = .ok (.aload_n 0, 1) := by decide +kernel
theorem dX6_conflicts_11 : decode cX6_conflicts 11 = .ok (.getfield 19, 3) := by decide +kernel
theorem dX6_conflicts_14 : decode cX6_conflicts 14 = .ok (.aload_n 0, 1) := by decide +kernel
theorem dX6_conflicts_15 : decode cX6_conflicts 15 = .ok (.getfield 10, 3) := by decide +kernel
theorem dX6_conflicts_18 : decode cX6_conflicts 18 = .ok (.aload_n 0, 1) := by decide +kernel
theorem dX6_conflicts_19 : decode cX6_conflicts 19 = .ok (.getfield 10, 3) := by decide +kernel
theorem dX6_conflicts_22 : decode cX6_conflicts 22 = .ok (.iload_n 1, 1) := by decide +kernel
theorem dX6_conflicts_23 : decode cX6_conflicts 23 = .ok (.iload_n 2, 1) := by decide +kernel
theorem dX6_conflicts_24 : decode cX6_conflicts 24 = .ok (.invokevirtual 174, 3) := by decide +kernel
theorem dX6_conflicts_27 : decode cX6_conflicts 27 = .ok (.iload_n 1, 1) := by decide +kernel
theorem dX6_conflicts_28 : decode cX6_conflicts 28 = .ok (.iload_n 2, 1) := by decide +kernel
theorem dX6_conflicts_29 : decode cX6_conflicts 29 = .ok (.invokevirtual 189, 3) := by decide +kernel
theorem dX6_conflicts_32 : decode cX6_conflicts 32 = .ok (.ireturn, 1) := by decide +kernel
theorem dX6_lastChange_0 : decode cX6_lastChange 0 = .ok (.iload_n 1, 1) := by decide +kernel
theorem dX6_lastChange_1 : decode cX6_lastChange 1 = .ok (.invokestatic 48, 3) := by decide +kernel
theorem dX6_lastChange_4 : decode cX6_lastChange 4 = .ok (.aload_n 0, 1) := by decide +kernel
theorem dX6_lastChange_5 : decode cX6_lastChange 5 = .ok (.getfield 10, 3) := by decide +kernel
theorem dX6_lastChange_8 : decode cX6_lastChange 8 = .ok (.iload_n 1, 1) := by decide +kernel
theorem dX6_lastChange_9 : decode cX6_lastChange 9 = .ok (.aload_n 0, 1) := by decide +kernel
theorem dX6_lastChange_10 : decode cX6_lastChange 10 = .ok (.aload_n 0, 1) := by decide +kernel
theorem dX6_lastChange_11 : decode cX6_lastChange 11 = .ok (.getfield 44, 3) := by decide +kernel
theorem dX6_lastChange_14 : decode cX6_lastChange 14 = .ok (.invokevirtual 76, 3) := by decide +kernel
theorem dX6_lastChange_17 : decode cX6_lastChange 17 = .ok (.invokevirtual 193, 3) := by decide +kernel
theorem dX6_lastChange_20 : decode cX6_lastChange 20 = .ok (.istore_n 2, 1) := by decide +kernel
theorem dX6_lastChange_21 : decode cX6_lastChange 21 = .ok (.iload_n 2, 1) := by decide +kernel
theorem dX6_lastChange_22 : decode cX6_lastChange 22 = .ok (.iconst (-1), 1) := by decide +kernel
theorem dX6_lastChange_23 : decode cX6_lastChange 23 = .ok (.if_icmp .ne 13, 3) := by decide +kernel
theorem dX6_lastChange_26 : decode cX6_lastChange 26 = .ok (.new 163, 3) := by decide +kernel
theorem dX6_lastChange_29 : decode cX6_lastChange 29 = .ok (.dup, 1) := by decide +kernel
theorem dX6_lastChange_30 : decode cX6_lastChange 30 = .ok (.ldc 196, 2) := by decide +kernel
theorem dX6_lastChange_32 : decode cX6_lastChange 32 = .ok (.invokespecial 167, 3) := by decide +kernel
theorem dX6_lastChange_35 : decode cX6_lastChange 35 = .ok (.athrow, 1) := by decide +kernel
theorem dX6_lastChange_36 : decode cX6_lastChange 36 = .ok (.iload_n 2, 1) := by decide +kernel
theorem dX6_lastChange_37 : decode cX6_lastChange 37 = .ok (.ireturn, 1) := by decide +kernel
theorem dX6_packed_0 : decode cX6_packed 0 = .ok (.aload_n 0, 1) := by decide +kernel
theorem dX6_packed_1 : decode cX6_packed 1 = .ok (.getfield 26, 3) := by decide +kernel
theorem dX6_packed_4 : decode cX6_packed 4 = .ok (.invokevirtual 198, 3) := by decide +kernel
theorem dX6_packed_7 : decode cX6_packed 7 = .ok (.ireturn, 1) := by decide +kernel
theorem dX6_depthOf_0 : decode cX6_depthOf 0 = .ok (.aload_n 0, 1) := by decide +kernel
theorem dX6_depthOf_1 : decode cX6_depthOf 1 = .ok (.getfield 26, 3) := by decide +kernel
theorem dX6_depthOf_4 : decode cX6_depthOf 4 = .ok (.aload_n 0, 1) := by decide +kernel
theorem dX6_depthOf_5 : decode cX6_depthOf 5 = .ok (.getfield 26, 3) := by decide +kernel
theorem dX6_depthOf_8 : decode cX6_depthOf 8 = .ok (.iload_n 1, 1) := by decide +kernel
theorem dX6_depthOf_9 : decode cX6_depthOf 9 = .ok (.invokevirtual 199, 3) := by decide +kernel
theorem dX6_depthOf_12 : decode cX6_depthOf 12 = .ok (.invokevirtual 202, 3) := by decide +kernel
theorem dX6_depthOf_15 : decode cX6_depthOf 15 = .ok (.istore_n 2, 1) := by decide +kernel
theorem dX6_depthOf_16 : decode cX6_depthOf 16 = .ok (.iload_n 2, 1) := by decide +kernel
theorem dX6_depthOf_17 : decode cX6_depthOf 17 = .ok (.iconst (-1), 1) := by decide +kernel
theorem dX6_depthOf_18 : decode cX6_depthOf 18 = .ok (.if_icmp .ne 13, 3) := by decide +kernel
theorem dX6_depthOf_21 : decode cX6_depthOf 21 = .ok (.new 163, 3) := by decide +kernel
theorem dX6_depthOf_24 : decode cX6_depthOf 24 = .ok (.dup, 1) := by decide +kernel
theorem dX6_depthOf_25 : decode cX6_depthOf 25 = .ok (.ldc 205, 2) := by decide +kernel
theorem dX6_depthOf_27 : decode cX6_depthOf 27 = .ok (.invokespecial 167, 3) := by decide +kernel
theorem dX6_depthOf_30 : decode cX6_depthOf 30 = .ok (.athrow, 1) := by decide +kernel
theorem dX6_depthOf_31 : decode cX6_depthOf 31 = .ok (.iload_n 2, 1) := by decide +kernel
theorem dX6_depthOf_32 : decode cX6_depthOf 32 = .ok (.ireturn, 1) := by decide +kernel
theorem dX6_packedFrom_0 : decode cX6_packedFrom 0 = .ok (.aload_n 0, 1) := by decide +kernel
theorem dX6_packedFrom_1 : decode cX6_packedFrom 1 = .ok (.getfield 26, 3) := by decide +kernel
theorem dX6_packedFrom_4 : decode cX6_packedFrom 4 = .ok (.aload_n 0, 1) := by decide +kernel
theorem dX6_packedFrom_5 : decode cX6_packedFrom 5 = .ok (.getfield 26, 3) := by decide +kernel
theorem dX6_packedFrom_8 : decode cX6_packedFrom 8 = .ok (.iload_n 1, 1) := by decide +kernel
theorem dX6_packedFrom_9 : decode cX6_packedFrom 9 = .ok (.invokevirtual 199, 3) := by decide +kernel
theorem dX6_packedFrom_12 : decode cX6_packedFrom 12 = .ok (.invokevirtual 207, 3) := by decide +kernel
theorem dX6_packedFrom_15 : decode cX6_packedFrom 15 = .ok (.istore_n 2, 1) := by decide +kernel
theorem dX6_packedFrom_16 : decode cX6_packedFrom 16 = .ok (.iload_n 2, 1) := by decide +kernel
theorem dX6_packedFrom_17 : decode cX6_packedFrom 17 = .ok (.iconst (-1), 1) := by decide +kernel
theorem dX6_packedFrom_18 : decode cX6_packedFrom 18 = .ok (.if_icmp .ne 13, 3) := by decide +kernel
theorem dX6_packedFrom_21 : decode cX6_packedFrom 21 = .ok (.new 163, 3) := by decide +kernel
theorem dX6_packedFrom_24 : decode cX6_packedFrom 24 = .ok (.dup, 1) := by decide +kernel
theorem dX6_packedFrom_25 : decode cX6_packedFrom 25 = .ok (.ldc 210, 2) := by decide +kernel
theorem dX6_packedFrom_27 : decode cX6_packedFrom 27 = .ok (.invokespecial 167, 3) := by decide +kernel
theorem dX6_packedFrom_30 : decode cX6_packedFrom 30 = .ok (.athrow, 1) := by decide +kernel
theorem dX6_packedFrom_31 : decode cX6_packedFrom 31 = .ok (.iload_n 2, 1) := by decide +kernel
theorem dX6_packedFrom_32 : decode cX6_packedFrom 32 = .ok (.ireturn, 1) := by decide +kernel
theorem dX6_packSize_0 : decode cX6_packSize 0 = .ok (.aload_n 0, 1) := by decide +kernel
theorem dX6_packSize_1 : decode cX6_packSize 1 = .ok (.getfield 26, 3) := by decide +kernel
theorem dX6_packSize_4 : decode cX6_packSize 4 = .ok (.invokevirtual 212, 3) := by decide +kernel
theorem dX6_packSize_7 : decode cX6_packSize 7 = .ok (.lreturn, 1) := by decide +kernel
theorem dX6_isBranchNumber_0 : decode cX6_isBranchNumber 0 = .ok (.iload_n 0, 1) := by decide +kernel
theorem dX6_isBranchNumber_1 : decode cX6_isBranchNumber 1 = .ok (.ifCond .lt 12, 3) := by decide +kernel
theorem dX6_isBranchNumber_4 : decode cX6_isBranchNumber 4 = .ok (.iload_n 0, 1) := by decide +kernel
theorem dX6_isBranchNumber_5 : decode cX6_isBranchNumber 5 = .ok (.iconst 5, 1) := by decide +kernel
theorem dX6_isBranchNumber_6 : decode cX6_isBranchNumber 6 = .ok (.if_icmp .ge 7, 3) := by decide +kernel
theorem dX6_isBranchNumber_9 : decode cX6_isBranchNumber 9 = .ok (.iconst 1, 1) := by decide +kernel
theorem dX6_isBranchNumber_10 : decode cX6_isBranchNumber 10 = .ok (.goto 4, 3) := by decide +kernel
theorem dX6_isBranchNumber_13 : decode cX6_isBranchNumber 13 = .ok (.iconst 0, 1) := by decide +kernel
theorem dX6_isBranchNumber_14 : decode cX6_isBranchNumber 14 = .ok (.ireturn, 1) := by decide +kernel
theorem dX6_requirePath_0 : decode cX6_requirePath 0 = .ok (.iload_n 0, 1) := by decide +kernel
theorem dX6_requirePath_1 : decode cX6_requirePath 1 = .ok (.ifCond .lt 9, 3) := by decide +kernel
theorem dX6_requirePath_4 : decode cX6_requirePath 4 = .ok (.iload_n 0, 1) := by decide +kernel
theorem dX6_requirePath_5 : decode cX6_requirePath 5 = .ok (.bipush 8, 2) := by decide +kernel
theorem dX6_requirePath_7 : decode cX6_requirePath 7 = .ok (.if_icmp .lt 13, 3) := by decide +kernel
theorem dX6_requirePath_10 : decode cX6_requirePath 10 = .ok (.new 106, 3) := by decide +kernel
theorem dX6_requirePath_13 : decode cX6_requirePath 13 = .ok (.dup, 1) := by decide +kernel
theorem dX6_requirePath_14 : decode cX6_requirePath 14 = .ok (.ldc 226, 2) := by decide +kernel
theorem dX6_requirePath_16 : decode cX6_requirePath 16 = .ok (.invokespecial 110, 3) := by decide +kernel
theorem dX6_requirePath_19 : decode cX6_requirePath 19 = .ok (.athrow, 1) := by decide +kernel
theorem dX6_requirePath_20 : decode cX6_requirePath 20 = .ok (.return_, 1) := by decide +kernel
theorem dX6_requireFile_0 : decode cX6_requireFile 0 = .ok (.aload_n 0, 1) := by decide +kernel
theorem dX6_requireFile_1 : decode cX6_requireFile 1 = .ok (.iload_n 1, 1) := by decide +kernel
theorem dX6_requireFile_2 : decode cX6_requireFile 2 = .ok (.invokevirtual 59, 3) := by decide +kernel
theorem dX6_requireFile_5 : decode cX6_requireFile 5 = .ok (.istore_n 2, 1) := by decide +kernel
theorem dX6_requireFile_6 : decode cX6_requireFile 6 = .ok (.iload_n 2, 1) := by decide +kernel
theorem dX6_requireFile_7 : decode cX6_requireFile 7 = .ok (.iconst (-1), 1) := by decide +kernel
theorem dX6_requireFile_8 : decode cX6_requireFile 8 = .ok (.if_icmp .ne 13, 3) := by decide +kernel
theorem dX6_requireFile_11 : decode cX6_requireFile 11 = .ok (.new 163, 3) := by decide +kernel
theorem dX6_requireFile_14 : decode cX6_requireFile 14 = .ok (.dup, 1) := by decide +kernel
theorem dX6_requireFile_15 : decode cX6_requireFile 15 = .ok (.ldc 228, 2) := by decide +kernel
theorem dX6_requireFile_17 : decode cX6_requireFile 17 = .ok (.invokespecial 167, 3) := by decide +kernel
theorem dX6_requireFile_20 : decode cX6_requireFile 20 = .ok (.athrow, 1) := by decide +kernel
theorem dX6_requireFile_21 : decode cX6_requireFile 21 = .ok (.iload_n 2, 1) := by decide +kernel
theorem dX6_requireFile_22 : decode cX6_requireFile 22 = .ok (.ireturn, 1) := by decide +kernel
theorem dX6_requireCommit_0 : decode cX6_requireCommit 0 = .ok (.aload_n 0, 1) := by decide +kernel
theorem dX6_requireCommit_1 : decode cX6_requireCommit 1 = .ok (.getfield 10, 3) := by decide +kernel
theorem dX6_requireCommit_4 : decode cX6_requireCommit 4 = .ok (.iload_n 1, 1) := by decide +kernel
theorem dX6_requireCommit_5 : decode cX6_requireCommit 5 = .ok (.invokevirtual 230, 3) := by decide +kernel
theorem dX6_requireCommit_8 : decode cX6_requireCommit 8 = .ok (.ifCond .ne 13, 3) := by decide +kernel
theorem dX6_requireCommit_11 : decode cX6_requireCommit 11 = .ok (.new 106, 3) := by decide +kernel
theorem dX6_requireCommit_14 : decode cX6_requireCommit 14 = .ok (.dup, 1) := by decide +kernel
theorem dX6_requireCommit_15 : decode cX6_requireCommit 15 = .ok (.ldc 233, 2) := by decide +kernel
theorem dX6_requireCommit_17 : decode cX6_requireCommit 17 = .ok (.invokespecial 110, 3) := by decide +kernel
theorem dX6_requireCommit_20 : decode cX6_requireCommit 20 = .ok (.athrow, 1) := by decide +kernel
theorem dX6_requireCommit_21 : decode cX6_requireCommit 21 = .ok (.return_, 1) := by decide +kernel
theorem dX6_requireHead_0 : decode cX6_requireHead 0 = .ok (.iload_n 1, 1) := by decide +kernel
theorem dX6_requireHead_1 : decode cX6_requireHead 1 = .ok (.invokestatic 102, 3) := by decide +kernel
theorem dX6_requireHead_4 : decode cX6_requireHead 4 = .ok (.ifCond .ne 13, 3) := by decide +kernel
theorem dX6_requireHead_7 : decode cX6_requireHead 7 = .ok (.new 106, 3) := by decide +kernel
theorem dX6_requireHead_10 : decode cX6_requireHead 10 = .ok (.dup, 1) := by decide +kernel
theorem dX6_requireHead_11 : decode cX6_requireHead 11 = .ok (.ldc 108, 2) := by decide +kernel
theorem dX6_requireHead_13 : decode cX6_requireHead 13 = .ok (.invokespecial 110, 3) := by decide +kernel
theorem dX6_requireHead_16 : decode cX6_requireHead 16 = .ok (.athrow, 1) := by decide +kernel
theorem dX6_requireHead_17 : decode cX6_requireHead 17 = .ok (.aload_n 0, 1) := by decide +kernel
theorem dX6_requireHead_18 : decode cX6_requireHead 18 = .ok (.iload_n 1, 1) := by decide +kernel
theorem dX6_requireHead_19 : decode cX6_requireHead 19 = .ok (.invokevirtual 76, 3) := by decide +kernel
theorem dX6_requireHead_22 : decode cX6_requireHead 22 = .ok (.istore_n 2, 1) := by decide +kernel
theorem dX6_requireHead_23 : decode cX6_requireHead 23 = .ok (.iload_n 2, 1) := by decide +kernel
theorem dX6_requireHead_24 : decode cX6_requireHead 24 = .ok (.iconst (-1), 1) := by decide +kernel
theorem dX6_requireHead_25 : decode cX6_requireHead 25 = .ok (.if_icmp .ne 13, 3) := by decide +kernel
theorem dX6_requireHead_28 : decode cX6_requireHead 28 = .ok (.new 163, 3) := by decide +kernel
theorem dX6_requireHead_31 : decode cX6_requireHead 31 = .ok (.dup, 1) := by decide +kernel
theorem dX6_requireHead_32 : decode cX6_requireHead 32 = .ok (.ldc 235, 2) := by decide +kernel
theorem dX6_requireHead_34 : decode cX6_requireHead 34 = .ok (.invokespecial 167, 3) := by decide +kernel
theorem dX6_requireHead_37 : decode cX6_requireHead 37 = .ok (.athrow, 1) := by decide +kernel
theorem dX6_requireHead_38 : decode cX6_requireHead 38 = .ok (.iload_n 2, 1) := by decide +kernel
theorem dX6_requireHead_39 : decode cX6_requireHead 39 = .ok (.ireturn, 1) := by decide +kernel
theorem dX6_requireNoChanges_0 : decode cX6_requireNoChanges 0 = .ok (.aload_n 0, 1) := by decide +kernel
theorem dX6_requireNoChanges_1 : decode cX6_requireNoChanges 1 = .ok (.invokevirtual 87, 3) := by decide +kernel
theorem dX6_requireNoChanges_4 : decode cX6_requireNoChanges 4 = .ok (.ifCond .eq 13, 3) := by decide +kernel
theorem dX6_requireNoChanges_7 : decode cX6_requireNoChanges 7 = .ok (.new 71, 3) := by decide +kernel
theorem dX6_requireNoChanges_10 : decode cX6_requireNoChanges 10 = .ok (.dup, 1) := by decide +kernel
theorem dX6_requireNoChanges_11 : decode cX6_requireNoChanges 11 = .ok (.ldc 237, 2) := by decide +kernel
theorem dX6_requireNoChanges_13 : decode cX6_requireNoChanges 13 = .ok (.invokespecial 75, 3) := by decide +kernel
theorem dX6_requireNoChanges_16 : decode cX6_requireNoChanges 16 = .ok (.athrow, 1) := by decide +kernel
theorem dX6_requireNoChanges_17 : decode cX6_requireNoChanges 17 = .ok (.return_, 1) := by decide +kernel
theorem dX6_headOf_0 : decode cX6_headOf 0 = .ok (.iload_n 1, 1) := by decide +kernel
theorem dX6_headOf_1 : decode cX6_headOf 1 = .ok (.invokestatic 102, 3) := by decide +kernel
theorem dX6_headOf_4 : decode cX6_headOf 4 = .ok (.ifCond .eq 12, 3) := by decide +kernel
theorem dX6_headOf_7 : decode cX6_headOf 7 = .ok (.aload_n 0, 1) := by decide +kernel
theorem dX6_headOf_8 : decode cX6_headOf 8 = .ok (.getfield 37, 3) := by decide +kernel
theorem dX6_headOf_11 : decode cX6_headOf 11 = .ok (.iload_n 1, 1) := by decide +kernel
theorem dX6_headOf_12 : decode cX6_headOf 12 = .ok (.iaload, 1) := by decide +kernel
theorem dX6_headOf_13 : decode cX6_headOf 13 = .ok (.goto 4, 3) := by decide +kernel
theorem dX6_headOf_16 : decode cX6_headOf 16 = .ok (.iconst (-1), 1) := by decide +kernel
theorem dX6_headOf_17 : decode cX6_headOf 17 = .ok (.ireturn, 1) := by decide +kernel
theorem dX6_takeAsHead_0 : decode cX6_takeAsHead 0 = .ok (.aload_n 0, 1) := by decide +kernel
theorem dX6_takeAsHead_1 : decode cX6_takeAsHead 1 = .ok (.getfield 44, 3) := by decide +kernel
theorem dX6_takeAsHead_4 : decode cX6_takeAsHead 4 = .ok (.invokestatic 102, 3) := by decide +kernel
theorem dX6_takeAsHead_7 : decode cX6_takeAsHead 7 = .ok (.ifCond .eq 13, 3) := by decide +kernel
theorem dX6_takeAsHead_10 : decode cX6_takeAsHead 10 = .ok (.aload_n 0, 1) := by decide +kernel
theorem dX6_takeAsHead_11 : decode cX6_takeAsHead 11 = .ok (.getfield 37, 3) := by decide +kernel
theorem dX6_takeAsHead_14 : decode cX6_takeAsHead 14 = .ok (.aload_n 0, 1) := by decide +kernel
theorem dX6_takeAsHead_15 : decode cX6_takeAsHead 15 = .ok (.getfield 44, 3) := by decide +kernel
theorem dX6_takeAsHead_18 : decode cX6_takeAsHead 18 = .ok (.iload_n 1, 1) := by decide +kernel
theorem dX6_takeAsHead_19 : decode cX6_takeAsHead 19 = .ok (.iastore, 1) := by decide +kernel
theorem dX6_takeAsHead_20 : decode cX6_takeAsHead 20 = .ok (.aload_n 0, 1) := by decide +kernel
theorem dX6_takeAsHead_21 : decode cX6_takeAsHead 21 = .ok (.getfield 33, 3) := by decide +kernel
theorem dX6_takeAsHead_24 : decode cX6_takeAsHead 24 = .ok (.aload_n 0, 1) := by decide +kernel
theorem dX6_takeAsHead_25 : decode cX6_takeAsHead 25 = .ok (.getfield 10, 3) := by decide +kernel
theorem dX6_takeAsHead_28 : decode cX6_takeAsHead 28 = .ok (.iload_n 1, 1) := by decide +kernel
theorem dX6_takeAsHead_29 : decode cX6_takeAsHead 29 = .ok (.invokevirtual 79, 3) := by decide +kernel
theorem dX6_takeAsHead_32 : decode cX6_takeAsHead 32 = .ok (.invokevirtual 119, 3) := by decide +kernel
theorem dX6_takeAsHead_35 : decode cX6_takeAsHead 35 = .ok (.aload_n 0, 1) := by decide +kernel
theorem dX6_takeAsHead_36 : decode cX6_takeAsHead 36 = .ok (.getfield 26, 3) := by decide +kernel
theorem dX6_takeAsHead_39 : decode cX6_takeAsHead 39 = .ok (.aload_n 0, 1) := by decide +kernel
theorem dX6_takeAsHead_40 : decode cX6_takeAsHead 40 = .ok (.getfield 10, 3) := by decide +kernel
theorem dX6_takeAsHead_43 : decode cX6_takeAsHead 43 = .ok (.invokevirtual 239, 3) := by decide +kernel
theorem dX6_takeAsHead_46 : decode cX6_takeAsHead 46 = .ok (.return_, 1) := by decide +kernel
theorem dX6_recordMerge_0 : decode cX6_recordMerge 0 = .ok (.aload_n 0, 1) := by decide +kernel
theorem dX6_recordMerge_1 : decode cX6_recordMerge 1 = .ok (.getfield 19, 3) := by decide +kernel
theorem dX6_recordMerge_4 : decode cX6_recordMerge 4 = .ok (.aload_n 0, 1) := by decide +kernel
theorem dX6_recordMerge_5 : decode cX6_recordMerge 5 = .ok (.getfield 10, 3) := by decide +kernel
theorem dX6_recordMerge_8 : decode cX6_recordMerge 8 = .ok (.aload_n 0, 1) := by decide +kernel
theorem dX6_recordMerge_9 : decode cX6_recordMerge 9 = .ok (.getfield 10, 3) := by decide +kernel
theorem dX6_recordMerge_12 : decode cX6_recordMerge 12 = .ok (.iload_n 1, 1) := by decide +kernel
theorem dX6_recordMerge_13 : decode cX6_recordMerge 13 = .ok (.iload_n 2, 1) := by decide +kernel
theorem dX6_recordMerge_14 : decode cX6_recordMerge 14 = .ok (.invokevirtual 174, 3) := by decide +kernel
theorem dX6_recordMerge_17 : decode cX6_recordMerge 17 = .ok (.iload_n 1, 1) := by decide +kernel
theorem dX6_recordMerge_18 : decode cX6_recordMerge 18 = .ok (.iload_n 2, 1) := by decide +kernel
theorem dX6_recordMerge_19 : decode cX6_recordMerge 19 = .ok (.invokevirtual 189, 3) := by decide +kernel
theorem dX6_recordMerge_22 : decode cX6_recordMerge 22 = .ok (.ifCond .le 5, 3) := by decide +kernel
theorem dX6_recordMerge_25 : decode cX6_recordMerge 25 = .ok (.iconst (-1), 1) := by decide +kernel
theorem dX6_recordMerge_26 : decode cX6_recordMerge 26 = .ok (.ireturn, 1) := by decide +kernel
theorem dX6_recordMerge_27 : decode cX6_recordMerge 27 = .ok (.aload_n 0, 1) := by decide +kernel
theorem dX6_recordMerge_28 : decode cX6_recordMerge 28 = .ok (.getfield 10, 3) := by decide +kernel
theorem dX6_recordMerge_31 : decode cX6_recordMerge 31 = .ok (.aload_n 0, 1) := by decide +kernel
theorem dX6_recordMerge_32 : decode cX6_recordMerge 32 = .ok (.getfield 19, 3) := by decide +kernel
theorem dX6_recordMerge_35 : decode cX6_recordMerge 35 = .ok (.invokevirtual 243, 3) := by decide +kernel
theorem dX6_recordMerge_38 : decode cX6_recordMerge 38 = .ok (.iload_n 1, 1) := by decide +kernel
theorem dX6_recordMerge_39 : decode cX6_recordMerge 39 = .ok (.iload_n 2, 1) := by decide +kernel
theorem dX6_recordMerge_40 : decode cX6_recordMerge 40 = .ok (.invokevirtual 93, 3) := by decide +kernel
theorem dX6_recordMerge_43 : decode cX6_recordMerge 43 = .ok (.ireturn, 1) := by decide +kernel
theorem dX6_listCommitsNotIn_0 : decode cX6_listCommitsNotIn 0 = .ok (.iconst 0, 1) := by decide +kernel
theorem dX6_listCommitsNotIn_1 : decode cX6_listCommitsNotIn 1 = .ok (.istore_n 3, 1) := by decide +kernel
theorem dX6_listCommitsNotIn_2 : decode cX6_listCommitsNotIn 2 = .ok (.iload_n 2, 1) := by decide +kernel
theorem dX6_listCommitsNotIn_3 : decode cX6_listCommitsNotIn 3 = .ok (.istore 4, 2) := by decide +kernel
theorem dX6_listCommitsNotIn_5 : decode cX6_listCommitsNotIn 5 = .ok (.iload_n 3, 1) := by decide +kernel
theorem dX6_listCommitsNotIn_6 : decode cX6_listCommitsNotIn 6 = .ok (.aload_n 0, 1) := by decide +kernel
theorem dX6_listCommitsNotIn_7 : decode cX6_listCommitsNotIn 7 = .ok (.getfield 41, 3) := by decide +kernel
theorem dX6_listCommitsNotIn_10 : decode cX6_listCommitsNotIn 10 = .ok (.arraylength, 1) := by decide +kernel
theorem dX6_listCommitsNotIn_11 : decode cX6_listCommitsNotIn 11 = .ok (.if_icmp .ge 47, 3) := by decide +kernel
theorem dX6_listCommitsNotIn_14 : decode cX6_listCommitsNotIn 14 = .ok (.iload 4, 2) := by decide +kernel
theorem dX6_listCommitsNotIn_16 : decode cX6_listCommitsNotIn 16 = .ok (.iconst (-1), 1) := by decide +kernel
theorem dX6_listCommitsNotIn_17 : decode cX6_listCommitsNotIn 17 = .ok (.if_icmp .eq 41, 3) := by decide +kernel
theorem dX6_listCommitsNotIn_20 : decode cX6_listCommitsNotIn 20 = .ok (.aload_n 0, 1) := by decide +kernel
theorem dX6_listCommitsNotIn_21 : decode cX6_listCommitsNotIn 21 = .ok (.getfield 10, 3) := by decide +kernel
theorem dX6_listCommitsNotIn_24 : decode cX6_listCommitsNotIn 24 = .ok (.iload_n 1, 1) := by decide +kernel
theorem dX6_listCommitsNotIn_25 : decode cX6_listCommitsNotIn 25 = .ok (.iload 4, 2) := by decide +kernel
theorem dX6_listCommitsNotIn_27 : decode cX6_listCommitsNotIn 27 = .ok (.invokevirtual 126, 3) := by decide +kernel
theorem dX6_listCommitsNotIn_30 : decode cX6_listCommitsNotIn 30 = .ok (.ifCond .ne 28, 3) := by decide +kernel
theorem dX6_listCommitsNotIn_33 : decode cX6_listCommitsNotIn 33 = .ok (.aload_n 0, 1) := by decide +kernel
theorem dX6_listCommitsNotIn_34 : decode cX6_listCommitsNotIn 34 = .ok (.getfield 41, 3) := by decide +kernel
theorem dX6_listCommitsNotIn_37 : decode cX6_listCommitsNotIn 37 = .ok (.iload_n 3, 1) := by decide +kernel
theorem dX6_listCommitsNotIn_38 : decode cX6_listCommitsNotIn 38 = .ok (.iload 4, 2) := by decide +kernel
theorem dX6_listCommitsNotIn_40 : decode cX6_listCommitsNotIn 40 = .ok (.iastore, 1) := by decide +kernel
theorem dX6_listCommitsNotIn_41 : decode cX6_listCommitsNotIn 41 = .ok (.iinc 3 1, 3) := by decide +kernel
theorem dX6_listCommitsNotIn_44 : decode cX6_listCommitsNotIn 44 = .ok (.aload_n 0, 1) := by decide +kernel
theorem dX6_listCommitsNotIn_45 : decode cX6_listCommitsNotIn 45 = .ok (.getfield 10, 3) := by decide +kernel
theorem dX6_listCommitsNotIn_48 : decode cX6_listCommitsNotIn 48 = .ok (.iload 4, 2) := by decide +kernel
theorem dX6_listCommitsNotIn_50 : decode cX6_listCommitsNotIn 50 = .ok (.invokevirtual 157, 3) := by decide +kernel
theorem dX6_listCommitsNotIn_53 : decode cX6_listCommitsNotIn 53 = .ok (.istore 4, 2) := by decide +kernel
theorem dX6_listCommitsNotIn_55 : decode cX6_listCommitsNotIn 55 = .ok (.goto (-50), 3) := by decide +kernel
theorem dX6_listCommitsNotIn_58 : decode cX6_listCommitsNotIn 58 = .ok (.iload_n 3, 1) := by decide +kernel
theorem dX6_listCommitsNotIn_59 : decode cX6_listCommitsNotIn 59 = .ok (.ireturn, 1) := by decide +kernel
theorem dX6_applyListed_0 : decode cX6_applyListed 0 = .ok (.iload_n 2, 1) := by decide +kernel
theorem dX6_applyListed_1 : decode cX6_applyListed 1 = .ok (.istore_n 3, 1) := by decide +kernel
theorem dX6_applyListed_2 : decode cX6_applyListed 2 = .ok (.iload_n 1, 1) := by decide +kernel
theorem dX6_applyListed_3 : decode cX6_applyListed 3 = .ok (.aload_n 0, 1) := by decide +kernel
theorem dX6_applyListed_4 : decode cX6_applyListed 4 = .ok (.getfield 41, 3) := by decide +kernel
theorem dX6_applyListed_7 : decode cX6_applyListed 7 = .ok (.arraylength, 1) := by decide +kernel
theorem dX6_applyListed_8 : decode cX6_applyListed 8 = .ok (.invokestatic 247, 3) := by decide +kernel
theorem dX6_applyListed_11 : decode cX6_applyListed 11 = .ok (.iconst 1, 1) := by decide +kernel
theorem dX6_applyListed_12 : decode cX6_applyListed 12 = .ok (.isub, 1) := by decide +kernel
theorem dX6_applyListed_13 : decode cX6_applyListed 13 = .ok (.istore 4, 2) := by decide +kernel
theorem dX6_applyListed_15 : decode cX6_applyListed 15 = .ok (.iload 4, 2) := by decide +kernel
theorem dX6_applyListed_17 : decode cX6_applyListed 17 = .ok (.ifCond .lt 89, 3) := by decide +kernel
theorem dX6_applyListed_20 : decode cX6_applyListed 20 = .ok (.iload_n 3, 1) := by decide +kernel
theorem dX6_applyListed_21 : decode cX6_applyListed 21 = .ok (.iconst (-1), 1) := by decide +kernel
theorem dX6_applyListed_22 : decode cX6_applyListed 22 = .ok (.if_icmp .eq 84, 3) := by decide +kernel
theorem dX6_applyListed_25 : decode cX6_applyListed 25 = .ok (.aload_n 0, 1) := by decide +kernel
theorem dX6_applyListed_26 : decode cX6_applyListed 26 = .ok (.getfield 41, 3) := by decide +kernel
theorem dX6_applyListed_29 : decode cX6_applyListed 29 = .ok (.iload 4, 2) := by decide +kernel
theorem dX6_applyListed_31 : decode cX6_applyListed 31 = .ok (.iaload, 1) := by decide +kernel
theorem dX6_applyListed_32 : decode cX6_applyListed 32 = .ok (.istore 5, 2) := by decide +kernel
theorem dX6_applyListed_34 : decode cX6_applyListed 34 = .ok (.aload_n 0, 1) := by decide +kernel
theorem dX6_applyListed_35 : decode cX6_applyListed 35 = .ok (.getfield 19, 3) := by decide +kernel
theorem dX6_applyListed_38 : decode cX6_applyListed 38 = .ok (.aload_n 0, 1) := by decide +kernel
theorem dX6_applyListed_39 : decode cX6_applyListed 39 = .ok (.getfield 10, 3) := by decide +kernel
theorem dX6_applyListed_42 : decode cX6_applyListed 42 = .ok (.aload_n 0, 1) := by decide +kernel
theorem dX6_applyListed_43 : decode cX6_applyListed 43 = .ok (.getfield 10, 3) := by decide +kernel
theorem dX6_applyListed_46 : decode cX6_applyListed 46 = .ok (.iload 5, 2) := by decide +kernel
theorem dX6_applyListed_48 : decode cX6_applyListed 48 = .ok (.invokevirtual 157, 3) := by decide +kernel
theorem dX6_applyListed_51 : decode cX6_applyListed 51 = .ok (.iload_n 3, 1) := by decide +kernel
theorem dX6_applyListed_52 : decode cX6_applyListed 52 = .ok (.iload 5, 2) := by decide +kernel
theorem dX6_applyListed_54 : decode cX6_applyListed 54 = .ok (.invokevirtual 189, 3) := by decide +kernel
theorem dX6_applyListed_57 : decode cX6_applyListed 57 = .ok (.ifCond .le 5, 3) := by decide +kernel
theorem dX6_applyListed_60 : decode cX6_applyListed 60 = .ok (.iconst (-1), 1) := by decide +kernel
theorem dX6_applyListed_61 : decode cX6_applyListed 61 = .ok (.ireturn, 1) := by decide +kernel
theorem dX6_applyListed_62 : decode cX6_applyListed 62 = .ok (.aload_n 0, 1) := by decide +kernel
theorem dX6_applyListed_63 : decode cX6_applyListed 63 = .ok (.getfield 19, 3) := by decide +kernel
theorem dX6_applyListed_66 : decode cX6_applyListed 66 = .ok (.invokevirtual 243, 3) := by decide +kernel
theorem dX6_applyListed_69 : decode cX6_applyListed 69 = .ok (.aload_n 0, 1) := by decide +kernel
theorem dX6_applyListed_70 : decode cX6_applyListed 70 = .ok (.getfield 10, 3) := by decide +kernel
theorem dX6_applyListed_73 : decode cX6_applyListed 73 = .ok (.iload_n 3, 1) := by decide +kernel
theorem dX6_applyListed_74 : decode cX6_applyListed 74 = .ok (.invokevirtual 79, 3) := by decide +kernel
theorem dX6_applyListed_77 : decode cX6_applyListed 77 = .ok (.invokevirtual 83, 3) := by decide +kernel
theorem dX6_applyListed_80 : decode cX6_applyListed 80 = .ok (.ifCond .le 20, 3) := by decide +kernel
theorem dX6_applyListed_83 : decode cX6_applyListed 83 = .ok (.aload_n 0, 1) := by decide +kernel
theorem dX6_applyListed_84 : decode cX6_applyListed 84 = .ok (.getfield 10, 3) := by decide +kernel
theorem dX6_applyListed_87 : decode cX6_applyListed 87 = .ok (.aload_n 0, 1) := by decide +kernel
theorem dX6_applyListed_88 : decode cX6_applyListed 88 = .ok (.getfield 19, 3) := by decide +kernel
theorem dX6_applyListed_91 : decode cX6_applyListed 91 = .ok (.invokevirtual 243, 3) := by decide +kernel
theorem dX6_applyListed_94 : decode cX6_applyListed 94 = .ok (.iload_n 3, 1) := by decide +kernel
theorem dX6_applyListed_95 : decode cX6_applyListed 95 = .ok (.iconst (-1), 1) := by decide +kernel
theorem dX6_applyListed_96 : decode cX6_applyListed 96 = .ok (.invokevirtual 93, 3) := by decide +kernel
theorem dX6_applyListed_99 : decode cX6_applyListed 99 = .ok (.istore_n 3, 1) := by decide +kernel
theorem dX6_applyListed_100 : decode cX6_applyListed 100 = .ok (.iinc 4 (-1), 3) := by decide +kernel
theorem dX6_applyListed_103 : decode cX6_applyListed 103 = .ok (.goto (-88), 3) := by decide +kernel
theorem dX6_applyListed_106 : decode cX6_applyListed 106 = .ok (.iload_n 3, 1) := by decide +kernel
theorem dX6_applyListed_107 : decode cX6_applyListed 107 = .ok (.ireturn, 1) := by decide +kernel
theorem dJx00060_init_a7421_0 : decode cJx00060_init_a7421 0 = .ok (.aload_n 0, 1) := by decide +kernel
theorem dJx00060_init_a7421_1 : decode cJx00060_init_a7421 1 = .ok (.aload_n 1, 1) := by decide +kernel
theorem dJx00060_init_a7421_2 : decode cJx00060_init_a7421 2 = .ok (.invokespecial 7, 3) := by decide +kernel
theorem dJx00060_init_a7421_5 : decode cJx00060_init_a7421 5 = .ok (.return_, 1) := by decide +kernel
theorem dJ13_bitCount_95d88_0 : decode cJ13_bitCount_95d88 0 = .ok (.lload_n 0, 1) := by decide +kernel
theorem dJ13_bitCount_95d88_1 : decode cJ13_bitCount_95d88 1 = .ok (.lload_n 0, 1) := by decide +kernel
theorem dJ13_bitCount_95d88_2 : decode cJ13_bitCount_95d88 2 = .ok (.iconst 1, 1) := by decide +kernel
theorem dJ13_bitCount_95d88_3 : decode cJ13_bitCount_95d88 3 = .ok (.lushr, 1) := by decide +kernel
theorem dJ13_bitCount_95d88_4 : decode cJ13_bitCount_95d88 4 = .ok (.ldc2_w 314, 3) := by decide +kernel
theorem dJ13_bitCount_95d88_7 : decode cJ13_bitCount_95d88 7 = .ok (.land, 1) := by decide +kernel
theorem dJ13_bitCount_95d88_8 : decode cJ13_bitCount_95d88 8 = .ok (.lsub, 1) := by decide +kernel
theorem dJ13_bitCount_95d88_9 : decode cJ13_bitCount_95d88 9 = .ok (.lstore_n 0, 1) := by decide +kernel
theorem dJ13_bitCount_95d88_10 : decode cJ13_bitCount_95d88 10 = .ok (.lload_n 0, 1) := by decide +kernel
theorem dJ13_bitCount_95d88_11 : decode cJ13_bitCount_95d88 11 = .ok (.ldc2_w 316, 3) := by decide +kernel
theorem dJ13_bitCount_95d88_14 : decode cJ13_bitCount_95d88 14 = .ok (.land, 1) := by decide +kernel
theorem dJ13_bitCount_95d88_15 : decode cJ13_bitCount_95d88 15 = .ok (.lload_n 0, 1) := by decide +kernel
theorem dJ13_bitCount_95d88_16 : decode cJ13_bitCount_95d88 16 = .ok (.iconst 2, 1) := by decide +kernel
theorem dJ13_bitCount_95d88_17 : decode cJ13_bitCount_95d88 17 = .ok (.lushr, 1) := by decide +kernel
theorem dJ13_bitCount_95d88_18 : decode cJ13_bitCount_95d88 18 = .ok (.ldc2_w 316, 3) := by decide +kernel
theorem dJ13_bitCount_95d88_21 : decode cJ13_bitCount_95d88 21 = .ok (.land, 1) := by decide +kernel
theorem dJ13_bitCount_95d88_22 : decode cJ13_bitCount_95d88 22 = .ok (.ladd, 1) := by decide +kernel
theorem dJ13_bitCount_95d88_23 : decode cJ13_bitCount_95d88 23 = .ok (.lstore_n 0, 1) := by decide +kernel
theorem dJ13_bitCount_95d88_24 : decode cJ13_bitCount_95d88 24 = .ok (.lload_n 0, 1) := by decide +kernel
theorem dJ13_bitCount_95d88_25 : decode cJ13_bitCount_95d88 25 = .ok (.lload_n 0, 1) := by decide +kernel
theorem dJ13_bitCount_95d88_26 : decode cJ13_bitCount_95d88 26 = .ok (.iconst 4, 1) := by decide +kernel
theorem dJ13_bitCount_95d88_27 : decode cJ13_bitCount_95d88 27 = .ok (.lushr, 1) := by decide +kernel
theorem dJ13_bitCount_95d88_28 : decode cJ13_bitCount_95d88 28 = .ok (.ladd, 1) := by decide +kernel
theorem dJ13_bitCount_95d88_29 : decode cJ13_bitCount_95d88 29 = .ok (.ldc2_w 318, 3) := by decide +kernel
theorem dJ13_bitCount_95d88_32 : decode cJ13_bitCount_95d88 32 = .ok (.land, 1) := by decide +kernel
theorem dJ13_bitCount_95d88_33 : decode cJ13_bitCount_95d88 33 = .ok (.lstore_n 0, 1) := by decide +kernel
theorem dJ13_bitCount_95d88_34 : decode cJ13_bitCount_95d88 34 = .ok (.lload_n 0, 1) := by decide +kernel
theorem dJ13_bitCount_95d88_35 : decode cJ13_bitCount_95d88 35 = .ok (.lload_n 0, 1) := by decide +kernel
theorem dJ13_bitCount_95d88_36 : decode cJ13_bitCount_95d88 36 = .ok (.bipush 8, 2) := by decide +kernel
theorem dJ13_bitCount_95d88_38 : decode cJ13_bitCount_95d88 38 = .ok (.lushr, 1) := by decide +kernel
theorem dJ13_bitCount_95d88_39 : decode cJ13_bitCount_95d88 39 = .ok (.ladd, 1) := by decide +kernel
theorem dJ13_bitCount_95d88_40 : decode cJ13_bitCount_95d88 40 = .ok (.lstore_n 0, 1) := by decide +kernel
theorem dJ13_bitCount_95d88_41 : decode cJ13_bitCount_95d88 41 = .ok (.lload_n 0, 1) := by decide +kernel
theorem dJ13_bitCount_95d88_42 : decode cJ13_bitCount_95d88 42 = .ok (.lload_n 0, 1) := by decide +kernel
theorem dJ13_bitCount_95d88_43 : decode cJ13_bitCount_95d88 43 = .ok (.bipush 16, 2) := by decide +kernel
theorem dJ13_bitCount_95d88_45 : decode cJ13_bitCount_95d88 45 = .ok (.lushr, 1) := by decide +kernel
theorem dJ13_bitCount_95d88_46 : decode cJ13_bitCount_95d88 46 = .ok (.ladd, 1) := by decide +kernel
theorem dJ13_bitCount_95d88_47 : decode cJ13_bitCount_95d88 47 = .ok (.lstore_n 0, 1) := by decide +kernel
theorem dJ13_bitCount_95d88_48 : decode cJ13_bitCount_95d88 48 = .ok (.lload_n 0, 1) := by decide +kernel
theorem dJ13_bitCount_95d88_49 : decode cJ13_bitCount_95d88 49 = .ok (.lload_n 0, 1) := by decide +kernel
theorem dJ13_bitCount_95d88_50 : decode cJ13_bitCount_95d88 50 = .ok (.bipush 32, 2) := by decide +kernel
theorem dJ13_bitCount_95d88_52 : decode cJ13_bitCount_95d88 52 = .ok (.lushr, 1) := by decide +kernel
theorem dJ13_bitCount_95d88_53 : decode cJ13_bitCount_95d88 53 = .ok (.ladd, 1) := by decide +kernel
theorem dJ13_bitCount_95d88_54 : decode cJ13_bitCount_95d88 54 = .ok (.lstore_n 0, 1) := by decide +kernel
theorem dJ13_bitCount_95d88_55 : decode cJ13_bitCount_95d88 55 = .ok (.lload_n 0, 1) := by decide +kernel
theorem dJ13_bitCount_95d88_56 : decode cJ13_bitCount_95d88 56 = .ok (.l2i, 1) := by decide +kernel
theorem dJ13_bitCount_95d88_57 : decode cJ13_bitCount_95d88 57 = .ok (.bipush 127, 2) := by decide +kernel
theorem dJ13_bitCount_95d88_59 : decode cJ13_bitCount_95d88 59 = .ok (.iand, 1) := by decide +kernel
theorem dJ13_bitCount_95d88_60 : decode cJ13_bitCount_95d88 60 = .ok (.ireturn, 1) := by decide +kernel
theorem dJ9_max_7cf53_0 : decode cJ9_max_7cf53 0 = .ok (.iload_n 0, 1) := by decide +kernel
theorem dJ9_max_7cf53_1 : decode cJ9_max_7cf53 1 = .ok (.iload_n 1, 1) := by decide +kernel
theorem dJ9_max_7cf53_2 : decode cJ9_max_7cf53 2 = .ok (.if_icmp .lt 7, 3) := by decide +kernel
theorem dJ9_max_7cf53_5 : decode cJ9_max_7cf53 5 = .ok (.iload_n 0, 1) := by decide +kernel
theorem dJ9_max_7cf53_6 : decode cJ9_max_7cf53 6 = .ok (.goto 4, 3) := by decide +kernel
theorem dJ9_max_7cf53_9 : decode cJ9_max_7cf53 9 = .ok (.iload_n 1, 1) := by decide +kernel
theorem dJ9_max_7cf53_10 : decode cJ9_max_7cf53 10 = .ok (.ireturn, 1) := by decide +kernel
theorem dJ9_min_7cf53_0 : decode cJ9_min_7cf53 0 = .ok (.iload_n 0, 1) := by decide +kernel
theorem dJ9_min_7cf53_1 : decode cJ9_min_7cf53 1 = .ok (.iload_n 1, 1) := by decide +kernel
theorem dJ9_min_7cf53_2 : decode cJ9_min_7cf53 2 = .ok (.if_icmp .gt 7, 3) := by decide +kernel
theorem dJ9_min_7cf53_5 : decode cJ9_min_7cf53 5 = .ok (.iload_n 0, 1) := by decide +kernel
theorem dJ9_min_7cf53_6 : decode cJ9_min_7cf53 6 = .ok (.goto 4, 3) := by decide +kernel
theorem dJ9_min_7cf53_9 : decode cJ9_min_7cf53 9 = .ok (.iload_n 1, 1) := by decide +kernel
theorem dJ9_min_7cf53_10 : decode cJ9_min_7cf53 10 = .ok (.ireturn, 1) := by decide +kernel
