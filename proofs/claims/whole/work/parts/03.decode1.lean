theorem dX6_feed_1 : decode cX6_feed 1 = .ok (.iconst 0, 1) := by decide +kernel
theorem dX6_feed_2 : decode cX6_feed 2 = .ok (.sipush 255, 3) := by decide +kernel
theorem dX6_feed_5 : decode cX6_feed 5 = .ok (.invokestatic 74, 3) := by decide +kernel
theorem dX6_feed_8 : decode cX6_feed 8 = .ok (.ifCond .ne 6, 3) := by decide +kernel
theorem dX6_feed_11 : decode cX6_feed 11 = .ok (.ldc 78, 2) := by decide +kernel
theorem dX6_feed_13 : decode cX6_feed 13 = .ok (.ireturn, 1) := by decide +kernel
theorem dX6_feed_14 : decode cX6_feed 14 = .ok (.aload_n 0, 1) := by decide +kernel
theorem dX6_feed_15 : decode cX6_feed 15 = .ok (.getfield 19, 3) := by decide +kernel
theorem dX6_feed_18 : decode cX6_feed 18 = .ok (.iload_n 1, 1) := by decide +kernel
theorem dX6_feed_19 : decode cX6_feed 19 = .ok (.invokevirtual 112, 3) := by decide +kernel
theorem dX6_feed_22 : decode cX6_feed 22 = .ok (.ifCond .eq 13, 3) := by decide +kernel
theorem dX6_feed_25 : decode cX6_feed 25 = .ok (.aload_n 0, 1) := by decide +kernel
theorem dX6_feed_26 : decode cX6_feed 26 = .ok (.getfield 19, 3) := by decide +kernel
theorem dX6_feed_29 : decode cX6_feed 29 = .ok (.getfield 115, 3) := by decide +kernel
theorem dX6_feed_32 : decode cX6_feed 32 = .ok (.goto 5, 3) := by decide +kernel
theorem dX6_feed_35 : decode cX6_feed 35 = .ok (.ldc 118, 2) := by decide +kernel
theorem dX6_feed_37 : decode cX6_feed 37 = .ok (.ireturn, 1) := by decide +kernel
theorem dX6_town_0 : decode cX6_town 0 = .ok (.aload_n 0, 1) := by decide +kernel
theorem dX6_town_1 : decode cX6_town 1 = .ok (.getfield 19, 3) := by decide +kernel
theorem dX6_town_4 : decode cX6_town 4 = .ok (.invokevirtual 119, 3) := by decide +kernel
theorem dX6_town_7 : decode cX6_town 7 = .ok (.istore_n 1, 1) := by decide +kernel
theorem dX6_town_8 : decode cX6_town 8 = .ok (.iload_n 1, 1) := by decide +kernel
theorem dX6_town_9 : decode cX6_town 9 = .ok (.ifCond .eq 19, 3) := by decide +kernel
theorem dX6_town_12 : decode cX6_town 12 = .ok (.aload_n 0, 1) := by decide +kernel
theorem dX6_town_13 : decode cX6_town 13 = .ok (.iload_n 1, 1) := by decide +kernel
theorem dX6_town_14 : decode cX6_town 14 = .ok (.putfield 123, 3) := by decide +kernel
theorem dX6_town_17 : decode cX6_town 17 = .ok (.ldc 126, 2) := by decide +kernel
theorem dX6_town_19 : decode cX6_town 19 = .ok (.aload_n 0, 1) := by decide +kernel
theorem dX6_town_20 : decode cX6_town 20 = .ok (.getfield 19, 3) := by decide +kernel
theorem dX6_town_23 : decode cX6_town 23 = .ok (.getfield 127, 3) := by decide +kernel
theorem dX6_town_26 : decode cX6_town 26 = .ok (.isub, 1) := by decide +kernel
theorem dX6_town_27 : decode cX6_town 27 = .ok (.ireturn, 1) := by decide +kernel
theorem dX6_town_28 : decode cX6_town 28 = .ok (.aload_n 0, 1) := by decide +kernel
theorem dX6_town_29 : decode cX6_town 29 = .ok (.getfield 19, 3) := by decide +kernel
theorem dX6_town_32 : decode cX6_town 32 = .ok (.getfield 130, 3) := by decide +kernel
theorem dX6_town_35 : decode cX6_town 35 = .ok (.aload_n 0, 1) := by decide +kernel
theorem dX6_town_36 : decode cX6_town 36 = .ok (.getfield 33, 3) := by decide +kernel
theorem dX6_town_39 : decode cX6_town 39 = .ok (.invokevirtual 133, 3) := by decide +kernel
theorem dX6_town_42 : decode cX6_town 42 = .ok (.aload_n 0, 1) := by decide +kernel
theorem dX6_town_43 : decode cX6_town 43 = .ok (.getfield 26, 3) := by decide +kernel
theorem dX6_town_46 : decode cX6_town 46 = .ok (.aload_n 0, 1) := by decide +kernel
theorem dX6_town_47 : decode cX6_town 47 = .ok (.getfield 33, 3) := by decide +kernel
theorem dX6_town_50 : decode cX6_town 50 = .ok (.invokevirtual 137, 3) := by decide +kernel
theorem dX6_town_53 : decode cX6_town 53 = .ok (.aload_n 0, 1) := by decide +kernel
theorem dX6_town_54 : decode cX6_town 54 = .ok (.getfield 43, 3) := by decide +kernel
theorem dX6_town_57 : decode cX6_town 57 = .ok (.invokevirtual 140, 3) := by decide +kernel
theorem dX6_town_60 : decode cX6_town 60 = .ok (.aload_n 0, 1) := by decide +kernel
theorem dX6_town_61 : decode cX6_town 61 = .ok (.getfield 26, 3) := by decide +kernel
theorem dX6_town_64 : decode cX6_town 64 = .ok (.getfield 143, 3) := by decide +kernel
theorem dX6_town_67 : decode cX6_town 67 = .ok (.ireturn, 1) := by decide +kernel
theorem dX6_fault_0 : decode cX6_fault 0 = .ok (.aload_n 0, 1) := by decide +kernel
theorem dX6_fault_1 : decode cX6_fault 1 = .ok (.getfield 123, 3) := by decide +kernel
theorem dX6_fault_4 : decode cX6_fault 4 = .ok (.ireturn, 1) := by decide +kernel
theorem dX6_undo_0 : decode cX6_undo 0 = .ok (.aload_n 0, 1) := by decide +kernel
theorem dX6_undo_1 : decode cX6_undo 1 = .ok (.getfield 43, 3) := by decide +kernel
theorem dX6_undo_4 : decode cX6_undo 4 = .ok (.aload_n 0, 1) := by decide +kernel
theorem dX6_undo_5 : decode cX6_undo 5 = .ok (.getfield 26, 3) := by decide +kernel
theorem dX6_undo_8 : decode cX6_undo 8 = .ok (.invokevirtual 146, 3) := by decide +kernel
theorem dX6_undo_11 : decode cX6_undo 11 = .ok (.ifCond .eq 13, 3) := by decide +kernel
theorem dX6_undo_14 : decode cX6_undo 14 = .ok (.aload_n 0, 1) := by decide +kernel
theorem dX6_undo_15 : decode cX6_undo 15 = .ok (.getfield 43, 3) := by decide +kernel
theorem dX6_undo_18 : decode cX6_undo 18 = .ok (.getfield 150, 3) := by decide +kernel
theorem dX6_undo_21 : decode cX6_undo 21 = .ok (.goto 5, 3) := by decide +kernel
theorem dX6_undo_24 : decode cX6_undo 24 = .ok (.ldc 153, 2) := by decide +kernel
theorem dX6_undo_26 : decode cX6_undo 26 = .ok (.ireturn, 1) := by decide +kernel
theorem dX6_days_0 : decode cX6_days 0 = .ok (.aload_n 0, 1) := by decide +kernel
theorem dX6_days_1 : decode cX6_days 1 = .ok (.invokevirtual 154, 3) := by decide +kernel
theorem dX6_days_4 : decode cX6_days 4 = .ok (.ifCond .eq 6, 3) := by decide +kernel
theorem dX6_days_7 : decode cX6_days 7 = .ok (.ldc 153, 2) := by decide +kernel
theorem dX6_days_9 : decode cX6_days 9 = .ok (.ireturn, 1) := by decide +kernel
theorem dX6_days_10 : decode cX6_days 10 = .ok (.iload_n 1, 1) := by decide +kernel
theorem dX6_days_11 : decode cX6_days 11 = .ok (.iconst 1, 1) := by decide +kernel
theorem dX6_days_12 : decode cX6_days 12 = .ok (.bipush 24, 2) := by decide +kernel
theorem dX6_days_14 : decode cX6_days 14 = .ok (.invokestatic 74, 3) := by decide +kernel
theorem dX6_days_17 : decode cX6_days 17 = .ok (.ifCond .ne 6, 3) := by decide +kernel
theorem dX6_days_20 : decode cX6_days 20 = .ok (.ldc 78, 2) := by decide +kernel
theorem dX6_days_22 : decode cX6_days 22 = .ok (.ireturn, 1) := by decide +kernel
theorem dX6_days_23 : decode cX6_days 23 = .ok (.aload_n 0, 1) := by decide +kernel
theorem dX6_days_24 : decode cX6_days 24 = .ok (.getfield 26, 3) := by decide +kernel
theorem dX6_days_27 : decode cX6_days 27 = .ok (.getfield 158, 3) := by decide +kernel
theorem dX6_days_30 : decode cX6_days 30 = .ok (.iload_n 1, 1) := by decide +kernel
theorem dX6_days_31 : decode cX6_days 31 = .ok (.iadd, 1) := by decide +kernel
theorem dX6_days_32 : decode cX6_days 32 = .ok (.sipush 999, 3) := by decide +kernel
theorem dX6_days_35 : decode cX6_days 35 = .ok (.if_icmp .le 6, 3) := by decide +kernel
theorem dX6_days_38 : decode cX6_days 38 = .ok (.ldc 118, 2) := by decide +kernel
theorem dX6_days_40 : decode cX6_days 40 = .ok (.ireturn, 1) := by decide +kernel
theorem dX6_days_41 : decode cX6_days 41 = .ok (.iconst 0, 1) := by decide +kernel
theorem dX6_days_42 : decode cX6_days 42 = .ok (.istore_n 2, 1) := by decide +kernel
theorem dX6_days_43 : decode cX6_days 43 = .ok (.iload_n 2, 1) := by decide +kernel
theorem dX6_days_44 : decode cX6_days 44 = .ok (.iload_n 1, 1) := by decide +kernel
theorem dX6_days_45 : decode cX6_days 45 = .ok (.if_icmp .ge 27, 3) := by decide +kernel
theorem dX6_days_48 : decode cX6_days 48 = .ok (.aload_n 0, 1) := by decide +kernel
theorem dX6_days_49 : decode cX6_days 49 = .ok (.getfield 43, 3) := by decide +kernel
theorem dX6_days_52 : decode cX6_days 52 = .ok (.aload_n 0, 1) := by decide +kernel
theorem dX6_days_53 : decode cX6_days 53 = .ok (.getfield 26, 3) := by decide +kernel
theorem dX6_days_56 : decode cX6_days 56 = .ok (.invokevirtual 161, 3) := by decide +kernel
theorem dX6_days_59 : decode cX6_days 59 = .ok (.aload_n 0, 1) := by decide +kernel
theorem dX6_days_60 : decode cX6_days 60 = .ok (.getfield 26, 3) := by decide +kernel
theorem dX6_days_63 : decode cX6_days 63 = .ok (.invokevirtual 165, 3) := by decide +kernel
theorem dX6_days_66 : decode cX6_days 66 = .ok (.iinc 2 1, 3) := by decide +kernel
theorem dX6_days_69 : decode cX6_days 69 = .ok (.goto (-26), 3) := by decide +kernel
theorem dX6_days_72 : decode cX6_days 72 = .ok (.aload_n 0, 1) := by decide +kernel
theorem dX6_days_73 : decode cX6_days 73 = .ok (.getfield 26, 3) := by decide +kernel
theorem dX6_days_76 : decode cX6_days 76 = .ok (.getfield 158, 3) := by decide +kernel
theorem dX6_days_79 : decode cX6_days 79 = .ok (.ireturn, 1) := by decide +kernel
theorem dX6_sick_0 : decode cX6_sick 0 = .ok (.aload_n 0, 1) := by decide +kernel
theorem dX6_sick_1 : decode cX6_sick 1 = .ok (.getfield 26, 3) := by decide +kernel
theorem dX6_sick_4 : decode cX6_sick 4 = .ok (.iload_n 1, 1) := by decide +kernel
theorem dX6_sick_5 : decode cX6_sick 5 = .ok (.invokevirtual 168, 3) := by decide +kernel
theorem dX6_sick_8 : decode cX6_sick 8 = .ok (.ifCond .eq 13, 3) := by decide +kernel
theorem dX6_sick_11 : decode cX6_sick 11 = .ok (.iload_n 2, 1) := by decide +kernel
theorem dX6_sick_12 : decode cX6_sick 12 = .ok (.iconst 0, 1) := by decide +kernel
theorem dX6_sick_13 : decode cX6_sick 13 = .ok (.bipush 60, 2) := by decide +kernel
theorem dX6_sick_15 : decode cX6_sick 15 = .ok (.invokestatic 74, 3) := by decide +kernel
theorem dX6_sick_18 : decode cX6_sick 18 = .ok (.ifCond .ne 6, 3) := by decide +kernel
theorem dX6_sick_21 : decode cX6_sick 21 = .ok (.ldc 78, 2) := by decide +kernel
theorem dX6_sick_23 : decode cX6_sick 23 = .ok (.ireturn, 1) := by decide +kernel
theorem dX6_sick_24 : decode cX6_sick 24 = .ok (.aload_n 0, 1) := by decide +kernel
theorem dX6_sick_25 : decode cX6_sick 25 = .ok (.getfield 43, 3) := by decide +kernel
theorem dX6_sick_28 : decode cX6_sick 28 = .ok (.aload_n 0, 1) := by decide +kernel
theorem dX6_sick_29 : decode cX6_sick 29 = .ok (.getfield 26, 3) := by decide +kernel
theorem dX6_sick_32 : decode cX6_sick 32 = .ok (.invokevirtual 161, 3) := by decide +kernel
theorem dX6_sick_35 : decode cX6_sick 35 = .ok (.aload_n 0, 1) := by decide +kernel
theorem dX6_sick_36 : decode cX6_sick 36 = .ok (.getfield 26, 3) := by decide +kernel
theorem dX6_sick_39 : decode cX6_sick 39 = .ok (.getfield 171, 3) := by decide +kernel
theorem dX6_sick_42 : decode cX6_sick 42 = .ok (.iload_n 1, 1) := by decide +kernel
theorem dX6_sick_43 : decode cX6_sick 43 = .ok (.iaload, 1) := by decide +kernel
theorem dX6_sick_44 : decode cX6_sick 44 = .ok (.istore_n 3, 1) := by decide +kernel
theorem dX6_sick_45 : decode cX6_sick 45 = .ok (.aload_n 0, 1) := by decide +kernel
theorem dX6_sick_46 : decode cX6_sick 46 = .ok (.getfield 26, 3) := by decide +kernel
theorem dX6_sick_49 : decode cX6_sick 49 = .ok (.getfield 171, 3) := by decide +kernel
theorem dX6_sick_52 : decode cX6_sick 52 = .ok (.iload_n 1, 1) := by decide +kernel
theorem dX6_sick_53 : decode cX6_sick 53 = .ok (.iload_n 2, 1) := by decide +kernel
theorem dX6_sick_54 : decode cX6_sick 54 = .ok (.iastore, 1) := by decide +kernel
theorem dX6_sick_55 : decode cX6_sick 55 = .ok (.iload_n 3, 1) := by decide +kernel
theorem dX6_sick_56 : decode cX6_sick 56 = .ok (.ireturn, 1) := by decide +kernel
theorem dX6_swap_0 : decode cX6_swap 0 = .ok (.aload_n 0, 1) := by decide +kernel
theorem dX6_swap_1 : decode cX6_swap 1 = .ok (.getfield 26, 3) := by decide +kernel
theorem dX6_swap_4 : decode cX6_swap 4 = .ok (.iload_n 1, 1) := by decide +kernel
theorem dX6_swap_5 : decode cX6_swap 5 = .ok (.invokevirtual 168, 3) := by decide +kernel
theorem dX6_swap_8 : decode cX6_swap 8 = .ok (.ifCond .eq 14, 3) := by decide +kernel
theorem dX6_swap_11 : decode cX6_swap 11 = .ok (.aload_n 0, 1) := by decide +kernel
theorem dX6_swap_12 : decode cX6_swap 12 = .ok (.getfield 26, 3) := by decide +kernel
theorem dX6_swap_15 : decode cX6_swap 15 = .ok (.iload_n 2, 1) := by decide +kernel
theorem dX6_swap_16 : decode cX6_swap 16 = .ok (.invokevirtual 174, 3) := by decide +kernel
theorem dX6_swap_19 : decode cX6_swap 19 = .ok (.ifCond .ne 6, 3) := by decide +kernel
theorem dX6_swap_22 : decode cX6_swap 22 = .ok (.ldc 78, 2) := by decide +kernel
theorem dX6_swap_24 : decode cX6_swap 24 = .ok (.ireturn, 1) := by decide +kernel
theorem dX6_swap_25 : decode cX6_swap 25 = .ok (.aload_n 0, 1) := by decide +kernel
theorem dX6_swap_26 : decode cX6_swap 26 = .ok (.getfield 43, 3) := by decide +kernel
theorem dX6_swap_29 : decode cX6_swap 29 = .ok (.aload_n 0, 1) := by decide +kernel
theorem dX6_swap_30 : decode cX6_swap 30 = .ok (.getfield 26, 3) := by decide +kernel
theorem dX6_swap_33 : decode cX6_swap 33 = .ok (.invokevirtual 161, 3) := by decide +kernel
theorem dX6_swap_36 : decode cX6_swap 36 = .ok (.aload_n 0, 1) := by decide +kernel
theorem dX6_swap_37 : decode cX6_swap 37 = .ok (.getfield 26, 3) := by decide +kernel
theorem dX6_swap_40 : decode cX6_swap 40 = .ok (.getfield 177, 3) := by decide +kernel
theorem dX6_swap_43 : decode cX6_swap 43 = .ok (.iload_n 1, 1) := by decide +kernel
theorem dX6_swap_44 : decode cX6_swap 44 = .ok (.iaload, 1) := by decide +kernel
theorem dX6_swap_45 : decode cX6_swap 45 = .ok (.istore_n 3, 1) := by decide +kernel
theorem dX6_swap_46 : decode cX6_swap 46 = .ok (.aload_n 0, 1) := by decide +kernel
theorem dX6_swap_47 : decode cX6_swap 47 = .ok (.getfield 26, 3) := by decide +kernel
theorem dX6_swap_50 : decode cX6_swap 50 = .ok (.getfield 177, 3) := by decide +kernel
theorem dX6_swap_53 : decode cX6_swap 53 = .ok (.iload_n 1, 1) := by decide +kernel
theorem dX6_swap_54 : decode cX6_swap 54 = .ok (.iload_n 2, 1) := by decide +kernel
theorem dX6_swap_55 : decode cX6_swap 55 = .ok (.iastore, 1) := by decide +kernel
theorem dX6_swap_56 : decode cX6_swap 56 = .ok (.iload_n 3, 1) := by decide +kernel
theorem dX6_swap_57 : decode cX6_swap 57 = .ok (.ireturn, 1) := by decide +kernel
theorem dX6_pace_0 : decode cX6_pace 0 = .ok (.aload_n 0, 1) := by decide +kernel
theorem dX6_pace_1 : decode cX6_pace 1 = .ok (.getfield 26, 3) := by decide +kernel
theorem dX6_pace_4 : decode cX6_pace 4 = .ok (.iload_n 1, 1) := by decide +kernel
theorem dX6_pace_5 : decode cX6_pace 5 = .ok (.invokevirtual 168, 3) := by decide +kernel
theorem dX6_pace_8 : decode cX6_pace 8 = .ok (.ifCond .eq 12, 3) := by decide +kernel
theorem dX6_pace_11 : decode cX6_pace 11 = .ok (.iload_n 2, 1) := by decide +kernel
theorem dX6_pace_12 : decode cX6_pace 12 = .ok (.iconst 0, 1) := by decide +kernel
theorem dX6_pace_13 : decode cX6_pace 13 = .ok (.iconst 4, 1) := by decide +kernel
theorem dX6_pace_14 : decode cX6_pace 14 = .ok (.invokestatic 74, 3) := by decide +kernel
theorem dX6_pace_17 : decode cX6_pace 17 = .ok (.ifCond .ne 6, 3) := by decide +kernel
theorem dX6_pace_20 : decode cX6_pace 20 = .ok (.ldc 78, 2) := by decide +kernel
theorem dX6_pace_22 : decode cX6_pace 22 = .ok (.ireturn, 1) := by decide +kernel
theorem dX6_pace_23 : decode cX6_pace 23 = .ok (.aload_n 0, 1) := by decide +kernel
theorem dX6_pace_24 : decode cX6_pace 24 = .ok (.getfield 43, 3) := by decide +kernel
theorem dX6_pace_27 : decode cX6_pace 27 = .ok (.aload_n 0, 1) := by decide +kernel
theorem dX6_pace_28 : decode cX6_pace 28 = .ok (.getfield 26, 3) := by decide +kernel
theorem dX6_pace_31 : decode cX6_pace 31 = .ok (.invokevirtual 161, 3) := by decide +kernel
theorem dX6_pace_34 : decode cX6_pace 34 = .ok (.aload_n 0, 1) := by decide +kernel
theorem dX6_pace_35 : decode cX6_pace 35 = .ok (.getfield 26, 3) := by decide +kernel
theorem dX6_pace_38 : decode cX6_pace 38 = .ok (.getfield 180, 3) := by decide +kernel
theorem dX6_pace_41 : decode cX6_pace 41 = .ok (.iload_n 1, 1) := by decide +kernel
theorem dX6_pace_42 : decode cX6_pace 42 = .ok (.iaload, 1) := by decide +kernel
theorem dX6_pace_43 : decode cX6_pace 43 = .ok (.istore_n 3, 1) := by decide +kernel
theorem dX6_pace_44 : decode cX6_pace 44 = .ok (.aload_n 0, 1) := by decide +kernel
theorem dX6_pace_45 : decode cX6_pace 45 = .ok (.getfield 26, 3) := by decide +kernel
theorem dX6_pace_48 : decode cX6_pace 48 = .ok (.getfield 180, 3) := by decide +kernel
theorem dX6_pace_51 : decode cX6_pace 51 = .ok (.iload_n 1, 1) := by decide +kernel
theorem dX6_pace_52 : decode cX6_pace 52 = .ok (.iload_n 2, 1) := by decide +kernel
theorem dX6_pace_53 : decode cX6_pace 53 = .ok (.iastore, 1) := by decide +kernel
theorem dX6_pace_54 : decode cX6_pace 54 = .ok (.iload_n 3, 1) := by decide +kernel
theorem dX6_pace_55 : decode cX6_pace 55 = .ok (.ireturn, 1) := by decide +kernel
theorem dX6_quarrel_0 : decode cX6_quarrel 0 = .ok (.aload_n 0, 1) := by decide +kernel
theorem dX6_quarrel_1 : decode cX6_quarrel 1 = .ok (.getfield 26, 3) := by decide +kernel
theorem dX6_quarrel_4 : decode cX6_quarrel 4 = .ok (.iload_n 1, 1) := by decide +kernel
theorem dX6_quarrel_5 : decode cX6_quarrel 5 = .ok (.invokevirtual 168, 3) := by decide +kernel
theorem dX6_quarrel_8 : decode cX6_quarrel 8 = .ok (.ifCond .eq 28, 3) := by decide +kernel
theorem dX6_quarrel_11 : decode cX6_quarrel 11 = .ok (.aload_n 0, 1) := by decide +kernel
theorem dX6_quarrel_12 : decode cX6_quarrel 12 = .ok (.getfield 26, 3) := by decide +kernel
theorem dX6_quarrel_15 : decode cX6_quarrel 15 = .ok (.iload_n 2, 1) := by decide +kernel
theorem dX6_quarrel_16 : decode cX6_quarrel 16 = .ok (.invokevirtual 168, 3) := by decide +kernel
theorem dX6_quarrel_19 : decode cX6_quarrel 19 = .ok (.ifCond .eq 17, 3) := by decide +kernel
theorem dX6_quarrel_22 : decode cX6_quarrel 22 = .ok (.iload_n 1, 1) := by decide +kernel
theorem dX6_quarrel_23 : decode cX6_quarrel 23 = .ok (.iload_n 2, 1) := by decide +kernel
theorem dX6_quarrel_24 : decode cX6_quarrel 24 = .ok (.if_icmp .eq 12, 3) := by decide +kernel
theorem dX6_quarrel_27 : decode cX6_quarrel 27 = .ok (.iload_n 3, 1) := by decide +kernel
theorem dX6_quarrel_28 : decode cX6_quarrel 28 = .ok (.iconst 0, 1) := by decide +kernel
theorem dX6_quarrel_29 : decode cX6_quarrel 29 = .ok (.iconst 1, 1) := by decide +kernel
theorem dX6_quarrel_30 : decode cX6_quarrel 30 = .ok (.invokestatic 74, 3) := by decide +kernel
theorem dX6_quarrel_33 : decode cX6_quarrel 33 = .ok (.ifCond .ne 6, 3) := by decide +kernel
theorem dX6_quarrel_36 : decode cX6_quarrel 36 = .ok (.ldc 78, 2) := by decide +kernel
theorem dX6_quarrel_38 : decode cX6_quarrel 38 = .ok (.ireturn, 1) := by decide +kernel
theorem dX6_quarrel_39 : decode cX6_quarrel 39 = .ok (.aload_n 0, 1) := by decide +kernel
theorem dX6_quarrel_40 : decode cX6_quarrel 40 = .ok (.getfield 26, 3) := by decide +kernel
theorem dX6_quarrel_43 : decode cX6_quarrel 43 = .ok (.getfield 183, 3) := by decide +kernel
theorem dX6_quarrel_46 : decode cX6_quarrel 46 = .ok (.iload_n 1, 1) := by decide +kernel
theorem dX6_quarrel_47 : decode cX6_quarrel 47 = .ok (.iaload, 1) := by decide +kernel
theorem dX6_quarrel_48 : decode cX6_quarrel 48 = .ok (.iload_n 2, 1) := by decide +kernel
theorem dX6_quarrel_49 : decode cX6_quarrel 49 = .ok (.ishr, 1) := by decide +kernel
theorem dX6_quarrel_50 : decode cX6_quarrel 50 = .ok (.iconst 1, 1) := by decide +kernel
theorem dX6_quarrel_51 : decode cX6_quarrel 51 = .ok (.iand, 1) := by decide +kernel
theorem dX6_quarrel_52 : decode cX6_quarrel 52 = .ok (.iload_n 3, 1) := by decide +kernel
theorem dX6_quarrel_53 : decode cX6_quarrel 53 = .ok (.if_icmp .ne 6, 3) := by decide +kernel
theorem dX6_quarrel_56 : decode cX6_quarrel 56 = .ok (.ldc 153, 2) := by decide +kernel
theorem dX6_quarrel_58 : decode cX6_quarrel 58 = .ok (.ireturn, 1) := by decide +kernel
theorem dX6_quarrel_59 : decode cX6_quarrel 59 = .ok (.aload_n 0, 1) := by decide +kernel
theorem dX6_quarrel_60 : decode cX6_quarrel 60 = .ok (.getfield 43, 3) := by decide +kernel
theorem dX6_quarrel_63 : decode cX6_quarrel 63 = .ok (.aload_n 0, 1) := by decide +kernel
theorem dX6_quarrel_64 : decode cX6_quarrel 64 = .ok (.getfield 26, 3) := by decide +kernel
theorem dX6_quarrel_67 : decode cX6_quarrel 67 = .ok (.invokevirtual 161, 3) := by decide +kernel
theorem dX6_quarrel_70 : decode cX6_quarrel 70 = .ok (.aload_n 0, 1) := by decide +kernel
theorem dX6_quarrel_71 : decode cX6_quarrel 71 = .ok (.getfield 26, 3) := by decide +kernel
theorem dX6_quarrel_74 : decode cX6_quarrel 74 = .ok (.getfield 183, 3) := by decide +kernel
theorem dX6_quarrel_77 : decode cX6_quarrel 77 = .ok (.iload_n 1, 1) := by decide +kernel
theorem dX6_quarrel_78 : decode cX6_quarrel 78 = .ok (.dup2, 1) := by decide +kernel
theorem dX6_quarrel_79 : decode cX6_quarrel 79 = .ok (.iaload, 1) := by decide +kernel
theorem dX6_quarrel_80 : decode cX6_quarrel 80 = .ok (.iconst 1, 1) := by decide +kernel
theorem dX6_quarrel_81 : decode cX6_quarrel 81 = .ok (.iload_n 2, 1) := by decide +kernel
theorem dX6_quarrel_82 : decode cX6_quarrel 82 = .ok (.ishl, 1) := by decide +kernel
theorem dX6_quarrel_83 : decode cX6_quarrel 83 = .ok (.ixor, 1) := by decide +kernel
theorem dX6_quarrel_84 : decode cX6_quarrel 84 = .ok (.iastore, 1) := by decide +kernel
theorem dX6_quarrel_85 : decode cX6_quarrel 85 = .ok (.aload_n 0, 1) := by decide +kernel
theorem dX6_quarrel_86 : decode cX6_quarrel 86 = .ok (.getfield 26, 3) := by decide +kernel
theorem dX6_quarrel_89 : decode cX6_quarrel 89 = .ok (.getfield 183, 3) := by decide +kernel
theorem dX6_quarrel_92 : decode cX6_quarrel 92 = .ok (.iload_n 2, 1) := by decide +kernel
theorem dX6_quarrel_93 : decode cX6_quarrel 93 = .ok (.dup2, 1) := by decide +kernel
theorem dX6_quarrel_94 : decode cX6_quarrel 94 = .ok (.iaload, 1) := by decide +kernel
theorem dX6_quarrel_95 : decode cX6_quarrel 95 = .ok (.iconst 1, 1) := by decide +kernel
theorem dX6_quarrel_96 : decode cX6_quarrel 96 = .ok (.iload_n 1, 1) := by decide +kernel
theorem dX6_quarrel_97 : decode cX6_quarrel 97 = .ok (.ishl, 1) := by decide +kernel
theorem dX6_quarrel_98 : decode cX6_quarrel 98 = .ok (.ixor, 1) := by decide +kernel
theorem dX6_quarrel_99 : decode cX6_quarrel 99 = .ok (.iastore, 1) := by decide +kernel
theorem dX6_quarrel_100 : decode cX6_quarrel 100 = .ok (.aload_n 0, 1) := by decide +kernel
theorem dX6_quarrel_101 : decode cX6_quarrel 101 = .ok (.getfield 26, 3) := by decide +kernel
theorem dX6_quarrel_104 : decode cX6_quarrel 104 = .ok (.getfield 183, 3) := by decide +kernel
theorem dX6_quarrel_107 : decode cX6_quarrel 107 = .ok (.iload_n 1, 1) := by decide +kernel
theorem dX6_quarrel_108 : decode cX6_quarrel 108 = .ok (.iaload, 1) := by decide +kernel
theorem dX6_quarrel_109 : decode cX6_quarrel 109 = .ok (.ireturn, 1) := by decide +kernel
theorem dX6_spoil_0 : decode cX6_spoil 0 = .ok (.aload_n 0, 1) := by decide +kernel
theorem dX6_spoil_1 : decode cX6_spoil 1 = .ok (.getfield 26, 3) := by decide +kernel
theorem dX6_spoil_4 : decode cX6_spoil 4 = .ok (.iload_n 1, 1) := by decide +kernel
theorem dX6_spoil_5 : decode cX6_spoil 5 = .ok (.invokevirtual 174, 3) := by decide +kernel
theorem dX6_spoil_8 : decode cX6_spoil 8 = .ok (.ifCond .eq 13, 3) := by decide +kernel
theorem dX6_spoil_11 : decode cX6_spoil 11 = .ok (.iload_n 2, 1) := by decide +kernel
theorem dX6_spoil_12 : decode cX6_spoil 12 = .ok (.iconst 1, 1) := by decide +kernel
theorem dX6_spoil_13 : decode cX6_spoil 13 = .ok (.bipush 20, 2) := by decide +kernel
theorem dX6_spoil_15 : decode cX6_spoil 15 = .ok (.invokestatic 74, 3) := by decide +kernel
theorem dX6_spoil_18 : decode cX6_spoil 18 = .ok (.ifCond .ne 6, 3) := by decide +kernel
theorem dX6_spoil_21 : decode cX6_spoil 21 = .ok (.ldc 78, 2) := by decide +kernel
theorem dX6_spoil_23 : decode cX6_spoil 23 = .ok (.ireturn, 1) := by decide +kernel
theorem dX6_spoil_24 : decode cX6_spoil 24 = .ok (.aload_n 0, 1) := by decide +kernel
theorem dX6_spoil_25 : decode cX6_spoil 25 = .ok (.getfield 43, 3) := by decide +kernel
theorem dX6_spoil_28 : decode cX6_spoil 28 = .ok (.aload_n 0, 1) := by decide +kernel
theorem dX6_spoil_29 : decode cX6_spoil 29 = .ok (.getfield 26, 3) := by decide +kernel
theorem dX6_spoil_32 : decode cX6_spoil 32 = .ok (.invokevirtual 161, 3) := by decide +kernel
theorem dX6_spoil_35 : decode cX6_spoil 35 = .ok (.aload_n 0, 1) := by decide +kernel
theorem dX6_spoil_36 : decode cX6_spoil 36 = .ok (.getfield 26, 3) := by decide +kernel
theorem dX6_spoil_39 : decode cX6_spoil 39 = .ok (.iload_n 1, 1) := by decide +kernel
theorem dX6_spoil_40 : decode cX6_spoil 40 = .ok (.iload_n 2, 1) := by decide +kernel
theorem dX6_spoil_41 : decode cX6_spoil 41 = .ok (.invokevirtual 186, 3) := by decide +kernel
theorem dX6_spoil_44 : decode cX6_spoil 44 = .ok (.aload_n 0, 1) := by decide +kernel
theorem dX6_spoil_45 : decode cX6_spoil 45 = .ok (.getfield 26, 3) := by decide +kernel
theorem dX6_spoil_48 : decode cX6_spoil 48 = .ok (.getfield 190, 3) := by decide +kernel
theorem dX6_spoil_51 : decode cX6_spoil 51 = .ok (.iload_n 1, 1) := by decide +kernel
theorem dX6_spoil_52 : decode cX6_spoil 52 = .ok (.iaload, 1) := by decide +kernel
theorem dX6_spoil_53 : decode cX6_spoil 53 = .ok (.ireturn, 1) := by decide +kernel
theorem dX6_gran_0 : decode cX6_gran 0 = .ok (.aload_n 0, 1) := by decide +kernel
theorem dX6_gran_1 : decode cX6_gran 1 = .ok (.getfield 26, 3) := by decide +kernel
theorem dX6_gran_4 : decode cX6_gran 4 = .ok (.iload_n 1, 1) := by decide +kernel
theorem dX6_gran_5 : decode cX6_gran 5 = .ok (.invokevirtual 168, 3) := by decide +kernel
theorem dX6_gran_8 : decode cX6_gran 8 = .ok (.ifCond .ne 6, 3) := by decide +kernel
theorem dX6_gran_11 : decode cX6_gran 11 = .ok (.ldc 78, 2) := by decide +kernel
theorem dX6_gran_13 : decode cX6_gran 13 = .ok (.ireturn, 1) := by decide +kernel
theorem dX6_gran_14 : decode cX6_gran 14 = .ok (.iload_n 2, 1) := by decide +kernel
theorem dX6_gran_15 : decode cX6_gran 15 = .ok (.tableswitch 114 0 6 #[41, 51, 61, 71, 81, 91, 104], 41) := by decide +kernel
theorem dX6_gran_56 : decode cX6_gran 56 = .ok (.aload_n 0, 1) := by decide +kernel
theorem dX6_gran_57 : decode cX6_gran 57 = .ok (.getfield 26, 3) := by decide +kernel
theorem dX6_gran_60 : decode cX6_gran 60 = .ok (.getfield 193, 3) := by decide +kernel
theorem dX6_gran_63 : decode cX6_gran 63 = .ok (.iload_n 1, 1) := by decide +kernel
theorem dX6_gran_64 : decode cX6_gran 64 = .ok (.iaload, 1) := by decide +kernel
theorem dX6_gran_65 : decode cX6_gran 65 = .ok (.ireturn, 1) := by decide +kernel
theorem dX6_gran_66 : decode cX6_gran 66 = .ok (.aload_n 0, 1) := by decide +kernel
theorem dX6_gran_67 : decode cX6_gran 67 = .ok (.getfield 26, 3) := by decide +kernel
theorem dX6_gran_70 : decode cX6_gran 70 = .ok (.getfield 177, 3) := by decide +kernel
theorem dX6_gran_73 : decode cX6_gran 73 = .ok (.iload_n 1, 1) := by decide +kernel
theorem dX6_gran_74 : decode cX6_gran 74 = .ok (.iaload, 1) := by decide +kernel
theorem dX6_gran_75 : decode cX6_gran 75 = .ok (.ireturn, 1) := by decide +kernel
theorem dX6_gran_76 : decode cX6_gran 76 = .ok (.aload_n 0, 1) := by decide +kernel
theorem dX6_gran_77 : decode cX6_gran 77 = .ok (.getfield 26, 3) := by decide +kernel
theorem dX6_gran_80 : decode cX6_gran 80 = .ok (.getfield 180, 3) := by decide +kernel
theorem dX6_gran_83 : decode cX6_gran 83 = .ok (.iload_n 1, 1) := by decide +kernel
theorem dX6_gran_84 : decode cX6_gran 84 = .ok (.iaload, 1) := by decide +kernel
theorem dX6_gran_85 : decode cX6_gran 85 = .ok (.ireturn, 1) := by decide +kernel
theorem dX6_gran_86 : decode cX6_gran 86 = .ok (.aload_n 0, 1) := by decide +kernel
theorem dX6_gran_87 : decode cX6_gran 87 = .ok (.getfield 26, 3) := by decide +kernel
theorem dX6_gran_90 : decode cX6_gran 90 = .ok (.getfield 171, 3) := by decide +kernel
theorem dX6_gran_93 : decode cX6_gran 93 = .ok (.iload_n 1, 1) := by decide +kernel
theorem dX6_gran_94 : decode cX6_gran 94 = .ok (.iaload, 1) := by decide +kernel
theorem dX6_gran_95 : decode cX6_gran 95 = .ok (.ireturn, 1) := by decide +kernel
theorem dX6_gran_96 : decode cX6_gran 96 = .ok (.aload_n 0, 1) := by decide +kernel
theorem dX6_gran_97 : decode cX6_gran 97 = .ok (.getfield 26, 3) := by decide +kernel
theorem dX6_gran_100 : decode cX6_gran 100 = .ok (.iload_n 1, 1) := by decide +kernel
theorem dX6_gran_101 : decode cX6_gran 101 = .ok (.iconst 0, 1) := by decide +kernel
theorem dX6_gran_102 : decode cX6_gran 102 = .ok (.invokevirtual 196, 3) := by decide +kernel
theorem dX6_gran_105 : decode cX6_gran 105 = .ok (.ireturn, 1) := by decide +kernel
theorem dX6_gran_106 : decode cX6_gran 106 = .ok (.aload_n 0, 1) := by decide +kernel
theorem dX6_gran_107 : decode cX6_gran 107 = .ok (.getfield 26, 3) := by decide +kernel
theorem dX6_gran_110 : decode cX6_gran 110 = .ok (.iconst 0, 1) := by decide +kernel
theorem dX6_gran_111 : decode cX6_gran 111 = .ok (.invokevirtual 200, 3) := by decide +kernel
theorem dX6_gran_114 : decode cX6_gran 114 = .ok (.iload_n 1, 1) := by decide +kernel
theorem dX6_gran_115 : decode cX6_gran 115 = .ok (.ishr, 1) := by decide +kernel
theorem dX6_gran_116 : decode cX6_gran 116 = .ok (.iconst 1, 1) := by decide +kernel
theorem dX6_gran_117 : decode cX6_gran 117 = .ok (.iand, 1) := by decide +kernel
theorem dX6_gran_118 : decode cX6_gran 118 = .ok (.ireturn, 1) := by decide +kernel
theorem dX6_gran_119 : decode cX6_gran 119 = .ok (.aload_n 0, 1) := by decide +kernel
theorem dX6_gran_120 : decode cX6_gran 120 = .ok (.getfield 26, 3) := by decide +kernel
theorem dX6_gran_123 : decode cX6_gran 123 = .ok (.getfield 183, 3) := by decide +kernel
theorem dX6_gran_126 : decode cX6_gran 126 = .ok (.iload_n 1, 1) := by decide +kernel
theorem dX6_gran_127 : decode cX6_gran 127 = .ok (.iaload, 1) := by decide +kernel
theorem dX6_gran_128 : decode cX6_gran 128 = .ok (.ireturn, 1) := by decide +kernel
theorem dX6_gran_129 : decode cX6_gran 129 = .ok (.ldc 78, 2) := by decide +kernel
theorem dX6_gran_131 : decode cX6_gran 131 = .ok (.ireturn, 1) := by decide +kernel
theorem dX6_child_0 : decode cX6_child 0 = .ok (.aload_n 0, 1) := by decide +kernel
theorem dX6_child_1 : decode cX6_child 1 = .ok (.getfield 26, 3) := by decide +kernel
theorem dX6_child_4 : decode cX6_child 4 = .ok (.iload_n 1, 1) := by decide +kernel
theorem dX6_child_5 : decode cX6_child 5 = .ok (.invokevirtual 174, 3) := by decide +kernel
theorem dX6_child_8 : decode cX6_child 8 = .ok (.ifCond .ne 6, 3) := by decide +kernel
theorem dX6_child_11 : decode cX6_child 11 = .ok (.ldc 78, 2) := by decide +kernel
theorem dX6_child_13 : decode cX6_child 13 = .ok (.ireturn, 1) := by decide +kernel
theorem dX6_child_14 : decode cX6_child 14 = .ok (.iload_n 2, 1) := by decide +kernel
theorem dX6_child_15 : decode cX6_child 15 = .ok (.tableswitch 68 0 3 #[29, 39, 49, 59], 29) := by decide +kernel
theorem dX6_child_44 : decode cX6_child 44 = .ok (.aload_n 0, 1) := by decide +kernel
theorem dX6_child_45 : decode cX6_child 45 = .ok (.getfield 26, 3) := by decide +kernel
theorem dX6_child_48 : decode cX6_child 48 = .ok (.getfield 203, 3) := by decide +kernel
theorem dX6_child_51 : decode cX6_child 51 = .ok (.iload_n 1, 1) := by decide +kernel
theorem dX6_child_52 : decode cX6_child 52 = .ok (.iaload, 1) := by decide +kernel
theorem dX6_child_53 : decode cX6_child 53 = .ok (.ireturn, 1) := by decide +kernel
theorem dX6_child_54 : decode cX6_child 54 = .ok (.aload_n 0, 1) := by decide +kernel
theorem dX6_child_55 : decode cX6_child 55 = .ok (.getfield 26, 3) := by decide +kernel
theorem dX6_child_58 : decode cX6_child 58 = .ok (.getfield 190, 3) := by decide +kernel
theorem dX6_child_61 : decode cX6_child 61 = .ok (.iload_n 1, 1) := by decide +kernel
theorem dX6_child_62 : decode cX6_child 62 = .ok (.iaload, 1) := by decide +kernel
theorem dX6_child_63 : decode cX6_child 63 = .ok (.ireturn, 1) := by decide +kernel
theorem dX6_child_64 : decode cX6_child 64 = .ok (.aload_n 0, 1) := by decide +kernel
theorem dX6_child_65 : decode cX6_child 65 = .ok (.getfield 26, 3) := by decide +kernel
theorem dX6_child_68 : decode cX6_child 68 = .ok (.getfield 206, 3) := by decide +kernel
theorem dX6_child_71 : decode cX6_child 71 = .ok (.iload_n 1, 1) := by decide +kernel
theorem dX6_child_72 : decode cX6_child 72 = .ok (.iaload, 1) := by decide +kernel
theorem dX6_child_73 : decode cX6_child 73 = .ok (.ireturn, 1) := by decide +kernel
theorem dX6_child_74 : decode cX6_child 74 = .ok (.aload_n 0, 1) := by decide +kernel
theorem dX6_child_75 : decode cX6_child 75 = .ok (.getfield 26, 3) := by decide +kernel
theorem dX6_child_78 : decode cX6_child 78 = .ok (.iload_n 1, 1) := by decide +kernel
theorem dX6_child_79 : decode cX6_child 79 = .ok (.invokevirtual 209, 3) := by decide +kernel
theorem dX6_child_82 : decode cX6_child 82 = .ok (.ireturn, 1) := by decide +kernel
theorem dX6_child_83 : decode cX6_child 83 = .ok (.ldc 78, 2) := by decide +kernel
theorem dX6_child_85 : decode cX6_child 85 = .ok (.ireturn, 1) := by decide +kernel
theorem dX6_ahead_0 : decode cX6_ahead 0 = .ok (.aload_n 0, 1) := by decide +kernel
theorem dX6_ahead_1 : decode cX6_ahead 1 = .ok (.getfield 26, 3) := by decide +kernel
theorem dX6_ahead_4 : decode cX6_ahead 4 = .ok (.iload_n 1, 1) := by decide +kernel
theorem dX6_ahead_5 : decode cX6_ahead 5 = .ok (.invokevirtual 174, 3) := by decide +kernel
theorem dX6_ahead_8 : decode cX6_ahead 8 = .ok (.ifCond .eq 22, 3) := by decide +kernel
theorem dX6_ahead_11 : decode cX6_ahead 11 = .ok (.iload_n 2, 1) := by decide +kernel
theorem dX6_ahead_12 : decode cX6_ahead 12 = .ok (.iconst 0, 1) := by decide +kernel
theorem dX6_ahead_13 : decode cX6_ahead 13 = .ok (.bipush 60, 2) := by decide +kernel
theorem dX6_ahead_15 : decode cX6_ahead 15 = .ok (.invokestatic 74, 3) := by decide +kernel
theorem dX6_ahead_18 : decode cX6_ahead 18 = .ok (.ifCond .eq 12, 3) := by decide +kernel
theorem dX6_ahead_21 : decode cX6_ahead 21 = .ok (.iload_n 3, 1) := by decide +kernel
theorem dX6_ahead_22 : decode cX6_ahead 22 = .ok (.iconst 0, 1) := by decide +kernel
theorem dX6_ahead_23 : decode cX6_ahead 23 = .ok (.iconst 2, 1) := by decide +kernel
theorem dX6_ahead_24 : decode cX6_ahead 24 = .ok (.invokestatic 74, 3) := by decide +kernel
theorem dX6_ahead_27 : decode cX6_ahead 27 = .ok (.ifCond .ne 6, 3) := by decide +kernel
theorem dX6_ahead_30 : decode cX6_ahead 30 = .ok (.ldc 78, 2) := by decide +kernel
theorem dX6_ahead_32 : decode cX6_ahead 32 = .ok (.ireturn, 1) := by decide +kernel
theorem dX6_ahead_33 : decode cX6_ahead 33 = .ok (.aload_n 0, 1) := by decide +kernel
theorem dX6_ahead_34 : decode cX6_ahead 34 = .ok (.invokevirtual 212, 3) := by decide +kernel
theorem dX6_ahead_37 : decode cX6_ahead 37 = .ok (.aload_n 0, 1) := by decide +kernel
theorem dX6_ahead_38 : decode cX6_ahead 38 = .ok (.getfield 30, 3) := by decide +kernel
theorem dX6_ahead_41 : decode cX6_ahead 41 = .ok (.iload_n 2, 1) := by decide +kernel
theorem dX6_ahead_42 : decode cX6_ahead 42 = .ok (.invokevirtual 215, 3) := by decide +kernel
theorem dX6_ahead_45 : decode cX6_ahead 45 = .ok (.iload_n 3, 1) := by decide +kernel
theorem dX6_ahead_46 : decode cX6_ahead 46 = .ok (.ifCond .ne 13, 3) := by decide +kernel
theorem dX6_ahead_49 : decode cX6_ahead 49 = .ok (.aload_n 0, 1) := by decide +kernel
theorem dX6_ahead_50 : decode cX6_ahead 50 = .ok (.getfield 30, 3) := by decide +kernel
theorem dX6_ahead_53 : decode cX6_ahead 53 = .ok (.getfield 203, 3) := by decide +kernel
theorem dX6_ahead_56 : decode cX6_ahead 56 = .ok (.iload_n 1, 1) := by decide +kernel
theorem dX6_ahead_57 : decode cX6_ahead 57 = .ok (.iaload, 1) := by decide +kernel
theorem dX6_ahead_58 : decode cX6_ahead 58 = .ok (.ireturn, 1) := by decide +kernel
theorem dX6_ahead_59 : decode cX6_ahead 59 = .ok (.iload_n 3, 1) := by decide +kernel
theorem dX6_ahead_60 : decode cX6_ahead 60 = .ok (.iconst 1, 1) := by decide +kernel
theorem dX6_ahead_61 : decode cX6_ahead 61 = .ok (.if_icmp .ne 15, 3) := by decide +kernel
theorem dX6_ahead_64 : decode cX6_ahead 64 = .ok (.aload_n 0, 1) := by decide +kernel
theorem dX6_ahead_65 : decode cX6_ahead 65 = .ok (.getfield 30, 3) := by decide +kernel
theorem dX6_ahead_68 : decode cX6_ahead 68 = .ok (.getfield 190, 3) := by decide +kernel
theorem dX6_ahead_71 : decode cX6_ahead 71 = .ok (.iload_n 1, 1) := by decide +kernel
theorem dX6_ahead_72 : decode cX6_ahead 72 = .ok (.iaload, 1) := by decide +kernel
theorem dX6_ahead_73 : decode cX6_ahead 73 = .ok (.goto 12, 3) := by decide +kernel
theorem dX6_ahead_76 : decode cX6_ahead 76 = .ok (.aload_n 0, 1) := by decide +kernel
theorem dX6_ahead_77 : decode cX6_ahead 77 = .ok (.getfield 30, 3) := by decide +kernel
theorem dX6_ahead_80 : decode cX6_ahead 80 = .ok (.getfield 206, 3) := by decide +kernel
theorem dX6_ahead_83 : decode cX6_ahead 83 = .ok (.iload_n 1, 1) := by decide +kernel
theorem dX6_ahead_84 : decode cX6_ahead 84 = .ok (.iaload, 1) := by decide +kernel
theorem dX6_ahead_85 : decode cX6_ahead 85 = .ok (.ireturn, 1) := by decide +kernel
theorem dX6_withWhom_0 : decode cX6_withWhom 0 = .ok (.aload_n 0, 1) := by decide +kernel
theorem dX6_withWhom_1 : decode cX6_withWhom 1 = .ok (.getfield 26, 3) := by decide +kernel
theorem dX6_withWhom_4 : decode cX6_withWhom 4 = .ok (.iload_n 1, 1) := by decide +kernel
theorem dX6_withWhom_5 : decode cX6_withWhom 5 = .ok (.invokevirtual 168, 3) := by decide +kernel
theorem dX6_withWhom_8 : decode cX6_withWhom 8 = .ok (.ifCond .eq 13, 3) := by decide +kernel
theorem dX6_withWhom_11 : decode cX6_withWhom 11 = .ok (.iload_n 2, 1) := by decide +kernel
theorem dX6_withWhom_12 : decode cX6_withWhom 12 = .ok (.iconst 0, 1) := by decide +kernel
theorem dX6_withWhom_13 : decode cX6_withWhom 13 = .ok (.bipush 60, 2) := by decide +kernel
theorem dX6_withWhom_15 : decode cX6_withWhom 15 = .ok (.invokestatic 74, 3) := by decide +kernel
theorem dX6_withWhom_18 : decode cX6_withWhom 18 = .ok (.ifCond .ne 6, 3) := by decide +kernel
theorem dX6_withWhom_21 : decode cX6_withWhom 21 = .ok (.ldc 78, 2) := by decide +kernel
theorem dX6_withWhom_23 : decode cX6_withWhom 23 = .ok (.ireturn, 1) := by decide +kernel
theorem dX6_withWhom_24 : decode cX6_withWhom 24 = .ok (.aload_n 0, 1) := by decide +kernel
theorem dX6_withWhom_25 : decode cX6_withWhom 25 = .ok (.getfield 26, 3) := by decide +kernel
theorem dX6_withWhom_28 : decode cX6_withWhom 28 = .ok (.iload_n 1, 1) := by decide +kernel
theorem dX6_withWhom_29 : decode cX6_withWhom 29 = .ok (.iload_n 2, 1) := by decide +kernel
theorem dX6_withWhom_30 : decode cX6_withWhom 30 = .ok (.invokevirtual 196, 3) := by decide +kernel
theorem dX6_withWhom_33 : decode cX6_withWhom 33 = .ok (.ireturn, 1) := by decide +kernel
theorem dX6_whole_0 : decode cX6_whole 0 = .ok (.aload_n 0, 1) := by decide +kernel
theorem dX6_whole_1 : decode cX6_whole 1 = .ok (.getfield 26, 3) := by decide +kernel
theorem dX6_whole_4 : decode cX6_whole 4 = .ok (.iload_n 1, 1) := by decide +kernel
theorem dX6_whole_5 : decode cX6_whole 5 = .ok (.invokevirtual 174, 3) := by decide +kernel
theorem dX6_whole_8 : decode cX6_whole 8 = .ok (.ifCond .ne 6, 3) := by decide +kernel
theorem dX6_whole_11 : decode cX6_whole 11 = .ok (.ldc 78, 2) := by decide +kernel
theorem dX6_whole_13 : decode cX6_whole 13 = .ok (.ireturn, 1) := by decide +kernel
theorem dX6_whole_14 : decode cX6_whole 14 = .ok (.aload_n 0, 1) := by decide +kernel
theorem dX6_whole_15 : decode cX6_whole 15 = .ok (.invokevirtual 212, 3) := by decide +kernel
theorem dX6_whole_18 : decode cX6_whole 18 = .ok (.aload_n 0, 1) := by decide +kernel
theorem dX6_whole_19 : decode cX6_whole 19 = .ok (.getfield 30, 3) := by decide +kernel
theorem dX6_whole_22 : decode cX6_whole 22 = .ok (.iload_n 1, 1) := by decide +kernel
theorem dX6_whole_23 : decode cX6_whole 23 = .ok (.invokevirtual 219, 3) := by decide +kernel
theorem dX6_whole_26 : decode cX6_whole 26 = .ok (.ireturn, 1) := by decide +kernel
theorem dX6_hungry_0 : decode cX6_hungry 0 = .ok (.aload_n 0, 1) := by decide +kernel
theorem dX6_hungry_1 : decode cX6_hungry 1 = .ok (.getfield 26, 3) := by decide +kernel
theorem dX6_hungry_4 : decode cX6_hungry 4 = .ok (.iload_n 1, 1) := by decide +kernel
theorem dX6_hungry_5 : decode cX6_hungry 5 = .ok (.invokevirtual 174, 3) := by decide +kernel
theorem dX6_hungry_8 : decode cX6_hungry 8 = .ok (.ifCond .ne 6, 3) := by decide +kernel
theorem dX6_hungry_11 : decode cX6_hungry 11 = .ok (.ldc 78, 2) := by decide +kernel
theorem dX6_hungry_13 : decode cX6_hungry 13 = .ok (.ireturn, 1) := by decide +kernel
theorem dX6_hungry_14 : decode cX6_hungry 14 = .ok (.aload_n 0, 1) := by decide +kernel
theorem dX6_hungry_15 : decode cX6_hungry 15 = .ok (.invokevirtual 212, 3) := by decide +kernel
theorem dX6_hungry_18 : decode cX6_hungry 18 = .ok (.iconst 0, 1) := by decide +kernel
theorem dX6_hungry_19 : decode cX6_hungry 19 = .ok (.istore_n 2, 1) := by decide +kernel
theorem dX6_hungry_20 : decode cX6_hungry 20 = .ok (.iload_n 2, 1) := by decide +kernel
theorem dX6_hungry_21 : decode cX6_hungry 21 = .ok (.bipush 60, 2) := by decide +kernel
theorem dX6_hungry_23 : decode cX6_hungry 23 = .ok (.if_icmp .gt 30, 3) := by decide +kernel
theorem dX6_hungry_26 : decode cX6_hungry 26 = .ok (.aload_n 0, 1) := by decide +kernel
theorem dX6_hungry_27 : decode cX6_hungry 27 = .ok (.getfield 30, 3) := by decide +kernel
theorem dX6_hungry_30 : decode cX6_hungry 30 = .ok (.getfield 203, 3) := by decide +kernel
theorem dX6_hungry_33 : decode cX6_hungry 33 = .ok (.iload_n 1, 1) := by decide +kernel
theorem dX6_hungry_34 : decode cX6_hungry 34 = .ok (.iaload, 1) := by decide +kernel
theorem dX6_hungry_35 : decode cX6_hungry 35 = .ok (.ifCond .ne 5, 3) := by decide +kernel
theorem dX6_hungry_38 : decode cX6_hungry 38 = .ok (.iload_n 2, 1) := by decide +kernel
theorem dX6_hungry_39 : decode cX6_hungry 39 = .ok (.ireturn, 1) := by decide +kernel
theorem dX6_hungry_40 : decode cX6_hungry 40 = .ok (.aload_n 0, 1) := by decide +kernel
theorem dX6_hungry_41 : decode cX6_hungry 41 = .ok (.getfield 30, 3) := by decide +kernel
theorem dX6_hungry_44 : decode cX6_hungry 44 = .ok (.invokevirtual 165, 3) := by decide +kernel
theorem dX6_hungry_47 : decode cX6_hungry 47 = .ok (.iinc 2 1, 3) := by decide +kernel
theorem dX6_hungry_50 : decode cX6_hungry 50 = .ok (.goto (-30), 3) := by decide +kernel
theorem dX6_hungry_53 : decode cX6_hungry 53 = .ok (.ldc 222, 2) := by decide +kernel
theorem dX6_hungry_55 : decode cX6_hungry 55 = .ok (.ireturn, 1) := by decide +kernel
theorem dX6_without_0 : decode cX6_without 0 = .ok (.aload_n 0, 1) := by decide +kernel
theorem dX6_without_1 : decode cX6_without 1 = .ok (.invokevirtual 154, 3) := by decide +kernel
theorem dX6_without_4 : decode cX6_without 4 = .ok (.ifCond .eq 6, 3) := by decide +kernel
theorem dX6_without_7 : decode cX6_without 7 = .ok (.ldc 153, 2) := by decide +kernel
theorem dX6_without_9 : decode cX6_without 9 = .ok (.ireturn, 1) := by decide +kernel
theorem dX6_without_10 : decode cX6_without 10 = .ok (.iload_n 1, 1) := by decide +kernel
theorem dX6_without_11 : decode cX6_without 11 = .ok (.iconst 1, 1) := by decide +kernel
theorem dX6_without_12 : decode cX6_without 12 = .ok (.bipush 60, 2) := by decide +kernel
theorem dX6_without_14 : decode cX6_without 14 = .ok (.invokestatic 74, 3) := by decide +kernel
theorem dX6_without_17 : decode cX6_without 17 = .ok (.ifCond .ne 6, 3) := by decide +kernel
theorem dX6_without_20 : decode cX6_without 20 = .ok (.ldc 78, 2) := by decide +kernel
theorem dX6_without_22 : decode cX6_without 22 = .ok (.ireturn, 1) := by decide +kernel
theorem dX6_without_23 : decode cX6_without 23 = .ok (.aload_n 0, 1) := by decide +kernel
theorem dX6_without_24 : decode cX6_without 24 = .ok (.getfield 26, 3) := by decide +kernel
theorem dX6_without_27 : decode cX6_without 27 = .ok (.invokevirtual 223, 3) := by decide +kernel
theorem dX6_without_30 : decode cX6_without 30 = .ok (.aload_n 0, 1) := by decide +kernel
theorem dX6_without_31 : decode cX6_without 31 = .ok (.getfield 26, 3) := by decide +kernel
theorem dX6_without_34 : decode cX6_without 34 = .ok (.iload_n 1, 1) := by decide +kernel
theorem dX6_without_35 : decode cX6_without 35 = .ok (.invokevirtual 226, 3) := by decide +kernel
theorem dX6_without_38 : decode cX6_without 38 = .ok (.iconst (-1), 1) := by decide +kernel
theorem dX6_without_39 : decode cX6_without 39 = .ok (.ixor, 1) := by decide +kernel
theorem dX6_without_40 : decode cX6_without 40 = .ok (.iand, 1) := by decide +kernel
theorem dX6_without_41 : decode cX6_without 41 = .ok (.ireturn, 1) := by decide +kernel
theorem dX6_rota_0 : decode cX6_rota 0 = .ok (.aload_n 0, 1) := by decide +kernel
theorem dX6_rota_1 : decode cX6_rota 1 = .ok (.invokevirtual 154, 3) := by decide +kernel
theorem dX6_rota_4 : decode cX6_rota 4 = .ok (.ifCond .eq 6, 3) := by decide +kernel
theorem dX6_rota_7 : decode cX6_rota 7 = .ok (.ldc 153, 2) := by decide +kernel
theorem dX6_rota_9 : decode cX6_rota 9 = .ok (.ireturn, 1) := by decide +kernel
theorem dX6_rota_10 : decode cX6_rota 10 = .ok (.iload_n 1, 1) := by decide +kernel
theorem dX6_rota_11 : decode cX6_rota 11 = .ok (.iconst 0, 1) := by decide +kernel
theorem dX6_rota_12 : decode cX6_rota 12 = .ok (.aload_n 0, 1) := by decide +kernel
theorem dX6_rota_13 : decode cX6_rota 13 = .ok (.getfield 26, 3) := by decide +kernel
theorem dX6_rota_16 : decode cX6_rota 16 = .ok (.invokevirtual 223, 3) := by decide +kernel
theorem dX6_rota_19 : decode cX6_rota 19 = .ok (.invokestatic 74, 3) := by decide +kernel
theorem dX6_rota_22 : decode cX6_rota 22 = .ok (.ifCond .eq 30, 3) := by decide +kernel
theorem dX6_rota_25 : decode cX6_rota 25 = .ok (.iload_n 2, 1) := by decide +kernel
theorem dX6_rota_26 : decode cX6_rota 26 = .ok (.iconst 1, 1) := by decide +kernel
theorem dX6_rota_27 : decode cX6_rota 27 = .ok (.bipush 14, 2) := by decide +kernel
theorem dX6_rota_29 : decode cX6_rota 29 = .ok (.invokestatic 74, 3) := by decide +kernel
theorem dX6_rota_32 : decode cX6_rota 32 = .ok (.ifCond .eq 20, 3) := by decide +kernel
theorem dX6_rota_35 : decode cX6_rota 35 = .ok (.iload_n 3, 1) := by decide +kernel
theorem dX6_rota_36 : decode cX6_rota 36 = .ok (.iconst (-1), 1) := by decide +kernel
theorem dX6_rota_37 : decode cX6_rota 37 = .ok (.aload_n 0, 1) := by decide +kernel
theorem dX6_rota_38 : decode cX6_rota 38 = .ok (.getfield 26, 3) := by decide +kernel
theorem dX6_rota_41 : decode cX6_rota 41 = .ok (.getfield 143, 3) := by decide +kernel
theorem dX6_rota_44 : decode cX6_rota 44 = .ok (.iconst 1, 1) := by decide +kernel
theorem dX6_rota_45 : decode cX6_rota 45 = .ok (.isub, 1) := by decide +kernel
theorem dX6_rota_46 : decode cX6_rota 46 = .ok (.invokestatic 74, 3) := by decide +kernel
theorem dX6_rota_49 : decode cX6_rota 49 = .ok (.ifCond .ne 6, 3) := by decide +kernel
theorem dX6_rota_52 : decode cX6_rota 52 = .ok (.ldc 78, 2) := by decide +kernel
theorem dX6_rota_54 : decode cX6_rota 54 = .ok (.ireturn, 1) := by decide +kernel
theorem dX6_rota_55 : decode cX6_rota 55 = .ok (.aload_n 0, 1) := by decide +kernel
theorem dX6_rota_56 : decode cX6_rota 56 = .ok (.getfield 26, 3) := by decide +kernel
theorem dX6_rota_59 : decode cX6_rota 59 = .ok (.aload_n 0, 1) := by decide +kernel
theorem dX6_rota_60 : decode cX6_rota 60 = .ok (.getfield 33, 3) := by decide +kernel
theorem dX6_rota_63 : decode cX6_rota 63 = .ok (.invokevirtual 133, 3) := by decide +kernel
theorem dX6_rota_66 : decode cX6_rota 66 = .ok (.aload_n 0, 1) := by decide +kernel
theorem dX6_rota_67 : decode cX6_rota 67 = .ok (.getfield 66, 3) := by decide +kernel
theorem dX6_rota_70 : decode cX6_rota 70 = .ok (.aload_n 0, 1) := by decide +kernel
theorem dX6_rota_71 : decode cX6_rota 71 = .ok (.getfield 33, 3) := by decide +kernel
theorem dX6_rota_74 : decode cX6_rota 74 = .ok (.iload_n 1, 1) := by decide +kernel
theorem dX6_rota_75 : decode cX6_rota 75 = .ok (.iload_n 2, 1) := by decide +kernel
theorem dX6_rota_76 : decode cX6_rota 76 = .ok (.invokevirtual 229, 3) := by decide +kernel
theorem dX6_rota_79 : decode cX6_rota 79 = .ok (.istore 4, 2) := by decide +kernel
theorem dX6_rota_81 : decode cX6_rota 81 = .ok (.iload_n 3, 1) := by decide +kernel
theorem dX6_rota_82 : decode cX6_rota 82 = .ok (.ifCond .lt 10, 3) := by decide +kernel
theorem dX6_rota_85 : decode cX6_rota 85 = .ok (.iload 4, 2) := by decide +kernel
theorem dX6_rota_87 : decode cX6_rota 87 = .ok (.ldc 222, 2) := by decide +kernel
theorem dX6_rota_89 : decode cX6_rota 89 = .ok (.if_icmp .ne 8, 3) := by decide +kernel
theorem dX6_rota_92 : decode cX6_rota 92 = .ok (.iload 4, 2) := by decide +kernel
theorem dX6_rota_94 : decode cX6_rota 94 = .ok (.goto 15, 3) := by decide +kernel
theorem dX6_rota_97 : decode cX6_rota 97 = .ok (.aload_n 0, 1) := by decide +kernel
theorem dX6_rota_98 : decode cX6_rota 98 = .ok (.getfield 66, 3) := by decide +kernel
theorem dX6_rota_101 : decode cX6_rota 101 = .ok (.getfield 233, 3) := by decide +kernel
theorem dX6_rota_104 : decode cX6_rota 104 = .ok (.getfield 177, 3) := by decide +kernel
theorem dX6_rota_107 : decode cX6_rota 107 = .ok (.iload_n 3, 1) := by decide +kernel
theorem dX6_rota_108 : decode cX6_rota 108 = .ok (.iaload, 1) := by decide +kernel
theorem dX6_rota_109 : decode cX6_rota 109 = .ok (.ireturn, 1) := by decide +kernel
theorem dX6_meets_0 : decode cX6_meets 0 = .ok (.aload_n 0, 1) := by decide +kernel
theorem dX6_meets_1 : decode cX6_meets 1 = .ok (.getfield 26, 3) := by decide +kernel
theorem dX6_meets_4 : decode cX6_meets 4 = .ok (.iload_n 1, 1) := by decide +kernel
theorem dX6_meets_5 : decode cX6_meets 5 = .ok (.invokevirtual 168, 3) := by decide +kernel
theorem dX6_meets_8 : decode cX6_meets 8 = .ok (.ifCond .eq 19, 3) := by decide +kernel
theorem dX6_meets_11 : decode cX6_meets 11 = .ok (.aload_n 0, 1) := by decide +kernel
theorem dX6_meets_12 : decode cX6_meets 12 = .ok (.getfield 26, 3) := by decide +kernel
theorem dX6_meets_15 : decode cX6_meets 15 = .ok (.iload_n 2, 1) := by decide +kernel
theorem dX6_meets_16 : decode cX6_meets 16 = .ok (.invokevirtual 168, 3) := by decide +kernel
theorem dX6_meets_19 : decode cX6_meets 19 = .ok (.ifCond .eq 8, 3) := by decide +kernel
theorem dX6_meets_22 : decode cX6_meets 22 = .ok (.iload_n 1, 1) := by decide +kernel
theorem dX6_meets_23 : decode cX6_meets 23 = .ok (.iload_n 2, 1) := by decide +kernel
theorem dX6_meets_24 : decode cX6_meets 24 = .ok (.if_icmp .ne 6, 3) := by decide +kernel
theorem dX6_meets_27 : decode cX6_meets 27 = .ok (.ldc 78, 2) := by decide +kernel
theorem dX6_meets_29 : decode cX6_meets 29 = .ok (.ireturn, 1) := by decide +kernel
theorem dX6_meets_30 : decode cX6_meets 30 = .ok (.iconst 0, 1) := by decide +kernel
theorem dX6_meets_31 : decode cX6_meets 31 = .ok (.istore_n 3, 1) := by decide +kernel
theorem dX6_meets_32 : decode cX6_meets 32 = .ok (.iload_n 3, 1) := by decide +kernel
theorem dX6_meets_33 : decode cX6_meets 33 = .ok (.bipush 60, 2) := by decide +kernel
theorem dX6_meets_35 : decode cX6_meets 35 = .ok (.if_icmp .gt 43, 3) := by decide +kernel
theorem dX6_meets_38 : decode cX6_meets 38 = .ok (.aload_n 0, 1) := by decide +kernel
theorem dX6_meets_39 : decode cX6_meets 39 = .ok (.getfield 26, 3) := by decide +kernel
theorem dX6_meets_42 : decode cX6_meets 42 = .ok (.iload_n 1, 1) := by decide +kernel
theorem dX6_meets_43 : decode cX6_meets 43 = .ok (.iload_n 3, 1) := by decide +kernel
theorem dX6_meets_44 : decode cX6_meets 44 = .ok (.invokevirtual 196, 3) := by decide +kernel
theorem dX6_meets_47 : decode cX6_meets 47 = .ok (.istore 4, 2) := by decide +kernel
theorem dX6_meets_49 : decode cX6_meets 49 = .ok (.iload 4, 2) := by decide +kernel
theorem dX6_meets_51 : decode cX6_meets 51 = .ok (.ldc 222, 2) := by decide +kernel
theorem dX6_meets_53 : decode cX6_meets 53 = .ok (.if_icmp .eq 19, 3) := by decide +kernel
theorem dX6_meets_56 : decode cX6_meets 56 = .ok (.iload 4, 2) := by decide +kernel
theorem dX6_meets_58 : decode cX6_meets 58 = .ok (.aload_n 0, 1) := by decide +kernel
theorem dX6_meets_59 : decode cX6_meets 59 = .ok (.getfield 26, 3) := by decide +kernel
theorem dX6_meets_62 : decode cX6_meets 62 = .ok (.iload_n 2, 1) := by decide +kernel
theorem dX6_meets_63 : decode cX6_meets 63 = .ok (.iload_n 3, 1) := by decide +kernel
theorem dX6_meets_64 : decode cX6_meets 64 = .ok (.invokevirtual 196, 3) := by decide +kernel
theorem dX6_meets_67 : decode cX6_meets 67 = .ok (.if_icmp .ne 5, 3) := by decide +kernel
theorem dX6_meets_70 : decode cX6_meets 70 = .ok (.iload_n 3, 1) := by decide +kernel
theorem dX6_meets_71 : decode cX6_meets 71 = .ok (.ireturn, 1) := by decide +kernel
theorem dX6_meets_72 : decode cX6_meets 72 = .ok (.iinc 3 1, 3) := by decide +kernel
theorem dX6_meets_75 : decode cX6_meets 75 = .ok (.goto (-43), 3) := by decide +kernel
theorem dX6_meets_78 : decode cX6_meets 78 = .ok (.ldc 222, 2) := by decide +kernel
theorem dX6_meets_80 : decode cX6_meets 80 = .ok (.ireturn, 1) := by decide +kernel
theorem dX6_lost_0 : decode cX6_lost 0 = .ok (.aload_n 0, 1) := by decide +kernel
theorem dX6_lost_1 : decode cX6_lost 1 = .ok (.invokevirtual 154, 3) := by decide +kernel
theorem dX6_lost_4 : decode cX6_lost 4 = .ok (.ifCond .eq 6, 3) := by decide +kernel
theorem dX6_lost_7 : decode cX6_lost 7 = .ok (.ldc 153, 2) := by decide +kernel
theorem dX6_lost_9 : decode cX6_lost 9 = .ok (.ireturn, 1) := by decide +kernel
theorem dX6_lost_10 : decode cX6_lost 10 = .ok (.iload_n 1, 1) := by decide +kernel
theorem dX6_lost_11 : decode cX6_lost 11 = .ok (.iconst 1, 1) := by decide +kernel
theorem dX6_lost_12 : decode cX6_lost 12 = .ok (.bipush 60, 2) := by decide +kernel
theorem dX6_lost_14 : decode cX6_lost 14 = .ok (.invokestatic 74, 3) := by decide +kernel
theorem dX6_lost_17 : decode cX6_lost 17 = .ok (.ifCond .ne 6, 3) := by decide +kernel
theorem dX6_lost_20 : decode cX6_lost 20 = .ok (.ldc 78, 2) := by decide +kernel
theorem dX6_lost_22 : decode cX6_lost 22 = .ok (.ireturn, 1) := by decide +kernel
theorem dX6_lost_23 : decode cX6_lost 23 = .ok (.iconst 0, 1) := by decide +kernel
theorem dX6_lost_24 : decode cX6_lost 24 = .ok (.istore_n 2, 1) := by decide +kernel
theorem dX6_lost_25 : decode cX6_lost 25 = .ok (.iconst 0, 1) := by decide +kernel
theorem dX6_lost_26 : decode cX6_lost 26 = .ok (.istore_n 3, 1) := by decide +kernel
theorem dX6_lost_27 : decode cX6_lost 27 = .ok (.iload_n 3, 1) := by decide +kernel
theorem dX6_lost_28 : decode cX6_lost 28 = .ok (.iload_n 1, 1) := by decide +kernel
theorem dX6_lost_29 : decode cX6_lost 29 = .ok (.if_icmp .ge 23, 3) := by decide +kernel
theorem dX6_lost_32 : decode cX6_lost 32 = .ok (.iload_n 2, 1) := by decide +kernel
theorem dX6_lost_33 : decode cX6_lost 33 = .ok (.aload_n 0, 1) := by decide +kernel
theorem dX6_lost_34 : decode cX6_lost 34 = .ok (.getfield 26, 3) := by decide +kernel
theorem dX6_lost_37 : decode cX6_lost 37 = .ok (.iload_n 3, 1) := by decide +kernel
theorem dX6_lost_38 : decode cX6_lost 38 = .ok (.invokevirtual 200, 3) := by decide +kernel
theorem dX6_lost_41 : decode cX6_lost 41 = .ok (.invokestatic 236, 3) := by decide +kernel
theorem dX6_lost_44 : decode cX6_lost 44 = .ok (.iadd, 1) := by decide +kernel
theorem dX6_lost_45 : decode cX6_lost 45 = .ok (.istore_n 2, 1) := by decide +kernel
theorem dX6_lost_46 : decode cX6_lost 46 = .ok (.iinc 3 1, 3) := by decide +kernel
theorem dX6_lost_49 : decode cX6_lost 49 = .ok (.goto (-22), 3) := by decide +kernel
theorem dX6_lost_52 : decode cX6_lost 52 = .ok (.iload_n 2, 1) := by decide +kernel
theorem dX6_lost_53 : decode cX6_lost 53 = .ok (.ireturn, 1) := by decide +kernel
theorem dX6_swaps_0 : decode cX6_swaps 0 = .ok (.aload_n 0, 1) := by decide +kernel
theorem dX6_swaps_1 : decode cX6_swaps 1 = .ok (.invokevirtual 154, 3) := by decide +kernel
theorem dX6_swaps_4 : decode cX6_swaps 4 = .ok (.ifCond .eq 6, 3) := by decide +kernel
theorem dX6_swaps_7 : decode cX6_swaps 7 = .ok (.ldc 153, 2) := by decide +kernel
theorem dX6_swaps_9 : decode cX6_swaps 9 = .ok (.ireturn, 1) := by decide +kernel
theorem dX6_swaps_10 : decode cX6_swaps 10 = .ok (.iload_n 1, 1) := by decide +kernel
theorem dX6_swaps_11 : decode cX6_swaps 11 = .ok (.iconst 1, 1) := by decide +kernel
theorem dX6_swaps_12 : decode cX6_swaps 12 = .ok (.bipush 60, 2) := by decide +kernel
theorem dX6_swaps_14 : decode cX6_swaps 14 = .ok (.invokestatic 74, 3) := by decide +kernel
theorem dX6_swaps_17 : decode cX6_swaps 17 = .ok (.ifCond .eq 12, 3) := by decide +kernel
theorem dX6_swaps_20 : decode cX6_swaps 20 = .ok (.iload_n 2, 1) := by decide +kernel
theorem dX6_swaps_21 : decode cX6_swaps 21 = .ok (.iconst 0, 1) := by decide +kernel
theorem dX6_swaps_22 : decode cX6_swaps 22 = .ok (.iconst 1, 1) := by decide +kernel
theorem dX6_swaps_23 : decode cX6_swaps 23 = .ok (.invokestatic 74, 3) := by decide +kernel
theorem dX6_swaps_26 : decode cX6_swaps 26 = .ok (.ifCond .ne 6, 3) := by decide +kernel
theorem dX6_swaps_29 : decode cX6_swaps 29 = .ok (.ldc 78, 2) := by decide +kernel
theorem dX6_swaps_31 : decode cX6_swaps 31 = .ok (.ireturn, 1) := by decide +kernel
theorem dX6_swaps_32 : decode cX6_swaps 32 = .ok (.aload_n 0, 1) := by decide +kernel
theorem dX6_swaps_33 : decode cX6_swaps 33 = .ok (.invokevirtual 212, 3) := by decide +kernel
theorem dX6_swaps_36 : decode cX6_swaps 36 = .ok (.aload_n 0, 1) := by decide +kernel
theorem dX6_swaps_37 : decode cX6_swaps 37 = .ok (.getfield 30, 3) := by decide +kernel
theorem dX6_swaps_40 : decode cX6_swaps 40 = .ok (.iload_n 1, 1) := by decide +kernel
theorem dX6_swaps_41 : decode cX6_swaps 41 = .ok (.invokevirtual 215, 3) := by decide +kernel
theorem dX6_swaps_44 : decode cX6_swaps 44 = .ok (.aload_n 0, 1) := by decide +kernel
theorem dX6_swaps_45 : decode cX6_swaps 45 = .ok (.getfield 30, 3) := by decide +kernel
theorem dX6_swaps_48 : decode cX6_swaps 48 = .ok (.getfield 203, 3) := by decide +kernel
theorem dX6_swaps_51 : decode cX6_swaps 51 = .ok (.iconst 0, 1) := by decide +kernel
theorem dX6_swaps_52 : decode cX6_swaps 52 = .ok (.aload_n 0, 1) := by decide +kernel
theorem dX6_swaps_53 : decode cX6_swaps 53 = .ok (.getfield 37, 3) := by decide +kernel
theorem dX6_swaps_56 : decode cX6_swaps 56 = .ok (.iconst 0, 1) := by decide +kernel
theorem dX6_swaps_57 : decode cX6_swaps 57 = .ok (.iconst 5, 1) := by decide +kernel
theorem dX6_swaps_58 : decode cX6_swaps 58 = .ok (.invokestatic 241, 3) := by decide +kernel
theorem dX6_swaps_61 : decode cX6_swaps 61 = .ok (.iconst 0, 1) := by decide +kernel
theorem dX6_swaps_62 : decode cX6_swaps 62 = .ok (.istore_n 3, 1) := by decide +kernel
theorem dX6_swaps_63 : decode cX6_swaps 63 = .ok (.ldc 222, 2) := by decide +kernel
theorem dX6_swaps_65 : decode cX6_swaps 65 = .ok (.istore 4, 2) := by decide +kernel
theorem dX6_swaps_67 : decode cX6_swaps 67 = .ok (.iconst 0, 1) := by decide +kernel
theorem dX6_swaps_68 : decode cX6_swaps 68 = .ok (.istore 5, 2) := by decide +kernel
theorem dX6_swaps_70 : decode cX6_swaps 70 = .ok (.iload 5, 2) := by decide +kernel
theorem dX6_swaps_72 : decode cX6_swaps 72 = .ok (.aload_n 0, 1) := by decide +kernel
theorem dX6_swaps_73 : decode cX6_swaps 73 = .ok (.getfield 26, 3) := by decide +kernel
theorem dX6_swaps_76 : decode cX6_swaps 76 = .ok (.getfield 143, 3) := by decide +kernel
theorem dX6_swaps_79 : decode cX6_swaps 79 = .ok (.if_icmp .ge 70, 3) := by decide +kernel
theorem dX6_swaps_82 : decode cX6_swaps 82 = .ok (.iload 5, 2) := by decide +kernel
theorem dX6_swaps_84 : decode cX6_swaps 84 = .ok (.iconst 1, 1) := by decide +kernel
theorem dX6_swaps_85 : decode cX6_swaps 85 = .ok (.iadd, 1) := by decide +kernel
theorem dX6_swaps_86 : decode cX6_swaps 86 = .ok (.istore 6, 2) := by decide +kernel
theorem dX6_swaps_88 : decode cX6_swaps 88 = .ok (.iload 6, 2) := by decide +kernel
theorem dX6_swaps_90 : decode cX6_swaps 90 = .ok (.aload_n 0, 1) := by decide +kernel
theorem dX6_swaps_91 : decode cX6_swaps 91 = .ok (.getfield 26, 3) := by decide +kernel
theorem dX6_swaps_94 : decode cX6_swaps 94 = .ok (.getfield 143, 3) := by decide +kernel
theorem dX6_swaps_97 : decode cX6_swaps 97 = .ok (.if_icmp .ge 46, 3) := by decide +kernel
theorem dX6_swaps_100 : decode cX6_swaps 100 = .ok (.aload_n 0, 1) := by decide +kernel
theorem dX6_swaps_101 : decode cX6_swaps 101 = .ok (.iload 5, 2) := by decide +kernel
theorem dX6_swaps_103 : decode cX6_swaps 103 = .ok (.iload 6, 2) := by decide +kernel
theorem dX6_swaps_105 : decode cX6_swaps 105 = .ok (.iload_n 1, 1) := by decide +kernel
theorem dX6_swaps_106 : decode cX6_swaps 106 = .ok (.invokevirtual 247, 3) := by decide +kernel
theorem dX6_swaps_109 : decode cX6_swaps 109 = .ok (.ifCond .eq 28, 3) := by decide +kernel
theorem dX6_swaps_112 : decode cX6_swaps 112 = .ok (.iinc 3 1, 3) := by decide +kernel
theorem dX6_swaps_115 : decode cX6_swaps 115 = .ok (.iload 4, 2) := by decide +kernel
theorem dX6_swaps_117 : decode cX6_swaps 117 = .ok (.ldc 222, 2) := by decide +kernel
theorem dX6_swaps_119 : decode cX6_swaps 119 = .ok (.if_icmp .ne 14, 3) := by decide +kernel
theorem dX6_swaps_122 : decode cX6_swaps 122 = .ok (.bipush 10, 2) := by decide +kernel
theorem dX6_swaps_124 : decode cX6_swaps 124 = .ok (.iload 5, 2) := by decide +kernel
theorem dX6_swaps_126 : decode cX6_swaps 126 = .ok (.imul, 1) := by decide +kernel
theorem dX6_swaps_127 : decode cX6_swaps 127 = .ok (.iload 6, 2) := by decide +kernel
theorem dX6_swaps_129 : decode cX6_swaps 129 = .ok (.iadd, 1) := by decide +kernel
theorem dX6_swaps_130 : decode cX6_swaps 130 = .ok (.goto 5, 3) := by decide +kernel
theorem dX6_swaps_133 : decode cX6_swaps 133 = .ok (.iload 4, 2) := by decide +kernel
theorem dX6_swaps_135 : decode cX6_swaps 135 = .ok (.istore 4, 2) := by decide +kernel
theorem dX6_swaps_137 : decode cX6_swaps 137 = .ok (.iinc 6 1, 3) := by decide +kernel
theorem dX6_swaps_140 : decode cX6_swaps 140 = .ok (.goto (-52), 3) := by decide +kernel
theorem dX6_swaps_143 : decode cX6_swaps 143 = .ok (.iinc 5 1, 3) := by decide +kernel
theorem dX6_swaps_146 : decode cX6_swaps 146 = .ok (.goto (-76), 3) := by decide +kernel
theorem dX6_swaps_149 : decode cX6_swaps 149 = .ok (.iload_n 2, 1) := by decide +kernel
theorem dX6_swaps_150 : decode cX6_swaps 150 = .ok (.ifCond .ne 7, 3) := by decide +kernel
theorem dX6_swaps_153 : decode cX6_swaps 153 = .ok (.iload_n 3, 1) := by decide +kernel
theorem dX6_swaps_154 : decode cX6_swaps 154 = .ok (.goto 5, 3) := by decide +kernel
theorem dX6_swaps_157 : decode cX6_swaps 157 = .ok (.iload 4, 2) := by decide +kernel
theorem dX6_swaps_159 : decode cX6_swaps 159 = .ok (.ireturn, 1) := by decide +kernel
theorem dX6_soon_0 : decode cX6_soon 0 = .ok (.aload_n 0, 1) := by decide +kernel
theorem dX6_soon_1 : decode cX6_soon 1 = .ok (.getfield 26, 3) := by decide +kernel
theorem dX6_soon_4 : decode cX6_soon 4 = .ok (.iload_n 1, 1) := by decide +kernel
theorem dX6_soon_5 : decode cX6_soon 5 = .ok (.invokevirtual 174, 3) := by decide +kernel
theorem dX6_soon_8 : decode cX6_soon 8 = .ok (.ifCond .eq 12, 3) := by decide +kernel
theorem dX6_soon_11 : decode cX6_soon 11 = .ok (.iload_n 2, 1) := by decide +kernel
theorem dX6_soon_12 : decode cX6_soon 12 = .ok (.iconst 0, 1) := by decide +kernel
theorem dX6_soon_13 : decode cX6_soon 13 = .ok (.iconst 1, 1) := by decide +kernel
theorem dX6_soon_14 : decode cX6_soon 14 = .ok (.invokestatic 74, 3) := by decide +kernel
theorem dX6_soon_17 : decode cX6_soon 17 = .ok (.ifCond .ne 6, 3) := by decide +kernel
theorem dX6_soon_20 : decode cX6_soon 20 = .ok (.ldc 78, 2) := by decide +kernel
theorem dX6_soon_22 : decode cX6_soon 22 = .ok (.ireturn, 1) := by decide +kernel
theorem dX6_soon_23 : decode cX6_soon 23 = .ok (.ldc 222, 2) := by decide +kernel
theorem dX6_soon_25 : decode cX6_soon 25 = .ok (.istore_n 3, 1) := by decide +kernel
theorem dX6_soon_26 : decode cX6_soon 26 = .ok (.bipush 61, 2) := by decide +kernel
theorem dX6_soon_28 : decode cX6_soon 28 = .ok (.istore 4, 2) := by decide +kernel
theorem dX6_soon_30 : decode cX6_soon 30 = .ok (.aload_n 0, 1) := by decide +kernel
theorem dX6_soon_31 : decode cX6_soon 31 = .ok (.getfield 26, 3) := by decide +kernel
theorem dX6_soon_34 : decode cX6_soon 34 = .ok (.aload_n 0, 1) := by decide +kernel
theorem dX6_soon_35 : decode cX6_soon 35 = .ok (.getfield 33, 3) := by decide +kernel
theorem dX6_soon_38 : decode cX6_soon 38 = .ok (.invokevirtual 133, 3) := by decide +kernel
theorem dX6_soon_41 : decode cX6_soon 41 = .ok (.iconst 0, 1) := by decide +kernel
theorem dX6_soon_42 : decode cX6_soon 42 = .ok (.istore 5, 2) := by decide +kernel
theorem dX6_soon_44 : decode cX6_soon 44 = .ok (.iload 5, 2) := by decide +kernel
theorem dX6_soon_46 : decode cX6_soon 46 = .ok (.aload_n 0, 1) := by decide +kernel
theorem dX6_soon_47 : decode cX6_soon 47 = .ok (.getfield 26, 3) := by decide +kernel
theorem dX6_soon_50 : decode cX6_soon 50 = .ok (.getfield 143, 3) := by decide +kernel
theorem dX6_soon_53 : decode cX6_soon 53 = .ok (.if_icmp .ge 62, 3) := by decide +kernel
theorem dX6_soon_56 : decode cX6_soon 56 = .ok (.aload_n 0, 1) := by decide +kernel
theorem dX6_soon_57 : decode cX6_soon 57 = .ok (.getfield 30, 3) := by decide +kernel
theorem dX6_soon_60 : decode cX6_soon 60 = .ok (.aload_n 0, 1) := by decide +kernel
theorem dX6_soon_61 : decode cX6_soon 61 = .ok (.getfield 33, 3) := by decide +kernel
theorem dX6_soon_64 : decode cX6_soon 64 = .ok (.invokevirtual 137, 3) := by decide +kernel
theorem dX6_soon_67 : decode cX6_soon 67 = .ok (.aload_n 0, 1) := by decide +kernel
theorem dX6_soon_68 : decode cX6_soon 68 = .ok (.getfield 30, 3) := by decide +kernel
theorem dX6_soon_71 : decode cX6_soon 71 = .ok (.getfield 177, 3) := by decide +kernel
theorem dX6_soon_74 : decode cX6_soon 74 = .ok (.iload 5, 2) := by decide +kernel
theorem dX6_soon_76 : decode cX6_soon 76 = .ok (.iload_n 1, 1) := by decide +kernel
theorem dX6_soon_77 : decode cX6_soon 77 = .ok (.iastore, 1) := by decide +kernel
theorem dX6_soon_78 : decode cX6_soon 78 = .ok (.aload_n 0, 1) := by decide +kernel
theorem dX6_soon_79 : decode cX6_soon 79 = .ok (.getfield 30, 3) := by decide +kernel
theorem dX6_soon_82 : decode cX6_soon 82 = .ok (.iload_n 1, 1) := by decide +kernel
theorem dX6_soon_83 : decode cX6_soon 83 = .ok (.invokevirtual 219, 3) := by decide +kernel
theorem dX6_soon_86 : decode cX6_soon 86 = .ok (.istore 6, 2) := by decide +kernel
theorem dX6_soon_88 : decode cX6_soon 88 = .ok (.iload 6, 2) := by decide +kernel
theorem dX6_soon_90 : decode cX6_soon 90 = .ok (.ldc 222, 2) := by decide +kernel
theorem dX6_soon_92 : decode cX6_soon 92 = .ok (.if_icmp .eq 17, 3) := by decide +kernel
theorem dX6_soon_95 : decode cX6_soon 95 = .ok (.iload 6, 2) := by decide +kernel
theorem dX6_soon_97 : decode cX6_soon 97 = .ok (.iload 4, 2) := by decide +kernel
theorem dX6_soon_99 : decode cX6_soon 99 = .ok (.if_icmp .ge 10, 3) := by decide +kernel
theorem dX6_soon_102 : decode cX6_soon 102 = .ok (.iload 5, 2) := by decide +kernel
theorem dX6_soon_104 : decode cX6_soon 104 = .ok (.istore_n 3, 1) := by decide +kernel
theorem dX6_soon_105 : decode cX6_soon 105 = .ok (.iload 6, 2) := by decide +kernel
theorem dX6_soon_107 : decode cX6_soon 107 = .ok (.istore 4, 2) := by decide +kernel
theorem dX6_soon_109 : decode cX6_soon 109 = .ok (.iinc 5 1, 3) := by decide +kernel
theorem dX6_soon_112 : decode cX6_soon 112 = .ok (.goto (-68), 3) := by decide +kernel
theorem dX6_soon_115 : decode cX6_soon 115 = .ok (.iload_n 2, 1) := by decide +kernel
theorem dX6_soon_116 : decode cX6_soon 116 = .ok (.ifCond .eq 9, 3) := by decide +kernel
theorem dX6_soon_119 : decode cX6_soon 119 = .ok (.iload_n 3, 1) := by decide +kernel
theorem dX6_soon_120 : decode cX6_soon 120 = .ok (.ldc 222, 2) := by decide +kernel
theorem dX6_soon_122 : decode cX6_soon 122 = .ok (.if_icmp .ne 7, 3) := by decide +kernel
theorem dX6_soon_125 : decode cX6_soon 125 = .ok (.iload_n 3, 1) := by decide +kernel
theorem dX6_soon_126 : decode cX6_soon 126 = .ok (.goto 5, 3) := by decide +kernel
theorem dX6_soon_129 : decode cX6_soon 129 = .ok (.iload 4, 2) := by decide +kernel
theorem dX6_soon_131 : decode cX6_soon 131 = .ok (.ireturn, 1) := by decide +kernel
theorem dX6_who_0 : decode cX6_who 0 = .ok (.aload_n 0, 1) := by decide +kernel
theorem dX6_who_1 : decode cX6_who 1 = .ok (.iload_n 1, 1) := by decide +kernel
theorem dX6_who_2 : decode cX6_who 2 = .ok (.iload_n 2, 1) := by decide +kernel
theorem dX6_who_3 : decode cX6_who 3 = .ok (.iload_n 3, 1) := by decide +kernel
theorem dX6_who_4 : decode cX6_who 4 = .ok (.iload 4, 2) := by decide +kernel
theorem dX6_who_6 : decode cX6_who 6 = .ok (.iload 5, 2) := by decide +kernel
theorem dX6_who_8 : decode cX6_who 8 = .ok (.invokevirtual 250, 3) := by decide +kernel
theorem dX6_who_11 : decode cX6_who 11 = .ok (.istore 6, 2) := by decide +kernel
theorem dX6_who_13 : decode cX6_who 13 = .ok (.iload 6, 2) := by decide +kernel
theorem dX6_who_15 : decode cX6_who 15 = .ok (.ifCond .eq 6, 3) := by decide +kernel
theorem dX6_who_18 : decode cX6_who 18 = .ok (.iload 6, 2) := by decide +kernel
theorem dX6_who_20 : decode cX6_who 20 = .ok (.ireturn, 1) := by decide +kernel
theorem dX6_who_21 : decode cX6_who 21 = .ok (.iconst 0, 1) := by decide +kernel
theorem dX6_who_22 : decode cX6_who 22 = .ok (.istore 7, 2) := by decide +kernel
theorem dX6_who_24 : decode cX6_who 24 = .ok (.iconst 1, 1) := by decide +kernel
theorem dX6_who_25 : decode cX6_who 25 = .ok (.istore 8, 2) := by decide +kernel
theorem dX6_who_27 : decode cX6_who 27 = .ok (.iload 8, 2) := by decide +kernel
theorem dX6_who_29 : decode cX6_who 29 = .ok (.iconst 5, 1) := by decide +kernel
theorem dX6_who_30 : decode cX6_who 30 = .ok (.if_icmp .gt 50, 3) := by decide +kernel
theorem dX6_who_33 : decode cX6_who 33 = .ok (.aload_n 0, 1) := by decide +kernel
theorem dX6_who_34 : decode cX6_who 34 = .ok (.invokevirtual 212, 3) := by decide +kernel
theorem dX6_who_37 : decode cX6_who 37 = .ok (.aload_n 0, 1) := by decide +kernel
theorem dX6_who_38 : decode cX6_who 38 = .ok (.getfield 30, 3) := by decide +kernel
theorem dX6_who_41 : decode cX6_who 41 = .ok (.getfield 253, 3) := by decide +kernel
theorem dX6_who_44 : decode cX6_who 44 = .ok (.iload_n 2, 1) := by decide +kernel
theorem dX6_who_45 : decode cX6_who 45 = .ok (.iload 8, 2) := by decide +kernel
theorem dX6_who_47 : decode cX6_who 47 = .ok (.iastore, 1) := by decide +kernel
theorem dX6_who_48 : decode cX6_who 48 = .ok (.iload 7, 2) := by decide +kernel
theorem dX6_who_50 : decode cX6_who 50 = .ok (.aload_n 0, 1) := by decide +kernel
theorem dX6_who_51 : decode cX6_who 51 = .ok (.iload_n 1, 1) := by decide +kernel
theorem dX6_who_52 : decode cX6_who 52 = .ok (.iload_n 3, 1) := by decide +kernel
theorem dX6_who_53 : decode cX6_who 53 = .ok (.iload 4, 2) := by decide +kernel
theorem dX6_who_55 : decode cX6_who 55 = .ok (.iload 5, 2) := by decide +kernel
theorem dX6_who_57 : decode cX6_who 57 = .ok (.invokevirtual 256, 3) := by decide +kernel
theorem dX6_who_60 : decode cX6_who 60 = .ok (.ifCond .eq 10, 3) := by decide +kernel
theorem dX6_who_63 : decode cX6_who 63 = .ok (.iconst 1, 1) := by decide +kernel
theorem dX6_who_64 : decode cX6_who 64 = .ok (.iload 8, 2) := by decide +kernel
theorem dX6_who_66 : decode cX6_who 66 = .ok (.ishl, 1) := by decide +kernel
theorem dX6_who_67 : decode cX6_who 67 = .ok (.goto 4, 3) := by decide +kernel
theorem dX6_who_70 : decode cX6_who 70 = .ok (.iconst 0, 1) := by decide +kernel
theorem dX6_who_71 : decode cX6_who 71 = .ok (.ior, 1) := by decide +kernel
theorem dX6_who_72 : decode cX6_who 72 = .ok (.istore 7, 2) := by decide +kernel
theorem dX6_who_74 : decode cX6_who 74 = .ok (.iinc 8 1, 3) := by decide +kernel
theorem dX6_who_77 : decode cX6_who 77 = .ok (.goto (-50), 3) := by decide +kernel
theorem dX6_who_80 : decode cX6_who 80 = .ok (.iload 7, 2) := by decide +kernel
theorem dX6_who_82 : decode cX6_who 82 = .ok (.ireturn, 1) := by decide +kernel
theorem dX6_firsts_0 : decode cX6_firsts 0 = .ok (.aload_n 0, 1) := by decide +kernel
theorem dX6_firsts_1 : decode cX6_firsts 1 = .ok (.iload_n 1, 1) := by decide +kernel
theorem dX6_firsts_2 : decode cX6_firsts 2 = .ok (.iload_n 2, 1) := by decide +kernel
theorem dX6_firsts_3 : decode cX6_firsts 3 = .ok (.iload_n 3, 1) := by decide +kernel
theorem dX6_firsts_4 : decode cX6_firsts 4 = .ok (.iload 4, 2) := by decide +kernel
theorem dX6_firsts_6 : decode cX6_firsts 6 = .ok (.iload 5, 2) := by decide +kernel
theorem dX6_firsts_8 : decode cX6_firsts 8 = .ok (.invokevirtual 250, 3) := by decide +kernel
theorem dX6_firsts_11 : decode cX6_firsts 11 = .ok (.istore 6, 2) := by decide +kernel
theorem dX6_firsts_13 : decode cX6_firsts 13 = .ok (.iload 6, 2) := by decide +kernel
theorem dX6_firsts_15 : decode cX6_firsts 15 = .ok (.ifCond .eq 6, 3) := by decide +kernel
theorem dX6_firsts_18 : decode cX6_firsts 18 = .ok (.iload 6, 2) := by decide +kernel
theorem dX6_firsts_20 : decode cX6_firsts 20 = .ok (.ireturn, 1) := by decide +kernel
theorem dX6_firsts_21 : decode cX6_firsts 21 = .ok (.iconst 0, 1) := by decide +kernel
theorem dX6_firsts_22 : decode cX6_firsts 22 = .ok (.istore 7, 2) := by decide +kernel
theorem dX6_firsts_24 : decode cX6_firsts 24 = .ok (.iconst 0, 1) := by decide +kernel
theorem dX6_firsts_25 : decode cX6_firsts 25 = .ok (.istore 8, 2) := by decide +kernel
theorem dX6_firsts_27 : decode cX6_firsts 27 = .ok (.iload 8, 2) := by decide +kernel
theorem dX6_firsts_29 : decode cX6_firsts 29 = .ok (.aload_n 0, 1) := by decide +kernel
theorem dX6_firsts_30 : decode cX6_firsts 30 = .ok (.getfield 26, 3) := by decide +kernel
theorem dX6_firsts_33 : decode cX6_firsts 33 = .ok (.getfield 260, 3) := by decide +kernel
theorem dX6_firsts_36 : decode cX6_firsts 36 = .ok (.if_icmp .ge 50, 3) := by decide +kernel
theorem dX6_firsts_39 : decode cX6_firsts 39 = .ok (.aload_n 0, 1) := by decide +kernel
theorem dX6_firsts_40 : decode cX6_firsts 40 = .ok (.invokevirtual 212, 3) := by decide +kernel
theorem dX6_firsts_43 : decode cX6_firsts 43 = .ok (.aload_n 0, 1) := by decide +kernel
theorem dX6_firsts_44 : decode cX6_firsts 44 = .ok (.getfield 30, 3) := by decide +kernel
theorem dX6_firsts_47 : decode cX6_firsts 47 = .ok (.getfield 177, 3) := by decide +kernel
theorem dX6_firsts_50 : decode cX6_firsts 50 = .ok (.iload_n 2, 1) := by decide +kernel
theorem dX6_firsts_51 : decode cX6_firsts 51 = .ok (.iload 8, 2) := by decide +kernel
theorem dX6_firsts_53 : decode cX6_firsts 53 = .ok (.iastore, 1) := by decide +kernel
theorem dX6_firsts_54 : decode cX6_firsts 54 = .ok (.iload 7, 2) := by decide +kernel
theorem dX6_firsts_56 : decode cX6_firsts 56 = .ok (.aload_n 0, 1) := by decide +kernel
theorem dX6_firsts_57 : decode cX6_firsts 57 = .ok (.iload_n 1, 1) := by decide +kernel
theorem dX6_firsts_58 : decode cX6_firsts 58 = .ok (.iload_n 3, 1) := by decide +kernel
theorem dX6_firsts_59 : decode cX6_firsts 59 = .ok (.iload 4, 2) := by decide +kernel
theorem dX6_firsts_61 : decode cX6_firsts 61 = .ok (.iload 5, 2) := by decide +kernel
theorem dX6_firsts_63 : decode cX6_firsts 63 = .ok (.invokevirtual 256, 3) := by decide +kernel
theorem dX6_firsts_66 : decode cX6_firsts 66 = .ok (.ifCond .eq 10, 3) := by decide +kernel
theorem dX6_firsts_69 : decode cX6_firsts 69 = .ok (.iconst 1, 1) := by decide +kernel
theorem dX6_firsts_70 : decode cX6_firsts 70 = .ok (.iload 8, 2) := by decide +kernel
theorem dX6_firsts_72 : decode cX6_firsts 72 = .ok (.ishl, 1) := by decide +kernel
theorem dX6_firsts_73 : decode cX6_firsts 73 = .ok (.goto 4, 3) := by decide +kernel
theorem dX6_firsts_76 : decode cX6_firsts 76 = .ok (.iconst 0, 1) := by decide +kernel
theorem dX6_firsts_77 : decode cX6_firsts 77 = .ok (.ior, 1) := by decide +kernel
theorem dX6_firsts_78 : decode cX6_firsts 78 = .ok (.istore 7, 2) := by decide +kernel
theorem dX6_firsts_80 : decode cX6_firsts 80 = .ok (.iinc 8 1, 3) := by decide +kernel
theorem dX6_firsts_83 : decode cX6_firsts 83 = .ok (.goto (-56), 3) := by decide +kernel
theorem dX6_firsts_86 : decode cX6_firsts 86 = .ok (.iload 7, 2) := by decide +kernel
theorem dX6_firsts_88 : decode cX6_firsts 88 = .ok (.ireturn, 1) := by decide +kernel
theorem dX6_steps_0 : decode cX6_steps 0 = .ok (.aload_n 0, 1) := by decide +kernel
theorem dX6_steps_1 : decode cX6_steps 1 = .ok (.iload_n 1, 1) := by decide +kernel
theorem dX6_steps_2 : decode cX6_steps 2 = .ok (.iload_n 2, 1) := by decide +kernel
theorem dX6_steps_3 : decode cX6_steps 3 = .ok (.iload_n 3, 1) := by decide +kernel
theorem dX6_steps_4 : decode cX6_steps 4 = .ok (.iload 4, 2) := by decide +kernel
theorem dX6_steps_6 : decode cX6_steps 6 = .ok (.iload 5, 2) := by decide +kernel
theorem dX6_steps_8 : decode cX6_steps 8 = .ok (.invokevirtual 250, 3) := by decide +kernel
theorem dX6_steps_11 : decode cX6_steps 11 = .ok (.istore 6, 2) := by decide +kernel
theorem dX6_steps_13 : decode cX6_steps 13 = .ok (.iload 6, 2) := by decide +kernel
theorem dX6_steps_15 : decode cX6_steps 15 = .ok (.ifCond .eq 6, 3) := by decide +kernel
theorem dX6_steps_18 : decode cX6_steps 18 = .ok (.iload 6, 2) := by decide +kernel
theorem dX6_steps_20 : decode cX6_steps 20 = .ok (.ireturn, 1) := by decide +kernel
theorem dX6_steps_21 : decode cX6_steps 21 = .ok (.iconst 0, 1) := by decide +kernel
theorem dX6_steps_22 : decode cX6_steps 22 = .ok (.istore 7, 2) := by decide +kernel
theorem dX6_steps_24 : decode cX6_steps 24 = .ok (.iconst 0, 1) := by decide +kernel
theorem dX6_steps_25 : decode cX6_steps 25 = .ok (.istore 8, 2) := by decide +kernel
theorem dX6_steps_27 : decode cX6_steps 27 = .ok (.iload 8, 2) := by decide +kernel
theorem dX6_steps_29 : decode cX6_steps 29 = .ok (.iconst 4, 1) := by decide +kernel
theorem dX6_steps_30 : decode cX6_steps 30 = .ok (.if_icmp .gt 50, 3) := by decide +kernel
theorem dX6_steps_33 : decode cX6_steps 33 = .ok (.aload_n 0, 1) := by decide +kernel
theorem dX6_steps_34 : decode cX6_steps 34 = .ok (.invokevirtual 212, 3) := by decide +kernel
theorem dX6_steps_37 : decode cX6_steps 37 = .ok (.aload_n 0, 1) := by decide +kernel
theorem dX6_steps_38 : decode cX6_steps 38 = .ok (.getfield 30, 3) := by decide +kernel
theorem dX6_steps_41 : decode cX6_steps 41 = .ok (.getfield 180, 3) := by decide +kernel
theorem dX6_steps_44 : decode cX6_steps 44 = .ok (.iload_n 2, 1) := by decide +kernel
theorem dX6_steps_45 : decode cX6_steps 45 = .ok (.iload 8, 2) := by decide +kernel
theorem dX6_steps_47 : decode cX6_steps 47 = .ok (.iastore, 1) := by decide +kernel
theorem dX6_steps_48 : decode cX6_steps 48 = .ok (.iload 7, 2) := by decide +kernel
theorem dX6_steps_50 : decode cX6_steps 50 = .ok (.aload_n 0, 1) := by decide +kernel
theorem dX6_steps_51 : decode cX6_steps 51 = .ok (.iload_n 1, 1) := by decide +kernel
theorem dX6_steps_52 : decode cX6_steps 52 = .ok (.iload_n 3, 1) := by decide +kernel
theorem dX6_steps_53 : decode cX6_steps 53 = .ok (.iload 4, 2) := by decide +kernel
theorem dX6_steps_55 : decode cX6_steps 55 = .ok (.iload 5, 2) := by decide +kernel
theorem dX6_steps_57 : decode cX6_steps 57 = .ok (.invokevirtual 256, 3) := by decide +kernel
theorem dX6_steps_60 : decode cX6_steps 60 = .ok (.ifCond .eq 10, 3) := by decide +kernel
theorem dX6_steps_63 : decode cX6_steps 63 = .ok (.iconst 1, 1) := by decide +kernel
theorem dX6_steps_64 : decode cX6_steps 64 = .ok (.iload 8, 2) := by decide +kernel
theorem dX6_steps_66 : decode cX6_steps 66 = .ok (.ishl, 1) := by decide +kernel
theorem dX6_steps_67 : decode cX6_steps 67 = .ok (.goto 4, 3) := by decide +kernel
theorem dX6_steps_70 : decode cX6_steps 70 = .ok (.iconst 0, 1) := by decide +kernel
theorem dX6_steps_71 : decode cX6_steps 71 = .ok (.ior, 1) := by decide +kernel
theorem dX6_steps_72 : decode cX6_steps 72 = .ok (.istore 7, 2) := by decide +kernel
theorem dX6_steps_74 : decode cX6_steps 74 = .ok (.iinc 8 1, 3) := by decide +kernel
theorem dX6_steps_77 : decode cX6_steps 77 = .ok (.goto (-50), 3) := by decide +kernel
theorem dX6_steps_80 : decode cX6_steps 80 = .ok (.iload 7, 2) := by decide +kernel
theorem dX6_steps_82 : decode cX6_steps 82 = .ok (.ireturn, 1) := by decide +kernel
theorem dX6_even_0 : decode cX6_even 0 = .ok (.aload_n 0, 1) := by decide +kernel
theorem dX6_even_1 : decode cX6_even 1 = .ok (.invokevirtual 154, 3) := by decide +kernel
theorem dX6_even_4 : decode cX6_even 4 = .ok (.ifCond .eq 6, 3) := by decide +kernel
theorem dX6_even_7 : decode cX6_even 7 = .ok (.ldc 153, 2) := by decide +kernel
theorem dX6_even_9 : decode cX6_even 9 = .ok (.ireturn, 1) := by decide +kernel
theorem dX6_even_10 : decode cX6_even 10 = .ok (.iload_n 1, 1) := by decide +kernel
theorem dX6_even_11 : decode cX6_even 11 = .ok (.iconst 0, 1) := by decide +kernel
theorem dX6_even_12 : decode cX6_even 12 = .ok (.bipush 60, 2) := by decide +kernel
theorem dX6_even_14 : decode cX6_even 14 = .ok (.invokestatic 74, 3) := by decide +kernel
theorem dX6_even_17 : decode cX6_even 17 = .ok (.ifCond .ne 6, 3) := by decide +kernel
theorem dX6_even_20 : decode cX6_even 20 = .ok (.ldc 78, 2) := by decide +kernel
theorem dX6_even_22 : decode cX6_even 22 = .ok (.ireturn, 1) := by decide +kernel
theorem dX6_even_23 : decode cX6_even 23 = .ok (.aload_n 0, 1) := by decide +kernel
theorem dX6_even_24 : decode cX6_even 24 = .ok (.invokevirtual 212, 3) := by decide +kernel
theorem dX6_even_27 : decode cX6_even 27 = .ok (.aload_n 0, 1) := by decide +kernel
theorem dX6_even_28 : decode cX6_even 28 = .ok (.getfield 30, 3) := by decide +kernel
theorem dX6_even_31 : decode cX6_even 31 = .ok (.iload_n 1, 1) := by decide +kernel
theorem dX6_even_32 : decode cX6_even 32 = .ok (.invokevirtual 215, 3) := by decide +kernel
theorem dX6_even_35 : decode cX6_even 35 = .ok (.aload_n 0, 1) := by decide +kernel
theorem dX6_even_36 : decode cX6_even 36 = .ok (.getfield 30, 3) := by decide +kernel
theorem dX6_even_39 : decode cX6_even 39 = .ok (.getfield 203, 3) := by decide +kernel
theorem dX6_even_42 : decode cX6_even 42 = .ok (.iconst 0, 1) := by decide +kernel
theorem dX6_even_43 : decode cX6_even 43 = .ok (.iaload, 1) := by decide +kernel
theorem dX6_even_44 : decode cX6_even 44 = .ok (.istore_n 2, 1) := by decide +kernel
theorem dX6_even_45 : decode cX6_even 45 = .ok (.aload_n 0, 1) := by decide +kernel
theorem dX6_even_46 : decode cX6_even 46 = .ok (.getfield 30, 3) := by decide +kernel
theorem dX6_even_49 : decode cX6_even 49 = .ok (.getfield 203, 3) := by decide +kernel
theorem dX6_even_52 : decode cX6_even 52 = .ok (.iconst 0, 1) := by decide +kernel
theorem dX6_even_53 : decode cX6_even 53 = .ok (.iaload, 1) := by decide +kernel
theorem dX6_even_54 : decode cX6_even 54 = .ok (.istore_n 3, 1) := by decide +kernel
theorem dX6_even_55 : decode cX6_even 55 = .ok (.iconst 1, 1) := by decide +kernel
theorem dX6_even_56 : decode cX6_even 56 = .ok (.istore 4, 2) := by decide +kernel
theorem dX6_even_58 : decode cX6_even 58 = .ok (.iload 4, 2) := by decide +kernel
theorem dX6_even_60 : decode cX6_even 60 = .ok (.aload_n 0, 1) := by decide +kernel
theorem dX6_even_61 : decode cX6_even 61 = .ok (.getfield 30, 3) := by decide +kernel
theorem dX6_even_64 : decode cX6_even 64 = .ok (.getfield 260, 3) := by decide +kernel
theorem dX6_even_67 : decode cX6_even 67 = .ok (.if_icmp .ge 39, 3) := by decide +kernel
theorem dX6_even_70 : decode cX6_even 70 = .ok (.iload_n 2, 1) := by decide +kernel
theorem dX6_even_71 : decode cX6_even 71 = .ok (.aload_n 0, 1) := by decide +kernel
theorem dX6_even_72 : decode cX6_even 72 = .ok (.getfield 30, 3) := by decide +kernel
theorem dX6_even_75 : decode cX6_even 75 = .ok (.getfield 203, 3) := by decide +kernel
theorem dX6_even_78 : decode cX6_even 78 = .ok (.iload 4, 2) := by decide +kernel
theorem dX6_even_80 : decode cX6_even 80 = .ok (.iaload, 1) := by decide +kernel
theorem dX6_even_81 : decode cX6_even 81 = .ok (.invokestatic 263, 3) := by decide +kernel
theorem dX6_even_84 : decode cX6_even 84 = .ok (.istore_n 2, 1) := by decide +kernel
theorem dX6_even_85 : decode cX6_even 85 = .ok (.iload_n 3, 1) := by decide +kernel
theorem dX6_even_86 : decode cX6_even 86 = .ok (.aload_n 0, 1) := by decide +kernel
theorem dX6_even_87 : decode cX6_even 87 = .ok (.getfield 30, 3) := by decide +kernel
theorem dX6_even_90 : decode cX6_even 90 = .ok (.getfield 203, 3) := by decide +kernel
theorem dX6_even_93 : decode cX6_even 93 = .ok (.iload 4, 2) := by decide +kernel
theorem dX6_even_95 : decode cX6_even 95 = .ok (.iaload, 1) := by decide +kernel
theorem dX6_even_96 : decode cX6_even 96 = .ok (.invokestatic 268, 3) := by decide +kernel
theorem dX6_even_99 : decode cX6_even 99 = .ok (.istore_n 3, 1) := by decide +kernel
theorem dX6_even_100 : decode cX6_even 100 = .ok (.iinc 4 1, 3) := by decide +kernel
theorem dX6_even_103 : decode cX6_even 103 = .ok (.goto (-45), 3) := by decide +kernel
theorem dX6_even_106 : decode cX6_even 106 = .ok (.iload_n 2, 1) := by decide +kernel
theorem dX6_even_107 : decode cX6_even 107 = .ok (.iload_n 3, 1) := by decide +kernel
theorem dX6_even_108 : decode cX6_even 108 = .ok (.isub, 1) := by decide +kernel
theorem dX6_even_109 : decode cX6_even 109 = .ok (.ireturn, 1) := by decide +kernel
theorem dX6_fever_0 : decode cX6_fever 0 = .ok (.aload_n 0, 1) := by decide +kernel
theorem dX6_fever_1 : decode cX6_fever 1 = .ok (.getfield 26, 3) := by decide +kernel
theorem dX6_fever_4 : decode cX6_fever 4 = .ok (.iload_n 1, 1) := by decide +kernel
theorem dX6_fever_5 : decode cX6_fever 5 = .ok (.invokevirtual 174, 3) := by decide +kernel
theorem dX6_fever_8 : decode cX6_fever 8 = .ok (.ifCond .eq 22, 3) := by decide +kernel
theorem dX6_fever_11 : decode cX6_fever 11 = .ok (.iload_n 2, 1) := by decide +kernel
theorem dX6_fever_12 : decode cX6_fever 12 = .ok (.iconst 0, 1) := by decide +kernel
theorem dX6_fever_13 : decode cX6_fever 13 = .ok (.bipush 10, 2) := by decide +kernel
theorem dX6_fever_15 : decode cX6_fever 15 = .ok (.invokestatic 74, 3) := by decide +kernel
theorem dX6_fever_18 : decode cX6_fever 18 = .ok (.ifCond .eq 12, 3) := by decide +kernel
theorem dX6_fever_21 : decode cX6_fever 21 = .ok (.iload_n 3, 1) := by decide +kernel
theorem dX6_fever_22 : decode cX6_fever 22 = .ok (.iconst 0, 1) := by decide +kernel
theorem dX6_fever_23 : decode cX6_fever 23 = .ok (.iconst 1, 1) := by decide +kernel
theorem dX6_fever_24 : decode cX6_fever 24 = .ok (.invokestatic 74, 3) := by decide +kernel
theorem dX6_fever_27 : decode cX6_fever 27 = .ok (.ifCond .ne 7, 3) := by decide +kernel
theorem dX6_fever_30 : decode cX6_fever 30 = .ok (.ldc2_w 271, 3) := by decide +kernel
theorem dX6_fever_33 : decode cX6_fever 33 = .ok (.lreturn, 1) := by decide +kernel
theorem dX6_fever_34 : decode cX6_fever 34 = .ok (.aload_n 0, 1) := by decide +kernel
theorem dX6_fever_35 : decode cX6_fever 35 = .ok (.getfield 26, 3) := by decide +kernel
theorem dX6_fever_38 : decode cX6_fever 38 = .ok (.iload_n 1, 1) := by decide +kernel
theorem dX6_fever_39 : decode cX6_fever 39 = .ok (.invokevirtual 209, 3) := by decide +kernel
theorem dX6_fever_42 : decode cX6_fever 42 = .ok (.istore 4, 2) := by decide +kernel
theorem dX6_fever_44 : decode cX6_fever 44 = .ok (.lconst 0, 1) := by decide +kernel
theorem dX6_fever_45 : decode cX6_fever 45 = .ok (.lstore 5, 2) := by decide +kernel
theorem dX6_fever_47 : decode cX6_fever 47 = .ok (.bipush 10, 2) := by decide +kernel
theorem dX6_fever_49 : decode cX6_fever 49 = .ok (.iload 4, 2) := by decide +kernel
theorem dX6_fever_51 : decode cX6_fever 51 = .ok (.invokestatic 236, 3) := by decide +kernel
theorem dX6_fever_54 : decode cX6_fever 54 = .ok (.invokestatic 273, 3) := by decide +kernel
theorem dX6_fever_57 : decode cX6_fever 57 = .ok (.lstore 7, 2) := by decide +kernel
theorem dX6_fever_59 : decode cX6_fever 59 = .ok (.iconst 0, 1) := by decide +kernel
theorem dX6_fever_60 : decode cX6_fever 60 = .ok (.istore 9, 2) := by decide +kernel
theorem dX6_fever_62 : decode cX6_fever 62 = .ok (.iload 9, 2) := by decide +kernel
theorem dX6_fever_64 : decode cX6_fever 64 = .ok (.bipush 64, 2) := by decide +kernel
theorem dX6_fever_66 : decode cX6_fever 66 = .ok (.if_icmp .ge 65, 3) := by decide +kernel
theorem dX6_fever_69 : decode cX6_fever 69 = .ok (.iload 9, 2) := by decide +kernel
theorem dX6_fever_71 : decode cX6_fever 71 = .ok (.iload 4, 2) := by decide +kernel
theorem dX6_fever_73 : decode cX6_fever 73 = .ok (.iconst (-1), 1) := by decide +kernel
theorem dX6_fever_74 : decode cX6_fever 74 = .ok (.ixor, 1) := by decide +kernel
theorem dX6_fever_75 : decode cX6_fever 75 = .ok (.iand, 1) := by decide +kernel
theorem dX6_fever_76 : decode cX6_fever 76 = .ok (.ifCond .ne 49, 3) := by decide +kernel
theorem dX6_fever_79 : decode cX6_fever 79 = .ok (.aload_n 0, 1) := by decide +kernel
theorem dX6_fever_80 : decode cX6_fever 80 = .ok (.getfield 26, 3) := by decide +kernel
theorem dX6_fever_83 : decode cX6_fever 83 = .ok (.iload 9, 2) := by decide +kernel
theorem dX6_fever_85 : decode cX6_fever 85 = .ok (.invokevirtual 277, 3) := by decide +kernel
theorem dX6_fever_88 : decode cX6_fever 88 = .ok (.ifCond .eq 37, 3) := by decide +kernel
theorem dX6_fever_91 : decode cX6_fever 91 = .ok (.iload 9, 2) := by decide +kernel
theorem dX6_fever_93 : decode cX6_fever 93 = .ok (.invokestatic 236, 3) := by decide +kernel
theorem dX6_fever_96 : decode cX6_fever 96 = .ok (.istore 10, 2) := by decide +kernel
theorem dX6_fever_98 : decode cX6_fever 98 = .ok (.lload 5, 2) := by decide +kernel
theorem dX6_fever_100 : decode cX6_fever 100 = .ok (.bipush 10, 2) := by decide +kernel
theorem dX6_fever_102 : decode cX6_fever 102 = .ok (.iload_n 2, 1) := by decide +kernel
theorem dX6_fever_103 : decode cX6_fever 103 = .ok (.isub, 1) := by decide +kernel
theorem dX6_fever_104 : decode cX6_fever 104 = .ok (.iload 10, 2) := by decide +kernel
theorem dX6_fever_106 : decode cX6_fever 106 = .ok (.invokestatic 273, 3) := by decide +kernel
theorem dX6_fever_109 : decode cX6_fever 109 = .ok (.iload_n 2, 1) := by decide +kernel
theorem dX6_fever_110 : decode cX6_fever 110 = .ok (.iload 4, 2) := by decide +kernel
theorem dX6_fever_112 : decode cX6_fever 112 = .ok (.invokestatic 236, 3) := by decide +kernel
theorem dX6_fever_115 : decode cX6_fever 115 = .ok (.iload 10, 2) := by decide +kernel
theorem dX6_fever_117 : decode cX6_fever 117 = .ok (.isub, 1) := by decide +kernel
theorem dX6_fever_118 : decode cX6_fever 118 = .ok (.invokestatic 273, 3) := by decide +kernel
theorem dX6_fever_121 : decode cX6_fever 121 = .ok (.lmul, 1) := by decide +kernel
theorem dX6_fever_122 : decode cX6_fever 122 = .ok (.ladd, 1) := by decide +kernel
theorem dX6_fever_123 : decode cX6_fever 123 = .ok (.lstore 5, 2) := by decide +kernel
theorem dX6_fever_125 : decode cX6_fever 125 = .ok (.iinc 9 1, 3) := by decide +kernel
theorem dX6_fever_128 : decode cX6_fever 128 = .ok (.goto (-66), 3) := by decide +kernel
theorem dX6_fever_131 : decode cX6_fever 131 = .ok (.lload 5, 2) := by decide +kernel
theorem dX6_fever_133 : decode cX6_fever 133 = .ok (.lload 7, 2) := by decide +kernel
theorem dX6_fever_135 : decode cX6_fever 135 = .ok (.invokestatic 280, 3) := by decide +kernel
theorem dX6_fever_138 : decode cX6_fever 138 = .ok (.lstore 9, 2) := by decide +kernel
theorem dX6_fever_140 : decode cX6_fever 140 = .ok (.iload_n 3, 1) := by decide +kernel
theorem dX6_fever_141 : decode cX6_fever 141 = .ok (.ifCond .ne 8, 3) := by decide +kernel
theorem dX6_fever_144 : decode cX6_fever 144 = .ok (.lload 5, 2) := by decide +kernel
theorem dX6_fever_146 : decode cX6_fever 146 = .ok (.goto 5, 3) := by decide +kernel
theorem dX6_fever_149 : decode cX6_fever 149 = .ok (.lload 7, 2) := by decide +kernel
theorem dX6_fever_151 : decode cX6_fever 151 = .ok (.lload 9, 2) := by decide +kernel
theorem dX6_fever_153 : decode cX6_fever 153 = .ok (.ldiv, 1) := by decide +kernel
theorem dX6_fever_154 : decode cX6_fever 154 = .ok (.lreturn, 1) := by decide +kernel
theorem dX6_drawn_0 : decode cX6_drawn 0 = .ok (.aload_n 0, 1) := by decide +kernel
theorem dX6_drawn_1 : decode cX6_drawn 1 = .ok (.invokevirtual 154, 3) := by decide +kernel
theorem dX6_drawn_4 : decode cX6_drawn 4 = .ok (.ifCond .eq 6, 3) := by decide +kernel
theorem dX6_drawn_7 : decode cX6_drawn 7 = .ok (.ldc 153, 2) := by decide +kernel
theorem dX6_drawn_9 : decode cX6_drawn 9 = .ok (.ireturn, 1) := by decide +kernel
theorem dX6_drawn_10 : decode cX6_drawn 10 = .ok (.iload_n 1, 1) := by decide +kernel
theorem dX6_drawn_11 : decode cX6_drawn 11 = .ok (.iconst 0, 1) := by decide +kernel
theorem dX6_drawn_12 : decode cX6_drawn 12 = .ok (.bipush 60, 2) := by decide +kernel
theorem dX6_drawn_14 : decode cX6_drawn 14 = .ok (.invokestatic 74, 3) := by decide +kernel
theorem dX6_drawn_17 : decode cX6_drawn 17 = .ok (.ifCond .eq 23, 3) := by decide +kernel
theorem dX6_drawn_20 : decode cX6_drawn 20 = .ok (.iload_n 2, 1) := by decide +kernel
theorem dX6_drawn_21 : decode cX6_drawn 21 = .ok (.iconst 1, 1) := by decide +kernel
theorem dX6_drawn_22 : decode cX6_drawn 22 = .ok (.ldc_w 284, 3) := by decide +kernel
theorem dX6_drawn_25 : decode cX6_drawn 25 = .ok (.invokestatic 74, 3) := by decide +kernel
theorem dX6_drawn_28 : decode cX6_drawn 28 = .ok (.ifCond .eq 12, 3) := by decide +kernel
theorem dX6_drawn_31 : decode cX6_drawn 31 = .ok (.iload_n 3, 1) := by decide +kernel
theorem dX6_drawn_32 : decode cX6_drawn 32 = .ok (.iconst 0, 1) := by decide +kernel
theorem dX6_drawn_33 : decode cX6_drawn 33 = .ok (.iconst 1, 1) := by decide +kernel
theorem dX6_drawn_34 : decode cX6_drawn 34 = .ok (.invokestatic 74, 3) := by decide +kernel
theorem dX6_drawn_37 : decode cX6_drawn 37 = .ok (.ifCond .ne 6, 3) := by decide +kernel
theorem dX6_drawn_40 : decode cX6_drawn 40 = .ok (.ldc 78, 2) := by decide +kernel
theorem dX6_drawn_42 : decode cX6_drawn 42 = .ok (.ireturn, 1) := by decide +kernel
theorem dX6_drawn_43 : decode cX6_drawn 43 = .ok (.aload_n 0, 1) := by decide +kernel
theorem dX6_drawn_44 : decode cX6_drawn 44 = .ok (.invokevirtual 212, 3) := by decide +kernel
theorem dX6_drawn_47 : decode cX6_drawn 47 = .ok (.iload_n 2, 1) := by decide +kernel
theorem dX6_drawn_48 : decode cX6_drawn 48 = .ok (.i2l, 1) := by decide +kernel
theorem dX6_drawn_49 : decode cX6_drawn 49 = .ok (.lstore 4, 2) := by decide +kernel
theorem dX6_drawn_51 : decode cX6_drawn 51 = .ok (.iconst 0, 1) := by decide +kernel
theorem dX6_drawn_52 : decode cX6_drawn 52 = .ok (.istore 6, 2) := by decide +kernel
theorem dX6_drawn_54 : decode cX6_drawn 54 = .ok (.iload 6, 2) := by decide +kernel
theorem dX6_drawn_56 : decode cX6_drawn 56 = .ok (.iload_n 1, 1) := by decide +kernel
theorem dX6_drawn_57 : decode cX6_drawn 57 = .ok (.if_icmp .ge 48, 3) := by decide +kernel
theorem dX6_drawn_60 : decode cX6_drawn 60 = .ok (.lload 4, 2) := by decide +kernel
theorem dX6_drawn_62 : decode cX6_drawn 62 = .ok (.ldc2_w 285, 3) := by decide +kernel
theorem dX6_drawn_65 : decode cX6_drawn 65 = .ok (.lmul, 1) := by decide +kernel
theorem dX6_drawn_66 : decode cX6_drawn 66 = .ok (.ldc2_w 287, 3) := by decide +kernel
theorem dX6_drawn_69 : decode cX6_drawn 69 = .ok (.lrem, 1) := by decide +kernel
theorem dX6_drawn_70 : decode cX6_drawn 70 = .ok (.lstore 4, 2) := by decide +kernel
theorem dX6_drawn_72 : decode cX6_drawn 72 = .ok (.lload 4, 2) := by decide +kernel
theorem dX6_drawn_74 : decode cX6_drawn 74 = .ok (.ldc2_w 289, 3) := by decide +kernel
theorem dX6_drawn_77 : decode cX6_drawn 77 = .ok (.lrem, 1) := by decide +kernel
theorem dX6_drawn_78 : decode cX6_drawn 78 = .ok (.lconst 0, 1) := by decide +kernel
theorem dX6_drawn_79 : decode cX6_drawn 79 = .ok (.lcmp, 1) := by decide +kernel
theorem dX6_drawn_80 : decode cX6_drawn 80 = .ok (.ifCond .ne 12, 3) := by decide +kernel
theorem dX6_drawn_83 : decode cX6_drawn 83 = .ok (.aload_n 0, 1) := by decide +kernel
theorem dX6_drawn_84 : decode cX6_drawn 84 = .ok (.getfield 30, 3) := by decide +kernel
theorem dX6_drawn_87 : decode cX6_drawn 87 = .ok (.lload 4, 2) := by decide +kernel
theorem dX6_drawn_89 : decode cX6_drawn 89 = .ok (.invokevirtual 291, 3) := by decide +kernel
theorem dX6_drawn_92 : decode cX6_drawn 92 = .ok (.aload_n 0, 1) := by decide +kernel
theorem dX6_drawn_93 : decode cX6_drawn 93 = .ok (.getfield 30, 3) := by decide +kernel
theorem dX6_drawn_96 : decode cX6_drawn 96 = .ok (.invokevirtual 165, 3) := by decide +kernel
theorem dX6_drawn_99 : decode cX6_drawn 99 = .ok (.iinc 6 1, 3) := by decide +kernel
theorem dX6_drawn_102 : decode cX6_drawn 102 = .ok (.goto (-48), 3) := by decide +kernel
theorem dX6_drawn_105 : decode cX6_drawn 105 = .ok (.iload_n 3, 1) := by decide +kernel
theorem dX6_drawn_106 : decode cX6_drawn 106 = .ok (.ifCond .ne 13, 3) := by decide +kernel
theorem dX6_drawn_109 : decode cX6_drawn 109 = .ok (.aload_n 0, 1) := by decide +kernel
theorem dX6_drawn_110 : decode cX6_drawn 110 = .ok (.getfield 30, 3) := by decide +kernel
theorem dX6_drawn_113 : decode cX6_drawn 113 = .ok (.getfield 203, 3) := by decide +kernel
theorem dX6_drawn_116 : decode cX6_drawn 116 = .ok (.goto 10, 3) := by decide +kernel
theorem dX6_drawn_119 : decode cX6_drawn 119 = .ok (.aload_n 0, 1) := by decide +kernel
theorem dX6_drawn_120 : decode cX6_drawn 120 = .ok (.getfield 30, 3) := by decide +kernel
theorem dX6_drawn_123 : decode cX6_drawn 123 = .ok (.getfield 190, 3) := by decide +kernel
theorem dX6_drawn_126 : decode cX6_drawn 126 = .ok (.aload_n 0, 1) := by decide +kernel
theorem dX6_drawn_127 : decode cX6_drawn 127 = .ok (.getfield 30, 3) := by decide +kernel
theorem dX6_drawn_130 : decode cX6_drawn 130 = .ok (.getfield 260, 3) := by decide +kernel
theorem dX6_drawn_133 : decode cX6_drawn 133 = .ok (.invokestatic 295, 3) := by decide +kernel
theorem dX6_drawn_136 : decode cX6_drawn 136 = .ok (.ireturn, 1) := by decide +kernel
theorem dX6_image_0 : decode cX6_image 0 = .ok (.iload_n 1, 1) := by decide +kernel
theorem dX6_image_1 : decode cX6_image 1 = .ok (.iconst 0, 1) := by decide +kernel
theorem dX6_image_2 : decode cX6_image 2 = .ok (.iconst 1, 1) := by decide +kernel
theorem dX6_image_3 : decode cX6_image 3 = .ok (.invokestatic 74, 3) := by decide +kernel
theorem dX6_image_6 : decode cX6_image 6 = .ok (.ifCond .ne 6, 3) := by decide +kernel
theorem dX6_image_9 : decode cX6_image 9 = .ok (.ldc 78, 2) := by decide +kernel
theorem dX6_image_11 : decode cX6_image 11 = .ok (.ireturn, 1) := by decide +kernel
theorem dX6_image_12 : decode cX6_image 12 = .ok (.aload_n 0, 1) := by decide +kernel
theorem dX6_image_13 : decode cX6_image 13 = .ok (.invokevirtual 154, 3) := by decide +kernel
theorem dX6_image_16 : decode cX6_image 16 = .ok (.ifCond .eq 6, 3) := by decide +kernel
theorem dX6_image_19 : decode cX6_image 19 = .ok (.ldc 153, 2) := by decide +kernel
theorem dX6_image_21 : decode cX6_image 21 = .ok (.ireturn, 1) := by decide +kernel
theorem dX6_image_22 : decode cX6_image 22 = .ok (.aload_n 0, 1) := by decide +kernel
theorem dX6_image_23 : decode cX6_image 23 = .ok (.getfield 26, 3) := by decide +kernel
theorem dX6_image_26 : decode cX6_image 26 = .ok (.aload_n 0, 1) := by decide +kernel
theorem dX6_image_27 : decode cX6_image 27 = .ok (.getfield 49, 3) := by decide +kernel
theorem dX6_image_30 : decode cX6_image 30 = .ok (.iload_n 1, 1) := by decide +kernel
theorem dX6_image_31 : decode cX6_image 31 = .ok (.aaload, 1) := by decide +kernel
theorem dX6_image_32 : decode cX6_image 32 = .ok (.invokevirtual 133, 3) := by decide +kernel
theorem dX6_image_35 : decode cX6_image 35 = .ok (.aload_n 0, 1) := by decide +kernel
theorem dX6_image_36 : decode cX6_image 36 = .ok (.getfield 52, 3) := by decide +kernel
theorem dX6_image_39 : decode cX6_image 39 = .ok (.iload_n 1, 1) := by decide +kernel
theorem dX6_image_40 : decode cX6_image 40 = .ok (.iconst 1, 1) := by decide +kernel
theorem dX6_image_41 : decode cX6_image 41 = .ok (.bastore, 1) := by decide +kernel
theorem dX6_image_42 : decode cX6_image 42 = .ok (.iconst 1, 1) := by decide +kernel
theorem dX6_image_43 : decode cX6_image 43 = .ok (.ireturn, 1) := by decide +kernel
theorem dX6_restore_0 : decode cX6_restore 0 = .ok (.iload_n 1, 1) := by decide +kernel
theorem dX6_restore_1 : decode cX6_restore 1 = .ok (.iconst 0, 1) := by decide +kernel
theorem dX6_restore_2 : decode cX6_restore 2 = .ok (.iconst 1, 1) := by decide +kernel
theorem dX6_restore_3 : decode cX6_restore 3 = .ok (.invokestatic 74, 3) := by decide +kernel
theorem dX6_restore_6 : decode cX6_restore 6 = .ok (.ifCond .ne 6, 3) := by decide +kernel
theorem dX6_restore_9 : decode cX6_restore 9 = .ok (.ldc 78, 2) := by decide +kernel
theorem dX6_restore_11 : decode cX6_restore 11 = .ok (.ireturn, 1) := by decide +kernel
theorem dX6_restore_12 : decode cX6_restore 12 = .ok (.aload_n 0, 1) := by decide +kernel
theorem dX6_restore_13 : decode cX6_restore 13 = .ok (.getfield 52, 3) := by decide +kernel
theorem dX6_restore_16 : decode cX6_restore 16 = .ok (.iload_n 1, 1) := by decide +kernel
theorem dX6_restore_17 : decode cX6_restore 17 = .ok (.baload, 1) := by decide +kernel
theorem dX6_restore_18 : decode cX6_restore 18 = .ok (.ifCond .ne 6, 3) := by decide +kernel
theorem dX6_restore_21 : decode cX6_restore 21 = .ok (.ldc 153, 2) := by decide +kernel
theorem dX6_restore_23 : decode cX6_restore 23 = .ok (.ireturn, 1) := by decide +kernel
theorem dX6_restore_24 : decode cX6_restore 24 = .ok (.aload_n 0, 1) := by decide +kernel
theorem dX6_restore_25 : decode cX6_restore 25 = .ok (.getfield 26, 3) := by decide +kernel
theorem dX6_restore_28 : decode cX6_restore 28 = .ok (.aload_n 0, 1) := by decide +kernel
theorem dX6_restore_29 : decode cX6_restore 29 = .ok (.getfield 49, 3) := by decide +kernel
theorem dX6_restore_32 : decode cX6_restore 32 = .ok (.iload_n 1, 1) := by decide +kernel
theorem dX6_restore_33 : decode cX6_restore 33 = .ok (.aaload, 1) := by decide +kernel
theorem dX6_restore_34 : decode cX6_restore 34 = .ok (.invokevirtual 137, 3) := by decide +kernel
theorem dX6_restore_37 : decode cX6_restore 37 = .ok (.aload_n 0, 1) := by decide +kernel
theorem dX6_restore_38 : decode cX6_restore 38 = .ok (.getfield 43, 3) := by decide +kernel
theorem dX6_restore_41 : decode cX6_restore 41 = .ok (.invokevirtual 140, 3) := by decide +kernel
theorem dX6_restore_44 : decode cX6_restore 44 = .ok (.iconst 1, 1) := by decide +kernel
theorem dX6_restore_45 : decode cX6_restore 45 = .ok (.ireturn, 1) := by decide +kernel
theorem dX6_kind_0 : decode cX6_kind 0 = .ok (.aload_n 0, 1) := by decide +kernel
theorem dX6_kind_1 : decode cX6_kind 1 = .ok (.getfield 26, 3) := by decide +kernel
theorem dX6_kind_4 : decode cX6_kind 4 = .ok (.iload_n 1, 1) := by decide +kernel
theorem dX6_kind_5 : decode cX6_kind 5 = .ok (.invokevirtual 168, 3) := by decide +kernel
theorem dX6_kind_8 : decode cX6_kind 8 = .ok (.ifCond .eq 15, 3) := by decide +kernel
theorem dX6_kind_11 : decode cX6_kind 11 = .ok (.aload_n 0, 1) := by decide +kernel
theorem dX6_kind_12 : decode cX6_kind 12 = .ok (.getfield 26, 3) := by decide +kernel
theorem dX6_kind_15 : decode cX6_kind 15 = .ok (.getfield 253, 3) := by decide +kernel
theorem dX6_kind_18 : decode cX6_kind 18 = .ok (.iload_n 1, 1) := by decide +kernel
theorem dX6_kind_19 : decode cX6_kind 19 = .ok (.iaload, 1) := by decide +kernel
theorem dX6_kind_20 : decode cX6_kind 20 = .ok (.goto 5, 3) := by decide +kernel
theorem dX6_kind_23 : decode cX6_kind 23 = .ok (.ldc 78, 2) := by decide +kernel
theorem dX6_kind_25 : decode cX6_kind 25 = .ok (.ireturn, 1) := by decide +kernel
theorem dX6_as_0 : decode cX6_as 0 = .ok (.aload_n 0, 1) := by decide +kernel
theorem dX6_as_1 : decode cX6_as 1 = .ok (.getfield 26, 3) := by decide +kernel
theorem dX6_as_4 : decode cX6_as 4 = .ok (.iload_n 1, 1) := by decide +kernel
theorem dX6_as_5 : decode cX6_as 5 = .ok (.invokevirtual 168, 3) := by decide +kernel
theorem dX6_as_8 : decode cX6_as 8 = .ok (.ifCond .eq 12, 3) := by decide +kernel
theorem dX6_as_11 : decode cX6_as 11 = .ok (.iload_n 2, 1) := by decide +kernel
theorem dX6_as_12 : decode cX6_as 12 = .ok (.iconst 0, 1) := by decide +kernel
theorem dX6_as_13 : decode cX6_as 13 = .ok (.iconst 5, 1) := by decide +kernel
theorem dX6_as_14 : decode cX6_as 14 = .ok (.invokestatic 74, 3) := by decide +kernel
theorem dX6_as_17 : decode cX6_as 17 = .ok (.ifCond .ne 6, 3) := by decide +kernel
theorem dX6_as_20 : decode cX6_as 20 = .ok (.ldc 78, 2) := by decide +kernel
theorem dX6_as_22 : decode cX6_as 22 = .ok (.ireturn, 1) := by decide +kernel
theorem dX6_as_23 : decode cX6_as 23 = .ok (.aload_n 0, 1) := by decide +kernel
theorem dX6_as_24 : decode cX6_as 24 = .ok (.getfield 26, 3) := by decide +kernel
theorem dX6_as_27 : decode cX6_as 27 = .ok (.getfield 253, 3) := by decide +kernel
theorem dX6_as_30 : decode cX6_as 30 = .ok (.iload_n 1, 1) := by decide +kernel
theorem dX6_as_31 : decode cX6_as 31 = .ok (.iaload, 1) := by decide +kernel
theorem dX6_as_32 : decode cX6_as 32 = .ok (.iload_n 2, 1) := by decide +kernel
theorem dX6_as_33 : decode cX6_as 33 = .ok (.invokestatic 299, 3) := by decide +kernel
theorem dX6_as_36 : decode cX6_as 36 = .ok (.ifCond .ne 9, 3) := by decide +kernel
theorem dX6_as_39 : decode cX6_as 39 = .ok (.aload_n 0, 1) := by decide +kernel
theorem dX6_as_40 : decode cX6_as 40 = .ok (.iconst 3, 1) := by decide +kernel
theorem dX6_as_41 : decode cX6_as 41 = .ok (.invokevirtual 79, 3) := by decide +kernel
theorem dX6_as_44 : decode cX6_as 44 = .ok (.ireturn, 1) := by decide +kernel
theorem dX6_as_45 : decode cX6_as 45 = .ok (.aload_n 0, 1) := by decide +kernel
theorem dX6_as_46 : decode cX6_as 46 = .ok (.iconst 0, 1) := by decide +kernel
theorem dX6_as_47 : decode cX6_as 47 = .ok (.putfield 87, 3) := by decide +kernel
theorem dX6_as_50 : decode cX6_as 50 = .ok (.iload_n 1, 1) := by decide +kernel
theorem dX6_as_51 : decode cX6_as 51 = .ok (.ireturn, 1) := by decide +kernel
theorem dX6_ask_0 : decode cX6_ask 0 = .ok (.aload_n 0, 1) := by decide +kernel
theorem dX6_ask_1 : decode cX6_ask 1 = .ok (.getfield 26, 3) := by decide +kernel
theorem dX6_ask_4 : decode cX6_ask 4 = .ok (.iload_n 1, 1) := by decide +kernel
theorem dX6_ask_5 : decode cX6_ask 5 = .ok (.invokevirtual 168, 3) := by decide +kernel
theorem dX6_ask_8 : decode cX6_ask 8 = .ok (.ifCond .eq 12, 3) := by decide +kernel
theorem dX6_ask_11 : decode cX6_ask 11 = .ok (.iload_n 2, 1) := by decide +kernel
theorem dX6_ask_12 : decode cX6_ask 12 = .ok (.iconst 0, 1) := by decide +kernel
theorem dX6_ask_13 : decode cX6_ask 13 = .ok (.iconst 1, 1) := by decide +kernel
theorem dX6_ask_14 : decode cX6_ask 14 = .ok (.invokestatic 74, 3) := by decide +kernel
theorem dX6_ask_17 : decode cX6_ask 17 = .ok (.ifCond .ne 6, 3) := by decide +kernel
theorem dX6_ask_20 : decode cX6_ask 20 = .ok (.ldc 78, 2) := by decide +kernel
theorem dX6_ask_22 : decode cX6_ask 22 = .ok (.ireturn, 1) := by decide +kernel
theorem dX6_ask_23 : decode cX6_ask 23 = .ok (.aload_n 0, 1) := by decide +kernel
theorem dX6_ask_24 : decode cX6_ask 24 = .ok (.getfield 59, 3) := by decide +kernel
theorem dX6_ask_27 : decode cX6_ask 27 = .ok (.iload_n 1, 1) := by decide +kernel
theorem dX6_ask_28 : decode cX6_ask 28 = .ok (.aload_n 0, 1) := by decide +kernel
theorem dX6_ask_29 : decode cX6_ask 29 = .ok (.getfield 26, 3) := by decide +kernel
theorem dX6_ask_32 : decode cX6_ask 32 = .ok (.invokevirtual 303, 3) := by decide +kernel
theorem dX6_ask_35 : decode cX6_ask 35 = .ok (.iload_n 2, 1) := by decide +kernel
theorem dX6_ask_36 : decode cX6_ask 36 = .ok (.ifCond .ne 13, 3) := by decide +kernel
theorem dX6_ask_39 : decode cX6_ask 39 = .ok (.aload_n 0, 1) := by decide +kernel
theorem dX6_ask_40 : decode cX6_ask 40 = .ok (.getfield 59, 3) := by decide +kernel
theorem dX6_ask_43 : decode cX6_ask 43 = .ok (.invokevirtual 307, 3) := by decide +kernel
theorem dX6_ask_46 : decode cX6_ask 46 = .ok (.goto 10, 3) := by decide +kernel
theorem dX6_ask_49 : decode cX6_ask 49 = .ok (.aload_n 0, 1) := by decide +kernel
theorem dX6_ask_50 : decode cX6_ask 50 = .ok (.getfield 59, 3) := by decide +kernel
theorem dX6_ask_53 : decode cX6_ask 53 = .ok (.invokevirtual 310, 3) := by decide +kernel
theorem dX6_ask_56 : decode cX6_ask 56 = .ok (.ireturn, 1) := by decide +kernel
theorem dX6_trace_0 : decode cX6_trace 0 = .ok (.iload_n 1, 1) := by decide +kernel
theorem dX6_trace_1 : decode cX6_trace 1 = .ok (.iconst 0, 1) := by decide +kernel
theorem dX6_trace_2 : decode cX6_trace 2 = .ok (.aload_n 0, 1) := by decide +kernel
theorem dX6_trace_3 : decode cX6_trace 3 = .ok (.getfield 59, 3) := by decide +kernel
theorem dX6_trace_6 : decode cX6_trace 6 = .ok (.getfield 313, 3) := by decide +kernel
theorem dX6_trace_9 : decode cX6_trace 9 = .ok (.iconst 1, 1) := by decide +kernel
theorem dX6_trace_10 : decode cX6_trace 10 = .ok (.isub, 1) := by decide +kernel
theorem dX6_trace_11 : decode cX6_trace 11 = .ok (.invokestatic 74, 3) := by decide +kernel
theorem dX6_trace_14 : decode cX6_trace 14 = .ok (.ifCond .eq 15, 3) := by decide +kernel
theorem dX6_trace_17 : decode cX6_trace 17 = .ok (.aload_n 0, 1) := by decide +kernel
theorem dX6_trace_18 : decode cX6_trace 18 = .ok (.getfield 59, 3) := by decide +kernel
theorem dX6_trace_21 : decode cX6_trace 21 = .ok (.getfield 314, 3) := by decide +kernel
theorem dX6_trace_24 : decode cX6_trace 24 = .ok (.iload_n 1, 1) := by decide +kernel
theorem dX6_trace_25 : decode cX6_trace 25 = .ok (.iaload, 1) := by decide +kernel
theorem dX6_trace_26 : decode cX6_trace 26 = .ok (.goto 5, 3) := by decide +kernel
theorem dX6_trace_29 : decode cX6_trace 29 = .ok (.ldc 222, 2) := by decide +kernel
theorem dX6_trace_31 : decode cX6_trace 31 = .ok (.ireturn, 1) := by decide +kernel
theorem dX6_count_0 : decode cX6_count 0 = .ok (.iload_n 1, 1) := by decide +kernel
theorem dX6_count_1 : decode cX6_count 1 = .ok (.tableswitch 131 0 7 #[47, 55, 63, 71, 79, 97, 115, 123], 47) := by decide +kernel
theorem dX6_count_48 : decode cX6_count 48 = .ok (.aload_n 0, 1) := by decide +kernel
theorem dX6_count_49 : decode cX6_count 49 = .ok (.getfield 10, 3) := by decide +kernel
theorem dX6_count_52 : decode cX6_count 52 = .ok (.invokevirtual 317, 3) := by decide +kernel
theorem dX6_count_55 : decode cX6_count 55 = .ok (.ireturn, 1) := by decide +kernel
theorem dX6_count_56 : decode cX6_count 56 = .ok (.aload_n 0, 1) := by decide +kernel
theorem dX6_count_57 : decode cX6_count 57 = .ok (.getfield 26, 3) := by decide +kernel
theorem dX6_count_60 : decode cX6_count 60 = .ok (.getfield 260, 3) := by decide +kernel
theorem dX6_count_63 : decode cX6_count 63 = .ok (.ireturn, 1) := by decide +kernel
theorem dX6_count_64 : decode cX6_count 64 = .ok (.aload_n 0, 1) := by decide +kernel
theorem dX6_count_65 : decode cX6_count 65 = .ok (.getfield 26, 3) := by decide +kernel
theorem dX6_count_68 : decode cX6_count 68 = .ok (.getfield 143, 3) := by decide +kernel
theorem dX6_count_71 : decode cX6_count 71 = .ok (.ireturn, 1) := by decide +kernel
theorem dX6_count_72 : decode cX6_count 72 = .ok (.aload_n 0, 1) := by decide +kernel
theorem dX6_count_73 : decode cX6_count 73 = .ok (.getfield 26, 3) := by decide +kernel
theorem dX6_count_76 : decode cX6_count 76 = .ok (.getfield 158, 3) := by decide +kernel
theorem dX6_count_79 : decode cX6_count 79 = .ok (.ireturn, 1) := by decide +kernel
theorem dX6_count_80 : decode cX6_count 80 = .ok (.aload_n 0, 1) := by decide +kernel
theorem dX6_count_81 : decode cX6_count 81 = .ok (.getfield 26, 3) := by decide +kernel
theorem dX6_count_84 : decode cX6_count 84 = .ok (.getfield 203, 3) := by decide +kernel
theorem dX6_count_87 : decode cX6_count 87 = .ok (.aload_n 0, 1) := by decide +kernel
theorem dX6_count_88 : decode cX6_count 88 = .ok (.getfield 26, 3) := by decide +kernel
theorem dX6_count_91 : decode cX6_count 91 = .ok (.getfield 260, 3) := by decide +kernel
theorem dX6_count_94 : decode cX6_count 94 = .ok (.invokestatic 295, 3) := by decide +kernel
theorem dX6_count_97 : decode cX6_count 97 = .ok (.ireturn, 1) := by decide +kernel
theorem dX6_count_98 : decode cX6_count 98 = .ok (.aload_n 0, 1) := by decide +kernel
theorem dX6_count_99 : decode cX6_count 99 = .ok (.getfield 26, 3) := by decide +kernel
theorem dX6_count_102 : decode cX6_count 102 = .ok (.getfield 190, 3) := by decide +kernel
theorem dX6_count_105 : decode cX6_count 105 = .ok (.aload_n 0, 1) := by decide +kernel
theorem dX6_count_106 : decode cX6_count 106 = .ok (.getfield 26, 3) := by decide +kernel
theorem dX6_count_109 : decode cX6_count 109 = .ok (.getfield 260, 3) := by decide +kernel
theorem dX6_count_112 : decode cX6_count 112 = .ok (.invokestatic 295, 3) := by decide +kernel
theorem dX6_count_115 : decode cX6_count 115 = .ok (.ireturn, 1) := by decide +kernel
theorem dX6_count_116 : decode cX6_count 116 = .ok (.aload_n 0, 1) := by decide +kernel
theorem dX6_count_117 : decode cX6_count 117 = .ok (.getfield 43, 3) := by decide +kernel
theorem dX6_count_120 : decode cX6_count 120 = .ok (.getfield 150, 3) := by decide +kernel
theorem dX6_count_123 : decode cX6_count 123 = .ok (.ireturn, 1) := by decide +kernel
theorem dX6_count_124 : decode cX6_count 124 = .ok (.aload_n 0, 1) := by decide +kernel
theorem dX6_count_125 : decode cX6_count 125 = .ok (.getfield 19, 3) := by decide +kernel
theorem dX6_count_128 : decode cX6_count 128 = .ok (.getfield 115, 3) := by decide +kernel
theorem dX6_count_131 : decode cX6_count 131 = .ok (.ireturn, 1) := by decide +kernel
theorem dX6_count_132 : decode cX6_count 132 = .ok (.ldc 78, 2) := by decide +kernel
theorem dX6_count_134 : decode cX6_count 134 = .ok (.ireturn, 1) := by decide +kernel
theorem dX6_status_0 : decode cX6_status 0 = .ok (.aload_n 0, 1) := by decide +kernel
theorem dX6_status_1 : decode cX6_status 1 = .ok (.getfield 87, 3) := by decide +kernel
theorem dX6_status_4 : decode cX6_status 4 = .ok (.ireturn, 1) := by decide +kernel
theorem dX6_within_0 : decode cX6_within 0 = .ok (.iload_n 0, 1) := by decide +kernel
theorem dX6_within_1 : decode cX6_within 1 = .ok (.iload_n 1, 1) := by decide +kernel
theorem dX6_within_2 : decode cX6_within 2 = .ok (.if_icmp .lt 12, 3) := by decide +kernel
theorem dX6_within_5 : decode cX6_within 5 = .ok (.iload_n 0, 1) := by decide +kernel
theorem dX6_within_6 : decode cX6_within 6 = .ok (.iload_n 2, 1) := by decide +kernel
theorem dX6_within_7 : decode cX6_within 7 = .ok (.if_icmp .gt 7, 3) := by decide +kernel
theorem dX6_within_10 : decode cX6_within 10 = .ok (.iconst 1, 1) := by decide +kernel
theorem dX6_within_11 : decode cX6_within 11 = .ok (.goto 4, 3) := by decide +kernel
theorem dX6_within_14 : decode cX6_within 14 = .ok (.iconst 0, 1) := by decide +kernel
theorem dX6_within_15 : decode cX6_within 15 = .ok (.ireturn, 1) := by decide +kernel
theorem dX6_found_0 : decode cX6_found 0 = .ok (.aload_n 0, 1) := by decide +kernel
theorem dX6_found_1 : decode cX6_found 1 = .ok (.iload_n 1, 1) := by decide +kernel
theorem dX6_found_2 : decode cX6_found 2 = .ok (.putfield 87, 3) := by decide +kernel
theorem dX6_found_5 : decode cX6_found 5 = .ok (.ldc_w 320, 3) := by decide +kernel
theorem dX6_found_8 : decode cX6_found 8 = .ok (.iload_n 1, 1) := by decide +kernel
theorem dX6_found_9 : decode cX6_found 9 = .ok (.isub, 1) := by decide +kernel
theorem dX6_found_10 : decode cX6_found 10 = .ok (.ireturn, 1) := by decide +kernel
theorem dX6_noTown_0 : decode cX6_noTown 0 = .ok (.aload_n 0, 1) := by decide +kernel
theorem dX6_noTown_1 : decode cX6_noTown 1 = .ok (.getfield 26, 3) := by decide +kernel
theorem dX6_noTown_4 : decode cX6_noTown 4 = .ok (.getfield 143, 3) := by decide +kernel
theorem dX6_noTown_7 : decode cX6_noTown 7 = .ok (.ifCond .ne 7, 3) := by decide +kernel
theorem dX6_noTown_10 : decode cX6_noTown 10 = .ok (.iconst 1, 1) := by decide +kernel
theorem dX6_noTown_11 : decode cX6_noTown 11 = .ok (.goto 4, 3) := by decide +kernel
theorem dX6_noTown_14 : decode cX6_noTown 14 = .ok (.iconst 0, 1) := by decide +kernel
theorem dX6_noTown_15 : decode cX6_noTown 15 = .ok (.ireturn, 1) := by decide +kernel
theorem dX6_openTrial_0 : decode cX6_openTrial 0 = .ok (.aload_n 0, 1) := by decide +kernel
theorem dX6_openTrial_1 : decode cX6_openTrial 1 = .ok (.getfield 26, 3) := by decide +kernel
theorem dX6_openTrial_4 : decode cX6_openTrial 4 = .ok (.aload_n 0, 1) := by decide +kernel
theorem dX6_openTrial_5 : decode cX6_openTrial 5 = .ok (.getfield 33, 3) := by decide +kernel
theorem dX6_openTrial_8 : decode cX6_openTrial 8 = .ok (.invokevirtual 133, 3) := by decide +kernel
theorem dX6_openTrial_11 : decode cX6_openTrial 11 = .ok (.aload_n 0, 1) := by decide +kernel
theorem dX6_openTrial_12 : decode cX6_openTrial 12 = .ok (.getfield 30, 3) := by decide +kernel
theorem dX6_openTrial_15 : decode cX6_openTrial 15 = .ok (.aload_n 0, 1) := by decide +kernel
theorem dX6_openTrial_16 : decode cX6_openTrial 16 = .ok (.getfield 33, 3) := by decide +kernel
theorem dX6_openTrial_19 : decode cX6_openTrial 19 = .ok (.invokevirtual 137, 3) := by decide +kernel
theorem dX6_openTrial_22 : decode cX6_openTrial 22 = .ok (.return_, 1) := by decide +kernel
theorem dX6_isGoodSwap_0 : decode cX6_isGoodSwap 0 = .ok (.aload_n 0, 1) := by decide +kernel
theorem dX6_isGoodSwap_1 : decode cX6_isGoodSwap 1 = .ok (.invokevirtual 212, 3) := by decide +kernel
theorem dX6_isGoodSwap_4 : decode cX6_isGoodSwap 4 = .ok (.aload_n 0, 1) := by decide +kernel
theorem dX6_isGoodSwap_5 : decode cX6_isGoodSwap 5 = .ok (.getfield 30, 3) := by decide +kernel
theorem dX6_isGoodSwap_8 : decode cX6_isGoodSwap 8 = .ok (.getfield 177, 3) := by decide +kernel
theorem dX6_isGoodSwap_11 : decode cX6_isGoodSwap 11 = .ok (.iload_n 1, 1) := by decide +kernel
theorem dX6_isGoodSwap_12 : decode cX6_isGoodSwap 12 = .ok (.aload_n 0, 1) := by decide +kernel
theorem dX6_isGoodSwap_13 : decode cX6_isGoodSwap 13 = .ok (.getfield 26, 3) := by decide +kernel
theorem dX6_isGoodSwap_16 : decode cX6_isGoodSwap 16 = .ok (.getfield 177, 3) := by decide +kernel
theorem dX6_isGoodSwap_19 : decode cX6_isGoodSwap 19 = .ok (.iload_n 2, 1) := by decide +kernel
theorem dX6_isGoodSwap_20 : decode cX6_isGoodSwap 20 = .ok (.iaload, 1) := by decide +kernel
theorem dX6_isGoodSwap_21 : decode cX6_isGoodSwap 21 = .ok (.iastore, 1) := by decide +kernel
theorem dX6_isGoodSwap_22 : decode cX6_isGoodSwap 22 = .ok (.aload_n 0, 1) := by decide +kernel
theorem dX6_isGoodSwap_23 : decode cX6_isGoodSwap 23 = .ok (.getfield 30, 3) := by decide +kernel
theorem dX6_isGoodSwap_26 : decode cX6_isGoodSwap 26 = .ok (.getfield 177, 3) := by decide +kernel
theorem dX6_isGoodSwap_29 : decode cX6_isGoodSwap 29 = .ok (.iload_n 2, 1) := by decide +kernel
theorem dX6_isGoodSwap_30 : decode cX6_isGoodSwap 30 = .ok (.aload_n 0, 1) := by decide +kernel
theorem dX6_isGoodSwap_31 : decode cX6_isGoodSwap 31 = .ok (.getfield 26, 3) := by decide +kernel
theorem dX6_isGoodSwap_34 : decode cX6_isGoodSwap 34 = .ok (.getfield 177, 3) := by decide +kernel
theorem dX6_isGoodSwap_37 : decode cX6_isGoodSwap 37 = .ok (.iload_n 1, 1) := by decide +kernel
theorem dX6_isGoodSwap_38 : decode cX6_isGoodSwap 38 = .ok (.iaload, 1) := by decide +kernel
theorem dX6_isGoodSwap_39 : decode cX6_isGoodSwap 39 = .ok (.iastore, 1) := by decide +kernel
theorem dX6_isGoodSwap_40 : decode cX6_isGoodSwap 40 = .ok (.aload_n 0, 1) := by decide +kernel
theorem dX6_isGoodSwap_41 : decode cX6_isGoodSwap 41 = .ok (.getfield 30, 3) := by decide +kernel
theorem dX6_isGoodSwap_44 : decode cX6_isGoodSwap 44 = .ok (.iload_n 3, 1) := by decide +kernel
theorem dX6_isGoodSwap_45 : decode cX6_isGoodSwap 45 = .ok (.invokevirtual 215, 3) := by decide +kernel
theorem dX6_isGoodSwap_48 : decode cX6_isGoodSwap 48 = .ok (.iconst 0, 1) := by decide +kernel
theorem dX6_isGoodSwap_49 : decode cX6_isGoodSwap 49 = .ok (.istore 4, 2) := by decide +kernel
theorem dX6_isGoodSwap_51 : decode cX6_isGoodSwap 51 = .ok (.iconst 0, 1) := by decide +kernel
theorem dX6_isGoodSwap_52 : decode cX6_isGoodSwap 52 = .ok (.istore 5, 2) := by decide +kernel
theorem dX6_isGoodSwap_54 : decode cX6_isGoodSwap 54 = .ok (.iload 5, 2) := by decide +kernel
theorem dX6_isGoodSwap_56 : decode cX6_isGoodSwap 56 = .ok (.aload_n 0, 1) := by decide +kernel
theorem dX6_isGoodSwap_57 : decode cX6_isGoodSwap 57 = .ok (.getfield 30, 3) := by decide +kernel
theorem dX6_isGoodSwap_60 : decode cX6_isGoodSwap 60 = .ok (.getfield 260, 3) := by decide +kernel
theorem dX6_isGoodSwap_63 : decode cX6_isGoodSwap 63 = .ok (.if_icmp .ge 63, 3) := by decide +kernel
theorem dX6_isGoodSwap_66 : decode cX6_isGoodSwap 66 = .ok (.aload_n 0, 1) := by decide +kernel
theorem dX6_isGoodSwap_67 : decode cX6_isGoodSwap 67 = .ok (.getfield 30, 3) := by decide +kernel
theorem dX6_isGoodSwap_70 : decode cX6_isGoodSwap 70 = .ok (.getfield 203, 3) := by decide +kernel
theorem dX6_isGoodSwap_73 : decode cX6_isGoodSwap 73 = .ok (.iload 5, 2) := by decide +kernel
theorem dX6_isGoodSwap_75 : decode cX6_isGoodSwap 75 = .ok (.iaload, 1) := by decide +kernel
theorem dX6_isGoodSwap_76 : decode cX6_isGoodSwap 76 = .ok (.aload_n 0, 1) := by decide +kernel
theorem dX6_isGoodSwap_77 : decode cX6_isGoodSwap 77 = .ok (.getfield 37, 3) := by decide +kernel
theorem dX6_isGoodSwap_80 : decode cX6_isGoodSwap 80 = .ok (.iload 5, 2) := by decide +kernel
theorem dX6_isGoodSwap_82 : decode cX6_isGoodSwap 82 = .ok (.iaload, 1) := by decide +kernel
theorem dX6_isGoodSwap_83 : decode cX6_isGoodSwap 83 = .ok (.if_icmp .ge 5, 3) := by decide +kernel
theorem dX6_isGoodSwap_86 : decode cX6_isGoodSwap 86 = .ok (.iconst 0, 1) := by decide +kernel
theorem dX6_isGoodSwap_87 : decode cX6_isGoodSwap 87 = .ok (.ireturn, 1) := by decide +kernel
theorem dX6_isGoodSwap_88 : decode cX6_isGoodSwap 88 = .ok (.iload 4, 2) := by decide +kernel
theorem dX6_isGoodSwap_90 : decode cX6_isGoodSwap 90 = .ok (.ifCond .ne 23, 3) := by decide +kernel
theorem dX6_isGoodSwap_93 : decode cX6_isGoodSwap 93 = .ok (.aload_n 0, 1) := by decide +kernel
theorem dX6_isGoodSwap_94 : decode cX6_isGoodSwap 94 = .ok (.getfield 30, 3) := by decide +kernel
theorem dX6_isGoodSwap_97 : decode cX6_isGoodSwap 97 = .ok (.getfield 203, 3) := by decide +kernel
theorem dX6_isGoodSwap_100 : decode cX6_isGoodSwap 100 = .ok (.iload 5, 2) := by decide +kernel
theorem dX6_isGoodSwap_102 : decode cX6_isGoodSwap 102 = .ok (.iaload, 1) := by decide +kernel
theorem dX6_isGoodSwap_103 : decode cX6_isGoodSwap 103 = .ok (.aload_n 0, 1) := by decide +kernel
theorem dX6_isGoodSwap_104 : decode cX6_isGoodSwap 104 = .ok (.getfield 37, 3) := by decide +kernel
theorem dX6_isGoodSwap_107 : decode cX6_isGoodSwap 107 = .ok (.iload 5, 2) := by decide +kernel
theorem dX6_isGoodSwap_109 : decode cX6_isGoodSwap 109 = .ok (.iaload, 1) := by decide +kernel
theorem dX6_isGoodSwap_110 : decode cX6_isGoodSwap 110 = .ok (.if_icmp .le 7, 3) := by decide +kernel
theorem dX6_isGoodSwap_113 : decode cX6_isGoodSwap 113 = .ok (.iconst 1, 1) := by decide +kernel
theorem dX6_isGoodSwap_114 : decode cX6_isGoodSwap 114 = .ok (.goto 4, 3) := by decide +kernel
theorem dX6_isGoodSwap_117 : decode cX6_isGoodSwap 117 = .ok (.iconst 0, 1) := by decide +kernel
theorem dX6_isGoodSwap_118 : decode cX6_isGoodSwap 118 = .ok (.istore 4, 2) := by decide +kernel
theorem dX6_isGoodSwap_120 : decode cX6_isGoodSwap 120 = .ok (.iinc 5 1, 3) := by decide +kernel
theorem dX6_isGoodSwap_123 : decode cX6_isGoodSwap 123 = .ok (.goto (-69), 3) := by decide +kernel
theorem dX6_isGoodSwap_126 : decode cX6_isGoodSwap 126 = .ok (.iload 4, 2) := by decide +kernel
theorem dX6_isGoodSwap_128 : decode cX6_isGoodSwap 128 = .ok (.ireturn, 1) := by decide +kernel
theorem dX6_refusalOfTold_0 : decode cX6_refusalOfTold 0 = .ok (.aload_n 0, 1) := by decide +kernel
theorem dX6_refusalOfTold_1 : decode cX6_refusalOfTold 1 = .ok (.getfield 26, 3) := by decide +kernel
theorem dX6_refusalOfTold_4 : decode cX6_refusalOfTold 4 = .ok (.iload_n 1, 1) := by decide +kernel
theorem dX6_refusalOfTold_5 : decode cX6_refusalOfTold 5 = .ok (.invokevirtual 174, 3) := by decide +kernel
theorem dX6_refusalOfTold_8 : decode cX6_refusalOfTold 8 = .ok (.ifCond .eq 32, 3) := by decide +kernel
theorem dX6_refusalOfTold_11 : decode cX6_refusalOfTold 11 = .ok (.aload_n 0, 1) := by decide +kernel
theorem dX6_refusalOfTold_12 : decode cX6_refusalOfTold 12 = .ok (.getfield 26, 3) := by decide +kernel
theorem dX6_refusalOfTold_15 : decode cX6_refusalOfTold 15 = .ok (.iload_n 2, 1) := by decide +kernel
theorem dX6_refusalOfTold_16 : decode cX6_refusalOfTold 16 = .ok (.invokevirtual 168, 3) := by decide +kernel
theorem dX6_refusalOfTold_19 : decode cX6_refusalOfTold 19 = .ok (.ifCond .eq 21, 3) := by decide +kernel
theorem dX6_refusalOfTold_22 : decode cX6_refusalOfTold 22 = .ok (.iload_n 3, 1) := by decide +kernel
theorem dX6_refusalOfTold_23 : decode cX6_refusalOfTold 23 = .ok (.invokestatic 70, 3) := by decide +kernel
theorem dX6_refusalOfTold_26 : decode cX6_refusalOfTold 26 = .ok (.ifCond .eq 14, 3) := by decide +kernel
theorem dX6_refusalOfTold_29 : decode cX6_refusalOfTold 29 = .ok (.iload 5, 2) := by decide +kernel
theorem dX6_refusalOfTold_31 : decode cX6_refusalOfTold 31 = .ok (.iconst 1, 1) := by decide +kernel
theorem dX6_refusalOfTold_32 : decode cX6_refusalOfTold 32 = .ok (.bipush 12, 2) := by decide +kernel
theorem dX6_refusalOfTold_34 : decode cX6_refusalOfTold 34 = .ok (.invokestatic 74, 3) := by decide +kernel
theorem dX6_refusalOfTold_37 : decode cX6_refusalOfTold 37 = .ok (.ifCond .ne 6, 3) := by decide +kernel
theorem dX6_refusalOfTold_40 : decode cX6_refusalOfTold 40 = .ok (.ldc 78, 2) := by decide +kernel
theorem dX6_refusalOfTold_42 : decode cX6_refusalOfTold 42 = .ok (.ireturn, 1) := by decide +kernel
theorem dX6_refusalOfTold_43 : decode cX6_refusalOfTold 43 = .ok (.aload_n 0, 1) := by decide +kernel
theorem dX6_refusalOfTold_44 : decode cX6_refusalOfTold 44 = .ok (.getfield 10, 3) := by decide +kernel
theorem dX6_refusalOfTold_47 : decode cX6_refusalOfTold 47 = .ok (.iload_n 3, 1) := by decide +kernel
theorem dX6_refusalOfTold_48 : decode cX6_refusalOfTold 48 = .ok (.iload 4, 2) := by decide +kernel
theorem dX6_refusalOfTold_50 : decode cX6_refusalOfTold 50 = .ok (.iload 5, 2) := by decide +kernel
theorem dX6_refusalOfTold_52 : decode cX6_refusalOfTold 52 = .ok (.invokevirtual 91, 3) := by decide +kernel
theorem dX6_refusalOfTold_55 : decode cX6_refusalOfTold 55 = .ok (.istore 6, 2) := by decide +kernel
theorem dX6_refusalOfTold_57 : decode cX6_refusalOfTold 57 = .ok (.iload 6, 2) := by decide +kernel
theorem dX6_refusalOfTold_59 : decode cX6_refusalOfTold 59 = .ok (.ifCond .eq 10, 3) := by decide +kernel
theorem dX6_refusalOfTold_62 : decode cX6_refusalOfTold 62 = .ok (.aload_n 0, 1) := by decide +kernel
theorem dX6_refusalOfTold_63 : decode cX6_refusalOfTold 63 = .ok (.iload 6, 2) := by decide +kernel
theorem dX6_refusalOfTold_65 : decode cX6_refusalOfTold 65 = .ok (.invokevirtual 79, 3) := by decide +kernel
theorem dX6_refusalOfTold_68 : decode cX6_refusalOfTold 68 = .ok (.ireturn, 1) := by decide +kernel
theorem dX6_refusalOfTold_69 : decode cX6_refusalOfTold 69 = .ok (.aload_n 0, 1) := by decide +kernel
theorem dX6_refusalOfTold_70 : decode cX6_refusalOfTold 70 = .ok (.iconst 0, 1) := by decide +kernel
theorem dX6_refusalOfTold_71 : decode cX6_refusalOfTold 71 = .ok (.putfield 87, 3) := by decide +kernel
theorem dX6_refusalOfTold_74 : decode cX6_refusalOfTold 74 = .ok (.iconst 0, 1) := by decide +kernel
theorem dX6_refusalOfTold_75 : decode cX6_refusalOfTold 75 = .ok (.ireturn, 1) := by decide +kernel
theorem dX6_isFedAsTold_0 : decode cX6_isFedAsTold 0 = .ok (.iconst 0, 1) := by decide +kernel
theorem dX6_isFedAsTold_1 : decode cX6_isFedAsTold 1 = .ok (.istore 5, 2) := by decide +kernel
theorem dX6_isFedAsTold_3 : decode cX6_isFedAsTold 3 = .ok (.iload 5, 2) := by decide +kernel
theorem dX6_isFedAsTold_5 : decode cX6_isFedAsTold 5 = .ok (.iload 4, 2) := by decide +kernel
theorem dX6_isFedAsTold_7 : decode cX6_isFedAsTold 7 = .ok (.if_icmp .ge 42, 3) := by decide +kernel
theorem dX6_isFedAsTold_10 : decode cX6_isFedAsTold 10 = .ok (.aload_n 0, 1) := by decide +kernel
theorem dX6_isFedAsTold_11 : decode cX6_isFedAsTold 11 = .ok (.getfield 30, 3) := by decide +kernel
theorem dX6_isFedAsTold_14 : decode cX6_isFedAsTold 14 = .ok (.invokevirtual 165, 3) := by decide +kernel
theorem dX6_isFedAsTold_17 : decode cX6_isFedAsTold 17 = .ok (.aload_n 0, 1) := by decide +kernel
theorem dX6_isFedAsTold_18 : decode cX6_isFedAsTold 18 = .ok (.getfield 30, 3) := by decide +kernel
theorem dX6_isFedAsTold_21 : decode cX6_isFedAsTold 21 = .ok (.getfield 203, 3) := by decide +kernel
theorem dX6_isFedAsTold_24 : decode cX6_isFedAsTold 24 = .ok (.iload_n 1, 1) := by decide +kernel
theorem dX6_isFedAsTold_25 : decode cX6_isFedAsTold 25 = .ok (.iaload, 1) := by decide +kernel
theorem dX6_isFedAsTold_26 : decode cX6_isFedAsTold 26 = .ok (.aload_n 0, 1) := by decide +kernel
theorem dX6_isFedAsTold_27 : decode cX6_isFedAsTold 27 = .ok (.getfield 10, 3) := by decide +kernel
theorem dX6_isFedAsTold_30 : decode cX6_isFedAsTold 30 = .ok (.iload_n 2, 1) := by decide +kernel
theorem dX6_isFedAsTold_31 : decode cX6_isFedAsTold 31 = .ok (.iload_n 3, 1) := by decide +kernel
theorem dX6_isFedAsTold_32 : decode cX6_isFedAsTold 32 = .ok (.iload 5, 2) := by decide +kernel
theorem dX6_isFedAsTold_34 : decode cX6_isFedAsTold 34 = .ok (.iadd, 1) := by decide +kernel
theorem dX6_isFedAsTold_35 : decode cX6_isFedAsTold 35 = .ok (.invokevirtual 321, 3) := by decide +kernel
theorem dX6_isFedAsTold_38 : decode cX6_isFedAsTold 38 = .ok (.if_icmp .eq 5, 3) := by decide +kernel
theorem dX6_isFedAsTold_41 : decode cX6_isFedAsTold 41 = .ok (.iconst 0, 1) := by decide +kernel
theorem dX6_isFedAsTold_42 : decode cX6_isFedAsTold 42 = .ok (.ireturn, 1) := by decide +kernel
theorem dX6_isFedAsTold_43 : decode cX6_isFedAsTold 43 = .ok (.iinc 5 1, 3) := by decide +kernel
theorem dX6_isFedAsTold_46 : decode cX6_isFedAsTold 46 = .ok (.goto (-43), 3) := by decide +kernel
theorem dX6_isFedAsTold_49 : decode cX6_isFedAsTold 49 = .ok (.iconst 1, 1) := by decide +kernel
theorem dX6_isFedAsTold_50 : decode cX6_isFedAsTold 50 = .ok (.ireturn, 1) := by decide +kernel
theorem dX6_isOfKind_0 : decode cX6_isOfKind 0 = .ok (.iload_n 0, 1) := by decide +kernel
theorem dX6_isOfKind_1 : decode cX6_isOfKind 1 = .ok (.istore_n 2, 1) := by decide +kernel
theorem dX6_isOfKind_2 : decode cX6_isOfKind 2 = .ok (.iconst 0, 1) := by decide +kernel
theorem dX6_isOfKind_3 : decode cX6_isOfKind 3 = .ok (.istore_n 3, 1) := by decide +kernel
theorem dX6_isOfKind_4 : decode cX6_isOfKind 4 = .ok (.iload_n 3, 1) := by decide +kernel
theorem dX6_isOfKind_5 : decode cX6_isOfKind 5 = .ok (.getstatic 324, 3) := by decide +kernel
theorem dX6_isOfKind_8 : decode cX6_isOfKind 8 = .ok (.arraylength, 1) := by decide +kernel
theorem dX6_isOfKind_9 : decode cX6_isOfKind 9 = .ok (.if_icmp .ge 34, 3) := by decide +kernel
theorem dX6_isOfKind_12 : decode cX6_isOfKind 12 = .ok (.iload_n 2, 1) := by decide +kernel
theorem dX6_isOfKind_13 : decode cX6_isOfKind 13 = .ok (.ifCond .lt 30, 3) := by decide +kernel
theorem dX6_isOfKind_16 : decode cX6_isOfKind 16 = .ok (.iload_n 2, 1) := by decide +kernel
theorem dX6_isOfKind_17 : decode cX6_isOfKind 17 = .ok (.getstatic 324, 3) := by decide +kernel
theorem dX6_isOfKind_20 : decode cX6_isOfKind 20 = .ok (.arraylength, 1) := by decide +kernel
theorem dX6_isOfKind_21 : decode cX6_isOfKind 21 = .ok (.if_icmp .ge 22, 3) := by decide +kernel
theorem dX6_isOfKind_24 : decode cX6_isOfKind 24 = .ok (.iload_n 2, 1) := by decide +kernel
theorem dX6_isOfKind_25 : decode cX6_isOfKind 25 = .ok (.iload_n 1, 1) := by decide +kernel
theorem dX6_isOfKind_26 : decode cX6_isOfKind 26 = .ok (.if_icmp .ne 5, 3) := by decide +kernel
theorem dX6_isOfKind_29 : decode cX6_isOfKind 29 = .ok (.iconst 1, 1) := by decide +kernel
theorem dX6_isOfKind_30 : decode cX6_isOfKind 30 = .ok (.ireturn, 1) := by decide +kernel
theorem dX6_isOfKind_31 : decode cX6_isOfKind 31 = .ok (.getstatic 324, 3) := by decide +kernel
theorem dX6_isOfKind_34 : decode cX6_isOfKind 34 = .ok (.iload_n 2, 1) := by decide +kernel
theorem dX6_isOfKind_35 : decode cX6_isOfKind 35 = .ok (.iaload, 1) := by decide +kernel
theorem dX6_isOfKind_36 : decode cX6_isOfKind 36 = .ok (.istore_n 2, 1) := by decide +kernel
theorem dX6_isOfKind_37 : decode cX6_isOfKind 37 = .ok (.iinc 3 1, 3) := by decide +kernel
theorem dX6_isOfKind_40 : decode cX6_isOfKind 40 = .ok (.goto (-36), 3) := by decide +kernel
theorem dX6_isOfKind_43 : decode cX6_isOfKind 43 = .ok (.iconst 0, 1) := by decide +kernel
theorem dX6_isOfKind_44 : decode cX6_isOfKind 44 = .ok (.ireturn, 1) := by decide +kernel
theorem dX6_power_0 : decode cX6_power 0 = .ok (.lconst 1, 1) := by decide +kernel
theorem dX6_power_1 : decode cX6_power 1 = .ok (.lstore_n 2, 1) := by decide +kernel
theorem dX6_power_2 : decode cX6_power 2 = .ok (.iconst 0, 1) := by decide +kernel
theorem dX6_power_3 : decode cX6_power 3 = .ok (.istore 4, 2) := by decide +kernel
theorem dX6_power_5 : decode cX6_power 5 = .ok (.iload 4, 2) := by decide +kernel
theorem dX6_power_7 : decode cX6_power 7 = .ok (.iload_n 1, 1) := by decide +kernel
theorem dX6_power_8 : decode cX6_power 8 = .ok (.if_icmp .ge 14, 3) := by decide +kernel
theorem dX6_power_11 : decode cX6_power 11 = .ok (.lload_n 2, 1) := by decide +kernel
theorem dX6_power_12 : decode cX6_power 12 = .ok (.iload_n 0, 1) := by decide +kernel
theorem dX6_power_13 : decode cX6_power 13 = .ok (.i2l, 1) := by decide +kernel
theorem dX6_power_14 : decode cX6_power 14 = .ok (.lmul, 1) := by decide +kernel
theorem dX6_power_15 : decode cX6_power 15 = .ok (.lstore_n 2, 1) := by decide +kernel
theorem dX6_power_16 : decode cX6_power 16 = .ok (.iinc 4 1, 3) := by decide +kernel
theorem dX6_power_19 : decode cX6_power 19 = .ok (.goto (-14), 3) := by decide +kernel
theorem dX6_power_22 : decode cX6_power 22 = .ok (.lload_n 2, 1) := by decide +kernel
theorem dX6_power_23 : decode cX6_power 23 = .ok (.lreturn, 1) := by decide +kernel
theorem dX6_commonDivisor_0 : decode cX6_commonDivisor 0 = .ok (.lload_n 0, 1) := by decide +kernel
theorem dX6_commonDivisor_1 : decode cX6_commonDivisor 1 = .ok (.lstore 4, 2) := by decide +kernel
theorem dX6_commonDivisor_3 : decode cX6_commonDivisor 3 = .ok (.lload_n 2, 1) := by decide +kernel
theorem dX6_commonDivisor_4 : decode cX6_commonDivisor 4 = .ok (.lstore 6, 2) := by decide +kernel
theorem dX6_commonDivisor_6 : decode cX6_commonDivisor 6 = .ok (.iconst 0, 1) := by decide +kernel
theorem dX6_commonDivisor_7 : decode cX6_commonDivisor 7 = .ok (.istore 8, 2) := by decide +kernel
theorem dX6_commonDivisor_9 : decode cX6_commonDivisor 9 = .ok (.iload 8, 2) := by decide +kernel
theorem dX6_commonDivisor_11 : decode cX6_commonDivisor 11 = .ok (.sipush 1000, 3) := by decide +kernel
theorem dX6_commonDivisor_14 : decode cX6_commonDivisor 14 = .ok (.if_icmp .ge 31, 3) := by decide +kernel
theorem dX6_commonDivisor_17 : decode cX6_commonDivisor 17 = .ok (.lload 6, 2) := by decide +kernel
theorem dX6_commonDivisor_19 : decode cX6_commonDivisor 19 = .ok (.lconst 0, 1) := by decide +kernel
theorem dX6_commonDivisor_20 : decode cX6_commonDivisor 20 = .ok (.lcmp, 1) := by decide +kernel
theorem dX6_commonDivisor_21 : decode cX6_commonDivisor 21 = .ok (.ifCond .eq 24, 3) := by decide +kernel
theorem dX6_commonDivisor_24 : decode cX6_commonDivisor 24 = .ok (.lload 4, 2) := by decide +kernel
theorem dX6_commonDivisor_26 : decode cX6_commonDivisor 26 = .ok (.lload 6, 2) := by decide +kernel
theorem dX6_commonDivisor_28 : decode cX6_commonDivisor 28 = .ok (.lrem, 1) := by decide +kernel
theorem dX6_commonDivisor_29 : decode cX6_commonDivisor 29 = .ok (.lstore 9, 2) := by decide +kernel
theorem dX6_commonDivisor_31 : decode cX6_commonDivisor 31 = .ok (.lload 6, 2) := by decide +kernel
theorem dX6_commonDivisor_33 : decode cX6_commonDivisor 33 = .ok (.lstore 4, 2) := by decide +kernel
theorem dX6_commonDivisor_35 : decode cX6_commonDivisor 35 = .ok (.lload 9, 2) := by decide +kernel
theorem dX6_commonDivisor_37 : decode cX6_commonDivisor 37 = .ok (.lstore 6, 2) := by decide +kernel
theorem dX6_commonDivisor_39 : decode cX6_commonDivisor 39 = .ok (.iinc 8 1, 3) := by decide +kernel
theorem dX6_commonDivisor_42 : decode cX6_commonDivisor 42 = .ok (.goto (-33), 3) := by decide +kernel
theorem dX6_commonDivisor_45 : decode cX6_commonDivisor 45 = .ok (.lload 4, 2) := by decide +kernel
theorem dX6_commonDivisor_47 : decode cX6_commonDivisor 47 = .ok (.lconst 1, 1) := by decide +kernel
theorem dX6_commonDivisor_48 : decode cX6_commonDivisor 48 = .ok (.invokestatic 327, 3) := by decide +kernel
theorem dX6_commonDivisor_51 : decode cX6_commonDivisor 51 = .ok (.lreturn, 1) := by decide +kernel
theorem dX7_init_0 : decode cX7_init 0 = .ok (.aload_n 0, 1) := by decide +kernel
theorem dX7_init_1 : decode cX7_init 1 = .ok (.invokespecial 1, 3) := by decide +kernel
theorem dX7_init_4 : decode cX7_init 4 = .ok (.aload_n 0, 1) := by decide +kernel
theorem dX7_init_5 : decode cX7_init 5 = .ok (.sipush 1568, 3) := by decide +kernel
theorem dX7_init_8 : decode cX7_init 8 = .ok (.newarray .int, 2) := by decide +kernel
theorem dX7_init_10 : decode cX7_init 10 = .ok (.putfield 7, 3) := by decide +kernel
theorem dX7_init_13 : decode cX7_init 13 = .ok (.aload_n 0, 1) := by decide +kernel
theorem dX7_init_14 : decode cX7_init 14 = .ok (.iconst 2, 1) := by decide +kernel
theorem dX7_init_15 : decode cX7_init 15 = .ok (.newarray .boolean, 2) := by decide +kernel
theorem dX7_init_17 : decode cX7_init 17 = .ok (.putfield 13, 3) := by decide +kernel
theorem dX7_init_20 : decode cX7_init 20 = .ok (.aload_n 0, 1) := by decide +kernel
theorem dX7_init_21 : decode cX7_init 21 = .ok (.bipush 8, 2) := by decide +kernel
theorem dX7_init_23 : decode cX7_init 23 = .ok (.newarray .int, 2) := by decide +kernel
theorem dX7_init_25 : decode cX7_init 25 = .ok (.putfield 17, 3) := by decide +kernel
theorem dX7_init_28 : decode cX7_init 28 = .ok (.aload_n 0, 1) := by decide +kernel
theorem dX7_init_29 : decode cX7_init 29 = .ok (.bipush 8, 2) := by decide +kernel
theorem dX7_init_31 : decode cX7_init 31 = .ok (.newarray .int, 2) := by decide +kernel
theorem dX7_init_33 : decode cX7_init 33 = .ok (.dup, 1) := by decide +kernel
theorem dX7_init_34 : decode cX7_init 34 = .ok (.iconst 0, 1) := by decide +kernel
theorem dX7_init_35 : decode cX7_init 35 = .ok (.iconst (-1), 1) := by decide +kernel
theorem dX7_init_36 : decode cX7_init 36 = .ok (.iastore, 1) := by decide +kernel
theorem dX7_init_37 : decode cX7_init 37 = .ok (.dup, 1) := by decide +kernel
theorem dX7_init_38 : decode cX7_init 38 = .ok (.iconst 1, 1) := by decide +kernel
theorem dX7_init_39 : decode cX7_init 39 = .ok (.iconst (-1), 1) := by decide +kernel
theorem dX7_init_40 : decode cX7_init 40 = .ok (.iastore, 1) := by decide +kernel
theorem dX7_init_41 : decode cX7_init 41 = .ok (.dup, 1) := by decide +kernel
theorem dX7_init_42 : decode cX7_init 42 = .ok (.iconst 2, 1) := by decide +kernel
theorem dX7_init_43 : decode cX7_init 43 = .ok (.iconst (-1), 1) := by decide +kernel
theorem dX7_init_44 : decode cX7_init 44 = .ok (.iastore, 1) := by decide +kernel
theorem dX7_init_45 : decode cX7_init 45 = .ok (.dup, 1) := by decide +kernel
theorem dX7_init_46 : decode cX7_init 46 = .ok (.iconst 3, 1) := by decide +kernel
theorem dX7_init_47 : decode cX7_init 47 = .ok (.iconst (-1), 1) := by decide +kernel
theorem dX7_init_48 : decode cX7_init 48 = .ok (.iastore, 1) := by decide +kernel
theorem dX7_init_49 : decode cX7_init 49 = .ok (.dup, 1) := by decide +kernel
theorem dX7_init_50 : decode cX7_init 50 = .ok (.iconst 4, 1) := by decide +kernel
theorem dX7_init_51 : decode cX7_init 51 = .ok (.iconst (-1), 1) := by decide +kernel
theorem dX7_init_52 : decode cX7_init 52 = .ok (.iastore, 1) := by decide +kernel
theorem dX7_init_53 : decode cX7_init 53 = .ok (.dup, 1) := by decide +kernel
theorem dX7_init_54 : decode cX7_init 54 = .ok (.iconst 5, 1) := by decide +kernel
theorem dX7_init_55 : decode cX7_init 55 = .ok (.iconst (-1), 1) := by decide +kernel
theorem dX7_init_56 : decode cX7_init 56 = .ok (.iastore, 1) := by decide +kernel
theorem dX7_init_57 : decode cX7_init 57 = .ok (.dup, 1) := by decide +kernel
theorem dX7_init_58 : decode cX7_init 58 = .ok (.bipush 6, 2) := by decide +kernel
theorem dX7_init_60 : decode cX7_init 60 = .ok (.iconst (-1), 1) := by decide +kernel
theorem dX7_init_61 : decode cX7_init 61 = .ok (.iastore, 1) := by decide +kernel
theorem dX7_init_62 : decode cX7_init 62 = .ok (.dup, 1) := by decide +kernel
theorem dX7_init_63 : decode cX7_init 63 = .ok (.bipush 7, 2) := by decide +kernel
theorem dX7_init_65 : decode cX7_init 65 = .ok (.iconst (-1), 1) := by decide +kernel
theorem dX7_init_66 : decode cX7_init 66 = .ok (.iastore, 1) := by decide +kernel
theorem dX7_init_67 : decode cX7_init 67 = .ok (.putfield 20, 3) := by decide +kernel
theorem dX7_init_70 : decode cX7_init 70 = .ok (.aload_n 0, 1) := by decide +kernel
theorem dX7_init_71 : decode cX7_init 71 = .ok (.sipush 320, 3) := by decide +kernel
theorem dX7_init_74 : decode cX7_init 74 = .ok (.newarray .int, 2) := by decide +kernel
theorem dX7_init_76 : decode cX7_init 76 = .ok (.putfield 23, 3) := by decide +kernel
theorem dX7_init_79 : decode cX7_init 79 = .ok (.aload_n 0, 1) := by decide +kernel
theorem dX7_init_80 : decode cX7_init 80 = .ok (.bipush 100, 2) := by decide +kernel
theorem dX7_init_82 : decode cX7_init 82 = .ok (.newarray .int, 2) := by decide +kernel
theorem dX7_init_84 : decode cX7_init 84 = .ok (.putfield 26, 3) := by decide +kernel
theorem dX7_init_87 : decode cX7_init 87 = .ok (.aload_n 0, 1) := by decide +kernel
theorem dX7_init_88 : decode cX7_init 88 = .ok (.bipush 16, 2) := by decide +kernel
theorem dX7_init_90 : decode cX7_init 90 = .ok (.newarray .int, 2) := by decide +kernel
theorem dX7_init_92 : decode cX7_init 92 = .ok (.putfield 29, 3) := by decide +kernel
theorem dX7_init_95 : decode cX7_init 95 = .ok (.aload_n 0, 1) := by decide +kernel
theorem dX7_init_96 : decode cX7_init 96 = .ok (.bipush 6, 2) := by decide +kernel
theorem dX7_init_98 : decode cX7_init 98 = .ok (.newarray .int, 2) := by decide +kernel
theorem dX7_init_100 : decode cX7_init 100 = .ok (.putfield 32, 3) := by decide +kernel
theorem dX7_init_103 : decode cX7_init 103 = .ok (.aload_n 0, 1) := by decide +kernel
theorem dX7_init_104 : decode cX7_init 104 = .ok (.bipush 6, 2) := by decide +kernel
theorem dX7_init_106 : decode cX7_init 106 = .ok (.newarray .int, 2) := by decide +kernel
theorem dX7_init_108 : decode cX7_init 108 = .ok (.putfield 35, 3) := by decide +kernel
theorem dX7_init_111 : decode cX7_init 111 = .ok (.aload_n 0, 1) := by decide +kernel
theorem dX7_init_112 : decode cX7_init 112 = .ok (.iconst 5, 1) := by decide +kernel
theorem dX7_init_113 : decode cX7_init 113 = .ok (.newarray .int, 2) := by decide +kernel
theorem dX7_init_115 : decode cX7_init 115 = .ok (.putfield 38, 3) := by decide +kernel
theorem dX7_init_118 : decode cX7_init 118 = .ok (.return_, 1) := by decide +kernel
theorem dX7_in_0 : decode cX7_in 0 = .ok (.lload_n 0, 1) := by decide +kernel
theorem dX7_in_1 : decode cX7_in 1 = .ok (.lload_n 2, 1) := by decide +kernel
theorem dX7_in_2 : decode cX7_in 2 = .ok (.lcmp, 1) := by decide +kernel
theorem dX7_in_3 : decode cX7_in 3 = .ok (.ifCond .lt 14, 3) := by decide +kernel
theorem dX7_in_6 : decode cX7_in 6 = .ok (.lload_n 0, 1) := by decide +kernel
theorem dX7_in_7 : decode cX7_in 7 = .ok (.lload 4, 2) := by decide +kernel
theorem dX7_in_9 : decode cX7_in 9 = .ok (.lcmp, 1) := by decide +kernel
theorem dX7_in_10 : decode cX7_in 10 = .ok (.ifCond .gt 7, 3) := by decide +kernel
theorem dX7_in_13 : decode cX7_in 13 = .ok (.iconst 1, 1) := by decide +kernel
theorem dX7_in_14 : decode cX7_in 14 = .ok (.goto 4, 3) := by decide +kernel
theorem dX7_in_17 : decode cX7_in 17 = .ok (.iconst 0, 1) := by decide +kernel
theorem dX7_in_18 : decode cX7_in 18 = .ok (.ireturn, 1) := by decide +kernel
theorem dX7_has_0 : decode cX7_has 0 = .ok (.iload_n 0, 1) := by decide +kernel
theorem dX7_has_1 : decode cX7_has 1 = .ok (.iload_n 1, 1) := by decide +kernel
theorem dX7_has_2 : decode cX7_has 2 = .ok (.ishr, 1) := by decide +kernel
theorem dX7_has_3 : decode cX7_has 3 = .ok (.iconst 1, 1) := by decide +kernel
theorem dX7_has_4 : decode cX7_has 4 = .ok (.iand, 1) := by decide +kernel
theorem dX7_has_5 : decode cX7_has 5 = .ok (.iconst 1, 1) := by decide +kernel
theorem dX7_has_6 : decode cX7_has 6 = .ok (.if_icmp .ne 7, 3) := by decide +kernel
theorem dX7_has_9 : decode cX7_has 9 = .ok (.iconst 1, 1) := by decide +kernel
theorem dX7_has_10 : decode cX7_has 10 = .ok (.goto 4, 3) := by decide +kernel
theorem dX7_has_13 : decode cX7_has 13 = .ok (.iconst 0, 1) := by decide +kernel
theorem dX7_has_14 : decode cX7_has 14 = .ok (.ireturn, 1) := by decide +kernel
theorem dX7_between_0 : decode cX7_between 0 = .ok (.iload_n 0, 1) := by decide +kernel
theorem dX7_between_1 : decode cX7_between 1 = .ok (.ifCond .ge 7, 3) := by decide +kernel
theorem dX7_between_4 : decode cX7_between 4 = .ok (.iconst 0, 1) := by decide +kernel
theorem dX7_between_5 : decode cX7_between 5 = .ok (.goto 13, 3) := by decide +kernel
theorem dX7_between_8 : decode cX7_between 8 = .ok (.iload_n 0, 1) := by decide +kernel
theorem dX7_between_9 : decode cX7_between 9 = .ok (.iload_n 1, 1) := by decide +kernel
theorem dX7_between_10 : decode cX7_between 10 = .ok (.if_icmp .le 7, 3) := by decide +kernel
theorem dX7_between_13 : decode cX7_between 13 = .ok (.iload_n 1, 1) := by decide +kernel
theorem dX7_between_14 : decode cX7_between 14 = .ok (.goto 4, 3) := by decide +kernel
theorem dX7_between_17 : decode cX7_between 17 = .ok (.iload_n 0, 1) := by decide +kernel
theorem dX7_between_18 : decode cX7_between 18 = .ok (.ireturn, 1) := by decide +kernel
theorem dX7_find_0 : decode cX7_find 0 = .ok (.aload_n 0, 1) := by decide +kernel
theorem dX7_find_1 : decode cX7_find 1 = .ok (.iload_n 1, 1) := by decide +kernel
theorem dX7_find_2 : decode cX7_find 2 = .ok (.putfield 41, 3) := by decide +kernel
theorem dX7_find_5 : decode cX7_find 5 = .ok (.ldc 45, 2) := by decide +kernel
theorem dX7_find_7 : decode cX7_find 7 = .ok (.iload_n 1, 1) := by decide +kernel
theorem dX7_find_8 : decode cX7_find 8 = .ok (.isub, 1) := by decide +kernel
theorem dX7_find_9 : decode cX7_find 9 = .ok (.ireturn, 1) := by decide +kernel
theorem dX7_well_0 : decode cX7_well 0 = .ok (.aload_n 0, 1) := by decide +kernel
theorem dX7_well_1 : decode cX7_well 1 = .ok (.iconst 0, 1) := by decide +kernel
theorem dX7_well_2 : decode cX7_well 2 = .ok (.putfield 41, 3) := by decide +kernel
theorem dX7_well_5 : decode cX7_well 5 = .ok (.iload_n 1, 1) := by decide +kernel
theorem dX7_well_6 : decode cX7_well 6 = .ok (.ireturn, 1) := by decide +kernel
theorem dX7_isRow_0 : decode cX7_isRow 0 = .ok (.iload_n 0, 1) := by decide +kernel
theorem dX7_isRow_1 : decode cX7_isRow 1 = .ok (.i2l, 1) := by decide +kernel
theorem dX7_isRow_2 : decode cX7_isRow 2 = .ok (.lconst 0, 1) := by decide +kernel
theorem dX7_isRow_3 : decode cX7_isRow 3 = .ok (.ldc2_w 46, 3) := by decide +kernel
theorem dX7_isRow_6 : decode cX7_isRow 6 = .ok (.invokestatic 48, 3) := by decide +kernel
theorem dX7_isRow_9 : decode cX7_isRow 9 = .ok (.ireturn, 1) := by decide +kernel
theorem dX7_row_0 : decode cX7_row 0 = .ok (.iload_n 1, 1) := by decide +kernel
theorem dX7_row_1 : decode cX7_row 1 = .ok (.invokestatic 52, 3) := by decide +kernel
theorem dX7_row_4 : decode cX7_row 4 = .ok (.ifCond .eq 21, 3) := by decide +kernel
theorem dX7_row_7 : decode cX7_row 7 = .ok (.iload_n 2, 1) := by decide +kernel
theorem dX7_row_8 : decode cX7_row 8 = .ok (.i2l, 1) := by decide +kernel
theorem dX7_row_9 : decode cX7_row 9 = .ok (.lconst 0, 1) := by decide +kernel
theorem dX7_row_10 : decode cX7_row 10 = .ok (.ldc2_w 56, 3) := by decide +kernel
theorem dX7_row_13 : decode cX7_row 13 = .ok (.invokestatic 48, 3) := by decide +kernel
theorem dX7_row_16 : decode cX7_row 16 = .ok (.ifCond .eq 9, 3) := by decide +kernel
theorem dX7_row_19 : decode cX7_row 19 = .ok (.iload_n 3, 1) := by decide +kernel
theorem dX7_row_20 : decode cX7_row 20 = .ok (.bipush 40, 2) := by decide +kernel
theorem dX7_row_22 : decode cX7_row 22 = .ok (.if_icmp .le 6, 3) := by decide +kernel
theorem dX7_row_25 : decode cX7_row 25 = .ok (.ldc 58, 2) := by decide +kernel
theorem dX7_row_27 : decode cX7_row 27 = .ok (.ireturn, 1) := by decide +kernel
theorem dX7_row_28 : decode cX7_row 28 = .ok (.iload_n 3, 1) := by decide +kernel
theorem dX7_row_29 : decode cX7_row 29 = .ok (.ifCond .ge 9, 3) := by decide +kernel
theorem dX7_row_32 : decode cX7_row 32 = .ok (.aload_n 0, 1) := by decide +kernel
theorem dX7_row_33 : decode cX7_row 33 = .ok (.iconst 4, 1) := by decide +kernel
theorem dX7_row_34 : decode cX7_row 34 = .ok (.invokevirtual 59, 3) := by decide +kernel
theorem dX7_row_37 : decode cX7_row 37 = .ok (.ireturn, 1) := by decide +kernel
theorem dX7_row_38 : decode cX7_row 38 = .ok (.aload_n 0, 1) := by decide +kernel
theorem dX7_row_39 : decode cX7_row 39 = .ok (.getfield 17, 3) := by decide +kernel
theorem dX7_row_42 : decode cX7_row 42 = .ok (.iload_n 1, 1) := by decide +kernel
theorem dX7_row_43 : decode cX7_row 43 = .ok (.iload_n 2, 1) := by decide +kernel
theorem dX7_row_44 : decode cX7_row 44 = .ok (.iastore, 1) := by decide +kernel
theorem dX7_row_45 : decode cX7_row 45 = .ok (.aload_n 0, 1) := by decide +kernel
theorem dX7_row_46 : decode cX7_row 46 = .ok (.getfield 20, 3) := by decide +kernel
theorem dX7_row_49 : decode cX7_row 49 = .ok (.iload_n 1, 1) := by decide +kernel
theorem dX7_row_50 : decode cX7_row 50 = .ok (.iload_n 3, 1) := by decide +kernel
theorem dX7_row_51 : decode cX7_row 51 = .ok (.iastore, 1) := by decide +kernel
theorem dX7_row_52 : decode cX7_row 52 = .ok (.iconst 0, 1) := by decide +kernel
theorem dX7_row_53 : decode cX7_row 53 = .ok (.istore 4, 2) := by decide +kernel
theorem dX7_row_55 : decode cX7_row 55 = .ok (.iload 4, 2) := by decide +kernel
theorem dX7_row_57 : decode cX7_row 57 = .ok (.bipush 40, 2) := by decide +kernel
theorem dX7_row_59 : decode cX7_row 59 = .ok (.if_icmp .ge 22, 3) := by decide +kernel
theorem dX7_row_62 : decode cX7_row 62 = .ok (.aload_n 0, 1) := by decide +kernel
theorem dX7_row_63 : decode cX7_row 63 = .ok (.getfield 23, 3) := by decide +kernel
theorem dX7_row_66 : decode cX7_row 66 = .ok (.bipush 40, 2) := by decide +kernel
theorem dX7_row_68 : decode cX7_row 68 = .ok (.iload_n 1, 1) := by decide +kernel
theorem dX7_row_69 : decode cX7_row 69 = .ok (.imul, 1) := by decide +kernel
theorem dX7_row_70 : decode cX7_row 70 = .ok (.iload 4, 2) := by decide +kernel
theorem dX7_row_72 : decode cX7_row 72 = .ok (.iadd, 1) := by decide +kernel
theorem dX7_row_73 : decode cX7_row 73 = .ok (.iconst 0, 1) := by decide +kernel
theorem dX7_row_74 : decode cX7_row 74 = .ok (.iastore, 1) := by decide +kernel
theorem dX7_row_75 : decode cX7_row 75 = .ok (.iinc 4 1, 3) := by decide +kernel
theorem dX7_row_78 : decode cX7_row 78 = .ok (.goto (-23), 3) := by decide +kernel
theorem dX7_row_81 : decode cX7_row 81 = .ok (.aload_n 0, 1) := by decide +kernel
theorem dX7_row_82 : decode cX7_row 82 = .ok (.iload_n 3, 1) := by decide +kernel
theorem dX7_row_83 : decode cX7_row 83 = .ok (.invokevirtual 63, 3) := by decide +kernel
theorem dX7_row_86 : decode cX7_row 86 = .ok (.ireturn, 1) := by decide +kernel
theorem dX7_narrow_0 : decode cX7_narrow 0 = .ok (.iload_n 1, 1) := by decide +kernel
theorem dX7_narrow_1 : decode cX7_narrow 1 = .ok (.ifCond .ne 8, 3) := by decide +kernel
theorem dX7_narrow_4 : decode cX7_narrow 4 = .ok (.iload_n 0, 1) := by decide +kernel
theorem dX7_narrow_5 : decode cX7_narrow 5 = .ok (.i2b, 1) := by decide +kernel
theorem dX7_narrow_6 : decode cX7_narrow 6 = .ok (.goto 14, 3) := by decide +kernel
theorem dX7_narrow_9 : decode cX7_narrow 9 = .ok (.iload_n 1, 1) := by decide +kernel
theorem dX7_narrow_10 : decode cX7_narrow 10 = .ok (.iconst 1, 1) := by decide +kernel
theorem dX7_narrow_11 : decode cX7_narrow 11 = .ok (.if_icmp .ne 8, 3) := by decide +kernel
theorem dX7_narrow_14 : decode cX7_narrow 14 = .ok (.iload_n 0, 1) := by decide +kernel
theorem dX7_narrow_15 : decode cX7_narrow 15 = .ok (.i2s, 1) := by decide +kernel
theorem dX7_narrow_16 : decode cX7_narrow 16 = .ok (.goto 4, 3) := by decide +kernel
theorem dX7_narrow_19 : decode cX7_narrow 19 = .ok (.iload_n 0, 1) := by decide +kernel
theorem dX7_narrow_20 : decode cX7_narrow 20 = .ok (.ireturn, 1) := by decide +kernel
theorem dX7_set_0 : decode cX7_set 0 = .ok (.iload_n 1, 1) := by decide +kernel
theorem dX7_set_1 : decode cX7_set 1 = .ok (.invokestatic 52, 3) := by decide +kernel
theorem dX7_set_4 : decode cX7_set 4 = .ok (.ifCond .ne 6, 3) := by decide +kernel
theorem dX7_set_7 : decode cX7_set 7 = .ok (.ldc 58, 2) := by decide +kernel
theorem dX7_set_9 : decode cX7_set 9 = .ok (.ireturn, 1) := by decide +kernel
theorem dX7_set_10 : decode cX7_set 10 = .ok (.aload_n 0, 1) := by decide +kernel
theorem dX7_set_11 : decode cX7_set 11 = .ok (.getfield 20, 3) := by decide +kernel
theorem dX7_set_14 : decode cX7_set 14 = .ok (.iload_n 1, 1) := by decide +kernel
theorem dX7_set_15 : decode cX7_set 15 = .ok (.iaload, 1) := by decide +kernel
theorem dX7_set_16 : decode cX7_set 16 = .ok (.ifCond .ge 9, 3) := by decide +kernel
theorem dX7_set_19 : decode cX7_set 19 = .ok (.aload_n 0, 1) := by decide +kernel
theorem dX7_set_20 : decode cX7_set 20 = .ok (.iconst 1, 1) := by decide +kernel
theorem dX7_set_21 : decode cX7_set 21 = .ok (.invokevirtual 59, 3) := by decide +kernel
theorem dX7_set_24 : decode cX7_set 24 = .ok (.ireturn, 1) := by decide +kernel
theorem dX7_set_25 : decode cX7_set 25 = .ok (.iload_n 2, 1) := by decide +kernel
theorem dX7_set_26 : decode cX7_set 26 = .ok (.i2l, 1) := by decide +kernel
theorem dX7_set_27 : decode cX7_set 27 = .ok (.lconst 0, 1) := by decide +kernel
theorem dX7_set_28 : decode cX7_set 28 = .ok (.aload_n 0, 1) := by decide +kernel
theorem dX7_set_29 : decode cX7_set 29 = .ok (.getfield 20, 3) := by decide +kernel
theorem dX7_set_32 : decode cX7_set 32 = .ok (.iload_n 1, 1) := by decide +kernel
theorem dX7_set_33 : decode cX7_set 33 = .ok (.iaload, 1) := by decide +kernel
theorem dX7_set_34 : decode cX7_set 34 = .ok (.iconst 1, 1) := by decide +kernel
theorem dX7_set_35 : decode cX7_set 35 = .ok (.isub, 1) := by decide +kernel
theorem dX7_set_36 : decode cX7_set 36 = .ok (.i2l, 1) := by decide +kernel
theorem dX7_set_37 : decode cX7_set 37 = .ok (.invokestatic 48, 3) := by decide +kernel
theorem dX7_set_40 : decode cX7_set 40 = .ok (.ifCond .ne 9, 3) := by decide +kernel
theorem dX7_set_43 : decode cX7_set 43 = .ok (.aload_n 0, 1) := by decide +kernel
theorem dX7_set_44 : decode cX7_set 44 = .ok (.iconst 2, 1) := by decide +kernel
theorem dX7_set_45 : decode cX7_set 45 = .ok (.invokevirtual 59, 3) := by decide +kernel
theorem dX7_set_48 : decode cX7_set 48 = .ok (.ireturn, 1) := by decide +kernel
theorem dX7_set_49 : decode cX7_set 49 = .ok (.aload_n 0, 1) := by decide +kernel
theorem dX7_set_50 : decode cX7_set 50 = .ok (.getfield 23, 3) := by decide +kernel
theorem dX7_set_53 : decode cX7_set 53 = .ok (.bipush 40, 2) := by decide +kernel
theorem dX7_set_55 : decode cX7_set 55 = .ok (.iload_n 1, 1) := by decide +kernel
theorem dX7_set_56 : decode cX7_set 56 = .ok (.imul, 1) := by decide +kernel
theorem dX7_set_57 : decode cX7_set 57 = .ok (.iload_n 2, 1) := by decide +kernel
theorem dX7_set_58 : decode cX7_set 58 = .ok (.iadd, 1) := by decide +kernel
theorem dX7_set_59 : decode cX7_set 59 = .ok (.iload_n 3, 1) := by decide +kernel
theorem dX7_set_60 : decode cX7_set 60 = .ok (.aload_n 0, 1) := by decide +kernel
theorem dX7_set_61 : decode cX7_set 61 = .ok (.getfield 17, 3) := by decide +kernel
theorem dX7_set_64 : decode cX7_set 64 = .ok (.iload_n 1, 1) := by decide +kernel
theorem dX7_set_65 : decode cX7_set 65 = .ok (.iaload, 1) := by decide +kernel
theorem dX7_set_66 : decode cX7_set 66 = .ok (.invokestatic 66, 3) := by decide +kernel
theorem dX7_set_69 : decode cX7_set 69 = .ok (.iastore, 1) := by decide +kernel
theorem dX7_set_70 : decode cX7_set 70 = .ok (.aload_n 0, 1) := by decide +kernel
theorem dX7_set_71 : decode cX7_set 71 = .ok (.aload_n 0, 1) := by decide +kernel
theorem dX7_set_72 : decode cX7_set 72 = .ok (.getfield 23, 3) := by decide +kernel
theorem dX7_set_75 : decode cX7_set 75 = .ok (.bipush 40, 2) := by decide +kernel
theorem dX7_set_77 : decode cX7_set 77 = .ok (.iload_n 1, 1) := by decide +kernel
theorem dX7_set_78 : decode cX7_set 78 = .ok (.imul, 1) := by decide +kernel
theorem dX7_set_79 : decode cX7_set 79 = .ok (.iload_n 2, 1) := by decide +kernel
theorem dX7_set_80 : decode cX7_set 80 = .ok (.iadd, 1) := by decide +kernel
theorem dX7_set_81 : decode cX7_set 81 = .ok (.iaload, 1) := by decide +kernel
theorem dX7_set_82 : decode cX7_set 82 = .ok (.invokevirtual 63, 3) := by decide +kernel
theorem dX7_set_85 : decode cX7_set 85 = .ok (.ireturn, 1) := by decide +kernel
theorem dX7_isSpan_0 : decode cX7_isSpan 0 = .ok (.iload_n 2, 1) := by decide +kernel
theorem dX7_isSpan_1 : decode cX7_isSpan 1 = .ok (.ifCond .lt 27, 3) := by decide +kernel
theorem dX7_isSpan_4 : decode cX7_isSpan 4 = .ok (.iload_n 3, 1) := by decide +kernel
theorem dX7_isSpan_5 : decode cX7_isSpan 5 = .ok (.ifCond .lt 23, 3) := by decide +kernel
theorem dX7_isSpan_8 : decode cX7_isSpan 8 = .ok (.iload_n 2, 1) := by decide +kernel
theorem dX7_isSpan_9 : decode cX7_isSpan 9 = .ok (.i2l, 1) := by decide +kernel
theorem dX7_isSpan_10 : decode cX7_isSpan 10 = .ok (.iload_n 3, 1) := by decide +kernel
theorem dX7_isSpan_11 : decode cX7_isSpan 11 = .ok (.i2l, 1) := by decide +kernel
theorem dX7_isSpan_12 : decode cX7_isSpan 12 = .ok (.ladd, 1) := by decide +kernel
theorem dX7_isSpan_13 : decode cX7_isSpan 13 = .ok (.aload_n 0, 1) := by decide +kernel
theorem dX7_isSpan_14 : decode cX7_isSpan 14 = .ok (.getfield 20, 3) := by decide +kernel
theorem dX7_isSpan_17 : decode cX7_isSpan 17 = .ok (.iload_n 1, 1) := by decide +kernel
theorem dX7_isSpan_18 : decode cX7_isSpan 18 = .ok (.iaload, 1) := by decide +kernel
theorem dX7_isSpan_19 : decode cX7_isSpan 19 = .ok (.i2l, 1) := by decide +kernel
theorem dX7_isSpan_20 : decode cX7_isSpan 20 = .ok (.lcmp, 1) := by decide +kernel
theorem dX7_isSpan_21 : decode cX7_isSpan 21 = .ok (.ifCond .gt 7, 3) := by decide +kernel
theorem dX7_isSpan_24 : decode cX7_isSpan 24 = .ok (.iconst 1, 1) := by decide +kernel
theorem dX7_isSpan_25 : decode cX7_isSpan 25 = .ok (.goto 4, 3) := by decide +kernel
theorem dX7_isSpan_28 : decode cX7_isSpan 28 = .ok (.iconst 0, 1) := by decide +kernel
theorem dX7_isSpan_29 : decode cX7_isSpan 29 = .ok (.ireturn, 1) := by decide +kernel
theorem dX7_copy_0 : decode cX7_copy 0 = .ok (.iload_n 1, 1) := by decide +kernel
theorem dX7_copy_1 : decode cX7_copy 1 = .ok (.invokestatic 52, 3) := by decide +kernel
theorem dX7_copy_4 : decode cX7_copy 4 = .ok (.ifCond .eq 10, 3) := by decide +kernel
theorem dX7_copy_7 : decode cX7_copy 7 = .ok (.iload_n 3, 1) := by decide +kernel
theorem dX7_copy_8 : decode cX7_copy 8 = .ok (.invokestatic 52, 3) := by decide +kernel
theorem dX7_copy_11 : decode cX7_copy 11 = .ok (.ifCond .ne 6, 3) := by decide +kernel
theorem dX7_copy_14 : decode cX7_copy 14 = .ok (.ldc 58, 2) := by decide +kernel
theorem dX7_copy_16 : decode cX7_copy 16 = .ok (.ireturn, 1) := by decide +kernel
theorem dX7_copy_17 : decode cX7_copy 17 = .ok (.aload_n 0, 1) := by decide +kernel
theorem dX7_copy_18 : decode cX7_copy 18 = .ok (.getfield 20, 3) := by decide +kernel
theorem dX7_copy_21 : decode cX7_copy 21 = .ok (.iload_n 1, 1) := by decide +kernel
theorem dX7_copy_22 : decode cX7_copy 22 = .ok (.iaload, 1) := by decide +kernel
theorem dX7_copy_23 : decode cX7_copy 23 = .ok (.ifCond .lt 12, 3) := by decide +kernel
theorem dX7_copy_26 : decode cX7_copy 26 = .ok (.aload_n 0, 1) := by decide +kernel
theorem dX7_copy_27 : decode cX7_copy 27 = .ok (.getfield 20, 3) := by decide +kernel
theorem dX7_copy_30 : decode cX7_copy 30 = .ok (.iload_n 3, 1) := by decide +kernel
theorem dX7_copy_31 : decode cX7_copy 31 = .ok (.iaload, 1) := by decide +kernel
theorem dX7_copy_32 : decode cX7_copy 32 = .ok (.ifCond .ge 9, 3) := by decide +kernel
theorem dX7_copy_35 : decode cX7_copy 35 = .ok (.aload_n 0, 1) := by decide +kernel
theorem dX7_copy_36 : decode cX7_copy 36 = .ok (.iconst 1, 1) := by decide +kernel
theorem dX7_copy_37 : decode cX7_copy 37 = .ok (.invokevirtual 59, 3) := by decide +kernel
theorem dX7_copy_40 : decode cX7_copy 40 = .ok (.ireturn, 1) := by decide +kernel
theorem dX7_copy_41 : decode cX7_copy 41 = .ok (.aload_n 0, 1) := by decide +kernel
theorem dX7_copy_42 : decode cX7_copy 42 = .ok (.getfield 17, 3) := by decide +kernel
theorem dX7_copy_45 : decode cX7_copy 45 = .ok (.iload_n 1, 1) := by decide +kernel
theorem dX7_copy_46 : decode cX7_copy 46 = .ok (.iaload, 1) := by decide +kernel
theorem dX7_copy_47 : decode cX7_copy 47 = .ok (.aload_n 0, 1) := by decide +kernel
theorem dX7_copy_48 : decode cX7_copy 48 = .ok (.getfield 17, 3) := by decide +kernel
theorem dX7_copy_51 : decode cX7_copy 51 = .ok (.iload_n 3, 1) := by decide +kernel
theorem dX7_copy_52 : decode cX7_copy 52 = .ok (.iaload, 1) := by decide +kernel
theorem dX7_copy_53 : decode cX7_copy 53 = .ok (.if_icmp .eq 9, 3) := by decide +kernel
theorem dX7_copy_56 : decode cX7_copy 56 = .ok (.aload_n 0, 1) := by decide +kernel
theorem dX7_copy_57 : decode cX7_copy 57 = .ok (.iconst 5, 1) := by decide +kernel
theorem dX7_copy_58 : decode cX7_copy 58 = .ok (.invokevirtual 59, 3) := by decide +kernel
theorem dX7_copy_61 : decode cX7_copy 61 = .ok (.ireturn, 1) := by decide +kernel
theorem dX7_copy_62 : decode cX7_copy 62 = .ok (.aload_n 0, 1) := by decide +kernel
theorem dX7_copy_63 : decode cX7_copy 63 = .ok (.iload_n 1, 1) := by decide +kernel
theorem dX7_copy_64 : decode cX7_copy 64 = .ok (.iload_n 2, 1) := by decide +kernel
theorem dX7_copy_65 : decode cX7_copy 65 = .ok (.iload 5, 2) := by decide +kernel
theorem dX7_copy_67 : decode cX7_copy 67 = .ok (.invokevirtual 70, 3) := by decide +kernel
theorem dX7_copy_70 : decode cX7_copy 70 = .ok (.ifCond .eq 15, 3) := by decide +kernel
theorem dX7_copy_73 : decode cX7_copy 73 = .ok (.aload_n 0, 1) := by decide +kernel
theorem dX7_copy_74 : decode cX7_copy 74 = .ok (.iload_n 3, 1) := by decide +kernel
theorem dX7_copy_75 : decode cX7_copy 75 = .ok (.iload 4, 2) := by decide +kernel
theorem dX7_copy_77 : decode cX7_copy 77 = .ok (.iload 5, 2) := by decide +kernel
theorem dX7_copy_79 : decode cX7_copy 79 = .ok (.invokevirtual 70, 3) := by decide +kernel
theorem dX7_copy_82 : decode cX7_copy 82 = .ok (.ifCond .ne 9, 3) := by decide +kernel
theorem dX7_copy_85 : decode cX7_copy 85 = .ok (.aload_n 0, 1) := by decide +kernel
theorem dX7_copy_86 : decode cX7_copy 86 = .ok (.iconst 2, 1) := by decide +kernel
theorem dX7_copy_87 : decode cX7_copy 87 = .ok (.invokevirtual 59, 3) := by decide +kernel
theorem dX7_copy_90 : decode cX7_copy 90 = .ok (.ireturn, 1) := by decide +kernel
theorem dX7_copy_91 : decode cX7_copy 91 = .ok (.iload_n 2, 1) := by decide +kernel
theorem dX7_copy_92 : decode cX7_copy 92 = .ok (.iload 4, 2) := by decide +kernel
theorem dX7_copy_94 : decode cX7_copy 94 = .ok (.if_icmp .ge 7, 3) := by decide +kernel
theorem dX7_copy_97 : decode cX7_copy 97 = .ok (.iconst 1, 1) := by decide +kernel
theorem dX7_copy_98 : decode cX7_copy 98 = .ok (.goto 4, 3) := by decide +kernel
theorem dX7_copy_101 : decode cX7_copy 101 = .ok (.iconst 0, 1) := by decide +kernel
theorem dX7_copy_102 : decode cX7_copy 102 = .ok (.istore 6, 2) := by decide +kernel
theorem dX7_copy_104 : decode cX7_copy 104 = .ok (.iconst 0, 1) := by decide +kernel
theorem dX7_copy_105 : decode cX7_copy 105 = .ok (.istore 7, 2) := by decide +kernel
theorem dX7_copy_107 : decode cX7_copy 107 = .ok (.iload 7, 2) := by decide +kernel
theorem dX7_copy_109 : decode cX7_copy 109 = .ok (.iload 5, 2) := by decide +kernel
theorem dX7_copy_111 : decode cX7_copy 111 = .ok (.if_icmp .ge 57, 3) := by decide +kernel
theorem dX7_copy_114 : decode cX7_copy 114 = .ok (.iload 6, 2) := by decide +kernel
theorem dX7_copy_116 : decode cX7_copy 116 = .ok (.ifCond .eq 13, 3) := by decide +kernel
theorem dX7_copy_119 : decode cX7_copy 119 = .ok (.iload 5, 2) := by decide +kernel
theorem dX7_copy_121 : decode cX7_copy 121 = .ok (.iconst 1, 1) := by decide +kernel
theorem dX7_copy_122 : decode cX7_copy 122 = .ok (.isub, 1) := by decide +kernel
theorem dX7_copy_123 : decode cX7_copy 123 = .ok (.iload 7, 2) := by decide +kernel
theorem dX7_copy_125 : decode cX7_copy 125 = .ok (.isub, 1) := by decide +kernel
theorem dX7_copy_126 : decode cX7_copy 126 = .ok (.goto 5, 3) := by decide +kernel
theorem dX7_copy_129 : decode cX7_copy 129 = .ok (.iload 7, 2) := by decide +kernel
theorem dX7_copy_131 : decode cX7_copy 131 = .ok (.istore 8, 2) := by decide +kernel
theorem dX7_copy_133 : decode cX7_copy 133 = .ok (.aload_n 0, 1) := by decide +kernel
theorem dX7_copy_134 : decode cX7_copy 134 = .ok (.getfield 23, 3) := by decide +kernel
theorem dX7_copy_137 : decode cX7_copy 137 = .ok (.bipush 40, 2) := by decide +kernel
theorem dX7_copy_139 : decode cX7_copy 139 = .ok (.iload_n 3, 1) := by decide +kernel
theorem dX7_copy_140 : decode cX7_copy 140 = .ok (.imul, 1) := by decide +kernel
theorem dX7_copy_141 : decode cX7_copy 141 = .ok (.iload 4, 2) := by decide +kernel
theorem dX7_copy_143 : decode cX7_copy 143 = .ok (.iadd, 1) := by decide +kernel
theorem dX7_copy_144 : decode cX7_copy 144 = .ok (.iload 8, 2) := by decide +kernel
theorem dX7_copy_146 : decode cX7_copy 146 = .ok (.iadd, 1) := by decide +kernel
theorem dX7_copy_147 : decode cX7_copy 147 = .ok (.aload_n 0, 1) := by decide +kernel
theorem dX7_copy_148 : decode cX7_copy 148 = .ok (.getfield 23, 3) := by decide +kernel
theorem dX7_copy_151 : decode cX7_copy 151 = .ok (.bipush 40, 2) := by decide +kernel
theorem dX7_copy_153 : decode cX7_copy 153 = .ok (.iload_n 1, 1) := by decide +kernel
theorem dX7_copy_154 : decode cX7_copy 154 = .ok (.imul, 1) := by decide +kernel
theorem dX7_copy_155 : decode cX7_copy 155 = .ok (.iload_n 2, 1) := by decide +kernel
theorem dX7_copy_156 : decode cX7_copy 156 = .ok (.iadd, 1) := by decide +kernel
theorem dX7_copy_157 : decode cX7_copy 157 = .ok (.iload 8, 2) := by decide +kernel
theorem dX7_copy_159 : decode cX7_copy 159 = .ok (.iadd, 1) := by decide +kernel
theorem dX7_copy_160 : decode cX7_copy 160 = .ok (.iaload, 1) := by decide +kernel
theorem dX7_copy_161 : decode cX7_copy 161 = .ok (.iastore, 1) := by decide +kernel
theorem dX7_copy_162 : decode cX7_copy 162 = .ok (.iinc 7 1, 3) := by decide +kernel
theorem dX7_copy_165 : decode cX7_copy 165 = .ok (.goto (-58), 3) := by decide +kernel
theorem dX7_copy_168 : decode cX7_copy 168 = .ok (.aload_n 0, 1) := by decide +kernel
theorem dX7_copy_169 : decode cX7_copy 169 = .ok (.iload 5, 2) := by decide +kernel
theorem dX7_copy_171 : decode cX7_copy 171 = .ok (.invokevirtual 63, 3) := by decide +kernel
theorem dX7_copy_174 : decode cX7_copy 174 = .ok (.ireturn, 1) := by decide +kernel
theorem dX7_drop_0 : decode cX7_drop 0 = .ok (.iload_n 1, 1) := by decide +kernel
theorem dX7_drop_1 : decode cX7_drop 1 = .ok (.invokestatic 52, 3) := by decide +kernel
theorem dX7_drop_4 : decode cX7_drop 4 = .ok (.ifCond .ne 6, 3) := by decide +kernel
theorem dX7_drop_7 : decode cX7_drop 7 = .ok (.ldc 58, 2) := by decide +kernel
theorem dX7_drop_9 : decode cX7_drop 9 = .ok (.ireturn, 1) := by decide +kernel
theorem dX7_drop_10 : decode cX7_drop 10 = .ok (.aload_n 0, 1) := by decide +kernel
theorem dX7_drop_11 : decode cX7_drop 11 = .ok (.getfield 20, 3) := by decide +kernel
theorem dX7_drop_14 : decode cX7_drop 14 = .ok (.iload_n 1, 1) := by decide +kernel
theorem dX7_drop_15 : decode cX7_drop 15 = .ok (.iaload, 1) := by decide +kernel
theorem dX7_drop_16 : decode cX7_drop 16 = .ok (.ifCond .ge 9, 3) := by decide +kernel
theorem dX7_drop_19 : decode cX7_drop 19 = .ok (.aload_n 0, 1) := by decide +kernel
theorem dX7_drop_20 : decode cX7_drop 20 = .ok (.iconst 1, 1) := by decide +kernel
theorem dX7_drop_21 : decode cX7_drop 21 = .ok (.invokevirtual 59, 3) := by decide +kernel
theorem dX7_drop_24 : decode cX7_drop 24 = .ok (.ireturn, 1) := by decide +kernel
theorem dX7_drop_25 : decode cX7_drop 25 = .ok (.aload_n 0, 1) := by decide +kernel
theorem dX7_drop_26 : decode cX7_drop 26 = .ok (.getfield 20, 3) := by decide +kernel
theorem dX7_drop_29 : decode cX7_drop 29 = .ok (.iload_n 1, 1) := by decide +kernel
theorem dX7_drop_30 : decode cX7_drop 30 = .ok (.iaload, 1) := by decide +kernel
theorem dX7_drop_31 : decode cX7_drop 31 = .ok (.istore_n 2, 1) := by decide +kernel
theorem dX7_drop_32 : decode cX7_drop 32 = .ok (.aload_n 0, 1) := by decide +kernel
theorem dX7_drop_33 : decode cX7_drop 33 = .ok (.getfield 20, 3) := by decide +kernel
theorem dX7_drop_36 : decode cX7_drop 36 = .ok (.iload_n 1, 1) := by decide +kernel
theorem dX7_drop_37 : decode cX7_drop 37 = .ok (.iconst (-1), 1) := by decide +kernel
theorem dX7_drop_38 : decode cX7_drop 38 = .ok (.iastore, 1) := by decide +kernel
theorem dX7_drop_39 : decode cX7_drop 39 = .ok (.aload_n 0, 1) := by decide +kernel
theorem dX7_drop_40 : decode cX7_drop 40 = .ok (.iload_n 2, 1) := by decide +kernel
theorem dX7_drop_41 : decode cX7_drop 41 = .ok (.invokevirtual 63, 3) := by decide +kernel
theorem dX7_drop_44 : decode cX7_drop 44 = .ok (.ireturn, 1) := by decide +kernel
theorem dX7_feed_0 : decode cX7_feed 0 = .ok (.iload_n 1, 1) := by decide +kernel
theorem dX7_feed_1 : decode cX7_feed 1 = .ok (.i2l, 1) := by decide +kernel
theorem dX7_feed_2 : decode cX7_feed 2 = .ok (.lconst 0, 1) := by decide +kernel
theorem dX7_feed_3 : decode cX7_feed 3 = .ok (.ldc2_w 74, 3) := by decide +kernel
theorem dX7_feed_6 : decode cX7_feed 6 = .ok (.invokestatic 48, 3) := by decide +kernel
theorem dX7_feed_9 : decode cX7_feed 9 = .ok (.ifCond .ne 6, 3) := by decide +kernel
theorem dX7_feed_12 : decode cX7_feed 12 = .ok (.ldc 58, 2) := by decide +kernel
theorem dX7_feed_14 : decode cX7_feed 14 = .ok (.ireturn, 1) := by decide +kernel
theorem dX7_feed_15 : decode cX7_feed 15 = .ok (.aload_n 0, 1) := by decide +kernel
theorem dX7_feed_16 : decode cX7_feed 16 = .ok (.getfield 76, 3) := by decide +kernel
theorem dX7_feed_19 : decode cX7_feed 19 = .ok (.bipush 100, 2) := by decide +kernel
theorem dX7_feed_21 : decode cX7_feed 21 = .ok (.if_icmp .ne 6, 3) := by decide +kernel
theorem dX7_feed_24 : decode cX7_feed 24 = .ok (.ldc 79, 2) := by decide +kernel
theorem dX7_feed_26 : decode cX7_feed 26 = .ok (.ireturn, 1) := by decide +kernel
theorem dX7_feed_27 : decode cX7_feed 27 = .ok (.aload_n 0, 1) := by decide +kernel
theorem dX7_feed_28 : decode cX7_feed 28 = .ok (.getfield 26, 3) := by decide +kernel
theorem dX7_feed_31 : decode cX7_feed 31 = .ok (.aload_n 0, 1) := by decide +kernel
theorem dX7_feed_32 : decode cX7_feed 32 = .ok (.getfield 76, 3) := by decide +kernel
theorem dX7_feed_35 : decode cX7_feed 35 = .ok (.iload_n 1, 1) := by decide +kernel
theorem dX7_feed_36 : decode cX7_feed 36 = .ok (.iastore, 1) := by decide +kernel
theorem dX7_feed_37 : decode cX7_feed 37 = .ok (.aload_n 0, 1) := by decide +kernel
theorem dX7_feed_38 : decode cX7_feed 38 = .ok (.dup, 1) := by decide +kernel
theorem dX7_feed_39 : decode cX7_feed 39 = .ok (.getfield 76, 3) := by decide +kernel
theorem dX7_feed_42 : decode cX7_feed 42 = .ok (.iconst 1, 1) := by decide +kernel
theorem dX7_feed_43 : decode cX7_feed 43 = .ok (.iadd, 1) := by decide +kernel
theorem dX7_feed_44 : decode cX7_feed 44 = .ok (.putfield 76, 3) := by decide +kernel
theorem dX7_feed_47 : decode cX7_feed 47 = .ok (.aload_n 0, 1) := by decide +kernel
theorem dX7_feed_48 : decode cX7_feed 48 = .ok (.getfield 76, 3) := by decide +kernel
theorem dX7_feed_51 : decode cX7_feed 51 = .ok (.ireturn, 1) := by decide +kernel
theorem dX7_isLetter_0 : decode cX7_isLetter 0 = .ok (.aload_n 0, 1) := by decide +kernel
theorem dX7_isLetter_1 : decode cX7_isLetter 1 = .ok (.getfield 80, 3) := by decide +kernel
theorem dX7_isLetter_4 : decode cX7_isLetter 4 = .ok (.aload_n 0, 1) := by decide +kernel
theorem dX7_isLetter_5 : decode cX7_isLetter 5 = .ok (.getfield 76, 3) := by decide +kernel
theorem dX7_isLetter_8 : decode cX7_isLetter 8 = .ok (.if_icmp .ge 20, 3) := by decide +kernel
theorem dX7_isLetter_11 : decode cX7_isLetter 11 = .ok (.aload_n 0, 1) := by decide +kernel
theorem dX7_isLetter_12 : decode cX7_isLetter 12 = .ok (.getfield 26, 3) := by decide +kernel
theorem dX7_isLetter_15 : decode cX7_isLetter 15 = .ok (.aload_n 0, 1) := by decide +kernel
theorem dX7_isLetter_16 : decode cX7_isLetter 16 = .ok (.getfield 80, 3) := by decide +kernel
theorem dX7_isLetter_19 : decode cX7_isLetter 19 = .ok (.iaload, 1) := by decide +kernel
theorem dX7_isLetter_20 : decode cX7_isLetter 20 = .ok (.iload_n 1, 1) := by decide +kernel
theorem dX7_isLetter_21 : decode cX7_isLetter 21 = .ok (.if_icmp .ne 7, 3) := by decide +kernel
theorem dX7_isLetter_24 : decode cX7_isLetter 24 = .ok (.iconst 1, 1) := by decide +kernel
theorem dX7_isLetter_25 : decode cX7_isLetter 25 = .ok (.goto 4, 3) := by decide +kernel
theorem dX7_isLetter_28 : decode cX7_isLetter 28 = .ok (.iconst 0, 1) := by decide +kernel
theorem dX7_isLetter_29 : decode cX7_isLetter 29 = .ok (.ireturn, 1) := by decide +kernel
theorem dX7_isFigure_0 : decode cX7_isFigure 0 = .ok (.iload_n 1, 1) := by decide +kernel
theorem dX7_isFigure_1 : decode cX7_isFigure 1 = .ok (.aload_n 0, 1) := by decide +kernel
theorem dX7_isFigure_2 : decode cX7_isFigure 2 = .ok (.getfield 76, 3) := by decide +kernel
theorem dX7_isFigure_5 : decode cX7_isFigure 5 = .ok (.if_icmp .ge 26, 3) := by decide +kernel
theorem dX7_isFigure_8 : decode cX7_isFigure 8 = .ok (.aload_n 0, 1) := by decide +kernel
theorem dX7_isFigure_9 : decode cX7_isFigure 9 = .ok (.getfield 26, 3) := by decide +kernel
theorem dX7_isFigure_12 : decode cX7_isFigure 12 = .ok (.iload_n 1, 1) := by decide +kernel
theorem dX7_isFigure_13 : decode cX7_isFigure 13 = .ok (.iaload, 1) := by decide +kernel
theorem dX7_isFigure_14 : decode cX7_isFigure 14 = .ok (.i2l, 1) := by decide +kernel
theorem dX7_isFigure_15 : decode cX7_isFigure 15 = .ok (.ldc2_w 83, 3) := by decide +kernel
theorem dX7_isFigure_18 : decode cX7_isFigure 18 = .ok (.ldc2_w 85, 3) := by decide +kernel
theorem dX7_isFigure_21 : decode cX7_isFigure 21 = .ok (.invokestatic 48, 3) := by decide +kernel
theorem dX7_isFigure_24 : decode cX7_isFigure 24 = .ok (.ifCond .eq 7, 3) := by decide +kernel
theorem dX7_isFigure_27 : decode cX7_isFigure 27 = .ok (.iconst 1, 1) := by decide +kernel
theorem dX7_isFigure_28 : decode cX7_isFigure 28 = .ok (.goto 4, 3) := by decide +kernel
theorem dX7_isFigure_31 : decode cX7_isFigure 31 = .ok (.iconst 0, 1) := by decide +kernel
theorem dX7_isFigure_32 : decode cX7_isFigure 32 = .ok (.ireturn, 1) := by decide +kernel
theorem dX7_refuse_0 : decode cX7_refuse 0 = .ok (.aload_n 0, 1) := by decide +kernel
theorem dX7_refuse_1 : decode cX7_refuse 1 = .ok (.iload_n 1, 1) := by decide +kernel
theorem dX7_refuse_2 : decode cX7_refuse 2 = .ok (.putfield 87, 3) := by decide +kernel
theorem dX7_refuse_5 : decode cX7_refuse 5 = .ok (.iconst 0, 1) := by decide +kernel
theorem dX7_refuse_6 : decode cX7_refuse 6 = .ok (.ireturn, 1) := by decide +kernel
theorem dX7_sign_0 : decode cX7_sign 0 = .ok (.aload_n 0, 1) := by decide +kernel
theorem dX7_sign_1 : decode cX7_sign 1 = .ok (.iload_n 1, 1) := by decide +kernel
theorem dX7_sign_2 : decode cX7_sign 2 = .ok (.invokevirtual 90, 3) := by decide +kernel
theorem dX7_sign_5 : decode cX7_sign 5 = .ok (.ifCond .ne 9, 3) := by decide +kernel
theorem dX7_sign_8 : decode cX7_sign 8 = .ok (.aload_n 0, 1) := by decide +kernel
theorem dX7_sign_9 : decode cX7_sign 9 = .ok (.iconst 1, 1) := by decide +kernel
theorem dX7_sign_10 : decode cX7_sign 10 = .ok (.invokevirtual 93, 3) := by decide +kernel
theorem dX7_sign_13 : decode cX7_sign 13 = .ok (.ireturn, 1) := by decide +kernel
theorem dX7_sign_14 : decode cX7_sign 14 = .ok (.aload_n 0, 1) := by decide +kernel
theorem dX7_sign_15 : decode cX7_sign 15 = .ok (.dup, 1) := by decide +kernel
theorem dX7_sign_16 : decode cX7_sign 16 = .ok (.getfield 80, 3) := by decide +kernel
theorem dX7_sign_19 : decode cX7_sign 19 = .ok (.iconst 1, 1) := by decide +kernel
theorem dX7_sign_20 : decode cX7_sign 20 = .ok (.iadd, 1) := by decide +kernel
theorem dX7_sign_21 : decode cX7_sign 21 = .ok (.putfield 80, 3) := by decide +kernel
theorem dX7_sign_24 : decode cX7_sign 24 = .ok (.iconst 1, 1) := by decide +kernel
theorem dX7_sign_25 : decode cX7_sign 25 = .ok (.ireturn, 1) := by decide +kernel
theorem dX7_readsNumber_0 : decode cX7_readsNumber 0 = .ok (.aload_n 0, 1) := by decide +kernel
theorem dX7_readsNumber_1 : decode cX7_readsNumber 1 = .ok (.aload_n 0, 1) := by decide +kernel
theorem dX7_readsNumber_2 : decode cX7_readsNumber 2 = .ok (.getfield 80, 3) := by decide +kernel
theorem dX7_readsNumber_5 : decode cX7_readsNumber 5 = .ok (.invokevirtual 96, 3) := by decide +kernel
theorem dX7_readsNumber_8 : decode cX7_readsNumber 8 = .ok (.ifCond .eq 29, 3) := by decide +kernel
theorem dX7_readsNumber_11 : decode cX7_readsNumber 11 = .ok (.aload_n 0, 1) := by decide +kernel
theorem dX7_readsNumber_12 : decode cX7_readsNumber 12 = .ok (.aload_n 0, 1) := by decide +kernel
theorem dX7_readsNumber_13 : decode cX7_readsNumber 13 = .ok (.getfield 80, 3) := by decide +kernel
theorem dX7_readsNumber_16 : decode cX7_readsNumber 16 = .ok (.iconst 1, 1) := by decide +kernel
theorem dX7_readsNumber_17 : decode cX7_readsNumber 17 = .ok (.iadd, 1) := by decide +kernel
theorem dX7_readsNumber_18 : decode cX7_readsNumber 18 = .ok (.invokevirtual 96, 3) := by decide +kernel
theorem dX7_readsNumber_21 : decode cX7_readsNumber 21 = .ok (.ifCond .eq 22, 3) := by decide +kernel
theorem dX7_readsNumber_24 : decode cX7_readsNumber 24 = .ok (.aload_n 0, 1) := by decide +kernel
theorem dX7_readsNumber_25 : decode cX7_readsNumber 25 = .ok (.aload_n 0, 1) := by decide +kernel
theorem dX7_readsNumber_26 : decode cX7_readsNumber 26 = .ok (.getfield 80, 3) := by decide +kernel
theorem dX7_readsNumber_29 : decode cX7_readsNumber 29 = .ok (.iconst 2, 1) := by decide +kernel
theorem dX7_readsNumber_30 : decode cX7_readsNumber 30 = .ok (.iadd, 1) := by decide +kernel
theorem dX7_readsNumber_31 : decode cX7_readsNumber 31 = .ok (.invokevirtual 96, 3) := by decide +kernel
theorem dX7_readsNumber_34 : decode cX7_readsNumber 34 = .ok (.ifCond .eq 9, 3) := by decide +kernel
theorem dX7_readsNumber_37 : decode cX7_readsNumber 37 = .ok (.aload_n 0, 1) := by decide +kernel
theorem dX7_readsNumber_38 : decode cX7_readsNumber 38 = .ok (.iconst 1, 1) := by decide +kernel
theorem dX7_readsNumber_39 : decode cX7_readsNumber 39 = .ok (.invokevirtual 93, 3) := by decide +kernel
theorem dX7_readsNumber_42 : decode cX7_readsNumber 42 = .ok (.ireturn, 1) := by decide +kernel
theorem dX7_readsNumber_43 : decode cX7_readsNumber 43 = .ok (.aload_n 0, 1) := by decide +kernel
theorem dX7_readsNumber_44 : decode cX7_readsNumber 44 = .ok (.aload_n 0, 1) := by decide +kernel
theorem dX7_readsNumber_45 : decode cX7_readsNumber 45 = .ok (.getfield 26, 3) := by decide +kernel
theorem dX7_readsNumber_48 : decode cX7_readsNumber 48 = .ok (.aload_n 0, 1) := by decide +kernel
theorem dX7_readsNumber_49 : decode cX7_readsNumber 49 = .ok (.getfield 80, 3) := by decide +kernel
theorem dX7_readsNumber_52 : decode cX7_readsNumber 52 = .ok (.iaload, 1) := by decide +kernel
theorem dX7_readsNumber_53 : decode cX7_readsNumber 53 = .ok (.bipush 48, 2) := by decide +kernel
theorem dX7_readsNumber_55 : decode cX7_readsNumber 55 = .ok (.isub, 1) := by decide +kernel
theorem dX7_readsNumber_56 : decode cX7_readsNumber 56 = .ok (.putfield 99, 3) := by decide +kernel
theorem dX7_readsNumber_59 : decode cX7_readsNumber 59 = .ok (.aload_n 0, 1) := by decide +kernel
theorem dX7_readsNumber_60 : decode cX7_readsNumber 60 = .ok (.aload_n 0, 1) := by decide +kernel
theorem dX7_readsNumber_61 : decode cX7_readsNumber 61 = .ok (.getfield 80, 3) := by decide +kernel
theorem dX7_readsNumber_64 : decode cX7_readsNumber 64 = .ok (.iconst 1, 1) := by decide +kernel
theorem dX7_readsNumber_65 : decode cX7_readsNumber 65 = .ok (.iadd, 1) := by decide +kernel
theorem dX7_readsNumber_66 : decode cX7_readsNumber 66 = .ok (.invokevirtual 96, 3) := by decide +kernel
theorem dX7_readsNumber_69 : decode cX7_readsNumber 69 = .ok (.ifCond .eq 7, 3) := by decide +kernel
theorem dX7_readsNumber_72 : decode cX7_readsNumber 72 = .ok (.iconst 2, 1) := by decide +kernel
theorem dX7_readsNumber_73 : decode cX7_readsNumber 73 = .ok (.goto 4, 3) := by decide +kernel
theorem dX7_readsNumber_76 : decode cX7_readsNumber 76 = .ok (.iconst 1, 1) := by decide +kernel
theorem dX7_readsNumber_77 : decode cX7_readsNumber 77 = .ok (.istore_n 3, 1) := by decide +kernel
theorem dX7_readsNumber_78 : decode cX7_readsNumber 78 = .ok (.aload_n 0, 1) := by decide +kernel
theorem dX7_readsNumber_79 : decode cX7_readsNumber 79 = .ok (.iload_n 3, 1) := by decide +kernel
theorem dX7_readsNumber_80 : decode cX7_readsNumber 80 = .ok (.iconst 2, 1) := by decide +kernel
theorem dX7_readsNumber_81 : decode cX7_readsNumber 81 = .ok (.if_icmp .ne 28, 3) := by decide +kernel
theorem dX7_readsNumber_84 : decode cX7_readsNumber 84 = .ok (.bipush 10, 2) := by decide +kernel
theorem dX7_readsNumber_86 : decode cX7_readsNumber 86 = .ok (.aload_n 0, 1) := by decide +kernel
theorem dX7_readsNumber_87 : decode cX7_readsNumber 87 = .ok (.getfield 99, 3) := by decide +kernel
theorem dX7_readsNumber_90 : decode cX7_readsNumber 90 = .ok (.imul, 1) := by decide +kernel
theorem dX7_readsNumber_91 : decode cX7_readsNumber 91 = .ok (.aload_n 0, 1) := by decide +kernel
theorem dX7_readsNumber_92 : decode cX7_readsNumber 92 = .ok (.getfield 26, 3) := by decide +kernel
theorem dX7_readsNumber_95 : decode cX7_readsNumber 95 = .ok (.aload_n 0, 1) := by decide +kernel
theorem dX7_readsNumber_96 : decode cX7_readsNumber 96 = .ok (.getfield 80, 3) := by decide +kernel
theorem dX7_readsNumber_99 : decode cX7_readsNumber 99 = .ok (.iconst 1, 1) := by decide +kernel
theorem dX7_readsNumber_100 : decode cX7_readsNumber 100 = .ok (.iadd, 1) := by decide +kernel
theorem dX7_readsNumber_101 : decode cX7_readsNumber 101 = .ok (.iaload, 1) := by decide +kernel
theorem dX7_readsNumber_102 : decode cX7_readsNumber 102 = .ok (.iadd, 1) := by decide +kernel
theorem dX7_readsNumber_103 : decode cX7_readsNumber 103 = .ok (.bipush 48, 2) := by decide +kernel
theorem dX7_readsNumber_105 : decode cX7_readsNumber 105 = .ok (.isub, 1) := by decide +kernel
theorem dX7_readsNumber_106 : decode cX7_readsNumber 106 = .ok (.goto 7, 3) := by decide +kernel
theorem dX7_readsNumber_109 : decode cX7_readsNumber 109 = .ok (.aload_n 0, 1) := by decide +kernel
theorem dX7_readsNumber_110 : decode cX7_readsNumber 110 = .ok (.getfield 99, 3) := by decide +kernel
theorem dX7_readsNumber_113 : decode cX7_readsNumber 113 = .ok (.putfield 99, 3) := by decide +kernel
theorem dX7_readsNumber_116 : decode cX7_readsNumber 116 = .ok (.aload_n 0, 1) := by decide +kernel
theorem dX7_readsNumber_117 : decode cX7_readsNumber 117 = .ok (.getfield 99, 3) := by decide +kernel
theorem dX7_readsNumber_120 : decode cX7_readsNumber 120 = .ok (.i2l, 1) := by decide +kernel
theorem dX7_readsNumber_121 : decode cX7_readsNumber 121 = .ok (.iload_n 1, 1) := by decide +kernel
theorem dX7_readsNumber_122 : decode cX7_readsNumber 122 = .ok (.i2l, 1) := by decide +kernel
theorem dX7_readsNumber_123 : decode cX7_readsNumber 123 = .ok (.iload_n 2, 1) := by decide +kernel
theorem dX7_readsNumber_124 : decode cX7_readsNumber 124 = .ok (.i2l, 1) := by decide +kernel
theorem dX7_readsNumber_125 : decode cX7_readsNumber 125 = .ok (.invokestatic 48, 3) := by decide +kernel
