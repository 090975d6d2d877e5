theorem dX7_readsNumber_128 : decode cX7_readsNumber 128 = .ok (.ifCond .ne 9, 3) := by decide +kernel
theorem dX7_readsNumber_131 : decode cX7_readsNumber 131 = .ok (.aload_n 0, 1) := by decide +kernel
theorem dX7_readsNumber_132 : decode cX7_readsNumber 132 = .ok (.iconst 2, 1) := by decide +kernel
theorem dX7_readsNumber_133 : decode cX7_readsNumber 133 = .ok (.invokevirtual 93, 3) := by decide +kernel
theorem dX7_readsNumber_136 : decode cX7_readsNumber 136 = .ok (.ireturn, 1) := by decide +kernel
theorem dX7_readsNumber_137 : decode cX7_readsNumber 137 = .ok (.aload_n 0, 1) := by decide +kernel
theorem dX7_readsNumber_138 : decode cX7_readsNumber 138 = .ok (.dup, 1) := by decide +kernel
theorem dX7_readsNumber_139 : decode cX7_readsNumber 139 = .ok (.getfield 80, 3) := by decide +kernel
theorem dX7_readsNumber_142 : decode cX7_readsNumber 142 = .ok (.iload_n 3, 1) := by decide +kernel
theorem dX7_readsNumber_143 : decode cX7_readsNumber 143 = .ok (.iadd, 1) := by decide +kernel
theorem dX7_readsNumber_144 : decode cX7_readsNumber 144 = .ok (.putfield 80, 3) := by decide +kernel
theorem dX7_readsNumber_147 : decode cX7_readsNumber 147 = .ok (.iconst 1, 1) := by decide +kernel
theorem dX7_readsNumber_148 : decode cX7_readsNumber 148 = .ok (.ireturn, 1) := by decide +kernel
theorem dX7_readsLaw_0 : decode cX7_readsLaw 0 = .ok (.aload_n 0, 1) := by decide +kernel
theorem dX7_readsLaw_1 : decode cX7_readsLaw 1 = .ok (.bipush 108, 2) := by decide +kernel
theorem dX7_readsLaw_3 : decode cX7_readsLaw 3 = .ok (.invokevirtual 102, 3) := by decide +kernel
theorem dX7_readsLaw_6 : decode cX7_readsLaw 6 = .ok (.ifCond .eq 13, 3) := by decide +kernel
theorem dX7_readsLaw_9 : decode cX7_readsLaw 9 = .ok (.aload_n 0, 1) := by decide +kernel
theorem dX7_readsLaw_10 : decode cX7_readsLaw 10 = .ok (.iconst 0, 1) := by decide +kernel
theorem dX7_readsLaw_11 : decode cX7_readsLaw 11 = .ok (.bipush 9, 2) := by decide +kernel
theorem dX7_readsLaw_13 : decode cX7_readsLaw 13 = .ok (.invokevirtual 105, 3) := by decide +kernel
theorem dX7_readsLaw_16 : decode cX7_readsLaw 16 = .ok (.ifCond .ne 5, 3) := by decide +kernel
theorem dX7_readsLaw_19 : decode cX7_readsLaw 19 = .ok (.iconst 0, 1) := by decide +kernel
theorem dX7_readsLaw_20 : decode cX7_readsLaw 20 = .ok (.ireturn, 1) := by decide +kernel
theorem dX7_readsLaw_21 : decode cX7_readsLaw 21 = .ok (.aload_n 0, 1) := by decide +kernel
theorem dX7_readsLaw_22 : decode cX7_readsLaw 22 = .ok (.getfield 7, 3) := by decide +kernel
theorem dX7_readsLaw_25 : decode cX7_readsLaw 25 = .ok (.sipush 1514, 3) := by decide +kernel
theorem dX7_readsLaw_28 : decode cX7_readsLaw 28 = .ok (.aload_n 0, 1) := by decide +kernel
theorem dX7_readsLaw_29 : decode cX7_readsLaw 29 = .ok (.getfield 99, 3) := by decide +kernel
theorem dX7_readsLaw_32 : decode cX7_readsLaw 32 = .ok (.iastore, 1) := by decide +kernel
theorem dX7_readsLaw_33 : decode cX7_readsLaw 33 = .ok (.aload_n 0, 1) := by decide +kernel
theorem dX7_readsLaw_34 : decode cX7_readsLaw 34 = .ok (.bipush 44, 2) := by decide +kernel
theorem dX7_readsLaw_36 : decode cX7_readsLaw 36 = .ok (.invokevirtual 102, 3) := by decide +kernel
theorem dX7_readsLaw_39 : decode cX7_readsLaw 39 = .ok (.ifCond .eq 13, 3) := by decide +kernel
theorem dX7_readsLaw_42 : decode cX7_readsLaw 42 = .ok (.aload_n 0, 1) := by decide +kernel
theorem dX7_readsLaw_43 : decode cX7_readsLaw 43 = .ok (.iconst 1, 1) := by decide +kernel
theorem dX7_readsLaw_44 : decode cX7_readsLaw 44 = .ok (.bipush 6, 2) := by decide +kernel
theorem dX7_readsLaw_46 : decode cX7_readsLaw 46 = .ok (.invokevirtual 105, 3) := by decide +kernel
theorem dX7_readsLaw_49 : decode cX7_readsLaw 49 = .ok (.ifCond .ne 5, 3) := by decide +kernel
theorem dX7_readsLaw_52 : decode cX7_readsLaw 52 = .ok (.iconst 0, 1) := by decide +kernel
theorem dX7_readsLaw_53 : decode cX7_readsLaw 53 = .ok (.ireturn, 1) := by decide +kernel
theorem dX7_readsLaw_54 : decode cX7_readsLaw 54 = .ok (.aload_n 0, 1) := by decide +kernel
theorem dX7_readsLaw_55 : decode cX7_readsLaw 55 = .ok (.getfield 7, 3) := by decide +kernel
theorem dX7_readsLaw_58 : decode cX7_readsLaw 58 = .ok (.sipush 1515, 3) := by decide +kernel
theorem dX7_readsLaw_61 : decode cX7_readsLaw 61 = .ok (.aload_n 0, 1) := by decide +kernel
theorem dX7_readsLaw_62 : decode cX7_readsLaw 62 = .ok (.getfield 99, 3) := by decide +kernel
theorem dX7_readsLaw_65 : decode cX7_readsLaw 65 = .ok (.iastore, 1) := by decide +kernel
theorem dX7_readsLaw_66 : decode cX7_readsLaw 66 = .ok (.aload_n 0, 1) := by decide +kernel
theorem dX7_readsLaw_67 : decode cX7_readsLaw 67 = .ok (.bipush 59, 2) := by decide +kernel
theorem dX7_readsLaw_69 : decode cX7_readsLaw 69 = .ok (.invokevirtual 102, 3) := by decide +kernel
theorem dX7_readsLaw_72 : decode cX7_readsLaw 72 = .ok (.ireturn, 1) := by decide +kernel
theorem dX7_readsChild_0 : decode cX7_readsChild 0 = .ok (.aload_n 0, 1) := by decide +kernel
theorem dX7_readsChild_1 : decode cX7_readsChild 1 = .ok (.getfield 7, 3) := by decide +kernel
theorem dX7_readsChild_4 : decode cX7_readsChild 4 = .ok (.sipush 1512, 3) := by decide +kernel
theorem dX7_readsChild_7 : decode cX7_readsChild 7 = .ok (.iaload, 1) := by decide +kernel
theorem dX7_readsChild_8 : decode cX7_readsChild 8 = .ok (.istore_n 1, 1) := by decide +kernel
theorem dX7_readsChild_9 : decode cX7_readsChild 9 = .ok (.iload_n 1, 1) := by decide +kernel
theorem dX7_readsChild_10 : decode cX7_readsChild 10 = .ok (.iconst 5, 1) := by decide +kernel
theorem dX7_readsChild_11 : decode cX7_readsChild 11 = .ok (.if_icmp .ne 9, 3) := by decide +kernel
theorem dX7_readsChild_14 : decode cX7_readsChild 14 = .ok (.aload_n 0, 1) := by decide +kernel
theorem dX7_readsChild_15 : decode cX7_readsChild 15 = .ok (.iconst 3, 1) := by decide +kernel
theorem dX7_readsChild_16 : decode cX7_readsChild 16 = .ok (.invokevirtual 93, 3) := by decide +kernel
theorem dX7_readsChild_19 : decode cX7_readsChild 19 = .ok (.ireturn, 1) := by decide +kernel
theorem dX7_readsChild_20 : decode cX7_readsChild 20 = .ok (.aload_n 0, 1) := by decide +kernel
theorem dX7_readsChild_21 : decode cX7_readsChild 21 = .ok (.dup, 1) := by decide +kernel
theorem dX7_readsChild_22 : decode cX7_readsChild 22 = .ok (.getfield 80, 3) := by decide +kernel
theorem dX7_readsChild_25 : decode cX7_readsChild 25 = .ok (.iconst 1, 1) := by decide +kernel
theorem dX7_readsChild_26 : decode cX7_readsChild 26 = .ok (.iadd, 1) := by decide +kernel
theorem dX7_readsChild_27 : decode cX7_readsChild 27 = .ok (.putfield 80, 3) := by decide +kernel
theorem dX7_readsChild_30 : decode cX7_readsChild 30 = .ok (.aload_n 0, 1) := by decide +kernel
theorem dX7_readsChild_31 : decode cX7_readsChild 31 = .ok (.iconst 0, 1) := by decide +kernel
theorem dX7_readsChild_32 : decode cX7_readsChild 32 = .ok (.bipush 60, 2) := by decide +kernel
theorem dX7_readsChild_34 : decode cX7_readsChild 34 = .ok (.invokevirtual 105, 3) := by decide +kernel
theorem dX7_readsChild_37 : decode cX7_readsChild 37 = .ok (.ifCond .ne 5, 3) := by decide +kernel
theorem dX7_readsChild_40 : decode cX7_readsChild 40 = .ok (.iconst 0, 1) := by decide +kernel
theorem dX7_readsChild_41 : decode cX7_readsChild 41 = .ok (.ireturn, 1) := by decide +kernel
theorem dX7_readsChild_42 : decode cX7_readsChild 42 = .ok (.aload_n 0, 1) := by decide +kernel
theorem dX7_readsChild_43 : decode cX7_readsChild 43 = .ok (.getfield 7, 3) := by decide +kernel
theorem dX7_readsChild_46 : decode cX7_readsChild 46 = .ok (.sipush 1517, 3) := by decide +kernel
theorem dX7_readsChild_49 : decode cX7_readsChild 49 = .ok (.iload_n 1, 1) := by decide +kernel
theorem dX7_readsChild_50 : decode cX7_readsChild 50 = .ok (.iadd, 1) := by decide +kernel
theorem dX7_readsChild_51 : decode cX7_readsChild 51 = .ok (.aload_n 0, 1) := by decide +kernel
theorem dX7_readsChild_52 : decode cX7_readsChild 52 = .ok (.getfield 99, 3) := by decide +kernel
theorem dX7_readsChild_55 : decode cX7_readsChild 55 = .ok (.iastore, 1) := by decide +kernel
theorem dX7_readsChild_56 : decode cX7_readsChild 56 = .ok (.aload_n 0, 1) := by decide +kernel
theorem dX7_readsChild_57 : decode cX7_readsChild 57 = .ok (.bipush 44, 2) := by decide +kernel
theorem dX7_readsChild_59 : decode cX7_readsChild 59 = .ok (.invokevirtual 102, 3) := by decide +kernel
theorem dX7_readsChild_62 : decode cX7_readsChild 62 = .ok (.ifCond .eq 13, 3) := by decide +kernel
theorem dX7_readsChild_65 : decode cX7_readsChild 65 = .ok (.aload_n 0, 1) := by decide +kernel
theorem dX7_readsChild_66 : decode cX7_readsChild 66 = .ok (.iconst 0, 1) := by decide +kernel
theorem dX7_readsChild_67 : decode cX7_readsChild 67 = .ok (.bipush 20, 2) := by decide +kernel
theorem dX7_readsChild_69 : decode cX7_readsChild 69 = .ok (.invokevirtual 105, 3) := by decide +kernel
theorem dX7_readsChild_72 : decode cX7_readsChild 72 = .ok (.ifCond .ne 5, 3) := by decide +kernel
theorem dX7_readsChild_75 : decode cX7_readsChild 75 = .ok (.iconst 0, 1) := by decide +kernel
theorem dX7_readsChild_76 : decode cX7_readsChild 76 = .ok (.ireturn, 1) := by decide +kernel
theorem dX7_readsChild_77 : decode cX7_readsChild 77 = .ok (.aload_n 0, 1) := by decide +kernel
theorem dX7_readsChild_78 : decode cX7_readsChild 78 = .ok (.getfield 7, 3) := by decide +kernel
theorem dX7_readsChild_81 : decode cX7_readsChild 81 = .ok (.sipush 1522, 3) := by decide +kernel
theorem dX7_readsChild_84 : decode cX7_readsChild 84 = .ok (.iload_n 1, 1) := by decide +kernel
theorem dX7_readsChild_85 : decode cX7_readsChild 85 = .ok (.iadd, 1) := by decide +kernel
theorem dX7_readsChild_86 : decode cX7_readsChild 86 = .ok (.aload_n 0, 1) := by decide +kernel
theorem dX7_readsChild_87 : decode cX7_readsChild 87 = .ok (.getfield 99, 3) := by decide +kernel
theorem dX7_readsChild_90 : decode cX7_readsChild 90 = .ok (.iastore, 1) := by decide +kernel
theorem dX7_readsChild_91 : decode cX7_readsChild 91 = .ok (.aload_n 0, 1) := by decide +kernel
theorem dX7_readsChild_92 : decode cX7_readsChild 92 = .ok (.getfield 7, 3) := by decide +kernel
theorem dX7_readsChild_95 : decode cX7_readsChild 95 = .ok (.sipush 1512, 3) := by decide +kernel
theorem dX7_readsChild_98 : decode cX7_readsChild 98 = .ok (.dup2, 1) := by decide +kernel
theorem dX7_readsChild_99 : decode cX7_readsChild 99 = .ok (.iaload, 1) := by decide +kernel
theorem dX7_readsChild_100 : decode cX7_readsChild 100 = .ok (.iconst 1, 1) := by decide +kernel
theorem dX7_readsChild_101 : decode cX7_readsChild 101 = .ok (.iadd, 1) := by decide +kernel
theorem dX7_readsChild_102 : decode cX7_readsChild 102 = .ok (.iastore, 1) := by decide +kernel
theorem dX7_readsChild_103 : decode cX7_readsChild 103 = .ok (.aload_n 0, 1) := by decide +kernel
theorem dX7_readsChild_104 : decode cX7_readsChild 104 = .ok (.bipush 59, 2) := by decide +kernel
theorem dX7_readsChild_106 : decode cX7_readsChild 106 = .ok (.invokevirtual 102, 3) := by decide +kernel
theorem dX7_readsChild_109 : decode cX7_readsChild 109 = .ok (.ireturn, 1) := by decide +kernel
theorem dX7_kindOfLetter_0 : decode cX7_kindOfLetter 0 = .ok (.iload_n 0, 1) := by decide +kernel
theorem dX7_kindOfLetter_1 : decode cX7_kindOfLetter 1 = .ok (.bipush 115, 2) := by decide +kernel
theorem dX7_kindOfLetter_3 : decode cX7_kindOfLetter 3 = .ok (.if_icmp .ne 7, 3) := by decide +kernel
theorem dX7_kindOfLetter_6 : decode cX7_kindOfLetter 6 = .ok (.iconst 1, 1) := by decide +kernel
theorem dX7_kindOfLetter_7 : decode cX7_kindOfLetter 7 = .ok (.goto 44, 3) := by decide +kernel
theorem dX7_kindOfLetter_10 : decode cX7_kindOfLetter 10 = .ok (.iload_n 0, 1) := by decide +kernel
theorem dX7_kindOfLetter_11 : decode cX7_kindOfLetter 11 = .ok (.bipush 111, 2) := by decide +kernel
theorem dX7_kindOfLetter_13 : decode cX7_kindOfLetter 13 = .ok (.if_icmp .ne 7, 3) := by decide +kernel
theorem dX7_kindOfLetter_16 : decode cX7_kindOfLetter 16 = .ok (.iconst 2, 1) := by decide +kernel
theorem dX7_kindOfLetter_17 : decode cX7_kindOfLetter 17 = .ok (.goto 34, 3) := by decide +kernel
theorem dX7_kindOfLetter_20 : decode cX7_kindOfLetter 20 = .ok (.iload_n 0, 1) := by decide +kernel
theorem dX7_kindOfLetter_21 : decode cX7_kindOfLetter 21 = .ok (.bipush 116, 2) := by decide +kernel
theorem dX7_kindOfLetter_23 : decode cX7_kindOfLetter 23 = .ok (.if_icmp .ne 7, 3) := by decide +kernel
theorem dX7_kindOfLetter_26 : decode cX7_kindOfLetter 26 = .ok (.iconst 3, 1) := by decide +kernel
theorem dX7_kindOfLetter_27 : decode cX7_kindOfLetter 27 = .ok (.goto 24, 3) := by decide +kernel
theorem dX7_kindOfLetter_30 : decode cX7_kindOfLetter 30 = .ok (.iload_n 0, 1) := by decide +kernel
theorem dX7_kindOfLetter_31 : decode cX7_kindOfLetter 31 = .ok (.bipush 110, 2) := by decide +kernel
theorem dX7_kindOfLetter_33 : decode cX7_kindOfLetter 33 = .ok (.if_icmp .ne 7, 3) := by decide +kernel
theorem dX7_kindOfLetter_36 : decode cX7_kindOfLetter 36 = .ok (.iconst 4, 1) := by decide +kernel
theorem dX7_kindOfLetter_37 : decode cX7_kindOfLetter 37 = .ok (.goto 14, 3) := by decide +kernel
theorem dX7_kindOfLetter_40 : decode cX7_kindOfLetter 40 = .ok (.iload_n 0, 1) := by decide +kernel
theorem dX7_kindOfLetter_41 : decode cX7_kindOfLetter 41 = .ok (.bipush 119, 2) := by decide +kernel
theorem dX7_kindOfLetter_43 : decode cX7_kindOfLetter 43 = .ok (.if_icmp .ne 7, 3) := by decide +kernel
theorem dX7_kindOfLetter_46 : decode cX7_kindOfLetter 46 = .ok (.iconst 5, 1) := by decide +kernel
theorem dX7_kindOfLetter_47 : decode cX7_kindOfLetter 47 = .ok (.goto 4, 3) := by decide +kernel
theorem dX7_kindOfLetter_50 : decode cX7_kindOfLetter 50 = .ok (.iconst 0, 1) := by decide +kernel
theorem dX7_kindOfLetter_51 : decode cX7_kindOfLetter 51 = .ok (.ireturn, 1) := by decide +kernel
theorem dX7_readsGran_0 : decode cX7_readsGran 0 = .ok (.aload_n 0, 1) := by decide +kernel
theorem dX7_readsGran_1 : decode cX7_readsGran 1 = .ok (.getfield 7, 3) := by decide +kernel
theorem dX7_readsGran_4 : decode cX7_readsGran 4 = .ok (.sipush 1513, 3) := by decide +kernel
theorem dX7_readsGran_7 : decode cX7_readsGran 7 = .ok (.iaload, 1) := by decide +kernel
theorem dX7_readsGran_8 : decode cX7_readsGran 8 = .ok (.istore_n 1, 1) := by decide +kernel
theorem dX7_readsGran_9 : decode cX7_readsGran 9 = .ok (.iload_n 1, 1) := by decide +kernel
theorem dX7_readsGran_10 : decode cX7_readsGran 10 = .ok (.bipush 6, 2) := by decide +kernel
theorem dX7_readsGran_12 : decode cX7_readsGran 12 = .ok (.if_icmp .ne 9, 3) := by decide +kernel
theorem dX7_readsGran_15 : decode cX7_readsGran 15 = .ok (.aload_n 0, 1) := by decide +kernel
theorem dX7_readsGran_16 : decode cX7_readsGran 16 = .ok (.iconst 3, 1) := by decide +kernel
theorem dX7_readsGran_17 : decode cX7_readsGran 17 = .ok (.invokevirtual 93, 3) := by decide +kernel
theorem dX7_readsGran_20 : decode cX7_readsGran 20 = .ok (.ireturn, 1) := by decide +kernel
theorem dX7_readsGran_21 : decode cX7_readsGran 21 = .ok (.aload_n 0, 1) := by decide +kernel
theorem dX7_readsGran_22 : decode cX7_readsGran 22 = .ok (.getfield 7, 3) := by decide +kernel
theorem dX7_readsGran_25 : decode cX7_readsGran 25 = .ok (.sipush 1532, 3) := by decide +kernel
theorem dX7_readsGran_28 : decode cX7_readsGran 28 = .ok (.iload_n 1, 1) := by decide +kernel
theorem dX7_readsGran_29 : decode cX7_readsGran 29 = .ok (.iadd, 1) := by decide +kernel
theorem dX7_readsGran_30 : decode cX7_readsGran 30 = .ok (.aload_n 0, 1) := by decide +kernel
theorem dX7_readsGran_31 : decode cX7_readsGran 31 = .ok (.getfield 26, 3) := by decide +kernel
theorem dX7_readsGran_34 : decode cX7_readsGran 34 = .ok (.aload_n 0, 1) := by decide +kernel
theorem dX7_readsGran_35 : decode cX7_readsGran 35 = .ok (.getfield 80, 3) := by decide +kernel
theorem dX7_readsGran_38 : decode cX7_readsGran 38 = .ok (.iaload, 1) := by decide +kernel
theorem dX7_readsGran_39 : decode cX7_readsGran 39 = .ok (.invokestatic 109, 3) := by decide +kernel
theorem dX7_readsGran_42 : decode cX7_readsGran 42 = .ok (.iastore, 1) := by decide +kernel
theorem dX7_readsGran_43 : decode cX7_readsGran 43 = .ok (.aload_n 0, 1) := by decide +kernel
theorem dX7_readsGran_44 : decode cX7_readsGran 44 = .ok (.dup, 1) := by decide +kernel
theorem dX7_readsGran_45 : decode cX7_readsGran 45 = .ok (.getfield 80, 3) := by decide +kernel
theorem dX7_readsGran_48 : decode cX7_readsGran 48 = .ok (.iconst 1, 1) := by decide +kernel
theorem dX7_readsGran_49 : decode cX7_readsGran 49 = .ok (.iadd, 1) := by decide +kernel
theorem dX7_readsGran_50 : decode cX7_readsGran 50 = .ok (.putfield 80, 3) := by decide +kernel
theorem dX7_readsGran_53 : decode cX7_readsGran 53 = .ok (.aload_n 0, 1) := by decide +kernel
theorem dX7_readsGran_54 : decode cX7_readsGran 54 = .ok (.iconst 1, 1) := by decide +kernel
theorem dX7_readsGran_55 : decode cX7_readsGran 55 = .ok (.bipush 9, 2) := by decide +kernel
theorem dX7_readsGran_57 : decode cX7_readsGran 57 = .ok (.invokevirtual 105, 3) := by decide +kernel
theorem dX7_readsGran_60 : decode cX7_readsGran 60 = .ok (.ifCond .ne 5, 3) := by decide +kernel
theorem dX7_readsGran_63 : decode cX7_readsGran 63 = .ok (.iconst 0, 1) := by decide +kernel
theorem dX7_readsGran_64 : decode cX7_readsGran 64 = .ok (.ireturn, 1) := by decide +kernel
theorem dX7_readsGran_65 : decode cX7_readsGran 65 = .ok (.aload_n 0, 1) := by decide +kernel
theorem dX7_readsGran_66 : decode cX7_readsGran 66 = .ok (.getfield 7, 3) := by decide +kernel
theorem dX7_readsGran_69 : decode cX7_readsGran 69 = .ok (.sipush 1538, 3) := by decide +kernel
theorem dX7_readsGran_72 : decode cX7_readsGran 72 = .ok (.iload_n 1, 1) := by decide +kernel
theorem dX7_readsGran_73 : decode cX7_readsGran 73 = .ok (.iadd, 1) := by decide +kernel
theorem dX7_readsGran_74 : decode cX7_readsGran 74 = .ok (.aload_n 0, 1) := by decide +kernel
theorem dX7_readsGran_75 : decode cX7_readsGran 75 = .ok (.getfield 99, 3) := by decide +kernel
theorem dX7_readsGran_78 : decode cX7_readsGran 78 = .ok (.iastore, 1) := by decide +kernel
theorem dX7_readsGran_79 : decode cX7_readsGran 79 = .ok (.aload_n 0, 1) := by decide +kernel
theorem dX7_readsGran_80 : decode cX7_readsGran 80 = .ok (.bipush 44, 2) := by decide +kernel
theorem dX7_readsGran_82 : decode cX7_readsGran 82 = .ok (.invokevirtual 102, 3) := by decide +kernel
theorem dX7_readsGran_85 : decode cX7_readsGran 85 = .ok (.ifCond .eq 21, 3) := by decide +kernel
theorem dX7_readsGran_88 : decode cX7_readsGran 88 = .ok (.aload_n 0, 1) := by decide +kernel
theorem dX7_readsGran_89 : decode cX7_readsGran 89 = .ok (.iconst 0, 1) := by decide +kernel
theorem dX7_readsGran_90 : decode cX7_readsGran 90 = .ok (.aload_n 0, 1) := by decide +kernel
theorem dX7_readsGran_91 : decode cX7_readsGran 91 = .ok (.getfield 7, 3) := by decide +kernel
theorem dX7_readsGran_94 : decode cX7_readsGran 94 = .ok (.sipush 1512, 3) := by decide +kernel
theorem dX7_readsGran_97 : decode cX7_readsGran 97 = .ok (.iaload, 1) := by decide +kernel
theorem dX7_readsGran_98 : decode cX7_readsGran 98 = .ok (.iconst 1, 1) := by decide +kernel
theorem dX7_readsGran_99 : decode cX7_readsGran 99 = .ok (.isub, 1) := by decide +kernel
theorem dX7_readsGran_100 : decode cX7_readsGran 100 = .ok (.invokevirtual 105, 3) := by decide +kernel
theorem dX7_readsGran_103 : decode cX7_readsGran 103 = .ok (.ifCond .ne 5, 3) := by decide +kernel
theorem dX7_readsGran_106 : decode cX7_readsGran 106 = .ok (.iconst 0, 1) := by decide +kernel
theorem dX7_readsGran_107 : decode cX7_readsGran 107 = .ok (.ireturn, 1) := by decide +kernel
theorem dX7_readsGran_108 : decode cX7_readsGran 108 = .ok (.aload_n 0, 1) := by decide +kernel
theorem dX7_readsGran_109 : decode cX7_readsGran 109 = .ok (.getfield 7, 3) := by decide +kernel
theorem dX7_readsGran_112 : decode cX7_readsGran 112 = .ok (.sipush 1544, 3) := by decide +kernel
theorem dX7_readsGran_115 : decode cX7_readsGran 115 = .ok (.iload_n 1, 1) := by decide +kernel
theorem dX7_readsGran_116 : decode cX7_readsGran 116 = .ok (.iadd, 1) := by decide +kernel
theorem dX7_readsGran_117 : decode cX7_readsGran 117 = .ok (.aload_n 0, 1) := by decide +kernel
theorem dX7_readsGran_118 : decode cX7_readsGran 118 = .ok (.getfield 99, 3) := by decide +kernel
theorem dX7_readsGran_121 : decode cX7_readsGran 121 = .ok (.iastore, 1) := by decide +kernel
theorem dX7_readsGran_122 : decode cX7_readsGran 122 = .ok (.aload_n 0, 1) := by decide +kernel
theorem dX7_readsGran_123 : decode cX7_readsGran 123 = .ok (.bipush 44, 2) := by decide +kernel
theorem dX7_readsGran_125 : decode cX7_readsGran 125 = .ok (.invokevirtual 102, 3) := by decide +kernel
theorem dX7_readsGran_128 : decode cX7_readsGran 128 = .ok (.ifCond .eq 12, 3) := by decide +kernel
theorem dX7_readsGran_131 : decode cX7_readsGran 131 = .ok (.aload_n 0, 1) := by decide +kernel
theorem dX7_readsGran_132 : decode cX7_readsGran 132 = .ok (.iconst 0, 1) := by decide +kernel
theorem dX7_readsGran_133 : decode cX7_readsGran 133 = .ok (.iconst 4, 1) := by decide +kernel
theorem dX7_readsGran_134 : decode cX7_readsGran 134 = .ok (.invokevirtual 105, 3) := by decide +kernel
theorem dX7_readsGran_137 : decode cX7_readsGran 137 = .ok (.ifCond .ne 5, 3) := by decide +kernel
theorem dX7_readsGran_140 : decode cX7_readsGran 140 = .ok (.iconst 0, 1) := by decide +kernel
theorem dX7_readsGran_141 : decode cX7_readsGran 141 = .ok (.ireturn, 1) := by decide +kernel
theorem dX7_readsGran_142 : decode cX7_readsGran 142 = .ok (.aload_n 0, 1) := by decide +kernel
theorem dX7_readsGran_143 : decode cX7_readsGran 143 = .ok (.getfield 7, 3) := by decide +kernel
theorem dX7_readsGran_146 : decode cX7_readsGran 146 = .ok (.sipush 1550, 3) := by decide +kernel
theorem dX7_readsGran_149 : decode cX7_readsGran 149 = .ok (.iload_n 1, 1) := by decide +kernel
theorem dX7_readsGran_150 : decode cX7_readsGran 150 = .ok (.iadd, 1) := by decide +kernel
theorem dX7_readsGran_151 : decode cX7_readsGran 151 = .ok (.aload_n 0, 1) := by decide +kernel
theorem dX7_readsGran_152 : decode cX7_readsGran 152 = .ok (.getfield 99, 3) := by decide +kernel
theorem dX7_readsGran_155 : decode cX7_readsGran 155 = .ok (.iastore, 1) := by decide +kernel
theorem dX7_readsGran_156 : decode cX7_readsGran 156 = .ok (.aload_n 0, 1) := by decide +kernel
theorem dX7_readsGran_157 : decode cX7_readsGran 157 = .ok (.getfield 7, 3) := by decide +kernel
theorem dX7_readsGran_160 : decode cX7_readsGran 160 = .ok (.sipush 1513, 3) := by decide +kernel
theorem dX7_readsGran_163 : decode cX7_readsGran 163 = .ok (.dup2, 1) := by decide +kernel
theorem dX7_readsGran_164 : decode cX7_readsGran 164 = .ok (.iaload, 1) := by decide +kernel
theorem dX7_readsGran_165 : decode cX7_readsGran 165 = .ok (.iconst 1, 1) := by decide +kernel
theorem dX7_readsGran_166 : decode cX7_readsGran 166 = .ok (.iadd, 1) := by decide +kernel
theorem dX7_readsGran_167 : decode cX7_readsGran 167 = .ok (.iastore, 1) := by decide +kernel
theorem dX7_readsGran_168 : decode cX7_readsGran 168 = .ok (.aload_n 0, 1) := by decide +kernel
theorem dX7_readsGran_169 : decode cX7_readsGran 169 = .ok (.bipush 59, 2) := by decide +kernel
theorem dX7_readsGran_171 : decode cX7_readsGran 171 = .ok (.invokevirtual 102, 3) := by decide +kernel
theorem dX7_readsGran_174 : decode cX7_readsGran 174 = .ok (.ireturn, 1) := by decide +kernel
theorem dX7_isSort_0 : decode cX7_isSort 0 = .ok (.aload_n 0, 1) := by decide +kernel
theorem dX7_isSort_1 : decode cX7_isSort 1 = .ok (.getfield 80, 3) := by decide +kernel
theorem dX7_isSort_4 : decode cX7_isSort 4 = .ok (.aload_n 0, 1) := by decide +kernel
theorem dX7_isSort_5 : decode cX7_isSort 5 = .ok (.getfield 76, 3) := by decide +kernel
theorem dX7_isSort_8 : decode cX7_isSort 8 = .ok (.if_icmp .ge 22, 3) := by decide +kernel
theorem dX7_isSort_11 : decode cX7_isSort 11 = .ok (.aload_n 0, 1) := by decide +kernel
theorem dX7_isSort_12 : decode cX7_isSort 12 = .ok (.getfield 26, 3) := by decide +kernel
theorem dX7_isSort_15 : decode cX7_isSort 15 = .ok (.aload_n 0, 1) := by decide +kernel
theorem dX7_isSort_16 : decode cX7_isSort 16 = .ok (.getfield 80, 3) := by decide +kernel
theorem dX7_isSort_19 : decode cX7_isSort 19 = .ok (.iaload, 1) := by decide +kernel
theorem dX7_isSort_20 : decode cX7_isSort 20 = .ok (.invokestatic 109, 3) := by decide +kernel
theorem dX7_isSort_23 : decode cX7_isSort 23 = .ok (.ifCond .le 7, 3) := by decide +kernel
theorem dX7_isSort_26 : decode cX7_isSort 26 = .ok (.iconst 1, 1) := by decide +kernel
theorem dX7_isSort_27 : decode cX7_isSort 27 = .ok (.goto 4, 3) := by decide +kernel
theorem dX7_isSort_30 : decode cX7_isSort 30 = .ok (.iconst 0, 1) := by decide +kernel
theorem dX7_isSort_31 : decode cX7_isSort 31 = .ok (.ireturn, 1) := by decide +kernel
theorem dX7_reads_0 : decode cX7_reads 0 = .ok (.iconst 0, 1) := by decide +kernel
theorem dX7_reads_1 : decode cX7_reads 1 = .ok (.istore_n 1, 1) := by decide +kernel
theorem dX7_reads_2 : decode cX7_reads 2 = .ok (.iload_n 1, 1) := by decide +kernel
theorem dX7_reads_3 : decode cX7_reads 3 = .ok (.bipush 56, 2) := by decide +kernel
theorem dX7_reads_5 : decode cX7_reads 5 = .ok (.if_icmp .ge 20, 3) := by decide +kernel
theorem dX7_reads_8 : decode cX7_reads 8 = .ok (.aload_n 0, 1) := by decide +kernel
theorem dX7_reads_9 : decode cX7_reads 9 = .ok (.getfield 7, 3) := by decide +kernel
theorem dX7_reads_12 : decode cX7_reads 12 = .ok (.sipush 1512, 3) := by decide +kernel
theorem dX7_reads_15 : decode cX7_reads 15 = .ok (.iload_n 1, 1) := by decide +kernel
theorem dX7_reads_16 : decode cX7_reads 16 = .ok (.iadd, 1) := by decide +kernel
theorem dX7_reads_17 : decode cX7_reads 17 = .ok (.iconst 0, 1) := by decide +kernel
theorem dX7_reads_18 : decode cX7_reads 18 = .ok (.iastore, 1) := by decide +kernel
theorem dX7_reads_19 : decode cX7_reads 19 = .ok (.iinc 1 1, 3) := by decide +kernel
theorem dX7_reads_22 : decode cX7_reads 22 = .ok (.goto (-20), 3) := by decide +kernel
theorem dX7_reads_25 : decode cX7_reads 25 = .ok (.aload_n 0, 1) := by decide +kernel
theorem dX7_reads_26 : decode cX7_reads 26 = .ok (.iconst 0, 1) := by decide +kernel
theorem dX7_reads_27 : decode cX7_reads 27 = .ok (.putfield 80, 3) := by decide +kernel
theorem dX7_reads_30 : decode cX7_reads 30 = .ok (.aload_n 0, 1) := by decide +kernel
theorem dX7_reads_31 : decode cX7_reads 31 = .ok (.invokevirtual 112, 3) := by decide +kernel
theorem dX7_reads_34 : decode cX7_reads 34 = .ok (.ifCond .ne 5, 3) := by decide +kernel
theorem dX7_reads_37 : decode cX7_reads 37 = .ok (.iconst 0, 1) := by decide +kernel
theorem dX7_reads_38 : decode cX7_reads 38 = .ok (.ireturn, 1) := by decide +kernel
theorem dX7_reads_39 : decode cX7_reads 39 = .ok (.aload_n 0, 1) := by decide +kernel
theorem dX7_reads_40 : decode cX7_reads 40 = .ok (.bipush 99, 2) := by decide +kernel
theorem dX7_reads_42 : decode cX7_reads 42 = .ok (.invokevirtual 90, 3) := by decide +kernel
theorem dX7_reads_45 : decode cX7_reads 45 = .ok (.ifCond .ne 9, 3) := by decide +kernel
theorem dX7_reads_48 : decode cX7_reads 48 = .ok (.aload_n 0, 1) := by decide +kernel
theorem dX7_reads_49 : decode cX7_reads 49 = .ok (.iconst 1, 1) := by decide +kernel
theorem dX7_reads_50 : decode cX7_reads 50 = .ok (.invokevirtual 93, 3) := by decide +kernel
theorem dX7_reads_53 : decode cX7_reads 53 = .ok (.ireturn, 1) := by decide +kernel
theorem dX7_reads_54 : decode cX7_reads 54 = .ok (.iconst 1, 1) := by decide +kernel
theorem dX7_reads_55 : decode cX7_reads 55 = .ok (.istore_n 1, 1) := by decide +kernel
theorem dX7_reads_56 : decode cX7_reads 56 = .ok (.iload_n 1, 1) := by decide +kernel
theorem dX7_reads_57 : decode cX7_reads 57 = .ok (.ifCond .eq 20, 3) := by decide +kernel
theorem dX7_reads_60 : decode cX7_reads 60 = .ok (.aload_n 0, 1) := by decide +kernel
theorem dX7_reads_61 : decode cX7_reads 61 = .ok (.bipush 99, 2) := by decide +kernel
theorem dX7_reads_63 : decode cX7_reads 63 = .ok (.invokevirtual 90, 3) := by decide +kernel
theorem dX7_reads_66 : decode cX7_reads 66 = .ok (.ifCond .eq 11, 3) := by decide +kernel
theorem dX7_reads_69 : decode cX7_reads 69 = .ok (.aload_n 0, 1) := by decide +kernel
theorem dX7_reads_70 : decode cX7_reads 70 = .ok (.invokevirtual 116, 3) := by decide +kernel
theorem dX7_reads_73 : decode cX7_reads 73 = .ok (.istore_n 1, 1) := by decide +kernel
theorem dX7_reads_74 : decode cX7_reads 74 = .ok (.goto (-18), 3) := by decide +kernel
theorem dX7_reads_77 : decode cX7_reads 77 = .ok (.iload_n 1, 1) := by decide +kernel
theorem dX7_reads_78 : decode cX7_reads 78 = .ok (.ifCond .ne 5, 3) := by decide +kernel
theorem dX7_reads_81 : decode cX7_reads 81 = .ok (.iconst 0, 1) := by decide +kernel
theorem dX7_reads_82 : decode cX7_reads 82 = .ok (.ireturn, 1) := by decide +kernel
theorem dX7_reads_83 : decode cX7_reads 83 = .ok (.aload_n 0, 1) := by decide +kernel
theorem dX7_reads_84 : decode cX7_reads 84 = .ok (.invokevirtual 119, 3) := by decide +kernel
theorem dX7_reads_87 : decode cX7_reads 87 = .ok (.ifCond .ne 9, 3) := by decide +kernel
theorem dX7_reads_90 : decode cX7_reads 90 = .ok (.aload_n 0, 1) := by decide +kernel
theorem dX7_reads_91 : decode cX7_reads 91 = .ok (.iconst 1, 1) := by decide +kernel
theorem dX7_reads_92 : decode cX7_reads 92 = .ok (.invokevirtual 93, 3) := by decide +kernel
theorem dX7_reads_95 : decode cX7_reads 95 = .ok (.ireturn, 1) := by decide +kernel
theorem dX7_reads_96 : decode cX7_reads 96 = .ok (.iload_n 1, 1) := by decide +kernel
theorem dX7_reads_97 : decode cX7_reads 97 = .ok (.ifCond .eq 18, 3) := by decide +kernel
theorem dX7_reads_100 : decode cX7_reads 100 = .ok (.aload_n 0, 1) := by decide +kernel
theorem dX7_reads_101 : decode cX7_reads 101 = .ok (.invokevirtual 119, 3) := by decide +kernel
theorem dX7_reads_104 : decode cX7_reads 104 = .ok (.ifCond .eq 11, 3) := by decide +kernel
theorem dX7_reads_107 : decode cX7_reads 107 = .ok (.aload_n 0, 1) := by decide +kernel
theorem dX7_reads_108 : decode cX7_reads 108 = .ok (.invokevirtual 122, 3) := by decide +kernel
theorem dX7_reads_111 : decode cX7_reads 111 = .ok (.istore_n 1, 1) := by decide +kernel
theorem dX7_reads_112 : decode cX7_reads 112 = .ok (.goto (-16), 3) := by decide +kernel
theorem dX7_reads_115 : decode cX7_reads 115 = .ok (.iload_n 1, 1) := by decide +kernel
theorem dX7_reads_116 : decode cX7_reads 116 = .ok (.ifCond .eq 26, 3) := by decide +kernel
theorem dX7_reads_119 : decode cX7_reads 119 = .ok (.aload_n 0, 1) := by decide +kernel
theorem dX7_reads_120 : decode cX7_reads 120 = .ok (.getfield 80, 3) := by decide +kernel
theorem dX7_reads_123 : decode cX7_reads 123 = .ok (.aload_n 0, 1) := by decide +kernel
theorem dX7_reads_124 : decode cX7_reads 124 = .ok (.getfield 76, 3) := by decide +kernel
theorem dX7_reads_127 : decode cX7_reads 127 = .ok (.if_icmp .eq 11, 3) := by decide +kernel
theorem dX7_reads_130 : decode cX7_reads 130 = .ok (.aload_n 0, 1) := by decide +kernel
theorem dX7_reads_131 : decode cX7_reads 131 = .ok (.iconst 1, 1) := by decide +kernel
theorem dX7_reads_132 : decode cX7_reads 132 = .ok (.invokevirtual 93, 3) := by decide +kernel
theorem dX7_reads_135 : decode cX7_reads 135 = .ok (.ifCond .eq 7, 3) := by decide +kernel
theorem dX7_reads_138 : decode cX7_reads 138 = .ok (.iconst 1, 1) := by decide +kernel
theorem dX7_reads_139 : decode cX7_reads 139 = .ok (.goto 4, 3) := by decide +kernel
theorem dX7_reads_142 : decode cX7_reads 142 = .ok (.iconst 0, 1) := by decide +kernel
theorem dX7_reads_143 : decode cX7_reads 143 = .ok (.ireturn, 1) := by decide +kernel
theorem dX7_town_0 : decode cX7_town 0 = .ok (.aload_n 0, 1) := by decide +kernel
theorem dX7_town_1 : decode cX7_town 1 = .ok (.invokevirtual 125, 3) := by decide +kernel
theorem dX7_town_4 : decode cX7_town 4 = .ok (.istore_n 1, 1) := by decide +kernel
theorem dX7_town_5 : decode cX7_town 5 = .ok (.aload_n 0, 1) := by decide +kernel
theorem dX7_town_6 : decode cX7_town 6 = .ok (.iconst 0, 1) := by decide +kernel
theorem dX7_town_7 : decode cX7_town 7 = .ok (.putfield 76, 3) := by decide +kernel
theorem dX7_town_10 : decode cX7_town 10 = .ok (.iload_n 1, 1) := by decide +kernel
theorem dX7_town_11 : decode cX7_town 11 = .ok (.ifCond .ne 19, 3) := by decide +kernel
theorem dX7_town_14 : decode cX7_town 14 = .ok (.aload_n 0, 1) := by decide +kernel
theorem dX7_town_15 : decode cX7_town 15 = .ok (.aload_n 0, 1) := by decide +kernel
theorem dX7_town_16 : decode cX7_town 16 = .ok (.getfield 87, 3) := by decide +kernel
theorem dX7_town_19 : decode cX7_town 19 = .ok (.putfield 128, 3) := by decide +kernel
theorem dX7_town_22 : decode cX7_town 22 = .ok (.ldc 131, 2) := by decide +kernel
theorem dX7_town_24 : decode cX7_town 24 = .ok (.aload_n 0, 1) := by decide +kernel
theorem dX7_town_25 : decode cX7_town 25 = .ok (.getfield 80, 3) := by decide +kernel
theorem dX7_town_28 : decode cX7_town 28 = .ok (.isub, 1) := by decide +kernel
theorem dX7_town_29 : decode cX7_town 29 = .ok (.ireturn, 1) := by decide +kernel
theorem dX7_town_30 : decode cX7_town 30 = .ok (.aload_n 0, 1) := by decide +kernel
theorem dX7_town_31 : decode cX7_town 31 = .ok (.sipush 1512, 3) := by decide +kernel
theorem dX7_town_34 : decode cX7_town 34 = .ok (.iconst 0, 1) := by decide +kernel
theorem dX7_town_35 : decode cX7_town 35 = .ok (.invokevirtual 132, 3) := by decide +kernel
theorem dX7_town_38 : decode cX7_town 38 = .ok (.aload_n 0, 1) := by decide +kernel
theorem dX7_town_39 : decode cX7_town 39 = .ok (.iconst 1, 1) := by decide +kernel
theorem dX7_town_40 : decode cX7_town 40 = .ok (.putfield 136, 3) := by decide +kernel
theorem dX7_town_43 : decode cX7_town 43 = .ok (.aload_n 0, 1) := by decide +kernel
theorem dX7_town_44 : decode cX7_town 44 = .ok (.iconst 0, 1) := by decide +kernel
theorem dX7_town_45 : decode cX7_town 45 = .ok (.putfield 140, 3) := by decide +kernel
theorem dX7_town_48 : decode cX7_town 48 = .ok (.aload_n 0, 1) := by decide +kernel
theorem dX7_town_49 : decode cX7_town 49 = .ok (.getfield 7, 3) := by decide +kernel
theorem dX7_town_52 : decode cX7_town 52 = .ok (.iconst 1, 1) := by decide +kernel
theorem dX7_town_53 : decode cX7_town 53 = .ok (.iaload, 1) := by decide +kernel
theorem dX7_town_54 : decode cX7_town 54 = .ok (.ireturn, 1) := by decide +kernel
theorem dX7_fault_0 : decode cX7_fault 0 = .ok (.aload_n 0, 1) := by decide +kernel
theorem dX7_fault_1 : decode cX7_fault 1 = .ok (.getfield 128, 3) := by decide +kernel
theorem dX7_fault_4 : decode cX7_fault 4 = .ok (.ireturn, 1) := by decide +kernel
theorem dX7_copyTown_0 : decode cX7_copyTown 0 = .ok (.iconst 0, 1) := by decide +kernel
theorem dX7_copyTown_1 : decode cX7_copyTown 1 = .ok (.istore_n 3, 1) := by decide +kernel
theorem dX7_copyTown_2 : decode cX7_copyTown 2 = .ok (.iload_n 3, 1) := by decide +kernel
theorem dX7_copyTown_3 : decode cX7_copyTown 3 = .ok (.bipush 56, 2) := by decide +kernel
theorem dX7_copyTown_5 : decode cX7_copyTown 5 = .ok (.if_icmp .ge 25, 3) := by decide +kernel
theorem dX7_copyTown_8 : decode cX7_copyTown 8 = .ok (.aload_n 0, 1) := by decide +kernel
theorem dX7_copyTown_9 : decode cX7_copyTown 9 = .ok (.getfield 7, 3) := by decide +kernel
theorem dX7_copyTown_12 : decode cX7_copyTown 12 = .ok (.iload_n 2, 1) := by decide +kernel
theorem dX7_copyTown_13 : decode cX7_copyTown 13 = .ok (.iload_n 3, 1) := by decide +kernel
theorem dX7_copyTown_14 : decode cX7_copyTown 14 = .ok (.iadd, 1) := by decide +kernel
theorem dX7_copyTown_15 : decode cX7_copyTown 15 = .ok (.aload_n 0, 1) := by decide +kernel
theorem dX7_copyTown_16 : decode cX7_copyTown 16 = .ok (.getfield 7, 3) := by decide +kernel
theorem dX7_copyTown_19 : decode cX7_copyTown 19 = .ok (.iload_n 1, 1) := by decide +kernel
theorem dX7_copyTown_20 : decode cX7_copyTown 20 = .ok (.iload_n 3, 1) := by decide +kernel
theorem dX7_copyTown_21 : decode cX7_copyTown 21 = .ok (.iadd, 1) := by decide +kernel
theorem dX7_copyTown_22 : decode cX7_copyTown 22 = .ok (.iaload, 1) := by decide +kernel
theorem dX7_copyTown_23 : decode cX7_copyTown 23 = .ok (.iastore, 1) := by decide +kernel
theorem dX7_copyTown_24 : decode cX7_copyTown 24 = .ok (.iinc 3 1, 3) := by decide +kernel
theorem dX7_copyTown_27 : decode cX7_copyTown 27 = .ok (.goto (-25), 3) := by decide +kernel
theorem dX7_copyTown_30 : decode cX7_copyTown 30 = .ok (.return_, 1) := by decide +kernel
theorem dX7_keepPast_0 : decode cX7_keepPast 0 = .ok (.iconst 0, 1) := by decide +kernel
theorem dX7_keepPast_1 : decode cX7_keepPast 1 = .ok (.istore_n 1, 1) := by decide +kernel
theorem dX7_keepPast_2 : decode cX7_keepPast 2 = .ok (.iload_n 1, 1) := by decide +kernel
theorem dX7_keepPast_3 : decode cX7_keepPast 3 = .ok (.sipush 1288, 3) := by decide +kernel
theorem dX7_keepPast_6 : decode cX7_keepPast 6 = .ok (.if_icmp .ge 36, 3) := by decide +kernel
theorem dX7_keepPast_9 : decode cX7_keepPast 9 = .ok (.aload_n 0, 1) := by decide +kernel
theorem dX7_keepPast_10 : decode cX7_keepPast 10 = .ok (.getfield 140, 3) := by decide +kernel
theorem dX7_keepPast_13 : decode cX7_keepPast 13 = .ok (.bipush 24, 2) := by decide +kernel
theorem dX7_keepPast_15 : decode cX7_keepPast 15 = .ok (.if_icmp .ne 27, 3) := by decide +kernel
theorem dX7_keepPast_18 : decode cX7_keepPast 18 = .ok (.aload_n 0, 1) := by decide +kernel
theorem dX7_keepPast_19 : decode cX7_keepPast 19 = .ok (.getfield 7, 3) := by decide +kernel
theorem dX7_keepPast_22 : decode cX7_keepPast 22 = .ok (.bipush 56, 2) := by decide +kernel
theorem dX7_keepPast_24 : decode cX7_keepPast 24 = .ok (.iload_n 1, 1) := by decide +kernel
theorem dX7_keepPast_25 : decode cX7_keepPast 25 = .ok (.iadd, 1) := by decide +kernel
theorem dX7_keepPast_26 : decode cX7_keepPast 26 = .ok (.aload_n 0, 1) := by decide +kernel
theorem dX7_keepPast_27 : decode cX7_keepPast 27 = .ok (.getfield 7, 3) := by decide +kernel
theorem dX7_keepPast_30 : decode cX7_keepPast 30 = .ok (.bipush 112, 2) := by decide +kernel
theorem dX7_keepPast_32 : decode cX7_keepPast 32 = .ok (.iload_n 1, 1) := by decide +kernel
theorem dX7_keepPast_33 : decode cX7_keepPast 33 = .ok (.iadd, 1) := by decide +kernel
theorem dX7_keepPast_34 : decode cX7_keepPast 34 = .ok (.iaload, 1) := by decide +kernel
theorem dX7_keepPast_35 : decode cX7_keepPast 35 = .ok (.iastore, 1) := by decide +kernel
theorem dX7_keepPast_36 : decode cX7_keepPast 36 = .ok (.iinc 1 1, 3) := by decide +kernel
theorem dX7_keepPast_39 : decode cX7_keepPast 39 = .ok (.goto (-37), 3) := by decide +kernel
theorem dX7_keepPast_42 : decode cX7_keepPast 42 = .ok (.aload_n 0, 1) := by decide +kernel
theorem dX7_keepPast_43 : decode cX7_keepPast 43 = .ok (.dup, 1) := by decide +kernel
theorem dX7_keepPast_44 : decode cX7_keepPast 44 = .ok (.getfield 140, 3) := by decide +kernel
theorem dX7_keepPast_47 : decode cX7_keepPast 47 = .ok (.aload_n 0, 1) := by decide +kernel
theorem dX7_keepPast_48 : decode cX7_keepPast 48 = .ok (.getfield 140, 3) := by decide +kernel
theorem dX7_keepPast_51 : decode cX7_keepPast 51 = .ok (.bipush 24, 2) := by decide +kernel
theorem dX7_keepPast_53 : decode cX7_keepPast 53 = .ok (.if_icmp .ne 7, 3) := by decide +kernel
theorem dX7_keepPast_56 : decode cX7_keepPast 56 = .ok (.iconst 1, 1) := by decide +kernel
theorem dX7_keepPast_57 : decode cX7_keepPast 57 = .ok (.goto 4, 3) := by decide +kernel
theorem dX7_keepPast_60 : decode cX7_keepPast 60 = .ok (.iconst 0, 1) := by decide +kernel
theorem dX7_keepPast_61 : decode cX7_keepPast 61 = .ok (.isub, 1) := by decide +kernel
theorem dX7_keepPast_62 : decode cX7_keepPast 62 = .ok (.putfield 140, 3) := by decide +kernel
theorem dX7_keepPast_65 : decode cX7_keepPast 65 = .ok (.aload_n 0, 1) := by decide +kernel
theorem dX7_keepPast_66 : decode cX7_keepPast 66 = .ok (.iconst 0, 1) := by decide +kernel
theorem dX7_keepPast_67 : decode cX7_keepPast 67 = .ok (.bipush 56, 2) := by decide +kernel
theorem dX7_keepPast_69 : decode cX7_keepPast 69 = .ok (.bipush 56, 2) := by decide +kernel
theorem dX7_keepPast_71 : decode cX7_keepPast 71 = .ok (.aload_n 0, 1) := by decide +kernel
theorem dX7_keepPast_72 : decode cX7_keepPast 72 = .ok (.getfield 140, 3) := by decide +kernel
theorem dX7_keepPast_75 : decode cX7_keepPast 75 = .ok (.imul, 1) := by decide +kernel
theorem dX7_keepPast_76 : decode cX7_keepPast 76 = .ok (.iadd, 1) := by decide +kernel
theorem dX7_keepPast_77 : decode cX7_keepPast 77 = .ok (.invokevirtual 132, 3) := by decide +kernel
theorem dX7_keepPast_80 : decode cX7_keepPast 80 = .ok (.aload_n 0, 1) := by decide +kernel
theorem dX7_keepPast_81 : decode cX7_keepPast 81 = .ok (.dup, 1) := by decide +kernel
theorem dX7_keepPast_82 : decode cX7_keepPast 82 = .ok (.getfield 140, 3) := by decide +kernel
theorem dX7_keepPast_85 : decode cX7_keepPast 85 = .ok (.iconst 1, 1) := by decide +kernel
theorem dX7_keepPast_86 : decode cX7_keepPast 86 = .ok (.iadd, 1) := by decide +kernel
theorem dX7_keepPast_87 : decode cX7_keepPast 87 = .ok (.putfield 140, 3) := by decide +kernel
theorem dX7_keepPast_90 : decode cX7_keepPast 90 = .ok (.return_, 1) := by decide +kernel
theorem dX7_undo_0 : decode cX7_undo 0 = .ok (.aload_n 0, 1) := by decide +kernel
theorem dX7_undo_1 : decode cX7_undo 1 = .ok (.getfield 140, 3) := by decide +kernel
theorem dX7_undo_4 : decode cX7_undo 4 = .ok (.ifCond .ne 6, 3) := by decide +kernel
theorem dX7_undo_7 : decode cX7_undo 7 = .ok (.ldc 143, 2) := by decide +kernel
theorem dX7_undo_9 : decode cX7_undo 9 = .ok (.ireturn, 1) := by decide +kernel
theorem dX7_undo_10 : decode cX7_undo 10 = .ok (.aload_n 0, 1) := by decide +kernel
theorem dX7_undo_11 : decode cX7_undo 11 = .ok (.dup, 1) := by decide +kernel
theorem dX7_undo_12 : decode cX7_undo 12 = .ok (.getfield 140, 3) := by decide +kernel
theorem dX7_undo_15 : decode cX7_undo 15 = .ok (.iconst 1, 1) := by decide +kernel
theorem dX7_undo_16 : decode cX7_undo 16 = .ok (.isub, 1) := by decide +kernel
theorem dX7_undo_17 : decode cX7_undo 17 = .ok (.putfield 140, 3) := by decide +kernel
theorem dX7_undo_20 : decode cX7_undo 20 = .ok (.aload_n 0, 1) := by decide +kernel
theorem dX7_undo_21 : decode cX7_undo 21 = .ok (.bipush 56, 2) := by decide +kernel
theorem dX7_undo_23 : decode cX7_undo 23 = .ok (.bipush 56, 2) := by decide +kernel
theorem dX7_undo_25 : decode cX7_undo 25 = .ok (.aload_n 0, 1) := by decide +kernel
theorem dX7_undo_26 : decode cX7_undo 26 = .ok (.getfield 140, 3) := by decide +kernel
theorem dX7_undo_29 : decode cX7_undo 29 = .ok (.imul, 1) := by decide +kernel
theorem dX7_undo_30 : decode cX7_undo 30 = .ok (.iadd, 1) := by decide +kernel
theorem dX7_undo_31 : decode cX7_undo 31 = .ok (.iconst 0, 1) := by decide +kernel
theorem dX7_undo_32 : decode cX7_undo 32 = .ok (.invokevirtual 132, 3) := by decide +kernel
theorem dX7_undo_35 : decode cX7_undo 35 = .ok (.aload_n 0, 1) := by decide +kernel
theorem dX7_undo_36 : decode cX7_undo 36 = .ok (.getfield 140, 3) := by decide +kernel
theorem dX7_undo_39 : decode cX7_undo 39 = .ok (.ireturn, 1) := by decide +kernel
theorem dX7_isChild_0 : decode cX7_isChild 0 = .ok (.iload_n 1, 1) := by decide +kernel
theorem dX7_isChild_1 : decode cX7_isChild 1 = .ok (.i2l, 1) := by decide +kernel
theorem dX7_isChild_2 : decode cX7_isChild 2 = .ok (.lconst 0, 1) := by decide +kernel
theorem dX7_isChild_3 : decode cX7_isChild 3 = .ok (.aload_n 0, 1) := by decide +kernel
theorem dX7_isChild_4 : decode cX7_isChild 4 = .ok (.getfield 7, 3) := by decide +kernel
theorem dX7_isChild_7 : decode cX7_isChild 7 = .ok (.iconst 0, 1) := by decide +kernel
theorem dX7_isChild_8 : decode cX7_isChild 8 = .ok (.iaload, 1) := by decide +kernel
theorem dX7_isChild_9 : decode cX7_isChild 9 = .ok (.iconst 1, 1) := by decide +kernel
theorem dX7_isChild_10 : decode cX7_isChild 10 = .ok (.isub, 1) := by decide +kernel
theorem dX7_isChild_11 : decode cX7_isChild 11 = .ok (.i2l, 1) := by decide +kernel
theorem dX7_isChild_12 : decode cX7_isChild 12 = .ok (.invokestatic 48, 3) := by decide +kernel
theorem dX7_isChild_15 : decode cX7_isChild 15 = .ok (.ireturn, 1) := by decide +kernel
theorem dX7_isGran_0 : decode cX7_isGran 0 = .ok (.iload_n 1, 1) := by decide +kernel
theorem dX7_isGran_1 : decode cX7_isGran 1 = .ok (.i2l, 1) := by decide +kernel
theorem dX7_isGran_2 : decode cX7_isGran 2 = .ok (.lconst 0, 1) := by decide +kernel
theorem dX7_isGran_3 : decode cX7_isGran 3 = .ok (.aload_n 0, 1) := by decide +kernel
theorem dX7_isGran_4 : decode cX7_isGran 4 = .ok (.getfield 7, 3) := by decide +kernel
theorem dX7_isGran_7 : decode cX7_isGran 7 = .ok (.iconst 1, 1) := by decide +kernel
theorem dX7_isGran_8 : decode cX7_isGran 8 = .ok (.iaload, 1) := by decide +kernel
theorem dX7_isGran_9 : decode cX7_isGran 9 = .ok (.iconst 1, 1) := by decide +kernel
theorem dX7_isGran_10 : decode cX7_isGran 10 = .ok (.isub, 1) := by decide +kernel
theorem dX7_isGran_11 : decode cX7_isGran 11 = .ok (.i2l, 1) := by decide +kernel
theorem dX7_isGran_12 : decode cX7_isGran 12 = .ok (.invokestatic 48, 3) := by decide +kernel
theorem dX7_isGran_15 : decode cX7_isGran 15 = .ok (.ireturn, 1) := by decide +kernel
theorem dX7_withOf_0 : decode cX7_withOf 0 = .ok (.aload_n 0, 1) := by decide +kernel
theorem dX7_withOf_1 : decode cX7_withOf 1 = .ok (.getfield 7, 3) := by decide +kernel
theorem dX7_withOf_4 : decode cX7_withOf 4 = .ok (.iload_n 1, 1) := by decide +kernel
theorem dX7_withOf_5 : decode cX7_withOf 5 = .ok (.bipush 44, 2) := by decide +kernel
theorem dX7_withOf_7 : decode cX7_withOf 7 = .ok (.iadd, 1) := by decide +kernel
theorem dX7_withOf_8 : decode cX7_withOf 8 = .ok (.iload_n 2, 1) := by decide +kernel
theorem dX7_withOf_9 : decode cX7_withOf 9 = .ok (.iadd, 1) := by decide +kernel
theorem dX7_withOf_10 : decode cX7_withOf 10 = .ok (.iaload, 1) := by decide +kernel
theorem dX7_withOf_11 : decode cX7_withOf 11 = .ok (.ifCond .le 8, 3) := by decide +kernel
theorem dX7_withOf_14 : decode cX7_withOf 14 = .ok (.ldc 144, 2) := by decide +kernel
theorem dX7_withOf_16 : decode cX7_withOf 16 = .ok (.goto 44, 3) := by decide +kernel
theorem dX7_withOf_19 : decode cX7_withOf 19 = .ok (.aload_n 0, 1) := by decide +kernel
theorem dX7_withOf_20 : decode cX7_withOf 20 = .ok (.getfield 7, 3) := by decide +kernel
theorem dX7_withOf_23 : decode cX7_withOf 23 = .ok (.iload_n 1, 1) := by decide +kernel
theorem dX7_withOf_24 : decode cX7_withOf 24 = .ok (.bipush 32, 2) := by decide +kernel
theorem dX7_withOf_26 : decode cX7_withOf 26 = .ok (.iadd, 1) := by decide +kernel
theorem dX7_withOf_27 : decode cX7_withOf 27 = .ok (.iload_n 2, 1) := by decide +kernel
theorem dX7_withOf_28 : decode cX7_withOf 28 = .ok (.iadd, 1) := by decide +kernel
theorem dX7_withOf_29 : decode cX7_withOf 29 = .ok (.iaload, 1) := by decide +kernel
theorem dX7_withOf_30 : decode cX7_withOf 30 = .ok (.aload_n 0, 1) := by decide +kernel
theorem dX7_withOf_31 : decode cX7_withOf 31 = .ok (.getfield 7, 3) := by decide +kernel
theorem dX7_withOf_34 : decode cX7_withOf 34 = .ok (.iload_n 1, 1) := by decide +kernel
theorem dX7_withOf_35 : decode cX7_withOf 35 = .ok (.bipush 38, 2) := by decide +kernel
theorem dX7_withOf_37 : decode cX7_withOf 37 = .ok (.iadd, 1) := by decide +kernel
theorem dX7_withOf_38 : decode cX7_withOf 38 = .ok (.iload_n 2, 1) := by decide +kernel
theorem dX7_withOf_39 : decode cX7_withOf 39 = .ok (.iadd, 1) := by decide +kernel
theorem dX7_withOf_40 : decode cX7_withOf 40 = .ok (.iaload, 1) := by decide +kernel
theorem dX7_withOf_41 : decode cX7_withOf 41 = .ok (.aload_n 0, 1) := by decide +kernel
theorem dX7_withOf_42 : decode cX7_withOf 42 = .ok (.getfield 7, 3) := by decide +kernel
theorem dX7_withOf_45 : decode cX7_withOf 45 = .ok (.iload_n 1, 1) := by decide +kernel
theorem dX7_withOf_46 : decode cX7_withOf 46 = .ok (.iconst 4, 1) := by decide +kernel
theorem dX7_withOf_47 : decode cX7_withOf 47 = .ok (.iadd, 1) := by decide +kernel
theorem dX7_withOf_48 : decode cX7_withOf 48 = .ok (.iaload, 1) := by decide +kernel
theorem dX7_withOf_49 : decode cX7_withOf 49 = .ok (.imul, 1) := by decide +kernel
theorem dX7_withOf_50 : decode cX7_withOf 50 = .ok (.iadd, 1) := by decide +kernel
theorem dX7_withOf_51 : decode cX7_withOf 51 = .ok (.aload_n 0, 1) := by decide +kernel
theorem dX7_withOf_52 : decode cX7_withOf 52 = .ok (.getfield 7, 3) := by decide +kernel
theorem dX7_withOf_55 : decode cX7_withOf 55 = .ok (.iload_n 1, 1) := by decide +kernel
theorem dX7_withOf_56 : decode cX7_withOf 56 = .ok (.iconst 0, 1) := by decide +kernel
theorem dX7_withOf_57 : decode cX7_withOf 57 = .ok (.iadd, 1) := by decide +kernel
theorem dX7_withOf_58 : decode cX7_withOf 58 = .ok (.iaload, 1) := by decide +kernel
theorem dX7_withOf_59 : decode cX7_withOf 59 = .ok (.irem, 1) := by decide +kernel
theorem dX7_withOf_60 : decode cX7_withOf 60 = .ok (.ireturn, 1) := by decide +kernel
theorem dX7_isLost_0 : decode cX7_isLost 0 = .ok (.aload_n 0, 1) := by decide +kernel
theorem dX7_isLost_1 : decode cX7_isLost 1 = .ok (.iload_n 1, 1) := by decide +kernel
theorem dX7_isLost_2 : decode cX7_isLost 2 = .ok (.iload_n 2, 1) := by decide +kernel
theorem dX7_isLost_3 : decode cX7_isLost 3 = .ok (.invokevirtual 145, 3) := by decide +kernel
theorem dX7_isLost_6 : decode cX7_isLost 6 = .ok (.istore_n 3, 1) := by decide +kernel
theorem dX7_isLost_7 : decode cX7_isLost 7 = .ok (.iconst 0, 1) := by decide +kernel
theorem dX7_isLost_8 : decode cX7_isLost 8 = .ok (.istore 4, 2) := by decide +kernel
theorem dX7_isLost_10 : decode cX7_isLost 10 = .ok (.iconst 0, 1) := by decide +kernel
theorem dX7_isLost_11 : decode cX7_isLost 11 = .ok (.istore 5, 2) := by decide +kernel
theorem dX7_isLost_13 : decode cX7_isLost 13 = .ok (.iload 5, 2) := by decide +kernel
theorem dX7_isLost_15 : decode cX7_isLost 15 = .ok (.aload_n 0, 1) := by decide +kernel
theorem dX7_isLost_16 : decode cX7_isLost 16 = .ok (.getfield 7, 3) := by decide +kernel
theorem dX7_isLost_19 : decode cX7_isLost 19 = .ok (.iload_n 1, 1) := by decide +kernel
theorem dX7_isLost_20 : decode cX7_isLost 20 = .ok (.iconst 1, 1) := by decide +kernel
theorem dX7_isLost_21 : decode cX7_isLost 21 = .ok (.iadd, 1) := by decide +kernel
theorem dX7_isLost_22 : decode cX7_isLost 22 = .ok (.iaload, 1) := by decide +kernel
theorem dX7_isLost_23 : decode cX7_isLost 23 = .ok (.if_icmp .ge 57, 3) := by decide +kernel
theorem dX7_isLost_26 : decode cX7_isLost 26 = .ok (.iload 4, 2) := by decide +kernel
theorem dX7_isLost_28 : decode cX7_isLost 28 = .ok (.ifCond .ne 39, 3) := by decide +kernel
theorem dX7_isLost_31 : decode cX7_isLost 31 = .ok (.aload_n 0, 1) := by decide +kernel
theorem dX7_isLost_32 : decode cX7_isLost 32 = .ok (.getfield 7, 3) := by decide +kernel
theorem dX7_isLost_35 : decode cX7_isLost 35 = .ok (.iload_n 1, 1) := by decide +kernel
theorem dX7_isLost_36 : decode cX7_isLost 36 = .ok (.bipush 50, 2) := by decide +kernel
theorem dX7_isLost_38 : decode cX7_isLost 38 = .ok (.iadd, 1) := by decide +kernel
theorem dX7_isLost_39 : decode cX7_isLost 39 = .ok (.iload_n 2, 1) := by decide +kernel
theorem dX7_isLost_40 : decode cX7_isLost 40 = .ok (.iadd, 1) := by decide +kernel
theorem dX7_isLost_41 : decode cX7_isLost 41 = .ok (.iaload, 1) := by decide +kernel
theorem dX7_isLost_42 : decode cX7_isLost 42 = .ok (.iload 5, 2) := by decide +kernel
theorem dX7_isLost_44 : decode cX7_isLost 44 = .ok (.invokestatic 148, 3) := by decide +kernel
theorem dX7_isLost_47 : decode cX7_isLost 47 = .ok (.ifCond .eq 24, 3) := by decide +kernel
theorem dX7_isLost_50 : decode cX7_isLost 50 = .ok (.iload_n 3, 1) := by decide +kernel
theorem dX7_isLost_51 : decode cX7_isLost 51 = .ok (.ldc 144, 2) := by decide +kernel
theorem dX7_isLost_53 : decode cX7_isLost 53 = .ok (.if_icmp .eq 18, 3) := by decide +kernel
theorem dX7_isLost_56 : decode cX7_isLost 56 = .ok (.aload_n 0, 1) := by decide +kernel
theorem dX7_isLost_57 : decode cX7_isLost 57 = .ok (.iload_n 1, 1) := by decide +kernel
theorem dX7_isLost_58 : decode cX7_isLost 58 = .ok (.iload 5, 2) := by decide +kernel
theorem dX7_isLost_60 : decode cX7_isLost 60 = .ok (.invokevirtual 145, 3) := by decide +kernel
theorem dX7_isLost_63 : decode cX7_isLost 63 = .ok (.iload_n 3, 1) := by decide +kernel
theorem dX7_isLost_64 : decode cX7_isLost 64 = .ok (.if_icmp .ne 7, 3) := by decide +kernel
theorem dX7_isLost_67 : decode cX7_isLost 67 = .ok (.iconst 1, 1) := by decide +kernel
theorem dX7_isLost_68 : decode cX7_isLost 68 = .ok (.goto 4, 3) := by decide +kernel
theorem dX7_isLost_71 : decode cX7_isLost 71 = .ok (.iconst 0, 1) := by decide +kernel
theorem dX7_isLost_72 : decode cX7_isLost 72 = .ok (.istore 4, 2) := by decide +kernel
theorem dX7_isLost_74 : decode cX7_isLost 74 = .ok (.iinc 5 1, 3) := by decide +kernel
theorem dX7_isLost_77 : decode cX7_isLost 77 = .ok (.goto (-64), 3) := by decide +kernel
theorem dX7_isLost_80 : decode cX7_isLost 80 = .ok (.iload 4, 2) := by decide +kernel
theorem dX7_isLost_82 : decode cX7_isLost 82 = .ok (.ireturn, 1) := by decide +kernel
theorem dX7_feeds_0 : decode cX7_feeds 0 = .ok (.aload_n 0, 1) := by decide +kernel
theorem dX7_feeds_1 : decode cX7_feeds 1 = .ok (.getfield 7, 3) := by decide +kernel
theorem dX7_feeds_4 : decode cX7_feeds 4 = .ok (.iload_n 1, 1) := by decide +kernel
theorem dX7_feeds_5 : decode cX7_feeds 5 = .ok (.iconst 5, 1) := by decide +kernel
theorem dX7_feeds_6 : decode cX7_feeds 6 = .ok (.iadd, 1) := by decide +kernel
theorem dX7_feeds_7 : decode cX7_feeds 7 = .ok (.iload_n 2, 1) := by decide +kernel
theorem dX7_feeds_8 : decode cX7_feeds 8 = .ok (.iadd, 1) := by decide +kernel
theorem dX7_feeds_9 : decode cX7_feeds 9 = .ok (.aload_n 0, 1) := by decide +kernel
theorem dX7_feeds_10 : decode cX7_feeds 10 = .ok (.getfield 7, 3) := by decide +kernel
theorem dX7_feeds_13 : decode cX7_feeds 13 = .ok (.iload_n 1, 1) := by decide +kernel
theorem dX7_feeds_14 : decode cX7_feeds 14 = .ok (.iconst 5, 1) := by decide +kernel
theorem dX7_feeds_15 : decode cX7_feeds 15 = .ok (.iadd, 1) := by decide +kernel
theorem dX7_feeds_16 : decode cX7_feeds 16 = .ok (.iload_n 2, 1) := by decide +kernel
theorem dX7_feeds_17 : decode cX7_feeds 17 = .ok (.iadd, 1) := by decide +kernel
theorem dX7_feeds_18 : decode cX7_feeds 18 = .ok (.iaload, 1) := by decide +kernel
theorem dX7_feeds_19 : decode cX7_feeds 19 = .ok (.iload_n 3, 1) := by decide +kernel
theorem dX7_feeds_20 : decode cX7_feeds 20 = .ok (.iadd, 1) := by decide +kernel
theorem dX7_feeds_21 : decode cX7_feeds 21 = .ok (.bipush 99, 2) := by decide +kernel
theorem dX7_feeds_23 : decode cX7_feeds 23 = .ok (.invokestatic 151, 3) := by decide +kernel
theorem dX7_feeds_26 : decode cX7_feeds 26 = .ok (.iastore, 1) := by decide +kernel
theorem dX7_feeds_27 : decode cX7_feeds 27 = .ok (.return_, 1) := by decide +kernel
theorem dX7_spoils_0 : decode cX7_spoils 0 = .ok (.aload_n 0, 1) := by decide +kernel
theorem dX7_spoils_1 : decode cX7_spoils 1 = .ok (.getfield 7, 3) := by decide +kernel
theorem dX7_spoils_4 : decode cX7_spoils 4 = .ok (.iload_n 1, 1) := by decide +kernel
theorem dX7_spoils_5 : decode cX7_spoils 5 = .ok (.bipush 10, 2) := by decide +kernel
theorem dX7_spoils_7 : decode cX7_spoils 7 = .ok (.iadd, 1) := by decide +kernel
theorem dX7_spoils_8 : decode cX7_spoils 8 = .ok (.iload_n 2, 1) := by decide +kernel
theorem dX7_spoils_9 : decode cX7_spoils 9 = .ok (.iadd, 1) := by decide +kernel
theorem dX7_spoils_10 : decode cX7_spoils 10 = .ok (.aload_n 0, 1) := by decide +kernel
theorem dX7_spoils_11 : decode cX7_spoils 11 = .ok (.getfield 7, 3) := by decide +kernel
theorem dX7_spoils_14 : decode cX7_spoils 14 = .ok (.iload_n 1, 1) := by decide +kernel
theorem dX7_spoils_15 : decode cX7_spoils 15 = .ok (.bipush 10, 2) := by decide +kernel
theorem dX7_spoils_17 : decode cX7_spoils 17 = .ok (.iadd, 1) := by decide +kernel
theorem dX7_spoils_18 : decode cX7_spoils 18 = .ok (.iload_n 2, 1) := by decide +kernel
theorem dX7_spoils_19 : decode cX7_spoils 19 = .ok (.iadd, 1) := by decide +kernel
theorem dX7_spoils_20 : decode cX7_spoils 20 = .ok (.iaload, 1) := by decide +kernel
theorem dX7_spoils_21 : decode cX7_spoils 21 = .ok (.iload_n 3, 1) := by decide +kernel
theorem dX7_spoils_22 : decode cX7_spoils 22 = .ok (.iadd, 1) := by decide +kernel
theorem dX7_spoils_23 : decode cX7_spoils 23 = .ok (.bipush 20, 2) := by decide +kernel
theorem dX7_spoils_25 : decode cX7_spoils 25 = .ok (.invokestatic 151, 3) := by decide +kernel
theorem dX7_spoils_28 : decode cX7_spoils 28 = .ok (.iastore, 1) := by decide +kernel
theorem dX7_spoils_29 : decode cX7_spoils 29 = .ok (.return_, 1) := by decide +kernel
theorem dX7_brings_0 : decode cX7_brings 0 = .ok (.aload_n 0, 1) := by decide +kernel
theorem dX7_brings_1 : decode cX7_brings 1 = .ok (.getfield 7, 3) := by decide +kernel
theorem dX7_brings_4 : decode cX7_brings 4 = .ok (.iload_n 1, 1) := by decide +kernel
theorem dX7_brings_5 : decode cX7_brings 5 = .ok (.bipush 26, 2) := by decide +kernel
theorem dX7_brings_7 : decode cX7_brings 7 = .ok (.iadd, 1) := by decide +kernel
theorem dX7_brings_8 : decode cX7_brings 8 = .ok (.iload_n 2, 1) := by decide +kernel
theorem dX7_brings_9 : decode cX7_brings 9 = .ok (.iadd, 1) := by decide +kernel
theorem dX7_brings_10 : decode cX7_brings 10 = .ok (.iaload, 1) := by decide +kernel
theorem dX7_brings_11 : decode cX7_brings 11 = .ok (.istore 4, 2) := by decide +kernel
theorem dX7_brings_13 : decode cX7_brings 13 = .ok (.aload_n 0, 1) := by decide +kernel
theorem dX7_brings_14 : decode cX7_brings 14 = .ok (.getfield 7, 3) := by decide +kernel
theorem dX7_brings_17 : decode cX7_brings 17 = .ok (.iload_n 1, 1) := by decide +kernel
theorem dX7_brings_18 : decode cX7_brings 18 = .ok (.bipush 20, 2) := by decide +kernel
theorem dX7_brings_20 : decode cX7_brings 20 = .ok (.iadd, 1) := by decide +kernel
theorem dX7_brings_21 : decode cX7_brings 21 = .ok (.iload_n 2, 1) := by decide +kernel
theorem dX7_brings_22 : decode cX7_brings 22 = .ok (.iadd, 1) := by decide +kernel
theorem dX7_brings_23 : decode cX7_brings 23 = .ok (.iaload, 1) := by decide +kernel
theorem dX7_brings_24 : decode cX7_brings 24 = .ok (.tableswitch 135 1 5 #[36, 47, 67, 135, 116], 36) := by decide +kernel
theorem dX7_brings_60 : decode cX7_brings 60 = .ok (.aload_n 0, 1) := by decide +kernel
theorem dX7_brings_61 : decode cX7_brings 61 = .ok (.iload_n 1, 1) := by decide +kernel
theorem dX7_brings_62 : decode cX7_brings 62 = .ok (.iload_n 3, 1) := by decide +kernel
theorem dX7_brings_63 : decode cX7_brings 63 = .ok (.iload 4, 2) := by decide +kernel
theorem dX7_brings_65 : decode cX7_brings 65 = .ok (.invokevirtual 154, 3) := by decide +kernel
theorem dX7_brings_68 : decode cX7_brings 68 = .ok (.goto 100, 3) := by decide +kernel
theorem dX7_brings_71 : decode cX7_brings 71 = .ok (.aload_n 0, 1) := by decide +kernel
theorem dX7_brings_72 : decode cX7_brings 72 = .ok (.iload_n 1, 1) := by decide +kernel
theorem dX7_brings_73 : decode cX7_brings 73 = .ok (.iload_n 3, 1) := by decide +kernel
theorem dX7_brings_74 : decode cX7_brings 74 = .ok (.iconst 2, 1) := by decide +kernel
theorem dX7_brings_75 : decode cX7_brings 75 = .ok (.iload 4, 2) := by decide +kernel
theorem dX7_brings_77 : decode cX7_brings 77 = .ok (.imul, 1) := by decide +kernel
theorem dX7_brings_78 : decode cX7_brings 78 = .ok (.invokevirtual 154, 3) := by decide +kernel
theorem dX7_brings_81 : decode cX7_brings 81 = .ok (.aload_n 0, 1) := by decide +kernel
theorem dX7_brings_82 : decode cX7_brings 82 = .ok (.iload_n 1, 1) := by decide +kernel
theorem dX7_brings_83 : decode cX7_brings 83 = .ok (.iload_n 3, 1) := by decide +kernel
theorem dX7_brings_84 : decode cX7_brings 84 = .ok (.iconst 1, 1) := by decide +kernel
theorem dX7_brings_85 : decode cX7_brings 85 = .ok (.invokevirtual 158, 3) := by decide +kernel
theorem dX7_brings_88 : decode cX7_brings 88 = .ok (.goto 80, 3) := by decide +kernel
theorem dX7_brings_91 : decode cX7_brings 91 = .ok (.aload_n 0, 1) := by decide +kernel
theorem dX7_brings_92 : decode cX7_brings 92 = .ok (.iload_n 1, 1) := by decide +kernel
theorem dX7_brings_93 : decode cX7_brings 93 = .ok (.iload_n 3, 1) := by decide +kernel
theorem dX7_brings_94 : decode cX7_brings 94 = .ok (.iload 4, 2) := by decide +kernel
theorem dX7_brings_96 : decode cX7_brings 96 = .ok (.iconst 2, 1) := by decide +kernel
theorem dX7_brings_97 : decode cX7_brings 97 = .ok (.idiv, 1) := by decide +kernel
theorem dX7_brings_98 : decode cX7_brings 98 = .ok (.invokevirtual 154, 3) := by decide +kernel
theorem dX7_brings_101 : decode cX7_brings 101 = .ok (.aload_n 0, 1) := by decide +kernel
theorem dX7_brings_102 : decode cX7_brings 102 = .ok (.getfield 7, 3) := by decide +kernel
theorem dX7_brings_105 : decode cX7_brings 105 = .ok (.iload_n 1, 1) := by decide +kernel
theorem dX7_brings_106 : decode cX7_brings 106 = .ok (.bipush 15, 2) := by decide +kernel
theorem dX7_brings_108 : decode cX7_brings 108 = .ok (.iadd, 1) := by decide +kernel
theorem dX7_brings_109 : decode cX7_brings 109 = .ok (.iload_n 3, 1) := by decide +kernel
theorem dX7_brings_110 : decode cX7_brings 110 = .ok (.iadd, 1) := by decide +kernel
theorem dX7_brings_111 : decode cX7_brings 111 = .ok (.dup2, 1) := by decide +kernel
theorem dX7_brings_112 : decode cX7_brings 112 = .ok (.iaload, 1) := by decide +kernel
theorem dX7_brings_113 : decode cX7_brings 113 = .ok (.iconst 1, 1) := by decide +kernel
theorem dX7_brings_114 : decode cX7_brings 114 = .ok (.iload 4, 2) := by decide +kernel
theorem dX7_brings_116 : decode cX7_brings 116 = .ok (.aload_n 0, 1) := by decide +kernel
theorem dX7_brings_117 : decode cX7_brings 117 = .ok (.getfield 7, 3) := by decide +kernel
theorem dX7_brings_120 : decode cX7_brings 120 = .ok (.iload_n 1, 1) := by decide +kernel
theorem dX7_brings_121 : decode cX7_brings 121 = .ok (.iconst 4, 1) := by decide +kernel
theorem dX7_brings_122 : decode cX7_brings 122 = .ok (.iadd, 1) := by decide +kernel
theorem dX7_brings_123 : decode cX7_brings 123 = .ok (.iaload, 1) := by decide +kernel
theorem dX7_brings_124 : decode cX7_brings 124 = .ok (.iadd, 1) := by decide +kernel
theorem dX7_brings_125 : decode cX7_brings 125 = .ok (.aload_n 0, 1) := by decide +kernel
theorem dX7_brings_126 : decode cX7_brings 126 = .ok (.getfield 7, 3) := by decide +kernel
theorem dX7_brings_129 : decode cX7_brings 129 = .ok (.iload_n 1, 1) := by decide +kernel
theorem dX7_brings_130 : decode cX7_brings 130 = .ok (.iconst 3, 1) := by decide +kernel
theorem dX7_brings_131 : decode cX7_brings 131 = .ok (.iadd, 1) := by decide +kernel
theorem dX7_brings_132 : decode cX7_brings 132 = .ok (.iaload, 1) := by decide +kernel
theorem dX7_brings_133 : decode cX7_brings 133 = .ok (.irem, 1) := by decide +kernel
theorem dX7_brings_134 : decode cX7_brings 134 = .ok (.ishl, 1) := by decide +kernel
theorem dX7_brings_135 : decode cX7_brings 135 = .ok (.ior, 1) := by decide +kernel
theorem dX7_brings_136 : decode cX7_brings 136 = .ok (.iastore, 1) := by decide +kernel
theorem dX7_brings_137 : decode cX7_brings 137 = .ok (.goto 31, 3) := by decide +kernel
theorem dX7_brings_140 : decode cX7_brings 140 = .ok (.aload_n 0, 1) := by decide +kernel
theorem dX7_brings_141 : decode cX7_brings 141 = .ok (.iload_n 1, 1) := by decide +kernel
theorem dX7_brings_142 : decode cX7_brings 142 = .ok (.iload_n 3, 1) := by decide +kernel
theorem dX7_brings_143 : decode cX7_brings 143 = .ok (.iload 4, 2) := by decide +kernel
theorem dX7_brings_145 : decode cX7_brings 145 = .ok (.ineg, 1) := by decide +kernel
theorem dX7_brings_146 : decode cX7_brings 146 = .ok (.invokevirtual 158, 3) := by decide +kernel
theorem dX7_brings_149 : decode cX7_brings 149 = .ok (.aload_n 0, 1) := by decide +kernel
theorem dX7_brings_150 : decode cX7_brings 150 = .ok (.iload_n 1, 1) := by decide +kernel
theorem dX7_brings_151 : decode cX7_brings 151 = .ok (.iload_n 3, 1) := by decide +kernel
theorem dX7_brings_152 : decode cX7_brings 152 = .ok (.iconst 1, 1) := by decide +kernel
theorem dX7_brings_153 : decode cX7_brings 153 = .ok (.invokevirtual 154, 3) := by decide +kernel
theorem dX7_brings_156 : decode cX7_brings 156 = .ok (.goto 12, 3) := by decide +kernel
theorem dX7_brings_159 : decode cX7_brings 159 = .ok (.aload_n 0, 1) := by decide +kernel
theorem dX7_brings_160 : decode cX7_brings 160 = .ok (.iload_n 1, 1) := by decide +kernel
theorem dX7_brings_161 : decode cX7_brings 161 = .ok (.iload_n 3, 1) := by decide +kernel
theorem dX7_brings_162 : decode cX7_brings 162 = .ok (.iload 4, 2) := by decide +kernel
theorem dX7_brings_164 : decode cX7_brings 164 = .ok (.ineg, 1) := by decide +kernel
theorem dX7_brings_165 : decode cX7_brings 165 = .ok (.invokevirtual 158, 3) := by decide +kernel
theorem dX7_brings_168 : decode cX7_brings 168 = .ok (.return_, 1) := by decide +kernel
theorem dX7_pass_0 : decode cX7_pass 0 = .ok (.iconst 0, 1) := by decide +kernel
theorem dX7_pass_1 : decode cX7_pass 1 = .ok (.istore_n 2, 1) := by decide +kernel
theorem dX7_pass_2 : decode cX7_pass 2 = .ok (.iload_n 2, 1) := by decide +kernel
theorem dX7_pass_3 : decode cX7_pass 3 = .ok (.aload_n 0, 1) := by decide +kernel
theorem dX7_pass_4 : decode cX7_pass 4 = .ok (.getfield 7, 3) := by decide +kernel
theorem dX7_pass_7 : decode cX7_pass 7 = .ok (.iload_n 1, 1) := by decide +kernel
theorem dX7_pass_8 : decode cX7_pass 8 = .ok (.iconst 1, 1) := by decide +kernel
theorem dX7_pass_9 : decode cX7_pass 9 = .ok (.iadd, 1) := by decide +kernel
theorem dX7_pass_10 : decode cX7_pass 10 = .ok (.iaload, 1) := by decide +kernel
theorem dX7_pass_11 : decode cX7_pass 11 = .ok (.if_icmp .ge 41, 3) := by decide +kernel
theorem dX7_pass_14 : decode cX7_pass 14 = .ok (.aload_n 0, 1) := by decide +kernel
theorem dX7_pass_15 : decode cX7_pass 15 = .ok (.iload_n 1, 1) := by decide +kernel
theorem dX7_pass_16 : decode cX7_pass 16 = .ok (.iload_n 2, 1) := by decide +kernel
theorem dX7_pass_17 : decode cX7_pass 17 = .ok (.invokevirtual 145, 3) := by decide +kernel
theorem dX7_pass_20 : decode cX7_pass 20 = .ok (.ldc 144, 2) := by decide +kernel
theorem dX7_pass_22 : decode cX7_pass 22 = .ok (.if_icmp .eq 24, 3) := by decide +kernel
theorem dX7_pass_25 : decode cX7_pass 25 = .ok (.aload_n 0, 1) := by decide +kernel
theorem dX7_pass_26 : decode cX7_pass 26 = .ok (.iload_n 1, 1) := by decide +kernel
theorem dX7_pass_27 : decode cX7_pass 27 = .ok (.iload_n 2, 1) := by decide +kernel
theorem dX7_pass_28 : decode cX7_pass 28 = .ok (.invokevirtual 161, 3) := by decide +kernel
theorem dX7_pass_31 : decode cX7_pass 31 = .ok (.ifCond .ne 15, 3) := by decide +kernel
theorem dX7_pass_34 : decode cX7_pass 34 = .ok (.aload_n 0, 1) := by decide +kernel
theorem dX7_pass_35 : decode cX7_pass 35 = .ok (.iload_n 1, 1) := by decide +kernel
theorem dX7_pass_36 : decode cX7_pass 36 = .ok (.iload_n 2, 1) := by decide +kernel
theorem dX7_pass_37 : decode cX7_pass 37 = .ok (.aload_n 0, 1) := by decide +kernel
theorem dX7_pass_38 : decode cX7_pass 38 = .ok (.iload_n 1, 1) := by decide +kernel
theorem dX7_pass_39 : decode cX7_pass 39 = .ok (.iload_n 2, 1) := by decide +kernel
theorem dX7_pass_40 : decode cX7_pass 40 = .ok (.invokevirtual 145, 3) := by decide +kernel
theorem dX7_pass_43 : decode cX7_pass 43 = .ok (.invokevirtual 164, 3) := by decide +kernel
theorem dX7_pass_46 : decode cX7_pass 46 = .ok (.iinc 2 1, 3) := by decide +kernel
theorem dX7_pass_49 : decode cX7_pass 49 = .ok (.goto (-47), 3) := by decide +kernel
theorem dX7_pass_52 : decode cX7_pass 52 = .ok (.iconst 0, 1) := by decide +kernel
theorem dX7_pass_53 : decode cX7_pass 53 = .ok (.istore_n 2, 1) := by decide +kernel
theorem dX7_pass_54 : decode cX7_pass 54 = .ok (.iload_n 2, 1) := by decide +kernel
theorem dX7_pass_55 : decode cX7_pass 55 = .ok (.aload_n 0, 1) := by decide +kernel
theorem dX7_pass_56 : decode cX7_pass 56 = .ok (.getfield 7, 3) := by decide +kernel
theorem dX7_pass_59 : decode cX7_pass 59 = .ok (.iload_n 1, 1) := by decide +kernel
theorem dX7_pass_60 : decode cX7_pass 60 = .ok (.iconst 0, 1) := by decide +kernel
theorem dX7_pass_61 : decode cX7_pass 61 = .ok (.iadd, 1) := by decide +kernel
theorem dX7_pass_62 : decode cX7_pass 62 = .ok (.iaload, 1) := by decide +kernel
theorem dX7_pass_63 : decode cX7_pass 63 = .ok (.if_icmp .ge 24, 3) := by decide +kernel
theorem dX7_pass_66 : decode cX7_pass 66 = .ok (.aload_n 0, 1) := by decide +kernel
theorem dX7_pass_67 : decode cX7_pass 67 = .ok (.iload_n 1, 1) := by decide +kernel
theorem dX7_pass_68 : decode cX7_pass 68 = .ok (.iload_n 2, 1) := by decide +kernel
theorem dX7_pass_69 : decode cX7_pass 69 = .ok (.aload_n 0, 1) := by decide +kernel
theorem dX7_pass_70 : decode cX7_pass 70 = .ok (.getfield 7, 3) := by decide +kernel
theorem dX7_pass_73 : decode cX7_pass 73 = .ok (.iload_n 1, 1) := by decide +kernel
theorem dX7_pass_74 : decode cX7_pass 74 = .ok (.iconst 2, 1) := by decide +kernel
theorem dX7_pass_75 : decode cX7_pass 75 = .ok (.iadd, 1) := by decide +kernel
theorem dX7_pass_76 : decode cX7_pass 76 = .ok (.iaload, 1) := by decide +kernel
theorem dX7_pass_77 : decode cX7_pass 77 = .ok (.ineg, 1) := by decide +kernel
theorem dX7_pass_78 : decode cX7_pass 78 = .ok (.invokevirtual 154, 3) := by decide +kernel
theorem dX7_pass_81 : decode cX7_pass 81 = .ok (.iinc 2 1, 3) := by decide +kernel
theorem dX7_pass_84 : decode cX7_pass 84 = .ok (.goto (-30), 3) := by decide +kernel
theorem dX7_pass_87 : decode cX7_pass 87 = .ok (.iconst 0, 1) := by decide +kernel
theorem dX7_pass_88 : decode cX7_pass 88 = .ok (.istore_n 2, 1) := by decide +kernel
theorem dX7_pass_89 : decode cX7_pass 89 = .ok (.iload_n 2, 1) := by decide +kernel
theorem dX7_pass_90 : decode cX7_pass 90 = .ok (.aload_n 0, 1) := by decide +kernel
theorem dX7_pass_91 : decode cX7_pass 91 = .ok (.getfield 7, 3) := by decide +kernel
theorem dX7_pass_94 : decode cX7_pass 94 = .ok (.iload_n 1, 1) := by decide +kernel
theorem dX7_pass_95 : decode cX7_pass 95 = .ok (.iconst 1, 1) := by decide +kernel
theorem dX7_pass_96 : decode cX7_pass 96 = .ok (.iadd, 1) := by decide +kernel
theorem dX7_pass_97 : decode cX7_pass 97 = .ok (.iaload, 1) := by decide +kernel
theorem dX7_pass_98 : decode cX7_pass 98 = .ok (.if_icmp .ge 42, 3) := by decide +kernel
theorem dX7_pass_101 : decode cX7_pass 101 = .ok (.aload_n 0, 1) := by decide +kernel
theorem dX7_pass_102 : decode cX7_pass 102 = .ok (.getfield 7, 3) := by decide +kernel
theorem dX7_pass_105 : decode cX7_pass 105 = .ok (.iload_n 1, 1) := by decide +kernel
theorem dX7_pass_106 : decode cX7_pass 106 = .ok (.bipush 44, 2) := by decide +kernel
theorem dX7_pass_108 : decode cX7_pass 108 = .ok (.iadd, 1) := by decide +kernel
theorem dX7_pass_109 : decode cX7_pass 109 = .ok (.iload_n 2, 1) := by decide +kernel
theorem dX7_pass_110 : decode cX7_pass 110 = .ok (.iadd, 1) := by decide +kernel
theorem dX7_pass_111 : decode cX7_pass 111 = .ok (.dup2, 1) := by decide +kernel
theorem dX7_pass_112 : decode cX7_pass 112 = .ok (.iaload, 1) := by decide +kernel
theorem dX7_pass_113 : decode cX7_pass 113 = .ok (.aload_n 0, 1) := by decide +kernel
theorem dX7_pass_114 : decode cX7_pass 114 = .ok (.getfield 7, 3) := by decide +kernel
theorem dX7_pass_117 : decode cX7_pass 117 = .ok (.iload_n 1, 1) := by decide +kernel
theorem dX7_pass_118 : decode cX7_pass 118 = .ok (.bipush 44, 2) := by decide +kernel
theorem dX7_pass_120 : decode cX7_pass 120 = .ok (.iadd, 1) := by decide +kernel
theorem dX7_pass_121 : decode cX7_pass 121 = .ok (.iload_n 2, 1) := by decide +kernel
theorem dX7_pass_122 : decode cX7_pass 122 = .ok (.iadd, 1) := by decide +kernel
theorem dX7_pass_123 : decode cX7_pass 123 = .ok (.iaload, 1) := by decide +kernel
theorem dX7_pass_124 : decode cX7_pass 124 = .ok (.ifCond .le 7, 3) := by decide +kernel
theorem dX7_pass_127 : decode cX7_pass 127 = .ok (.iconst 1, 1) := by decide +kernel
theorem dX7_pass_128 : decode cX7_pass 128 = .ok (.goto 4, 3) := by decide +kernel
theorem dX7_pass_131 : decode cX7_pass 131 = .ok (.iconst 0, 1) := by decide +kernel
theorem dX7_pass_132 : decode cX7_pass 132 = .ok (.isub, 1) := by decide +kernel
theorem dX7_pass_133 : decode cX7_pass 133 = .ok (.iastore, 1) := by decide +kernel
theorem dX7_pass_134 : decode cX7_pass 134 = .ok (.iinc 2 1, 3) := by decide +kernel
theorem dX7_pass_137 : decode cX7_pass 137 = .ok (.goto (-48), 3) := by decide +kernel
theorem dX7_pass_140 : decode cX7_pass 140 = .ok (.aload_n 0, 1) := by decide +kernel
theorem dX7_pass_141 : decode cX7_pass 141 = .ok (.getfield 7, 3) := by decide +kernel
theorem dX7_pass_144 : decode cX7_pass 144 = .ok (.iload_n 1, 1) := by decide +kernel
theorem dX7_pass_145 : decode cX7_pass 145 = .ok (.iconst 4, 1) := by decide +kernel
theorem dX7_pass_146 : decode cX7_pass 146 = .ok (.iadd, 1) := by decide +kernel
theorem dX7_pass_147 : decode cX7_pass 147 = .ok (.dup2, 1) := by decide +kernel
theorem dX7_pass_148 : decode cX7_pass 148 = .ok (.iaload, 1) := by decide +kernel
theorem dX7_pass_149 : decode cX7_pass 149 = .ok (.iconst 1, 1) := by decide +kernel
theorem dX7_pass_150 : decode cX7_pass 150 = .ok (.iadd, 1) := by decide +kernel
theorem dX7_pass_151 : decode cX7_pass 151 = .ok (.iastore, 1) := by decide +kernel
theorem dX7_pass_152 : decode cX7_pass 152 = .ok (.return_, 1) := by decide +kernel
theorem dX7_days_0 : decode cX7_days 0 = .ok (.aload_n 0, 1) := by decide +kernel
theorem dX7_days_1 : decode cX7_days 1 = .ok (.getfield 136, 3) := by decide +kernel
theorem dX7_days_4 : decode cX7_days 4 = .ok (.ifCond .ne 6, 3) := by decide +kernel
theorem dX7_days_7 : decode cX7_days 7 = .ok (.ldc 143, 2) := by decide +kernel
theorem dX7_days_9 : decode cX7_days 9 = .ok (.ireturn, 1) := by decide +kernel
theorem dX7_days_10 : decode cX7_days 10 = .ok (.iload_n 1, 1) := by decide +kernel
theorem dX7_days_11 : decode cX7_days 11 = .ok (.i2l, 1) := by decide +kernel
theorem dX7_days_12 : decode cX7_days 12 = .ok (.lconst 1, 1) := by decide +kernel
theorem dX7_days_13 : decode cX7_days 13 = .ok (.ldc2_w 167, 3) := by decide +kernel
theorem dX7_days_16 : decode cX7_days 16 = .ok (.invokestatic 48, 3) := by decide +kernel
theorem dX7_days_19 : decode cX7_days 19 = .ok (.ifCond .ne 6, 3) := by decide +kernel
theorem dX7_days_22 : decode cX7_days 22 = .ok (.ldc 58, 2) := by decide +kernel
theorem dX7_days_24 : decode cX7_days 24 = .ok (.ireturn, 1) := by decide +kernel
theorem dX7_days_25 : decode cX7_days 25 = .ok (.aload_n 0, 1) := by decide +kernel
theorem dX7_days_26 : decode cX7_days 26 = .ok (.getfield 7, 3) := by decide +kernel
theorem dX7_days_29 : decode cX7_days 29 = .ok (.iconst 4, 1) := by decide +kernel
theorem dX7_days_30 : decode cX7_days 30 = .ok (.iaload, 1) := by decide +kernel
theorem dX7_days_31 : decode cX7_days 31 = .ok (.iload_n 1, 1) := by decide +kernel
theorem dX7_days_32 : decode cX7_days 32 = .ok (.iadd, 1) := by decide +kernel
theorem dX7_days_33 : decode cX7_days 33 = .ok (.sipush 999, 3) := by decide +kernel
theorem dX7_days_36 : decode cX7_days 36 = .ok (.if_icmp .le 6, 3) := by decide +kernel
theorem dX7_days_39 : decode cX7_days 39 = .ok (.ldc 79, 2) := by decide +kernel
theorem dX7_days_41 : decode cX7_days 41 = .ok (.ireturn, 1) := by decide +kernel
theorem dX7_days_42 : decode cX7_days 42 = .ok (.iconst 0, 1) := by decide +kernel
theorem dX7_days_43 : decode cX7_days 43 = .ok (.istore_n 2, 1) := by decide +kernel
theorem dX7_days_44 : decode cX7_days 44 = .ok (.iload_n 2, 1) := by decide +kernel
theorem dX7_days_45 : decode cX7_days 45 = .ok (.iload_n 1, 1) := by decide +kernel
theorem dX7_days_46 : decode cX7_days 46 = .ok (.if_icmp .ge 18, 3) := by decide +kernel
theorem dX7_days_49 : decode cX7_days 49 = .ok (.aload_n 0, 1) := by decide +kernel
theorem dX7_days_50 : decode cX7_days 50 = .ok (.invokevirtual 169, 3) := by decide +kernel
theorem dX7_days_53 : decode cX7_days 53 = .ok (.aload_n 0, 1) := by decide +kernel
theorem dX7_days_54 : decode cX7_days 54 = .ok (.iconst 0, 1) := by decide +kernel
theorem dX7_days_55 : decode cX7_days 55 = .ok (.invokevirtual 172, 3) := by decide +kernel
theorem dX7_days_58 : decode cX7_days 58 = .ok (.iinc 2 1, 3) := by decide +kernel
theorem dX7_days_61 : decode cX7_days 61 = .ok (.goto (-17), 3) := by decide +kernel
theorem dX7_days_64 : decode cX7_days 64 = .ok (.aload_n 0, 1) := by decide +kernel
theorem dX7_days_65 : decode cX7_days 65 = .ok (.getfield 7, 3) := by decide +kernel
theorem dX7_days_68 : decode cX7_days 68 = .ok (.iconst 4, 1) := by decide +kernel
theorem dX7_days_69 : decode cX7_days 69 = .ok (.iaload, 1) := by decide +kernel
theorem dX7_days_70 : decode cX7_days 70 = .ok (.ireturn, 1) := by decide +kernel
theorem dX7_put_0 : decode cX7_put 0 = .ok (.aload_n 0, 1) := by decide +kernel
theorem dX7_put_1 : decode cX7_put 1 = .ok (.invokevirtual 169, 3) := by decide +kernel
theorem dX7_put_4 : decode cX7_put 4 = .ok (.aload_n 0, 1) := by decide +kernel
theorem dX7_put_5 : decode cX7_put 5 = .ok (.getfield 7, 3) := by decide +kernel
theorem dX7_put_8 : decode cX7_put 8 = .ok (.iload_n 1, 1) := by decide +kernel
theorem dX7_put_9 : decode cX7_put 9 = .ok (.iaload, 1) := by decide +kernel
theorem dX7_put_10 : decode cX7_put 10 = .ok (.istore_n 3, 1) := by decide +kernel
theorem dX7_put_11 : decode cX7_put 11 = .ok (.aload_n 0, 1) := by decide +kernel
theorem dX7_put_12 : decode cX7_put 12 = .ok (.getfield 7, 3) := by decide +kernel
theorem dX7_put_15 : decode cX7_put 15 = .ok (.iload_n 1, 1) := by decide +kernel
theorem dX7_put_16 : decode cX7_put 16 = .ok (.iload_n 2, 1) := by decide +kernel
theorem dX7_put_17 : decode cX7_put 17 = .ok (.iastore, 1) := by decide +kernel
theorem dX7_put_18 : decode cX7_put 18 = .ok (.iload_n 3, 1) := by decide +kernel
theorem dX7_put_19 : decode cX7_put 19 = .ok (.ireturn, 1) := by decide +kernel
theorem dX7_sick_0 : decode cX7_sick 0 = .ok (.aload_n 0, 1) := by decide +kernel
theorem dX7_sick_1 : decode cX7_sick 1 = .ok (.iload_n 1, 1) := by decide +kernel
theorem dX7_sick_2 : decode cX7_sick 2 = .ok (.invokevirtual 176, 3) := by decide +kernel
theorem dX7_sick_5 : decode cX7_sick 5 = .ok (.ifCond .eq 27, 3) := by decide +kernel
theorem dX7_sick_8 : decode cX7_sick 8 = .ok (.iload_n 2, 1) := by decide +kernel
theorem dX7_sick_9 : decode cX7_sick 9 = .ok (.i2l, 1) := by decide +kernel
theorem dX7_sick_10 : decode cX7_sick 10 = .ok (.lconst 0, 1) := by decide +kernel
theorem dX7_sick_11 : decode cX7_sick 11 = .ok (.ldc2_w 179, 3) := by decide +kernel
theorem dX7_sick_14 : decode cX7_sick 14 = .ok (.invokestatic 48, 3) := by decide +kernel
theorem dX7_sick_17 : decode cX7_sick 17 = .ok (.ifCond .eq 15, 3) := by decide +kernel
theorem dX7_sick_20 : decode cX7_sick 20 = .ok (.aload_n 0, 1) := by decide +kernel
theorem dX7_sick_21 : decode cX7_sick 21 = .ok (.bipush 44, 2) := by decide +kernel
theorem dX7_sick_23 : decode cX7_sick 23 = .ok (.iload_n 1, 1) := by decide +kernel
theorem dX7_sick_24 : decode cX7_sick 24 = .ok (.iadd, 1) := by decide +kernel
theorem dX7_sick_25 : decode cX7_sick 25 = .ok (.iload_n 2, 1) := by decide +kernel
theorem dX7_sick_26 : decode cX7_sick 26 = .ok (.invokevirtual 181, 3) := by decide +kernel
theorem dX7_sick_29 : decode cX7_sick 29 = .ok (.goto 5, 3) := by decide +kernel
theorem dX7_sick_32 : decode cX7_sick 32 = .ok (.ldc 58, 2) := by decide +kernel
theorem dX7_sick_34 : decode cX7_sick 34 = .ok (.ireturn, 1) := by decide +kernel
theorem dX7_swap_0 : decode cX7_swap 0 = .ok (.aload_n 0, 1) := by decide +kernel
theorem dX7_swap_1 : decode cX7_swap 1 = .ok (.iload_n 1, 1) := by decide +kernel
theorem dX7_swap_2 : decode cX7_swap 2 = .ok (.invokevirtual 176, 3) := by decide +kernel
theorem dX7_swap_5 : decode cX7_swap 5 = .ok (.ifCond .eq 23, 3) := by decide +kernel
theorem dX7_swap_8 : decode cX7_swap 8 = .ok (.aload_n 0, 1) := by decide +kernel
theorem dX7_swap_9 : decode cX7_swap 9 = .ok (.iload_n 2, 1) := by decide +kernel
theorem dX7_swap_10 : decode cX7_swap 10 = .ok (.invokevirtual 184, 3) := by decide +kernel
theorem dX7_swap_13 : decode cX7_swap 13 = .ok (.ifCond .eq 15, 3) := by decide +kernel
theorem dX7_swap_16 : decode cX7_swap 16 = .ok (.aload_n 0, 1) := by decide +kernel
theorem dX7_swap_17 : decode cX7_swap 17 = .ok (.bipush 32, 2) := by decide +kernel
theorem dX7_swap_19 : decode cX7_swap 19 = .ok (.iload_n 1, 1) := by decide +kernel
theorem dX7_swap_20 : decode cX7_swap 20 = .ok (.iadd, 1) := by decide +kernel
theorem dX7_swap_21 : decode cX7_swap 21 = .ok (.iload_n 2, 1) := by decide +kernel
theorem dX7_swap_22 : decode cX7_swap 22 = .ok (.invokevirtual 181, 3) := by decide +kernel
theorem dX7_swap_25 : decode cX7_swap 25 = .ok (.goto 5, 3) := by decide +kernel
theorem dX7_swap_28 : decode cX7_swap 28 = .ok (.ldc 58, 2) := by decide +kernel
theorem dX7_swap_30 : decode cX7_swap 30 = .ok (.ireturn, 1) := by decide +kernel
theorem dX7_pace_0 : decode cX7_pace 0 = .ok (.aload_n 0, 1) := by decide +kernel
theorem dX7_pace_1 : decode cX7_pace 1 = .ok (.iload_n 1, 1) := by decide +kernel
theorem dX7_pace_2 : decode cX7_pace 2 = .ok (.invokevirtual 176, 3) := by decide +kernel
theorem dX7_pace_5 : decode cX7_pace 5 = .ok (.ifCond .eq 27, 3) := by decide +kernel
theorem dX7_pace_8 : decode cX7_pace 8 = .ok (.iload_n 2, 1) := by decide +kernel
theorem dX7_pace_9 : decode cX7_pace 9 = .ok (.i2l, 1) := by decide +kernel
theorem dX7_pace_10 : decode cX7_pace 10 = .ok (.lconst 0, 1) := by decide +kernel
theorem dX7_pace_11 : decode cX7_pace 11 = .ok (.ldc2_w 187, 3) := by decide +kernel
theorem dX7_pace_14 : decode cX7_pace 14 = .ok (.invokestatic 48, 3) := by decide +kernel
theorem dX7_pace_17 : decode cX7_pace 17 = .ok (.ifCond .eq 15, 3) := by decide +kernel
theorem dX7_pace_20 : decode cX7_pace 20 = .ok (.aload_n 0, 1) := by decide +kernel
theorem dX7_pace_21 : decode cX7_pace 21 = .ok (.bipush 38, 2) := by decide +kernel
theorem dX7_pace_23 : decode cX7_pace 23 = .ok (.iload_n 1, 1) := by decide +kernel
theorem dX7_pace_24 : decode cX7_pace 24 = .ok (.iadd, 1) := by decide +kernel
theorem dX7_pace_25 : decode cX7_pace 25 = .ok (.iload_n 2, 1) := by decide +kernel
theorem dX7_pace_26 : decode cX7_pace 26 = .ok (.invokevirtual 181, 3) := by decide +kernel
theorem dX7_pace_29 : decode cX7_pace 29 = .ok (.goto 5, 3) := by decide +kernel
theorem dX7_pace_32 : decode cX7_pace 32 = .ok (.ldc 58, 2) := by decide +kernel
theorem dX7_pace_34 : decode cX7_pace 34 = .ok (.ireturn, 1) := by decide +kernel
theorem dX7_areTwo_0 : decode cX7_areTwo 0 = .ok (.aload_n 0, 1) := by decide +kernel
theorem dX7_areTwo_1 : decode cX7_areTwo 1 = .ok (.iload_n 1, 1) := by decide +kernel
theorem dX7_areTwo_2 : decode cX7_areTwo 2 = .ok (.invokevirtual 176, 3) := by decide +kernel
theorem dX7_areTwo_5 : decode cX7_areTwo 5 = .ok (.ifCond .eq 20, 3) := by decide +kernel
theorem dX7_areTwo_8 : decode cX7_areTwo 8 = .ok (.aload_n 0, 1) := by decide +kernel
theorem dX7_areTwo_9 : decode cX7_areTwo 9 = .ok (.iload_n 2, 1) := by decide +kernel
theorem dX7_areTwo_10 : decode cX7_areTwo 10 = .ok (.invokevirtual 176, 3) := by decide +kernel
theorem dX7_areTwo_13 : decode cX7_areTwo 13 = .ok (.ifCond .eq 12, 3) := by decide +kernel
theorem dX7_areTwo_16 : decode cX7_areTwo 16 = .ok (.iload_n 1, 1) := by decide +kernel
theorem dX7_areTwo_17 : decode cX7_areTwo 17 = .ok (.iload_n 2, 1) := by decide +kernel
theorem dX7_areTwo_18 : decode cX7_areTwo 18 = .ok (.if_icmp .eq 7, 3) := by decide +kernel
theorem dX7_areTwo_21 : decode cX7_areTwo 21 = .ok (.iconst 1, 1) := by decide +kernel
theorem dX7_areTwo_22 : decode cX7_areTwo 22 = .ok (.goto 4, 3) := by decide +kernel
theorem dX7_areTwo_25 : decode cX7_areTwo 25 = .ok (.iconst 0, 1) := by decide +kernel
theorem dX7_areTwo_26 : decode cX7_areTwo 26 = .ok (.ireturn, 1) := by decide +kernel
theorem dX7_quarrel_0 : decode cX7_quarrel 0 = .ok (.aload_n 0, 1) := by decide +kernel
theorem dX7_quarrel_1 : decode cX7_quarrel 1 = .ok (.iload_n 1, 1) := by decide +kernel
theorem dX7_quarrel_2 : decode cX7_quarrel 2 = .ok (.iload_n 2, 1) := by decide +kernel
theorem dX7_quarrel_3 : decode cX7_quarrel 3 = .ok (.invokevirtual 189, 3) := by decide +kernel
theorem dX7_quarrel_6 : decode cX7_quarrel 6 = .ok (.ifCond .eq 13, 3) := by decide +kernel
theorem dX7_quarrel_9 : decode cX7_quarrel 9 = .ok (.iload_n 3, 1) := by decide +kernel
theorem dX7_quarrel_10 : decode cX7_quarrel 10 = .ok (.i2l, 1) := by decide +kernel
theorem dX7_quarrel_11 : decode cX7_quarrel 11 = .ok (.lconst 0, 1) := by decide +kernel
theorem dX7_quarrel_12 : decode cX7_quarrel 12 = .ok (.lconst 1, 1) := by decide +kernel
theorem dX7_quarrel_13 : decode cX7_quarrel 13 = .ok (.invokestatic 48, 3) := by decide +kernel
theorem dX7_quarrel_16 : decode cX7_quarrel 16 = .ok (.ifCond .ne 6, 3) := by decide +kernel
theorem dX7_quarrel_19 : decode cX7_quarrel 19 = .ok (.ldc 58, 2) := by decide +kernel
theorem dX7_quarrel_21 : decode cX7_quarrel 21 = .ok (.ireturn, 1) := by decide +kernel
theorem dX7_quarrel_22 : decode cX7_quarrel 22 = .ok (.aload_n 0, 1) := by decide +kernel
theorem dX7_quarrel_23 : decode cX7_quarrel 23 = .ok (.getfield 7, 3) := by decide +kernel
theorem dX7_quarrel_26 : decode cX7_quarrel 26 = .ok (.bipush 50, 2) := by decide +kernel
theorem dX7_quarrel_28 : decode cX7_quarrel 28 = .ok (.iload_n 1, 1) := by decide +kernel
theorem dX7_quarrel_29 : decode cX7_quarrel 29 = .ok (.iadd, 1) := by decide +kernel
theorem dX7_quarrel_30 : decode cX7_quarrel 30 = .ok (.iaload, 1) := by decide +kernel
theorem dX7_quarrel_31 : decode cX7_quarrel 31 = .ok (.iload_n 2, 1) := by decide +kernel
theorem dX7_quarrel_32 : decode cX7_quarrel 32 = .ok (.invokestatic 148, 3) := by decide +kernel
theorem dX7_quarrel_35 : decode cX7_quarrel 35 = .ok (.iload_n 3, 1) := by decide +kernel
theorem dX7_quarrel_36 : decode cX7_quarrel 36 = .ok (.iconst 1, 1) := by decide +kernel
theorem dX7_quarrel_37 : decode cX7_quarrel 37 = .ok (.if_icmp .ne 7, 3) := by decide +kernel
theorem dX7_quarrel_40 : decode cX7_quarrel 40 = .ok (.iconst 1, 1) := by decide +kernel
theorem dX7_quarrel_41 : decode cX7_quarrel 41 = .ok (.goto 4, 3) := by decide +kernel
theorem dX7_quarrel_44 : decode cX7_quarrel 44 = .ok (.iconst 0, 1) := by decide +kernel
theorem dX7_quarrel_45 : decode cX7_quarrel 45 = .ok (.if_icmp .ne 6, 3) := by decide +kernel
theorem dX7_quarrel_48 : decode cX7_quarrel 48 = .ok (.ldc 143, 2) := by decide +kernel
theorem dX7_quarrel_50 : decode cX7_quarrel 50 = .ok (.ireturn, 1) := by decide +kernel
theorem dX7_quarrel_51 : decode cX7_quarrel 51 = .ok (.aload_n 0, 1) := by decide +kernel
theorem dX7_quarrel_52 : decode cX7_quarrel 52 = .ok (.invokevirtual 169, 3) := by decide +kernel
theorem dX7_quarrel_55 : decode cX7_quarrel 55 = .ok (.aload_n 0, 1) := by decide +kernel
theorem dX7_quarrel_56 : decode cX7_quarrel 56 = .ok (.getfield 7, 3) := by decide +kernel
theorem dX7_quarrel_59 : decode cX7_quarrel 59 = .ok (.bipush 50, 2) := by decide +kernel
theorem dX7_quarrel_61 : decode cX7_quarrel 61 = .ok (.iload_n 1, 1) := by decide +kernel
theorem dX7_quarrel_62 : decode cX7_quarrel 62 = .ok (.iadd, 1) := by decide +kernel
theorem dX7_quarrel_63 : decode cX7_quarrel 63 = .ok (.dup2, 1) := by decide +kernel
theorem dX7_quarrel_64 : decode cX7_quarrel 64 = .ok (.iaload, 1) := by decide +kernel
theorem dX7_quarrel_65 : decode cX7_quarrel 65 = .ok (.iconst 1, 1) := by decide +kernel
theorem dX7_quarrel_66 : decode cX7_quarrel 66 = .ok (.iload_n 2, 1) := by decide +kernel
theorem dX7_quarrel_67 : decode cX7_quarrel 67 = .ok (.ishl, 1) := by decide +kernel
theorem dX7_quarrel_68 : decode cX7_quarrel 68 = .ok (.ixor, 1) := by decide +kernel
theorem dX7_quarrel_69 : decode cX7_quarrel 69 = .ok (.iastore, 1) := by decide +kernel
theorem dX7_quarrel_70 : decode cX7_quarrel 70 = .ok (.aload_n 0, 1) := by decide +kernel
theorem dX7_quarrel_71 : decode cX7_quarrel 71 = .ok (.getfield 7, 3) := by decide +kernel
theorem dX7_quarrel_74 : decode cX7_quarrel 74 = .ok (.bipush 50, 2) := by decide +kernel
theorem dX7_quarrel_76 : decode cX7_quarrel 76 = .ok (.iload_n 2, 1) := by decide +kernel
theorem dX7_quarrel_77 : decode cX7_quarrel 77 = .ok (.iadd, 1) := by decide +kernel
theorem dX7_quarrel_78 : decode cX7_quarrel 78 = .ok (.dup2, 1) := by decide +kernel
theorem dX7_quarrel_79 : decode cX7_quarrel 79 = .ok (.iaload, 1) := by decide +kernel
theorem dX7_quarrel_80 : decode cX7_quarrel 80 = .ok (.iconst 1, 1) := by decide +kernel
theorem dX7_quarrel_81 : decode cX7_quarrel 81 = .ok (.iload_n 1, 1) := by decide +kernel
theorem dX7_quarrel_82 : decode cX7_quarrel 82 = .ok (.ishl, 1) := by decide +kernel
theorem dX7_quarrel_83 : decode cX7_quarrel 83 = .ok (.ixor, 1) := by decide +kernel
theorem dX7_quarrel_84 : decode cX7_quarrel 84 = .ok (.iastore, 1) := by decide +kernel
theorem dX7_quarrel_85 : decode cX7_quarrel 85 = .ok (.aload_n 0, 1) := by decide +kernel
theorem dX7_quarrel_86 : decode cX7_quarrel 86 = .ok (.getfield 7, 3) := by decide +kernel
theorem dX7_quarrel_89 : decode cX7_quarrel 89 = .ok (.bipush 50, 2) := by decide +kernel
theorem dX7_quarrel_91 : decode cX7_quarrel 91 = .ok (.iload_n 1, 1) := by decide +kernel
theorem dX7_quarrel_92 : decode cX7_quarrel 92 = .ok (.iadd, 1) := by decide +kernel
theorem dX7_quarrel_93 : decode cX7_quarrel 93 = .ok (.iaload, 1) := by decide +kernel
theorem dX7_quarrel_94 : decode cX7_quarrel 94 = .ok (.ireturn, 1) := by decide +kernel
theorem dX7_spoil_0 : decode cX7_spoil 0 = .ok (.aload_n 0, 1) := by decide +kernel
theorem dX7_spoil_1 : decode cX7_spoil 1 = .ok (.iload_n 1, 1) := by decide +kernel
theorem dX7_spoil_2 : decode cX7_spoil 2 = .ok (.invokevirtual 184, 3) := by decide +kernel
theorem dX7_spoil_5 : decode cX7_spoil 5 = .ok (.ifCond .eq 15, 3) := by decide +kernel
theorem dX7_spoil_8 : decode cX7_spoil 8 = .ok (.iload_n 2, 1) := by decide +kernel
theorem dX7_spoil_9 : decode cX7_spoil 9 = .ok (.i2l, 1) := by decide +kernel
theorem dX7_spoil_10 : decode cX7_spoil 10 = .ok (.lconst 1, 1) := by decide +kernel
theorem dX7_spoil_11 : decode cX7_spoil 11 = .ok (.ldc2_w 192, 3) := by decide +kernel
theorem dX7_spoil_14 : decode cX7_spoil 14 = .ok (.invokestatic 48, 3) := by decide +kernel
theorem dX7_spoil_17 : decode cX7_spoil 17 = .ok (.ifCond .ne 6, 3) := by decide +kernel
theorem dX7_spoil_20 : decode cX7_spoil 20 = .ok (.ldc 58, 2) := by decide +kernel
theorem dX7_spoil_22 : decode cX7_spoil 22 = .ok (.ireturn, 1) := by decide +kernel
theorem dX7_spoil_23 : decode cX7_spoil 23 = .ok (.aload_n 0, 1) := by decide +kernel
theorem dX7_spoil_24 : decode cX7_spoil 24 = .ok (.invokevirtual 169, 3) := by decide +kernel
theorem dX7_spoil_27 : decode cX7_spoil 27 = .ok (.aload_n 0, 1) := by decide +kernel
theorem dX7_spoil_28 : decode cX7_spoil 28 = .ok (.iconst 0, 1) := by decide +kernel
theorem dX7_spoil_29 : decode cX7_spoil 29 = .ok (.iload_n 1, 1) := by decide +kernel
theorem dX7_spoil_30 : decode cX7_spoil 30 = .ok (.iload_n 2, 1) := by decide +kernel
theorem dX7_spoil_31 : decode cX7_spoil 31 = .ok (.invokevirtual 158, 3) := by decide +kernel
theorem dX7_spoil_34 : decode cX7_spoil 34 = .ok (.aload_n 0, 1) := by decide +kernel
theorem dX7_spoil_35 : decode cX7_spoil 35 = .ok (.getfield 7, 3) := by decide +kernel
theorem dX7_spoil_38 : decode cX7_spoil 38 = .ok (.bipush 10, 2) := by decide +kernel
theorem dX7_spoil_40 : decode cX7_spoil 40 = .ok (.iload_n 1, 1) := by decide +kernel
theorem dX7_spoil_41 : decode cX7_spoil 41 = .ok (.iadd, 1) := by decide +kernel
theorem dX7_spoil_42 : decode cX7_spoil 42 = .ok (.iaload, 1) := by decide +kernel
theorem dX7_spoil_43 : decode cX7_spoil 43 = .ok (.ireturn, 1) := by decide +kernel
theorem dX7_gran_0 : decode cX7_gran 0 = .ok (.aload_n 0, 1) := by decide +kernel
theorem dX7_gran_1 : decode cX7_gran 1 = .ok (.iload_n 1, 1) := by decide +kernel
theorem dX7_gran_2 : decode cX7_gran 2 = .ok (.invokevirtual 176, 3) := by decide +kernel
theorem dX7_gran_5 : decode cX7_gran 5 = .ok (.ifCond .ne 6, 3) := by decide +kernel
theorem dX7_gran_8 : decode cX7_gran 8 = .ok (.ldc 58, 2) := by decide +kernel
theorem dX7_gran_10 : decode cX7_gran 10 = .ok (.ireturn, 1) := by decide +kernel
theorem dX7_gran_11 : decode cX7_gran 11 = .ok (.iload_n 2, 1) := by decide +kernel
theorem dX7_gran_12 : decode cX7_gran 12 = .ok (.tableswitch 116 0 6 #[44, 54, 64, 74, 84, 91, 106], 44) := by decide +kernel
theorem dX7_gran_56 : decode cX7_gran 56 = .ok (.aload_n 0, 1) := by decide +kernel
theorem dX7_gran_57 : decode cX7_gran 57 = .ok (.getfield 7, 3) := by decide +kernel
theorem dX7_gran_60 : decode cX7_gran 60 = .ok (.bipush 26, 2) := by decide +kernel
theorem dX7_gran_62 : decode cX7_gran 62 = .ok (.iload_n 1, 1) := by decide +kernel
theorem dX7_gran_63 : decode cX7_gran 63 = .ok (.iadd, 1) := by decide +kernel
theorem dX7_gran_64 : decode cX7_gran 64 = .ok (.iaload, 1) := by decide +kernel
theorem dX7_gran_65 : decode cX7_gran 65 = .ok (.ireturn, 1) := by decide +kernel
theorem dX7_gran_66 : decode cX7_gran 66 = .ok (.aload_n 0, 1) := by decide +kernel
theorem dX7_gran_67 : decode cX7_gran 67 = .ok (.getfield 7, 3) := by decide +kernel
theorem dX7_gran_70 : decode cX7_gran 70 = .ok (.bipush 32, 2) := by decide +kernel
theorem dX7_gran_72 : decode cX7_gran 72 = .ok (.iload_n 1, 1) := by decide +kernel
theorem dX7_gran_73 : decode cX7_gran 73 = .ok (.iadd, 1) := by decide +kernel
theorem dX7_gran_74 : decode cX7_gran 74 = .ok (.iaload, 1) := by decide +kernel
theorem dX7_gran_75 : decode cX7_gran 75 = .ok (.ireturn, 1) := by decide +kernel
theorem dX7_gran_76 : decode cX7_gran 76 = .ok (.aload_n 0, 1) := by decide +kernel
theorem dX7_gran_77 : decode cX7_gran 77 = .ok (.getfield 7, 3) := by decide +kernel
theorem dX7_gran_80 : decode cX7_gran 80 = .ok (.bipush 38, 2) := by decide +kernel
theorem dX7_gran_82 : decode cX7_gran 82 = .ok (.iload_n 1, 1) := by decide +kernel
theorem dX7_gran_83 : decode cX7_gran 83 = .ok (.iadd, 1) := by decide +kernel
theorem dX7_gran_84 : decode cX7_gran 84 = .ok (.iaload, 1) := by decide +kernel
theorem dX7_gran_85 : decode cX7_gran 85 = .ok (.ireturn, 1) := by decide +kernel
theorem dX7_gran_86 : decode cX7_gran 86 = .ok (.aload_n 0, 1) := by decide +kernel
theorem dX7_gran_87 : decode cX7_gran 87 = .ok (.getfield 7, 3) := by decide +kernel
theorem dX7_gran_90 : decode cX7_gran 90 = .ok (.bipush 44, 2) := by decide +kernel
theorem dX7_gran_92 : decode cX7_gran 92 = .ok (.iload_n 1, 1) := by decide +kernel
theorem dX7_gran_93 : decode cX7_gran 93 = .ok (.iadd, 1) := by decide +kernel
theorem dX7_gran_94 : decode cX7_gran 94 = .ok (.iaload, 1) := by decide +kernel
theorem dX7_gran_95 : decode cX7_gran 95 = .ok (.ireturn, 1) := by decide +kernel
theorem dX7_gran_96 : decode cX7_gran 96 = .ok (.aload_n 0, 1) := by decide +kernel
theorem dX7_gran_97 : decode cX7_gran 97 = .ok (.iconst 0, 1) := by decide +kernel
theorem dX7_gran_98 : decode cX7_gran 98 = .ok (.iload_n 1, 1) := by decide +kernel
theorem dX7_gran_99 : decode cX7_gran 99 = .ok (.invokevirtual 145, 3) := by decide +kernel
theorem dX7_gran_102 : decode cX7_gran 102 = .ok (.ireturn, 1) := by decide +kernel
theorem dX7_gran_103 : decode cX7_gran 103 = .ok (.aload_n 0, 1) := by decide +kernel
theorem dX7_gran_104 : decode cX7_gran 104 = .ok (.iconst 0, 1) := by decide +kernel
theorem dX7_gran_105 : decode cX7_gran 105 = .ok (.iload_n 1, 1) := by decide +kernel
theorem dX7_gran_106 : decode cX7_gran 106 = .ok (.invokevirtual 161, 3) := by decide +kernel
theorem dX7_gran_109 : decode cX7_gran 109 = .ok (.ifCond .eq 7, 3) := by decide +kernel
theorem dX7_gran_112 : decode cX7_gran 112 = .ok (.iconst 1, 1) := by decide +kernel
theorem dX7_gran_113 : decode cX7_gran 113 = .ok (.goto 4, 3) := by decide +kernel
theorem dX7_gran_116 : decode cX7_gran 116 = .ok (.iconst 0, 1) := by decide +kernel
theorem dX7_gran_117 : decode cX7_gran 117 = .ok (.ireturn, 1) := by decide +kernel
theorem dX7_gran_118 : decode cX7_gran 118 = .ok (.aload_n 0, 1) := by decide +kernel
theorem dX7_gran_119 : decode cX7_gran 119 = .ok (.getfield 7, 3) := by decide +kernel
theorem dX7_gran_122 : decode cX7_gran 122 = .ok (.bipush 50, 2) := by decide +kernel
theorem dX7_gran_124 : decode cX7_gran 124 = .ok (.iload_n 1, 1) := by decide +kernel
theorem dX7_gran_125 : decode cX7_gran 125 = .ok (.iadd, 1) := by decide +kernel
theorem dX7_gran_126 : decode cX7_gran 126 = .ok (.iaload, 1) := by decide +kernel
theorem dX7_gran_127 : decode cX7_gran 127 = .ok (.ireturn, 1) := by decide +kernel
theorem dX7_gran_128 : decode cX7_gran 128 = .ok (.ldc 58, 2) := by decide +kernel
theorem dX7_gran_130 : decode cX7_gran 130 = .ok (.ireturn, 1) := by decide +kernel
theorem dX7_visitors_0 : decode cX7_visitors 0 = .ok (.iconst 0, 1) := by decide +kernel
theorem dX7_visitors_1 : decode cX7_visitors 1 = .ok (.istore_n 2, 1) := by decide +kernel
theorem dX7_visitors_2 : decode cX7_visitors 2 = .ok (.iconst 0, 1) := by decide +kernel
theorem dX7_visitors_3 : decode cX7_visitors 3 = .ok (.istore_n 3, 1) := by decide +kernel
theorem dX7_visitors_4 : decode cX7_visitors 4 = .ok (.iload_n 3, 1) := by decide +kernel
theorem dX7_visitors_5 : decode cX7_visitors 5 = .ok (.aload_n 0, 1) := by decide +kernel
theorem dX7_visitors_6 : decode cX7_visitors 6 = .ok (.getfield 7, 3) := by decide +kernel
theorem dX7_visitors_9 : decode cX7_visitors 9 = .ok (.iconst 1, 1) := by decide +kernel
theorem dX7_visitors_10 : decode cX7_visitors 10 = .ok (.iaload, 1) := by decide +kernel
theorem dX7_visitors_11 : decode cX7_visitors 11 = .ok (.if_icmp .ge 29, 3) := by decide +kernel
theorem dX7_visitors_14 : decode cX7_visitors 14 = .ok (.iload_n 2, 1) := by decide +kernel
theorem dX7_visitors_15 : decode cX7_visitors 15 = .ok (.aload_n 0, 1) := by decide +kernel
theorem dX7_visitors_16 : decode cX7_visitors 16 = .ok (.iconst 0, 1) := by decide +kernel
theorem dX7_visitors_17 : decode cX7_visitors 17 = .ok (.iload_n 3, 1) := by decide +kernel
theorem dX7_visitors_18 : decode cX7_visitors 18 = .ok (.invokevirtual 145, 3) := by decide +kernel
theorem dX7_visitors_21 : decode cX7_visitors 21 = .ok (.iload_n 1, 1) := by decide +kernel
theorem dX7_visitors_22 : decode cX7_visitors 22 = .ok (.if_icmp .ne 9, 3) := by decide +kernel
theorem dX7_visitors_25 : decode cX7_visitors 25 = .ok (.iconst 1, 1) := by decide +kernel
theorem dX7_visitors_26 : decode cX7_visitors 26 = .ok (.iload_n 3, 1) := by decide +kernel
theorem dX7_visitors_27 : decode cX7_visitors 27 = .ok (.ishl, 1) := by decide +kernel
theorem dX7_visitors_28 : decode cX7_visitors 28 = .ok (.goto 4, 3) := by decide +kernel
theorem dX7_visitors_31 : decode cX7_visitors 31 = .ok (.iconst 0, 1) := by decide +kernel
theorem dX7_visitors_32 : decode cX7_visitors 32 = .ok (.ior, 1) := by decide +kernel
theorem dX7_visitors_33 : decode cX7_visitors 33 = .ok (.istore_n 2, 1) := by decide +kernel
theorem dX7_visitors_34 : decode cX7_visitors 34 = .ok (.iinc 3 1, 3) := by decide +kernel
theorem dX7_visitors_37 : decode cX7_visitors 37 = .ok (.goto (-33), 3) := by decide +kernel
theorem dX7_visitors_40 : decode cX7_visitors 40 = .ok (.iload_n 2, 1) := by decide +kernel
theorem dX7_visitors_41 : decode cX7_visitors 41 = .ok (.ireturn, 1) := by decide +kernel
theorem dX7_child_0 : decode cX7_child 0 = .ok (.aload_n 0, 1) := by decide +kernel
theorem dX7_child_1 : decode cX7_child 1 = .ok (.iload_n 1, 1) := by decide +kernel
theorem dX7_child_2 : decode cX7_child 2 = .ok (.invokevirtual 184, 3) := by decide +kernel
theorem dX7_child_5 : decode cX7_child 5 = .ok (.ifCond .ne 6, 3) := by decide +kernel
theorem dX7_child_8 : decode cX7_child 8 = .ok (.ldc 58, 2) := by decide +kernel
theorem dX7_child_10 : decode cX7_child 10 = .ok (.ireturn, 1) := by decide +kernel
theorem dX7_child_11 : decode cX7_child 11 = .ok (.iload_n 2, 1) := by decide +kernel
theorem dX7_child_12 : decode cX7_child 12 = .ok (.tableswitch 67 0 3 #[32, 41, 51, 61], 32) := by decide +kernel
theorem dX7_child_44 : decode cX7_child 44 = .ok (.aload_n 0, 1) := by decide +kernel
theorem dX7_child_45 : decode cX7_child 45 = .ok (.getfield 7, 3) := by decide +kernel
theorem dX7_child_48 : decode cX7_child 48 = .ok (.iconst 5, 1) := by decide +kernel
theorem dX7_child_49 : decode cX7_child 49 = .ok (.iload_n 1, 1) := by decide +kernel
theorem dX7_child_50 : decode cX7_child 50 = .ok (.iadd, 1) := by decide +kernel
theorem dX7_child_51 : decode cX7_child 51 = .ok (.iaload, 1) := by decide +kernel
theorem dX7_child_52 : decode cX7_child 52 = .ok (.ireturn, 1) := by decide +kernel
theorem dX7_child_53 : decode cX7_child 53 = .ok (.aload_n 0, 1) := by decide +kernel
theorem dX7_child_54 : decode cX7_child 54 = .ok (.getfield 7, 3) := by decide +kernel
theorem dX7_child_57 : decode cX7_child 57 = .ok (.bipush 10, 2) := by decide +kernel
theorem dX7_child_59 : decode cX7_child 59 = .ok (.iload_n 1, 1) := by decide +kernel
theorem dX7_child_60 : decode cX7_child 60 = .ok (.iadd, 1) := by decide +kernel
theorem dX7_child_61 : decode cX7_child 61 = .ok (.iaload, 1) := by decide +kernel
theorem dX7_child_62 : decode cX7_child 62 = .ok (.ireturn, 1) := by decide +kernel
theorem dX7_child_63 : decode cX7_child 63 = .ok (.aload_n 0, 1) := by decide +kernel
theorem dX7_child_64 : decode cX7_child 64 = .ok (.getfield 7, 3) := by decide +kernel
theorem dX7_child_67 : decode cX7_child 67 = .ok (.bipush 15, 2) := by decide +kernel
theorem dX7_child_69 : decode cX7_child 69 = .ok (.iload_n 1, 1) := by decide +kernel
theorem dX7_child_70 : decode cX7_child 70 = .ok (.iadd, 1) := by decide +kernel
theorem dX7_child_71 : decode cX7_child 71 = .ok (.iaload, 1) := by decide +kernel
theorem dX7_child_72 : decode cX7_child 72 = .ok (.ireturn, 1) := by decide +kernel
theorem dX7_child_73 : decode cX7_child 73 = .ok (.aload_n 0, 1) := by decide +kernel
theorem dX7_child_74 : decode cX7_child 74 = .ok (.iload_n 1, 1) := by decide +kernel
theorem dX7_child_75 : decode cX7_child 75 = .ok (.invokevirtual 194, 3) := by decide +kernel
theorem dX7_child_78 : decode cX7_child 78 = .ok (.ireturn, 1) := by decide +kernel
theorem dX7_child_79 : decode cX7_child 79 = .ok (.ldc 58, 2) := by decide +kernel
theorem dX7_child_81 : decode cX7_child 81 = .ok (.ireturn, 1) := by decide +kernel
theorem dX7_layTried_0 : decode cX7_layTried 0 = .ok (.aload_n 0, 1) := by decide +kernel
theorem dX7_layTried_1 : decode cX7_layTried 1 = .ok (.iconst 0, 1) := by decide +kernel
theorem dX7_layTried_2 : decode cX7_layTried 2 = .ok (.sipush 1512, 3) := by decide +kernel
theorem dX7_layTried_5 : decode cX7_layTried 5 = .ok (.invokevirtual 132, 3) := by decide +kernel
theorem dX7_layTried_8 : decode cX7_layTried 8 = .ok (.iconst 0, 1) := by decide +kernel
theorem dX7_layTried_9 : decode cX7_layTried 9 = .ok (.istore_n 2, 1) := by decide +kernel
theorem dX7_layTried_10 : decode cX7_layTried 10 = .ok (.iload_n 2, 1) := by decide +kernel
theorem dX7_layTried_11 : decode cX7_layTried 11 = .ok (.iload_n 1, 1) := by decide +kernel
theorem dX7_layTried_12 : decode cX7_layTried 12 = .ok (.if_icmp .ge 16, 3) := by decide +kernel
theorem dX7_layTried_15 : decode cX7_layTried 15 = .ok (.aload_n 0, 1) := by decide +kernel
theorem dX7_layTried_16 : decode cX7_layTried 16 = .ok (.sipush 1512, 3) := by decide +kernel
theorem dX7_layTried_19 : decode cX7_layTried 19 = .ok (.invokevirtual 172, 3) := by decide +kernel
theorem dX7_layTried_22 : decode cX7_layTried 22 = .ok (.iinc 2 1, 3) := by decide +kernel
theorem dX7_layTried_25 : decode cX7_layTried 25 = .ok (.goto (-15), 3) := by decide +kernel
theorem dX7_layTried_28 : decode cX7_layTried 28 = .ok (.return_, 1) := by decide +kernel
theorem dX7_ahead_0 : decode cX7_ahead 0 = .ok (.aload_n 0, 1) := by decide +kernel
theorem dX7_ahead_1 : decode cX7_ahead 1 = .ok (.iload_n 1, 1) := by decide +kernel
theorem dX7_ahead_2 : decode cX7_ahead 2 = .ok (.invokevirtual 184, 3) := by decide +kernel
theorem dX7_ahead_5 : decode cX7_ahead 5 = .ok (.ifCond .eq 27, 3) := by decide +kernel
theorem dX7_ahead_8 : decode cX7_ahead 8 = .ok (.iload_n 2, 1) := by decide +kernel
theorem dX7_ahead_9 : decode cX7_ahead 9 = .ok (.i2l, 1) := by decide +kernel
theorem dX7_ahead_10 : decode cX7_ahead 10 = .ok (.lconst 0, 1) := by decide +kernel
theorem dX7_ahead_11 : decode cX7_ahead 11 = .ok (.ldc2_w 179, 3) := by decide +kernel
theorem dX7_ahead_14 : decode cX7_ahead 14 = .ok (.invokestatic 48, 3) := by decide +kernel
theorem dX7_ahead_17 : decode cX7_ahead 17 = .ok (.ifCond .eq 15, 3) := by decide +kernel
theorem dX7_ahead_20 : decode cX7_ahead 20 = .ok (.iload_n 3, 1) := by decide +kernel
theorem dX7_ahead_21 : decode cX7_ahead 21 = .ok (.i2l, 1) := by decide +kernel
theorem dX7_ahead_22 : decode cX7_ahead 22 = .ok (.lconst 0, 1) := by decide +kernel
theorem dX7_ahead_23 : decode cX7_ahead 23 = .ok (.ldc2_w 56, 3) := by decide +kernel
theorem dX7_ahead_26 : decode cX7_ahead 26 = .ok (.invokestatic 48, 3) := by decide +kernel
theorem dX7_ahead_29 : decode cX7_ahead 29 = .ok (.ifCond .ne 6, 3) := by decide +kernel
theorem dX7_ahead_32 : decode cX7_ahead 32 = .ok (.ldc 58, 2) := by decide +kernel
theorem dX7_ahead_34 : decode cX7_ahead 34 = .ok (.ireturn, 1) := by decide +kernel
theorem dX7_ahead_35 : decode cX7_ahead 35 = .ok (.aload_n 0, 1) := by decide +kernel
theorem dX7_ahead_36 : decode cX7_ahead 36 = .ok (.iload_n 2, 1) := by decide +kernel
theorem dX7_ahead_37 : decode cX7_ahead 37 = .ok (.invokevirtual 197, 3) := by decide +kernel
theorem dX7_ahead_40 : decode cX7_ahead 40 = .ok (.iload_n 3, 1) := by decide +kernel
theorem dX7_ahead_41 : decode cX7_ahead 41 = .ok (.ifCond .ne 16, 3) := by decide +kernel
theorem dX7_ahead_44 : decode cX7_ahead 44 = .ok (.aload_n 0, 1) := by decide +kernel
theorem dX7_ahead_45 : decode cX7_ahead 45 = .ok (.getfield 7, 3) := by decide +kernel
theorem dX7_ahead_48 : decode cX7_ahead 48 = .ok (.sipush 1517, 3) := by decide +kernel
theorem dX7_ahead_51 : decode cX7_ahead 51 = .ok (.iload_n 1, 1) := by decide +kernel
theorem dX7_ahead_52 : decode cX7_ahead 52 = .ok (.iadd, 1) := by decide +kernel
theorem dX7_ahead_53 : decode cX7_ahead 53 = .ok (.iaload, 1) := by decide +kernel
theorem dX7_ahead_54 : decode cX7_ahead 54 = .ok (.goto 31, 3) := by decide +kernel
theorem dX7_ahead_57 : decode cX7_ahead 57 = .ok (.iload_n 3, 1) := by decide +kernel
theorem dX7_ahead_58 : decode cX7_ahead 58 = .ok (.iconst 1, 1) := by decide +kernel
theorem dX7_ahead_59 : decode cX7_ahead 59 = .ok (.if_icmp .ne 16, 3) := by decide +kernel
theorem dX7_ahead_62 : decode cX7_ahead 62 = .ok (.aload_n 0, 1) := by decide +kernel
theorem dX7_ahead_63 : decode cX7_ahead 63 = .ok (.getfield 7, 3) := by decide +kernel
theorem dX7_ahead_66 : decode cX7_ahead 66 = .ok (.sipush 1522, 3) := by decide +kernel
theorem dX7_ahead_69 : decode cX7_ahead 69 = .ok (.iload_n 1, 1) := by decide +kernel
theorem dX7_ahead_70 : decode cX7_ahead 70 = .ok (.iadd, 1) := by decide +kernel
theorem dX7_ahead_71 : decode cX7_ahead 71 = .ok (.iaload, 1) := by decide +kernel
theorem dX7_ahead_72 : decode cX7_ahead 72 = .ok (.goto 13, 3) := by decide +kernel
theorem dX7_ahead_75 : decode cX7_ahead 75 = .ok (.aload_n 0, 1) := by decide +kernel
theorem dX7_ahead_76 : decode cX7_ahead 76 = .ok (.getfield 7, 3) := by decide +kernel
theorem dX7_ahead_79 : decode cX7_ahead 79 = .ok (.sipush 1527, 3) := by decide +kernel
theorem dX7_ahead_82 : decode cX7_ahead 82 = .ok (.iload_n 1, 1) := by decide +kernel
theorem dX7_ahead_83 : decode cX7_ahead 83 = .ok (.iadd, 1) := by decide +kernel
theorem dX7_ahead_84 : decode cX7_ahead 84 = .ok (.iaload, 1) := by decide +kernel
theorem dX7_ahead_85 : decode cX7_ahead 85 = .ok (.ireturn, 1) := by decide +kernel
theorem dX7_withWhom_0 : decode cX7_withWhom 0 = .ok (.aload_n 0, 1) := by decide +kernel
theorem dX7_withWhom_1 : decode cX7_withWhom 1 = .ok (.iload_n 1, 1) := by decide +kernel
theorem dX7_withWhom_2 : decode cX7_withWhom 2 = .ok (.invokevirtual 176, 3) := by decide +kernel
theorem dX7_withWhom_5 : decode cX7_withWhom 5 = .ok (.ifCond .eq 15, 3) := by decide +kernel
theorem dX7_withWhom_8 : decode cX7_withWhom 8 = .ok (.iload_n 2, 1) := by decide +kernel
theorem dX7_withWhom_9 : decode cX7_withWhom 9 = .ok (.i2l, 1) := by decide +kernel
theorem dX7_withWhom_10 : decode cX7_withWhom 10 = .ok (.lconst 0, 1) := by decide +kernel
theorem dX7_withWhom_11 : decode cX7_withWhom 11 = .ok (.ldc2_w 179, 3) := by decide +kernel
theorem dX7_withWhom_14 : decode cX7_withWhom 14 = .ok (.invokestatic 48, 3) := by decide +kernel
theorem dX7_withWhom_17 : decode cX7_withWhom 17 = .ok (.ifCond .ne 6, 3) := by decide +kernel
theorem dX7_withWhom_20 : decode cX7_withWhom 20 = .ok (.ldc 58, 2) := by decide +kernel
theorem dX7_withWhom_22 : decode cX7_withWhom 22 = .ok (.ireturn, 1) := by decide +kernel
theorem dX7_withWhom_23 : decode cX7_withWhom 23 = .ok (.aload_n 0, 1) := by decide +kernel
theorem dX7_withWhom_24 : decode cX7_withWhom 24 = .ok (.iload_n 2, 1) := by decide +kernel
theorem dX7_withWhom_25 : decode cX7_withWhom 25 = .ok (.invokevirtual 197, 3) := by decide +kernel
theorem dX7_withWhom_28 : decode cX7_withWhom 28 = .ok (.aload_n 0, 1) := by decide +kernel
theorem dX7_withWhom_29 : decode cX7_withWhom 29 = .ok (.sipush 1512, 3) := by decide +kernel
theorem dX7_withWhom_32 : decode cX7_withWhom 32 = .ok (.iload_n 1, 1) := by decide +kernel
theorem dX7_withWhom_33 : decode cX7_withWhom 33 = .ok (.invokevirtual 145, 3) := by decide +kernel
theorem dX7_withWhom_36 : decode cX7_withWhom 36 = .ok (.ireturn, 1) := by decide +kernel
theorem dX7_wholeTried_0 : decode cX7_wholeTried 0 = .ok (.iconst 0, 1) := by decide +kernel
theorem dX7_wholeTried_1 : decode cX7_wholeTried 1 = .ok (.istore_n 2, 1) := by decide +kernel
theorem dX7_wholeTried_2 : decode cX7_wholeTried 2 = .ok (.iload_n 2, 1) := by decide +kernel
theorem dX7_wholeTried_3 : decode cX7_wholeTried 3 = .ok (.bipush 61, 2) := by decide +kernel
theorem dX7_wholeTried_5 : decode cX7_wholeTried 5 = .ok (.if_icmp .ge 41, 3) := by decide +kernel
theorem dX7_wholeTried_8 : decode cX7_wholeTried 8 = .ok (.aload_n 0, 1) := by decide +kernel
theorem dX7_wholeTried_9 : decode cX7_wholeTried 9 = .ok (.getfield 7, 3) := by decide +kernel
theorem dX7_wholeTried_12 : decode cX7_wholeTried 12 = .ok (.sipush 1527, 3) := by decide +kernel
theorem dX7_wholeTried_15 : decode cX7_wholeTried 15 = .ok (.iload_n 1, 1) := by decide +kernel
theorem dX7_wholeTried_16 : decode cX7_wholeTried 16 = .ok (.iadd, 1) := by decide +kernel
theorem dX7_wholeTried_17 : decode cX7_wholeTried 17 = .ok (.iaload, 1) := by decide +kernel
theorem dX7_wholeTried_18 : decode cX7_wholeTried 18 = .ok (.iconst 1, 1) := by decide +kernel
theorem dX7_wholeTried_19 : decode cX7_wholeTried 19 = .ok (.aload_n 0, 1) := by decide +kernel
theorem dX7_wholeTried_20 : decode cX7_wholeTried 20 = .ok (.getfield 7, 3) := by decide +kernel
theorem dX7_wholeTried_23 : decode cX7_wholeTried 23 = .ok (.iconst 3, 1) := by decide +kernel
theorem dX7_wholeTried_24 : decode cX7_wholeTried 24 = .ok (.iaload, 1) := by decide +kernel
theorem dX7_wholeTried_25 : decode cX7_wholeTried 25 = .ok (.ishl, 1) := by decide +kernel
theorem dX7_wholeTried_26 : decode cX7_wholeTried 26 = .ok (.iconst 1, 1) := by decide +kernel
theorem dX7_wholeTried_27 : decode cX7_wholeTried 27 = .ok (.isub, 1) := by decide +kernel
theorem dX7_wholeTried_28 : decode cX7_wholeTried 28 = .ok (.if_icmp .ne 5, 3) := by decide +kernel
theorem dX7_wholeTried_31 : decode cX7_wholeTried 31 = .ok (.iload_n 2, 1) := by decide +kernel
theorem dX7_wholeTried_32 : decode cX7_wholeTried 32 = .ok (.ireturn, 1) := by decide +kernel
theorem dX7_wholeTried_33 : decode cX7_wholeTried 33 = .ok (.aload_n 0, 1) := by decide +kernel
theorem dX7_wholeTried_34 : decode cX7_wholeTried 34 = .ok (.sipush 1512, 3) := by decide +kernel
theorem dX7_wholeTried_37 : decode cX7_wholeTried 37 = .ok (.invokevirtual 172, 3) := by decide +kernel
theorem dX7_wholeTried_40 : decode cX7_wholeTried 40 = .ok (.iinc 2 1, 3) := by decide +kernel
theorem dX7_wholeTried_43 : decode cX7_wholeTried 43 = .ok (.goto (-41), 3) := by decide +kernel
theorem dX7_wholeTried_46 : decode cX7_wholeTried 46 = .ok (.ldc 144, 2) := by decide +kernel
theorem dX7_wholeTried_48 : decode cX7_wholeTried 48 = .ok (.ireturn, 1) := by decide +kernel
theorem dX7_whole_0 : decode cX7_whole 0 = .ok (.aload_n 0, 1) := by decide +kernel
theorem dX7_whole_1 : decode cX7_whole 1 = .ok (.iload_n 1, 1) := by decide +kernel
theorem dX7_whole_2 : decode cX7_whole 2 = .ok (.invokevirtual 184, 3) := by decide +kernel
theorem dX7_whole_5 : decode cX7_whole 5 = .ok (.ifCond .ne 6, 3) := by decide +kernel
theorem dX7_whole_8 : decode cX7_whole 8 = .ok (.ldc 58, 2) := by decide +kernel
theorem dX7_whole_10 : decode cX7_whole 10 = .ok (.ireturn, 1) := by decide +kernel
theorem dX7_whole_11 : decode cX7_whole 11 = .ok (.aload_n 0, 1) := by decide +kernel
theorem dX7_whole_12 : decode cX7_whole 12 = .ok (.iconst 0, 1) := by decide +kernel
theorem dX7_whole_13 : decode cX7_whole 13 = .ok (.invokevirtual 197, 3) := by decide +kernel
theorem dX7_whole_16 : decode cX7_whole 16 = .ok (.aload_n 0, 1) := by decide +kernel
theorem dX7_whole_17 : decode cX7_whole 17 = .ok (.iload_n 1, 1) := by decide +kernel
theorem dX7_whole_18 : decode cX7_whole 18 = .ok (.invokevirtual 200, 3) := by decide +kernel
theorem dX7_whole_21 : decode cX7_whole 21 = .ok (.ireturn, 1) := by decide +kernel
theorem dX7_hungry_0 : decode cX7_hungry 0 = .ok (.aload_n 0, 1) := by decide +kernel
theorem dX7_hungry_1 : decode cX7_hungry 1 = .ok (.iload_n 1, 1) := by decide +kernel
theorem dX7_hungry_2 : decode cX7_hungry 2 = .ok (.invokevirtual 184, 3) := by decide +kernel
theorem dX7_hungry_5 : decode cX7_hungry 5 = .ok (.ifCond .ne 6, 3) := by decide +kernel
theorem dX7_hungry_8 : decode cX7_hungry 8 = .ok (.ldc 58, 2) := by decide +kernel
theorem dX7_hungry_10 : decode cX7_hungry 10 = .ok (.ireturn, 1) := by decide +kernel
theorem dX7_hungry_11 : decode cX7_hungry 11 = .ok (.aload_n 0, 1) := by decide +kernel
theorem dX7_hungry_12 : decode cX7_hungry 12 = .ok (.iconst 0, 1) := by decide +kernel
theorem dX7_hungry_13 : decode cX7_hungry 13 = .ok (.invokevirtual 197, 3) := by decide +kernel
theorem dX7_hungry_16 : decode cX7_hungry 16 = .ok (.iconst 0, 1) := by decide +kernel
theorem dX7_hungry_17 : decode cX7_hungry 17 = .ok (.istore_n 2, 1) := by decide +kernel
theorem dX7_hungry_18 : decode cX7_hungry 18 = .ok (.iload_n 2, 1) := by decide +kernel
theorem dX7_hungry_19 : decode cX7_hungry 19 = .ok (.bipush 61, 2) := by decide +kernel
theorem dX7_hungry_21 : decode cX7_hungry 21 = .ok (.if_icmp .ge 31, 3) := by decide +kernel
theorem dX7_hungry_24 : decode cX7_hungry 24 = .ok (.aload_n 0, 1) := by decide +kernel
theorem dX7_hungry_25 : decode cX7_hungry 25 = .ok (.getfield 7, 3) := by decide +kernel
theorem dX7_hungry_28 : decode cX7_hungry 28 = .ok (.sipush 1517, 3) := by decide +kernel
theorem dX7_hungry_31 : decode cX7_hungry 31 = .ok (.iload_n 1, 1) := by decide +kernel
theorem dX7_hungry_32 : decode cX7_hungry 32 = .ok (.iadd, 1) := by decide +kernel
theorem dX7_hungry_33 : decode cX7_hungry 33 = .ok (.iaload, 1) := by decide +kernel
theorem dX7_hungry_34 : decode cX7_hungry 34 = .ok (.ifCond .ne 5, 3) := by decide +kernel
theorem dX7_hungry_37 : decode cX7_hungry 37 = .ok (.iload_n 2, 1) := by decide +kernel
theorem dX7_hungry_38 : decode cX7_hungry 38 = .ok (.ireturn, 1) := by decide +kernel
theorem dX7_hungry_39 : decode cX7_hungry 39 = .ok (.aload_n 0, 1) := by decide +kernel
theorem dX7_hungry_40 : decode cX7_hungry 40 = .ok (.sipush 1512, 3) := by decide +kernel
theorem dX7_hungry_43 : decode cX7_hungry 43 = .ok (.invokevirtual 172, 3) := by decide +kernel
theorem dX7_hungry_46 : decode cX7_hungry 46 = .ok (.iinc 2 1, 3) := by decide +kernel
theorem dX7_hungry_49 : decode cX7_hungry 49 = .ok (.goto (-31), 3) := by decide +kernel
theorem dX7_hungry_52 : decode cX7_hungry 52 = .ok (.ldc 144, 2) := by decide +kernel
theorem dX7_hungry_54 : decode cX7_hungry 54 = .ok (.ireturn, 1) := by decide +kernel
theorem dX7_visitedTried_0 : decode cX7_visitedTried 0 = .ok (.iconst 0, 1) := by decide +kernel
theorem dX7_visitedTried_1 : decode cX7_visitedTried 1 = .ok (.istore_n 2, 1) := by decide +kernel
theorem dX7_visitedTried_2 : decode cX7_visitedTried 2 = .ok (.iconst 0, 1) := by decide +kernel
theorem dX7_visitedTried_3 : decode cX7_visitedTried 3 = .ok (.istore_n 3, 1) := by decide +kernel
theorem dX7_visitedTried_4 : decode cX7_visitedTried 4 = .ok (.iload_n 3, 1) := by decide +kernel
theorem dX7_visitedTried_5 : decode cX7_visitedTried 5 = .ok (.iload_n 1, 1) := by decide +kernel
theorem dX7_visitedTried_6 : decode cX7_visitedTried 6 = .ok (.if_icmp .ge 77, 3) := by decide +kernel
theorem dX7_visitedTried_9 : decode cX7_visitedTried 9 = .ok (.iconst 0, 1) := by decide +kernel
theorem dX7_visitedTried_10 : decode cX7_visitedTried 10 = .ok (.istore 4, 2) := by decide +kernel
theorem dX7_visitedTried_12 : decode cX7_visitedTried 12 = .ok (.iload 4, 2) := by decide +kernel
theorem dX7_visitedTried_14 : decode cX7_visitedTried 14 = .ok (.aload_n 0, 1) := by decide +kernel
theorem dX7_visitedTried_15 : decode cX7_visitedTried 15 = .ok (.getfield 7, 3) := by decide +kernel
theorem dX7_visitedTried_18 : decode cX7_visitedTried 18 = .ok (.iconst 1, 1) := by decide +kernel
theorem dX7_visitedTried_19 : decode cX7_visitedTried 19 = .ok (.iaload, 1) := by decide +kernel
theorem dX7_visitedTried_20 : decode cX7_visitedTried 20 = .ok (.if_icmp .ge 50, 3) := by decide +kernel
theorem dX7_visitedTried_23 : decode cX7_visitedTried 23 = .ok (.aload_n 0, 1) := by decide +kernel
theorem dX7_visitedTried_24 : decode cX7_visitedTried 24 = .ok (.sipush 1512, 3) := by decide +kernel
theorem dX7_visitedTried_27 : decode cX7_visitedTried 27 = .ok (.iload 4, 2) := by decide +kernel
theorem dX7_visitedTried_29 : decode cX7_visitedTried 29 = .ok (.invokevirtual 145, 3) := by decide +kernel
theorem dX7_visitedTried_32 : decode cX7_visitedTried 32 = .ok (.istore 5, 2) := by decide +kernel
theorem dX7_visitedTried_34 : decode cX7_visitedTried 34 = .ok (.iload_n 2, 1) := by decide +kernel
theorem dX7_visitedTried_35 : decode cX7_visitedTried 35 = .ok (.iload 5, 2) := by decide +kernel
theorem dX7_visitedTried_37 : decode cX7_visitedTried 37 = .ok (.ldc 144, 2) := by decide +kernel
theorem dX7_visitedTried_39 : decode cX7_visitedTried 39 = .ok (.if_icmp .eq 15, 3) := by decide +kernel
theorem dX7_visitedTried_42 : decode cX7_visitedTried 42 = .ok (.aload_n 0, 1) := by decide +kernel
theorem dX7_visitedTried_43 : decode cX7_visitedTried 43 = .ok (.sipush 1512, 3) := by decide +kernel
theorem dX7_visitedTried_46 : decode cX7_visitedTried 46 = .ok (.iload 4, 2) := by decide +kernel
theorem dX7_visitedTried_48 : decode cX7_visitedTried 48 = .ok (.invokevirtual 161, 3) := by decide +kernel
theorem dX7_visitedTried_51 : decode cX7_visitedTried 51 = .ok (.ifCond .eq 7, 3) := by decide +kernel
theorem dX7_visitedTried_54 : decode cX7_visitedTried 54 = .ok (.iconst 0, 1) := by decide +kernel
theorem dX7_visitedTried_55 : decode cX7_visitedTried 55 = .ok (.goto 7, 3) := by decide +kernel
theorem dX7_visitedTried_58 : decode cX7_visitedTried 58 = .ok (.iconst 1, 1) := by decide +kernel
theorem dX7_visitedTried_59 : decode cX7_visitedTried 59 = .ok (.iload 5, 2) := by decide +kernel
theorem dX7_visitedTried_61 : decode cX7_visitedTried 61 = .ok (.ishl, 1) := by decide +kernel
theorem dX7_visitedTried_62 : decode cX7_visitedTried 62 = .ok (.ior, 1) := by decide +kernel
theorem dX7_visitedTried_63 : decode cX7_visitedTried 63 = .ok (.istore_n 2, 1) := by decide +kernel
theorem dX7_visitedTried_64 : decode cX7_visitedTried 64 = .ok (.iinc 4 1, 3) := by decide +kernel
theorem dX7_visitedTried_67 : decode cX7_visitedTried 67 = .ok (.goto (-55), 3) := by decide +kernel
theorem dX7_visitedTried_70 : decode cX7_visitedTried 70 = .ok (.aload_n 0, 1) := by decide +kernel
theorem dX7_visitedTried_71 : decode cX7_visitedTried 71 = .ok (.sipush 1512, 3) := by decide +kernel
theorem dX7_visitedTried_74 : decode cX7_visitedTried 74 = .ok (.invokevirtual 172, 3) := by decide +kernel
theorem dX7_visitedTried_77 : decode cX7_visitedTried 77 = .ok (.iinc 3 1, 3) := by decide +kernel
theorem dX7_visitedTried_80 : decode cX7_visitedTried 80 = .ok (.goto (-76), 3) := by decide +kernel
theorem dX7_visitedTried_83 : decode cX7_visitedTried 83 = .ok (.iload_n 2, 1) := by decide +kernel
theorem dX7_visitedTried_84 : decode cX7_visitedTried 84 = .ok (.ireturn, 1) := by decide +kernel
theorem dX7_allChildren_0 : decode cX7_allChildren 0 = .ok (.iconst 1, 1) := by decide +kernel
theorem dX7_allChildren_1 : decode cX7_allChildren 1 = .ok (.aload_n 0, 1) := by decide +kernel
theorem dX7_allChildren_2 : decode cX7_allChildren 2 = .ok (.getfield 7, 3) := by decide +kernel
theorem dX7_allChildren_5 : decode cX7_allChildren 5 = .ok (.iconst 0, 1) := by decide +kernel
theorem dX7_allChildren_6 : decode cX7_allChildren 6 = .ok (.iaload, 1) := by decide +kernel
theorem dX7_allChildren_7 : decode cX7_allChildren 7 = .ok (.ishl, 1) := by decide +kernel
theorem dX7_allChildren_8 : decode cX7_allChildren 8 = .ok (.iconst 1, 1) := by decide +kernel
theorem dX7_allChildren_9 : decode cX7_allChildren 9 = .ok (.isub, 1) := by decide +kernel
theorem dX7_allChildren_10 : decode cX7_allChildren 10 = .ok (.ireturn, 1) := by decide +kernel
theorem dX7_without_0 : decode cX7_without 0 = .ok (.aload_n 0, 1) := by decide +kernel
theorem dX7_without_1 : decode cX7_without 1 = .ok (.getfield 136, 3) := by decide +kernel
theorem dX7_without_4 : decode cX7_without 4 = .ok (.ifCond .ne 6, 3) := by decide +kernel
theorem dX7_without_7 : decode cX7_without 7 = .ok (.ldc 143, 2) := by decide +kernel
theorem dX7_without_9 : decode cX7_without 9 = .ok (.ireturn, 1) := by decide +kernel
theorem dX7_without_10 : decode cX7_without 10 = .ok (.iload_n 1, 1) := by decide +kernel
theorem dX7_without_11 : decode cX7_without 11 = .ok (.i2l, 1) := by decide +kernel
theorem dX7_without_12 : decode cX7_without 12 = .ok (.lconst 1, 1) := by decide +kernel
theorem dX7_without_13 : decode cX7_without 13 = .ok (.ldc2_w 179, 3) := by decide +kernel
theorem dX7_without_16 : decode cX7_without 16 = .ok (.invokestatic 48, 3) := by decide +kernel
theorem dX7_without_19 : decode cX7_without 19 = .ok (.ifCond .ne 6, 3) := by decide +kernel
theorem dX7_without_22 : decode cX7_without 22 = .ok (.ldc 58, 2) := by decide +kernel
theorem dX7_without_24 : decode cX7_without 24 = .ok (.ireturn, 1) := by decide +kernel
theorem dX7_without_25 : decode cX7_without 25 = .ok (.aload_n 0, 1) := by decide +kernel
theorem dX7_without_26 : decode cX7_without 26 = .ok (.iconst 0, 1) := by decide +kernel
theorem dX7_without_27 : decode cX7_without 27 = .ok (.invokevirtual 197, 3) := by decide +kernel
theorem dX7_without_30 : decode cX7_without 30 = .ok (.aload_n 0, 1) := by decide +kernel
theorem dX7_without_31 : decode cX7_without 31 = .ok (.invokevirtual 203, 3) := by decide +kernel
theorem dX7_without_34 : decode cX7_without 34 = .ok (.aload_n 0, 1) := by decide +kernel
theorem dX7_without_35 : decode cX7_without 35 = .ok (.iload_n 1, 1) := by decide +kernel
theorem dX7_without_36 : decode cX7_without 36 = .ok (.invokevirtual 207, 3) := by decide +kernel
theorem dX7_without_39 : decode cX7_without 39 = .ok (.iconst (-1), 1) := by decide +kernel
theorem dX7_without_40 : decode cX7_without 40 = .ok (.ixor, 1) := by decide +kernel
theorem dX7_without_41 : decode cX7_without 41 = .ok (.iand, 1) := by decide +kernel
theorem dX7_without_42 : decode cX7_without 42 = .ok (.ireturn, 1) := by decide +kernel
theorem dX7_nextFirsts_0 : decode cX7_nextFirsts 0 = .ok (.aload_n 0, 1) := by decide +kernel
theorem dX7_nextFirsts_1 : decode cX7_nextFirsts 1 = .ok (.getfield 7, 3) := by decide +kernel
theorem dX7_nextFirsts_4 : decode cX7_nextFirsts 4 = .ok (.iconst 1, 1) := by decide +kernel
theorem dX7_nextFirsts_5 : decode cX7_nextFirsts 5 = .ok (.iaload, 1) := by decide +kernel
theorem dX7_nextFirsts_6 : decode cX7_nextFirsts 6 = .ok (.iconst 1, 1) := by decide +kernel
theorem dX7_nextFirsts_7 : decode cX7_nextFirsts 7 = .ok (.isub, 1) := by decide +kernel
theorem dX7_nextFirsts_8 : decode cX7_nextFirsts 8 = .ok (.istore_n 1, 1) := by decide +kernel
theorem dX7_nextFirsts_9 : decode cX7_nextFirsts 9 = .ok (.iload_n 1, 1) := by decide +kernel
theorem dX7_nextFirsts_10 : decode cX7_nextFirsts 10 = .ok (.ifCond .lt 33, 3) := by decide +kernel
theorem dX7_nextFirsts_13 : decode cX7_nextFirsts 13 = .ok (.aload_n 0, 1) := by decide +kernel
theorem dX7_nextFirsts_14 : decode cX7_nextFirsts 14 = .ok (.getfield 32, 3) := by decide +kernel
theorem dX7_nextFirsts_17 : decode cX7_nextFirsts 17 = .ok (.iload_n 1, 1) := by decide +kernel
theorem dX7_nextFirsts_18 : decode cX7_nextFirsts 18 = .ok (.iaload, 1) := by decide +kernel
theorem dX7_nextFirsts_19 : decode cX7_nextFirsts 19 = .ok (.aload_n 0, 1) := by decide +kernel
theorem dX7_nextFirsts_20 : decode cX7_nextFirsts 20 = .ok (.getfield 7, 3) := by decide +kernel
theorem dX7_nextFirsts_23 : decode cX7_nextFirsts 23 = .ok (.iconst 0, 1) := by decide +kernel
theorem dX7_nextFirsts_24 : decode cX7_nextFirsts 24 = .ok (.iaload, 1) := by decide +kernel
theorem dX7_nextFirsts_25 : decode cX7_nextFirsts 25 = .ok (.iconst 1, 1) := by decide +kernel
theorem dX7_nextFirsts_26 : decode cX7_nextFirsts 26 = .ok (.isub, 1) := by decide +kernel
theorem dX7_nextFirsts_27 : decode cX7_nextFirsts 27 = .ok (.if_icmp .ne 16, 3) := by decide +kernel
theorem dX7_nextFirsts_30 : decode cX7_nextFirsts 30 = .ok (.aload_n 0, 1) := by decide +kernel
theorem dX7_nextFirsts_31 : decode cX7_nextFirsts 31 = .ok (.getfield 32, 3) := by decide +kernel
theorem dX7_nextFirsts_34 : decode cX7_nextFirsts 34 = .ok (.iload_n 1, 1) := by decide +kernel
theorem dX7_nextFirsts_35 : decode cX7_nextFirsts 35 = .ok (.iconst 0, 1) := by decide +kernel
theorem dX7_nextFirsts_36 : decode cX7_nextFirsts 36 = .ok (.iastore, 1) := by decide +kernel
theorem dX7_nextFirsts_37 : decode cX7_nextFirsts 37 = .ok (.iinc 1 (-1), 3) := by decide +kernel
theorem dX7_nextFirsts_40 : decode cX7_nextFirsts 40 = .ok (.goto (-31), 3) := by decide +kernel
theorem dX7_nextFirsts_43 : decode cX7_nextFirsts 43 = .ok (.iload_n 1, 1) := by decide +kernel
theorem dX7_nextFirsts_44 : decode cX7_nextFirsts 44 = .ok (.ifCond .lt 13, 3) := by decide +kernel
theorem dX7_nextFirsts_47 : decode cX7_nextFirsts 47 = .ok (.aload_n 0, 1) := by decide +kernel
theorem dX7_nextFirsts_48 : decode cX7_nextFirsts 48 = .ok (.getfield 32, 3) := by decide +kernel
theorem dX7_nextFirsts_51 : decode cX7_nextFirsts 51 = .ok (.iload_n 1, 1) := by decide +kernel
theorem dX7_nextFirsts_52 : decode cX7_nextFirsts 52 = .ok (.dup2, 1) := by decide +kernel
theorem dX7_nextFirsts_53 : decode cX7_nextFirsts 53 = .ok (.iaload, 1) := by decide +kernel
theorem dX7_nextFirsts_54 : decode cX7_nextFirsts 54 = .ok (.iconst 1, 1) := by decide +kernel
theorem dX7_nextFirsts_55 : decode cX7_nextFirsts 55 = .ok (.iadd, 1) := by decide +kernel
theorem dX7_nextFirsts_56 : decode cX7_nextFirsts 56 = .ok (.iastore, 1) := by decide +kernel
theorem dX7_nextFirsts_57 : decode cX7_nextFirsts 57 = .ok (.iload_n 1, 1) := by decide +kernel
theorem dX7_nextFirsts_58 : decode cX7_nextFirsts 58 = .ok (.ifCond .lt 7, 3) := by decide +kernel
theorem dX7_nextFirsts_61 : decode cX7_nextFirsts 61 = .ok (.iconst 1, 1) := by decide +kernel
theorem dX7_nextFirsts_62 : decode cX7_nextFirsts 62 = .ok (.goto 4, 3) := by decide +kernel
theorem dX7_nextFirsts_65 : decode cX7_nextFirsts 65 = .ok (.iconst 0, 1) := by decide +kernel
theorem dX7_nextFirsts_66 : decode cX7_nextFirsts 66 = .ok (.ireturn, 1) := by decide +kernel
theorem dX7_changes_0 : decode cX7_changes 0 = .ok (.iconst 0, 1) := by decide +kernel
theorem dX7_changes_1 : decode cX7_changes 1 = .ok (.istore_n 1, 1) := by decide +kernel
theorem dX7_changes_2 : decode cX7_changes 2 = .ok (.iconst 0, 1) := by decide +kernel
theorem dX7_changes_3 : decode cX7_changes 3 = .ok (.istore_n 2, 1) := by decide +kernel
theorem dX7_changes_4 : decode cX7_changes 4 = .ok (.iload_n 2, 1) := by decide +kernel
theorem dX7_changes_5 : decode cX7_changes 5 = .ok (.aload_n 0, 1) := by decide +kernel
theorem dX7_changes_6 : decode cX7_changes 6 = .ok (.getfield 7, 3) := by decide +kernel
theorem dX7_changes_9 : decode cX7_changes 9 = .ok (.iconst 1, 1) := by decide +kernel
theorem dX7_changes_10 : decode cX7_changes 10 = .ok (.iaload, 1) := by decide +kernel
theorem dX7_changes_11 : decode cX7_changes 11 = .ok (.if_icmp .ge 35, 3) := by decide +kernel
theorem dX7_changes_14 : decode cX7_changes 14 = .ok (.iload_n 1, 1) := by decide +kernel
theorem dX7_changes_15 : decode cX7_changes 15 = .ok (.aload_n 0, 1) := by decide +kernel
theorem dX7_changes_16 : decode cX7_changes 16 = .ok (.getfield 32, 3) := by decide +kernel
theorem dX7_changes_19 : decode cX7_changes 19 = .ok (.iload_n 2, 1) := by decide +kernel
theorem dX7_changes_20 : decode cX7_changes 20 = .ok (.iaload, 1) := by decide +kernel
theorem dX7_changes_21 : decode cX7_changes 21 = .ok (.aload_n 0, 1) := by decide +kernel
theorem dX7_changes_22 : decode cX7_changes 22 = .ok (.getfield 7, 3) := by decide +kernel
theorem dX7_changes_25 : decode cX7_changes 25 = .ok (.bipush 32, 2) := by decide +kernel
theorem dX7_changes_27 : decode cX7_changes 27 = .ok (.iload_n 2, 1) := by decide +kernel
theorem dX7_changes_28 : decode cX7_changes 28 = .ok (.iadd, 1) := by decide +kernel
theorem dX7_changes_29 : decode cX7_changes 29 = .ok (.iaload, 1) := by decide +kernel
theorem dX7_changes_30 : decode cX7_changes 30 = .ok (.if_icmp .ne 7, 3) := by decide +kernel
theorem dX7_changes_33 : decode cX7_changes 33 = .ok (.iconst 0, 1) := by decide +kernel
theorem dX7_changes_34 : decode cX7_changes 34 = .ok (.goto 4, 3) := by decide +kernel
theorem dX7_changes_37 : decode cX7_changes 37 = .ok (.iconst 1, 1) := by decide +kernel
theorem dX7_changes_38 : decode cX7_changes 38 = .ok (.iadd, 1) := by decide +kernel
theorem dX7_changes_39 : decode cX7_changes 39 = .ok (.istore_n 1, 1) := by decide +kernel
theorem dX7_changes_40 : decode cX7_changes 40 = .ok (.iinc 2 1, 3) := by decide +kernel
theorem dX7_changes_43 : decode cX7_changes 43 = .ok (.goto (-39), 3) := by decide +kernel
theorem dX7_changes_46 : decode cX7_changes 46 = .ok (.iload_n 1, 1) := by decide +kernel
theorem dX7_changes_47 : decode cX7_changes 47 = .ok (.ireturn, 1) := by decide +kernel
theorem dX7_servesAll_0 : decode cX7_servesAll 0 = .ok (.aload_n 0, 1) := by decide +kernel
theorem dX7_servesAll_1 : decode cX7_servesAll 1 = .ok (.iconst 0, 1) := by decide +kernel
theorem dX7_servesAll_2 : decode cX7_servesAll 2 = .ok (.sipush 1512, 3) := by decide +kernel
theorem dX7_servesAll_5 : decode cX7_servesAll 5 = .ok (.invokevirtual 132, 3) := by decide +kernel
theorem dX7_servesAll_8 : decode cX7_servesAll 8 = .ok (.iconst 0, 1) := by decide +kernel
theorem dX7_servesAll_9 : decode cX7_servesAll 9 = .ok (.istore_n 3, 1) := by decide +kernel
theorem dX7_servesAll_10 : decode cX7_servesAll 10 = .ok (.iload_n 3, 1) := by decide +kernel
theorem dX7_servesAll_11 : decode cX7_servesAll 11 = .ok (.aload_n 0, 1) := by decide +kernel
theorem dX7_servesAll_12 : decode cX7_servesAll 12 = .ok (.getfield 7, 3) := by decide +kernel
theorem dX7_servesAll_15 : decode cX7_servesAll 15 = .ok (.iconst 1, 1) := by decide +kernel
theorem dX7_servesAll_16 : decode cX7_servesAll 16 = .ok (.iaload, 1) := by decide +kernel
theorem dX7_servesAll_17 : decode cX7_servesAll 17 = .ok (.if_icmp .ge 25, 3) := by decide +kernel
theorem dX7_servesAll_20 : decode cX7_servesAll 20 = .ok (.aload_n 0, 1) := by decide +kernel
theorem dX7_servesAll_21 : decode cX7_servesAll 21 = .ok (.getfield 7, 3) := by decide +kernel
theorem dX7_servesAll_24 : decode cX7_servesAll 24 = .ok (.sipush 1544, 3) := by decide +kernel
theorem dX7_servesAll_27 : decode cX7_servesAll 27 = .ok (.iload_n 3, 1) := by decide +kernel
theorem dX7_servesAll_28 : decode cX7_servesAll 28 = .ok (.iadd, 1) := by decide +kernel
theorem dX7_servesAll_29 : decode cX7_servesAll 29 = .ok (.aload_n 0, 1) := by decide +kernel
theorem dX7_servesAll_30 : decode cX7_servesAll 30 = .ok (.getfield 32, 3) := by decide +kernel
theorem dX7_servesAll_33 : decode cX7_servesAll 33 = .ok (.iload_n 3, 1) := by decide +kernel
theorem dX7_servesAll_34 : decode cX7_servesAll 34 = .ok (.iaload, 1) := by decide +kernel
theorem dX7_servesAll_35 : decode cX7_servesAll 35 = .ok (.iastore, 1) := by decide +kernel
theorem dX7_servesAll_36 : decode cX7_servesAll 36 = .ok (.iinc 3 1, 3) := by decide +kernel
theorem dX7_servesAll_39 : decode cX7_servesAll 39 = .ok (.goto (-29), 3) := by decide +kernel
theorem dX7_servesAll_42 : decode cX7_servesAll 42 = .ok (.iload_n 1, 1) := by decide +kernel
theorem dX7_servesAll_43 : decode cX7_servesAll 43 = .ok (.aload_n 0, 1) := by decide +kernel
theorem dX7_servesAll_44 : decode cX7_servesAll 44 = .ok (.iload_n 2, 1) := by decide +kernel
theorem dX7_servesAll_45 : decode cX7_servesAll 45 = .ok (.invokevirtual 207, 3) := by decide +kernel
theorem dX7_servesAll_48 : decode cX7_servesAll 48 = .ok (.iconst (-1), 1) := by decide +kernel
theorem dX7_servesAll_49 : decode cX7_servesAll 49 = .ok (.ixor, 1) := by decide +kernel
theorem dX7_servesAll_50 : decode cX7_servesAll 50 = .ok (.iand, 1) := by decide +kernel
theorem dX7_servesAll_51 : decode cX7_servesAll 51 = .ok (.ifCond .ne 7, 3) := by decide +kernel
theorem dX7_servesAll_54 : decode cX7_servesAll 54 = .ok (.iconst 1, 1) := by decide +kernel
theorem dX7_servesAll_55 : decode cX7_servesAll 55 = .ok (.goto 4, 3) := by decide +kernel
theorem dX7_servesAll_58 : decode cX7_servesAll 58 = .ok (.iconst 0, 1) := by decide +kernel
theorem dX7_servesAll_59 : decode cX7_servesAll 59 = .ok (.ireturn, 1) := by decide +kernel
theorem dX7_rota_0 : decode cX7_rota 0 = .ok (.aload_n 0, 1) := by decide +kernel
theorem dX7_rota_1 : decode cX7_rota 1 = .ok (.getfield 136, 3) := by decide +kernel
theorem dX7_rota_4 : decode cX7_rota 4 = .ok (.ifCond .ne 6, 3) := by decide +kernel
theorem dX7_rota_7 : decode cX7_rota 7 = .ok (.ldc 143, 2) := by decide +kernel
theorem dX7_rota_9 : decode cX7_rota 9 = .ok (.ireturn, 1) := by decide +kernel
theorem dX7_rota_10 : decode cX7_rota 10 = .ok (.iload_n 1, 1) := by decide +kernel
theorem dX7_rota_11 : decode cX7_rota 11 = .ok (.i2l, 1) := by decide +kernel
theorem dX7_rota_12 : decode cX7_rota 12 = .ok (.lconst 0, 1) := by decide +kernel
theorem dX7_rota_13 : decode cX7_rota 13 = .ok (.aload_n 0, 1) := by decide +kernel
theorem dX7_rota_14 : decode cX7_rota 14 = .ok (.invokevirtual 203, 3) := by decide +kernel
theorem dX7_rota_17 : decode cX7_rota 17 = .ok (.i2l, 1) := by decide +kernel
theorem dX7_rota_18 : decode cX7_rota 18 = .ok (.invokestatic 48, 3) := by decide +kernel
theorem dX7_rota_21 : decode cX7_rota 21 = .ok (.ifCond .eq 28, 3) := by decide +kernel
theorem dX7_rota_24 : decode cX7_rota 24 = .ok (.iload_n 2, 1) := by decide +kernel
theorem dX7_rota_25 : decode cX7_rota 25 = .ok (.i2l, 1) := by decide +kernel
theorem dX7_rota_26 : decode cX7_rota 26 = .ok (.lconst 1, 1) := by decide +kernel
theorem dX7_rota_27 : decode cX7_rota 27 = .ok (.ldc2_w 210, 3) := by decide +kernel
theorem dX7_rota_30 : decode cX7_rota 30 = .ok (.invokestatic 48, 3) := by decide +kernel
theorem dX7_rota_33 : decode cX7_rota 33 = .ok (.ifCond .eq 16, 3) := by decide +kernel
theorem dX7_rota_36 : decode cX7_rota 36 = .ok (.aload_n 0, 1) := by decide +kernel
theorem dX7_rota_37 : decode cX7_rota 37 = .ok (.iload_n 3, 1) := by decide +kernel
theorem dX7_rota_38 : decode cX7_rota 38 = .ok (.invokevirtual 176, 3) := by decide +kernel
theorem dX7_rota_41 : decode cX7_rota 41 = .ok (.ifCond .ne 11, 3) := by decide +kernel
theorem dX7_rota_44 : decode cX7_rota 44 = .ok (.iload_n 3, 1) := by decide +kernel
theorem dX7_rota_45 : decode cX7_rota 45 = .ok (.iconst (-1), 1) := by decide +kernel
theorem dX7_rota_46 : decode cX7_rota 46 = .ok (.if_icmp .eq 6, 3) := by decide +kernel
theorem dX7_rota_49 : decode cX7_rota 49 = .ok (.ldc 58, 2) := by decide +kernel
theorem dX7_rota_51 : decode cX7_rota 51 = .ok (.ireturn, 1) := by decide +kernel
theorem dX7_rota_52 : decode cX7_rota 52 = .ok (.bipush 7, 2) := by decide +kernel
theorem dX7_rota_54 : decode cX7_rota 54 = .ok (.istore 4, 2) := by decide +kernel
theorem dX7_rota_56 : decode cX7_rota 56 = .ok (.iconst 0, 1) := by decide +kernel
theorem dX7_rota_57 : decode cX7_rota 57 = .ok (.istore 5, 2) := by decide +kernel
theorem dX7_rota_59 : decode cX7_rota 59 = .ok (.iload 5, 2) := by decide +kernel
theorem dX7_rota_61 : decode cX7_rota 61 = .ok (.bipush 6, 2) := by decide +kernel
theorem dX7_rota_63 : decode cX7_rota 63 = .ok (.if_icmp .ge 17, 3) := by decide +kernel
theorem dX7_rota_66 : decode cX7_rota 66 = .ok (.aload_n 0, 1) := by decide +kernel
theorem dX7_rota_67 : decode cX7_rota 67 = .ok (.getfield 32, 3) := by decide +kernel
theorem dX7_rota_70 : decode cX7_rota 70 = .ok (.iload 5, 2) := by decide +kernel
theorem dX7_rota_72 : decode cX7_rota 72 = .ok (.iconst 0, 1) := by decide +kernel
theorem dX7_rota_73 : decode cX7_rota 73 = .ok (.iastore, 1) := by decide +kernel
theorem dX7_rota_74 : decode cX7_rota 74 = .ok (.iinc 5 1, 3) := by decide +kernel
theorem dX7_rota_77 : decode cX7_rota 77 = .ok (.goto (-18), 3) := by decide +kernel
theorem dX7_rota_80 : decode cX7_rota 80 = .ok (.iconst 1, 1) := by decide +kernel
theorem dX7_rota_81 : decode cX7_rota 81 = .ok (.istore 5, 2) := by decide +kernel
theorem dX7_rota_83 : decode cX7_rota 83 = .ok (.iload 5, 2) := by decide +kernel
theorem dX7_rota_85 : decode cX7_rota 85 = .ok (.ifCond .eq 68, 3) := by decide +kernel
theorem dX7_rota_88 : decode cX7_rota 88 = .ok (.aload_n 0, 1) := by decide +kernel
theorem dX7_rota_89 : decode cX7_rota 89 = .ok (.invokevirtual 212, 3) := by decide +kernel
theorem dX7_rota_92 : decode cX7_rota 92 = .ok (.istore 6, 2) := by decide +kernel
theorem dX7_rota_94 : decode cX7_rota 94 = .ok (.iload 6, 2) := by decide +kernel
theorem dX7_rota_96 : decode cX7_rota 96 = .ok (.iload 4, 2) := by decide +kernel
theorem dX7_rota_98 : decode cX7_rota 98 = .ok (.if_icmp .ge 46, 3) := by decide +kernel
theorem dX7_rota_101 : decode cX7_rota 101 = .ok (.aload_n 0, 1) := by decide +kernel
theorem dX7_rota_102 : decode cX7_rota 102 = .ok (.iload_n 1, 1) := by decide +kernel
theorem dX7_rota_103 : decode cX7_rota 103 = .ok (.iload_n 2, 1) := by decide +kernel
theorem dX7_rota_104 : decode cX7_rota 104 = .ok (.invokevirtual 215, 3) := by decide +kernel
theorem dX7_rota_107 : decode cX7_rota 107 = .ok (.ifCond .eq 37, 3) := by decide +kernel
theorem dX7_rota_110 : decode cX7_rota 110 = .ok (.iload 6, 2) := by decide +kernel
theorem dX7_rota_112 : decode cX7_rota 112 = .ok (.istore 4, 2) := by decide +kernel
theorem dX7_rota_114 : decode cX7_rota 114 = .ok (.iconst 0, 1) := by decide +kernel
theorem dX7_rota_115 : decode cX7_rota 115 = .ok (.istore 7, 2) := by decide +kernel
theorem dX7_rota_117 : decode cX7_rota 117 = .ok (.iload 7, 2) := by decide +kernel
theorem dX7_rota_119 : decode cX7_rota 119 = .ok (.bipush 6, 2) := by decide +kernel
theorem dX7_rota_121 : decode cX7_rota 121 = .ok (.if_icmp .ge 23, 3) := by decide +kernel
theorem dX7_rota_124 : decode cX7_rota 124 = .ok (.aload_n 0, 1) := by decide +kernel
theorem dX7_rota_125 : decode cX7_rota 125 = .ok (.getfield 35, 3) := by decide +kernel
theorem dX7_rota_128 : decode cX7_rota 128 = .ok (.iload 7, 2) := by decide +kernel
theorem dX7_rota_130 : decode cX7_rota 130 = .ok (.aload_n 0, 1) := by decide +kernel
theorem dX7_rota_131 : decode cX7_rota 131 = .ok (.getfield 32, 3) := by decide +kernel
theorem dX7_rota_134 : decode cX7_rota 134 = .ok (.iload 7, 2) := by decide +kernel
theorem dX7_rota_136 : decode cX7_rota 136 = .ok (.iaload, 1) := by decide +kernel
theorem dX7_rota_137 : decode cX7_rota 137 = .ok (.iastore, 1) := by decide +kernel
theorem dX7_rota_138 : decode cX7_rota 138 = .ok (.iinc 7 1, 3) := by decide +kernel
theorem dX7_rota_141 : decode cX7_rota 141 = .ok (.goto (-24), 3) := by decide +kernel
theorem dX7_rota_144 : decode cX7_rota 144 = .ok (.aload_n 0, 1) := by decide +kernel
theorem dX7_rota_145 : decode cX7_rota 145 = .ok (.invokevirtual 218, 3) := by decide +kernel
theorem dX7_rota_148 : decode cX7_rota 148 = .ok (.istore 5, 2) := by decide +kernel
theorem dX7_rota_150 : decode cX7_rota 150 = .ok (.goto (-67), 3) := by decide +kernel
theorem dX7_rota_153 : decode cX7_rota 153 = .ok (.iload 4, 2) := by decide +kernel
theorem dX7_rota_155 : decode cX7_rota 155 = .ok (.bipush 7, 2) := by decide +kernel
theorem dX7_rota_157 : decode cX7_rota 157 = .ok (.if_icmp .ne 8, 3) := by decide +kernel
theorem dX7_rota_160 : decode cX7_rota 160 = .ok (.ldc 144, 2) := by decide +kernel
theorem dX7_rota_162 : decode cX7_rota 162 = .ok (.goto 18, 3) := by decide +kernel
theorem dX7_rota_165 : decode cX7_rota 165 = .ok (.iload_n 3, 1) := by decide +kernel
theorem dX7_rota_166 : decode cX7_rota 166 = .ok (.ifCond .ge 8, 3) := by decide +kernel
theorem dX7_rota_169 : decode cX7_rota 169 = .ok (.iload 4, 2) := by decide +kernel
theorem dX7_rota_171 : decode cX7_rota 171 = .ok (.goto 9, 3) := by decide +kernel
theorem dX7_rota_174 : decode cX7_rota 174 = .ok (.aload_n 0, 1) := by decide +kernel
theorem dX7_rota_175 : decode cX7_rota 175 = .ok (.getfield 35, 3) := by decide +kernel
theorem dX7_rota_178 : decode cX7_rota 178 = .ok (.iload_n 3, 1) := by decide +kernel
theorem dX7_rota_179 : decode cX7_rota 179 = .ok (.iaload, 1) := by decide +kernel
theorem dX7_rota_180 : decode cX7_rota 180 = .ok (.ireturn, 1) := by decide +kernel
theorem dX7_meets_0 : decode cX7_meets 0 = .ok (.aload_n 0, 1) := by decide +kernel
theorem dX7_meets_1 : decode cX7_meets 1 = .ok (.iload_n 1, 1) := by decide +kernel
theorem dX7_meets_2 : decode cX7_meets 2 = .ok (.iload_n 2, 1) := by decide +kernel
theorem dX7_meets_3 : decode cX7_meets 3 = .ok (.invokevirtual 189, 3) := by decide +kernel
theorem dX7_meets_6 : decode cX7_meets 6 = .ok (.ifCond .ne 6, 3) := by decide +kernel
theorem dX7_meets_9 : decode cX7_meets 9 = .ok (.ldc 58, 2) := by decide +kernel
theorem dX7_meets_11 : decode cX7_meets 11 = .ok (.ireturn, 1) := by decide +kernel
theorem dX7_meets_12 : decode cX7_meets 12 = .ok (.aload_n 0, 1) := by decide +kernel
theorem dX7_meets_13 : decode cX7_meets 13 = .ok (.iconst 0, 1) := by decide +kernel
theorem dX7_meets_14 : decode cX7_meets 14 = .ok (.invokevirtual 197, 3) := by decide +kernel
theorem dX7_meets_17 : decode cX7_meets 17 = .ok (.iconst 0, 1) := by decide +kernel
theorem dX7_meets_18 : decode cX7_meets 18 = .ok (.istore_n 3, 1) := by decide +kernel
theorem dX7_meets_19 : decode cX7_meets 19 = .ok (.iload_n 3, 1) := by decide +kernel
theorem dX7_meets_20 : decode cX7_meets 20 = .ok (.bipush 61, 2) := by decide +kernel
theorem dX7_meets_22 : decode cX7_meets 22 = .ok (.if_icmp .ge 50, 3) := by decide +kernel
theorem dX7_meets_25 : decode cX7_meets 25 = .ok (.aload_n 0, 1) := by decide +kernel
theorem dX7_meets_26 : decode cX7_meets 26 = .ok (.sipush 1512, 3) := by decide +kernel
theorem dX7_meets_29 : decode cX7_meets 29 = .ok (.iload_n 1, 1) := by decide +kernel
theorem dX7_meets_30 : decode cX7_meets 30 = .ok (.invokevirtual 145, 3) := by decide +kernel
theorem dX7_meets_33 : decode cX7_meets 33 = .ok (.ldc 144, 2) := by decide +kernel
theorem dX7_meets_35 : decode cX7_meets 35 = .ok (.if_icmp .eq 24, 3) := by decide +kernel
theorem dX7_meets_38 : decode cX7_meets 38 = .ok (.aload_n 0, 1) := by decide +kernel
theorem dX7_meets_39 : decode cX7_meets 39 = .ok (.sipush 1512, 3) := by decide +kernel
theorem dX7_meets_42 : decode cX7_meets 42 = .ok (.iload_n 1, 1) := by decide +kernel
theorem dX7_meets_43 : decode cX7_meets 43 = .ok (.invokevirtual 145, 3) := by decide +kernel
theorem dX7_meets_46 : decode cX7_meets 46 = .ok (.aload_n 0, 1) := by decide +kernel
theorem dX7_meets_47 : decode cX7_meets 47 = .ok (.sipush 1512, 3) := by decide +kernel
theorem dX7_meets_50 : decode cX7_meets 50 = .ok (.iload_n 2, 1) := by decide +kernel
theorem dX7_meets_51 : decode cX7_meets 51 = .ok (.invokevirtual 145, 3) := by decide +kernel
theorem dX7_meets_54 : decode cX7_meets 54 = .ok (.if_icmp .ne 5, 3) := by decide +kernel
theorem dX7_meets_57 : decode cX7_meets 57 = .ok (.iload_n 3, 1) := by decide +kernel
theorem dX7_meets_58 : decode cX7_meets 58 = .ok (.ireturn, 1) := by decide +kernel
theorem dX7_meets_59 : decode cX7_meets 59 = .ok (.aload_n 0, 1) := by decide +kernel
theorem dX7_meets_60 : decode cX7_meets 60 = .ok (.sipush 1512, 3) := by decide +kernel
theorem dX7_meets_63 : decode cX7_meets 63 = .ok (.invokevirtual 172, 3) := by decide +kernel
theorem dX7_meets_66 : decode cX7_meets 66 = .ok (.iinc 3 1, 3) := by decide +kernel
theorem dX7_meets_69 : decode cX7_meets 69 = .ok (.goto (-50), 3) := by decide +kernel
theorem dX7_meets_72 : decode cX7_meets 72 = .ok (.ldc 144, 2) := by decide +kernel
theorem dX7_meets_74 : decode cX7_meets 74 = .ok (.ireturn, 1) := by decide +kernel
theorem dX7_lost_0 : decode cX7_lost 0 = .ok (.aload_n 0, 1) := by decide +kernel
theorem dX7_lost_1 : decode cX7_lost 1 = .ok (.getfield 136, 3) := by decide +kernel
theorem dX7_lost_4 : decode cX7_lost 4 = .ok (.ifCond .ne 6, 3) := by decide +kernel
theorem dX7_lost_7 : decode cX7_lost 7 = .ok (.ldc 143, 2) := by decide +kernel
theorem dX7_lost_9 : decode cX7_lost 9 = .ok (.ireturn, 1) := by decide +kernel
theorem dX7_lost_10 : decode cX7_lost 10 = .ok (.iload_n 1, 1) := by decide +kernel
theorem dX7_lost_11 : decode cX7_lost 11 = .ok (.i2l, 1) := by decide +kernel
theorem dX7_lost_12 : decode cX7_lost 12 = .ok (.lconst 1, 1) := by decide +kernel
theorem dX7_lost_13 : decode cX7_lost 13 = .ok (.ldc2_w 179, 3) := by decide +kernel
theorem dX7_lost_16 : decode cX7_lost 16 = .ok (.invokestatic 48, 3) := by decide +kernel
theorem dX7_lost_19 : decode cX7_lost 19 = .ok (.ifCond .ne 6, 3) := by decide +kernel
theorem dX7_lost_22 : decode cX7_lost 22 = .ok (.ldc 58, 2) := by decide +kernel
theorem dX7_lost_24 : decode cX7_lost 24 = .ok (.ireturn, 1) := by decide +kernel
theorem dX7_lost_25 : decode cX7_lost 25 = .ok (.aload_n 0, 1) := by decide +kernel
theorem dX7_lost_26 : decode cX7_lost 26 = .ok (.iconst 0, 1) := by decide +kernel
theorem dX7_lost_27 : decode cX7_lost 27 = .ok (.invokevirtual 197, 3) := by decide +kernel
theorem dX7_lost_30 : decode cX7_lost 30 = .ok (.iconst 0, 1) := by decide +kernel
theorem dX7_lost_31 : decode cX7_lost 31 = .ok (.istore_n 2, 1) := by decide +kernel
theorem dX7_lost_32 : decode cX7_lost 32 = .ok (.iconst 0, 1) := by decide +kernel
theorem dX7_lost_33 : decode cX7_lost 33 = .ok (.istore_n 3, 1) := by decide +kernel
theorem dX7_lost_34 : decode cX7_lost 34 = .ok (.iload_n 3, 1) := by decide +kernel
theorem dX7_lost_35 : decode cX7_lost 35 = .ok (.iload_n 1, 1) := by decide +kernel
theorem dX7_lost_36 : decode cX7_lost 36 = .ok (.if_icmp .ge 56, 3) := by decide +kernel
theorem dX7_lost_39 : decode cX7_lost 39 = .ok (.iconst 0, 1) := by decide +kernel
theorem dX7_lost_40 : decode cX7_lost 40 = .ok (.istore 4, 2) := by decide +kernel
theorem dX7_lost_42 : decode cX7_lost 42 = .ok (.iload 4, 2) := by decide +kernel
theorem dX7_lost_44 : decode cX7_lost 44 = .ok (.aload_n 0, 1) := by decide +kernel
theorem dX7_lost_45 : decode cX7_lost 45 = .ok (.getfield 7, 3) := by decide +kernel
theorem dX7_lost_48 : decode cX7_lost 48 = .ok (.iconst 1, 1) := by decide +kernel
theorem dX7_lost_49 : decode cX7_lost 49 = .ok (.iaload, 1) := by decide +kernel
theorem dX7_lost_50 : decode cX7_lost 50 = .ok (.if_icmp .ge 29, 3) := by decide +kernel
theorem dX7_lost_53 : decode cX7_lost 53 = .ok (.iload_n 2, 1) := by decide +kernel
theorem dX7_lost_54 : decode cX7_lost 54 = .ok (.aload_n 0, 1) := by decide +kernel
theorem dX7_lost_55 : decode cX7_lost 55 = .ok (.sipush 1512, 3) := by decide +kernel
theorem dX7_lost_58 : decode cX7_lost 58 = .ok (.iload 4, 2) := by decide +kernel
theorem dX7_lost_60 : decode cX7_lost 60 = .ok (.invokevirtual 161, 3) := by decide +kernel
theorem dX7_lost_63 : decode cX7_lost 63 = .ok (.ifCond .eq 7, 3) := by decide +kernel
theorem dX7_lost_66 : decode cX7_lost 66 = .ok (.iconst 1, 1) := by decide +kernel
theorem dX7_lost_67 : decode cX7_lost 67 = .ok (.goto 4, 3) := by decide +kernel
theorem dX7_lost_70 : decode cX7_lost 70 = .ok (.iconst 0, 1) := by decide +kernel
theorem dX7_lost_71 : decode cX7_lost 71 = .ok (.iadd, 1) := by decide +kernel
theorem dX7_lost_72 : decode cX7_lost 72 = .ok (.istore_n 2, 1) := by decide +kernel
theorem dX7_lost_73 : decode cX7_lost 73 = .ok (.iinc 4 1, 3) := by decide +kernel
theorem dX7_lost_76 : decode cX7_lost 76 = .ok (.goto (-34), 3) := by decide +kernel
theorem dX7_lost_79 : decode cX7_lost 79 = .ok (.aload_n 0, 1) := by decide +kernel
theorem dX7_lost_80 : decode cX7_lost 80 = .ok (.sipush 1512, 3) := by decide +kernel
theorem dX7_lost_83 : decode cX7_lost 83 = .ok (.invokevirtual 172, 3) := by decide +kernel
theorem dX7_lost_86 : decode cX7_lost 86 = .ok (.iinc 3 1, 3) := by decide +kernel
theorem dX7_lost_89 : decode cX7_lost 89 = .ok (.goto (-55), 3) := by decide +kernel
theorem dX7_lost_92 : decode cX7_lost 92 = .ok (.iload_n 2, 1) := by decide +kernel
theorem dX7_lost_93 : decode cX7_lost 93 = .ok (.ireturn, 1) := by decide +kernel
theorem dX7_isBetter_0 : decode cX7_isBetter 0 = .ok (.aload_n 0, 1) := by decide +kernel
theorem dX7_isBetter_1 : decode cX7_isBetter 1 = .ok (.iconst 0, 1) := by decide +kernel
theorem dX7_isBetter_2 : decode cX7_isBetter 2 = .ok (.sipush 1512, 3) := by decide +kernel
theorem dX7_isBetter_5 : decode cX7_isBetter 5 = .ok (.invokevirtual 132, 3) := by decide +kernel
theorem dX7_isBetter_8 : decode cX7_isBetter 8 = .ok (.aload_n 0, 1) := by decide +kernel
theorem dX7_isBetter_9 : decode cX7_isBetter 9 = .ok (.getfield 7, 3) := by decide +kernel
theorem dX7_isBetter_12 : decode cX7_isBetter 12 = .ok (.sipush 1544, 3) := by decide +kernel
theorem dX7_isBetter_15 : decode cX7_isBetter 15 = .ok (.iload_n 1, 1) := by decide +kernel
theorem dX7_isBetter_16 : decode cX7_isBetter 16 = .ok (.iadd, 1) := by decide +kernel
theorem dX7_isBetter_17 : decode cX7_isBetter 17 = .ok (.aload_n 0, 1) := by decide +kernel
theorem dX7_isBetter_18 : decode cX7_isBetter 18 = .ok (.getfield 7, 3) := by decide +kernel
theorem dX7_isBetter_21 : decode cX7_isBetter 21 = .ok (.bipush 32, 2) := by decide +kernel
theorem dX7_isBetter_23 : decode cX7_isBetter 23 = .ok (.iload_n 2, 1) := by decide +kernel
theorem dX7_isBetter_24 : decode cX7_isBetter 24 = .ok (.iadd, 1) := by decide +kernel
theorem dX7_isBetter_25 : decode cX7_isBetter 25 = .ok (.iaload, 1) := by decide +kernel
theorem dX7_isBetter_26 : decode cX7_isBetter 26 = .ok (.iastore, 1) := by decide +kernel
theorem dX7_isBetter_27 : decode cX7_isBetter 27 = .ok (.aload_n 0, 1) := by decide +kernel
theorem dX7_isBetter_28 : decode cX7_isBetter 28 = .ok (.getfield 7, 3) := by decide +kernel
theorem dX7_isBetter_31 : decode cX7_isBetter 31 = .ok (.sipush 1544, 3) := by decide +kernel
theorem dX7_isBetter_34 : decode cX7_isBetter 34 = .ok (.iload_n 2, 1) := by decide +kernel
theorem dX7_isBetter_35 : decode cX7_isBetter 35 = .ok (.iadd, 1) := by decide +kernel
theorem dX7_isBetter_36 : decode cX7_isBetter 36 = .ok (.aload_n 0, 1) := by decide +kernel
theorem dX7_isBetter_37 : decode cX7_isBetter 37 = .ok (.getfield 7, 3) := by decide +kernel
theorem dX7_isBetter_40 : decode cX7_isBetter 40 = .ok (.bipush 32, 2) := by decide +kernel
theorem dX7_isBetter_42 : decode cX7_isBetter 42 = .ok (.iload_n 1, 1) := by decide +kernel
theorem dX7_isBetter_43 : decode cX7_isBetter 43 = .ok (.iadd, 1) := by decide +kernel
theorem dX7_isBetter_44 : decode cX7_isBetter 44 = .ok (.iaload, 1) := by decide +kernel
theorem dX7_isBetter_45 : decode cX7_isBetter 45 = .ok (.iastore, 1) := by decide +kernel
theorem dX7_isBetter_46 : decode cX7_isBetter 46 = .ok (.iconst 0, 1) := by decide +kernel
theorem dX7_isBetter_47 : decode cX7_isBetter 47 = .ok (.istore 4, 2) := by decide +kernel
theorem dX7_isBetter_49 : decode cX7_isBetter 49 = .ok (.iload 4, 2) := by decide +kernel
theorem dX7_isBetter_51 : decode cX7_isBetter 51 = .ok (.iload_n 3, 1) := by decide +kernel
theorem dX7_isBetter_52 : decode cX7_isBetter 52 = .ok (.if_icmp .ge 16, 3) := by decide +kernel
theorem dX7_isBetter_55 : decode cX7_isBetter 55 = .ok (.aload_n 0, 1) := by decide +kernel
theorem dX7_isBetter_56 : decode cX7_isBetter 56 = .ok (.sipush 1512, 3) := by decide +kernel
theorem dX7_isBetter_59 : decode cX7_isBetter 59 = .ok (.invokevirtual 172, 3) := by decide +kernel
theorem dX7_isBetter_62 : decode cX7_isBetter 62 = .ok (.iinc 4 1, 3) := by decide +kernel
theorem dX7_isBetter_65 : decode cX7_isBetter 65 = .ok (.goto (-16), 3) := by decide +kernel
theorem dX7_isBetter_68 : decode cX7_isBetter 68 = .ok (.iconst 0, 1) := by decide +kernel
theorem dX7_isBetter_69 : decode cX7_isBetter 69 = .ok (.istore 4, 2) := by decide +kernel
theorem dX7_isBetter_71 : decode cX7_isBetter 71 = .ok (.iconst 0, 1) := by decide +kernel
theorem dX7_isBetter_72 : decode cX7_isBetter 72 = .ok (.istore 5, 2) := by decide +kernel
theorem dX7_isBetter_74 : decode cX7_isBetter 74 = .ok (.iconst 0, 1) := by decide +kernel
theorem dX7_isBetter_75 : decode cX7_isBetter 75 = .ok (.istore 6, 2) := by decide +kernel
theorem dX7_isBetter_77 : decode cX7_isBetter 77 = .ok (.iload 6, 2) := by decide +kernel
theorem dX7_isBetter_79 : decode cX7_isBetter 79 = .ok (.aload_n 0, 1) := by decide +kernel
theorem dX7_isBetter_80 : decode cX7_isBetter 80 = .ok (.getfield 7, 3) := by decide +kernel
theorem dX7_isBetter_83 : decode cX7_isBetter 83 = .ok (.iconst 0, 1) := by decide +kernel
theorem dX7_isBetter_84 : decode cX7_isBetter 84 = .ok (.iaload, 1) := by decide +kernel
theorem dX7_isBetter_85 : decode cX7_isBetter 85 = .ok (.if_icmp .ge 75, 3) := by decide +kernel
theorem dX7_isBetter_88 : decode cX7_isBetter 88 = .ok (.iload 4, 2) := by decide +kernel
theorem dX7_isBetter_90 : decode cX7_isBetter 90 = .ok (.ifCond .ne 24, 3) := by decide +kernel
theorem dX7_isBetter_93 : decode cX7_isBetter 93 = .ok (.aload_n 0, 1) := by decide +kernel
theorem dX7_isBetter_94 : decode cX7_isBetter 94 = .ok (.getfield 7, 3) := by decide +kernel
theorem dX7_isBetter_97 : decode cX7_isBetter 97 = .ok (.sipush 1517, 3) := by decide +kernel
theorem dX7_isBetter_100 : decode cX7_isBetter 100 = .ok (.iload 6, 2) := by decide +kernel
theorem dX7_isBetter_102 : decode cX7_isBetter 102 = .ok (.iadd, 1) := by decide +kernel
theorem dX7_isBetter_103 : decode cX7_isBetter 103 = .ok (.iaload, 1) := by decide +kernel
theorem dX7_isBetter_104 : decode cX7_isBetter 104 = .ok (.aload_n 0, 1) := by decide +kernel
theorem dX7_isBetter_105 : decode cX7_isBetter 105 = .ok (.getfield 38, 3) := by decide +kernel
theorem dX7_isBetter_108 : decode cX7_isBetter 108 = .ok (.iload 6, 2) := by decide +kernel
theorem dX7_isBetter_110 : decode cX7_isBetter 110 = .ok (.iaload, 1) := by decide +kernel
theorem dX7_isBetter_111 : decode cX7_isBetter 111 = .ok (.if_icmp .le 7, 3) := by decide +kernel
theorem dX7_isBetter_114 : decode cX7_isBetter 114 = .ok (.iconst 1, 1) := by decide +kernel
theorem dX7_isBetter_115 : decode cX7_isBetter 115 = .ok (.goto 4, 3) := by decide +kernel
theorem dX7_isBetter_118 : decode cX7_isBetter 118 = .ok (.iconst 0, 1) := by decide +kernel
theorem dX7_isBetter_119 : decode cX7_isBetter 119 = .ok (.istore 4, 2) := by decide +kernel
theorem dX7_isBetter_121 : decode cX7_isBetter 121 = .ok (.iload 5, 2) := by decide +kernel
theorem dX7_isBetter_123 : decode cX7_isBetter 123 = .ok (.ifCond .ne 24, 3) := by decide +kernel
theorem dX7_isBetter_126 : decode cX7_isBetter 126 = .ok (.aload_n 0, 1) := by decide +kernel
theorem dX7_isBetter_127 : decode cX7_isBetter 127 = .ok (.getfield 7, 3) := by decide +kernel
theorem dX7_isBetter_130 : decode cX7_isBetter 130 = .ok (.sipush 1517, 3) := by decide +kernel
theorem dX7_isBetter_133 : decode cX7_isBetter 133 = .ok (.iload 6, 2) := by decide +kernel
theorem dX7_isBetter_135 : decode cX7_isBetter 135 = .ok (.iadd, 1) := by decide +kernel
theorem dX7_isBetter_136 : decode cX7_isBetter 136 = .ok (.iaload, 1) := by decide +kernel
theorem dX7_isBetter_137 : decode cX7_isBetter 137 = .ok (.aload_n 0, 1) := by decide +kernel
theorem dX7_isBetter_138 : decode cX7_isBetter 138 = .ok (.getfield 38, 3) := by decide +kernel
theorem dX7_isBetter_141 : decode cX7_isBetter 141 = .ok (.iload 6, 2) := by decide +kernel
theorem dX7_isBetter_143 : decode cX7_isBetter 143 = .ok (.iaload, 1) := by decide +kernel
theorem dX7_isBetter_144 : decode cX7_isBetter 144 = .ok (.if_icmp .ge 7, 3) := by decide +kernel
theorem dX7_isBetter_147 : decode cX7_isBetter 147 = .ok (.iconst 1, 1) := by decide +kernel
theorem dX7_isBetter_148 : decode cX7_isBetter 148 = .ok (.goto 4, 3) := by decide +kernel
theorem dX7_isBetter_151 : decode cX7_isBetter 151 = .ok (.iconst 0, 1) := by decide +kernel
theorem dX7_isBetter_152 : decode cX7_isBetter 152 = .ok (.istore 5, 2) := by decide +kernel
theorem dX7_isBetter_154 : decode cX7_isBetter 154 = .ok (.iinc 6 1, 3) := by decide +kernel
theorem dX7_isBetter_157 : decode cX7_isBetter 157 = .ok (.goto (-80), 3) := by decide +kernel
theorem dX7_isBetter_160 : decode cX7_isBetter 160 = .ok (.iload 4, 2) := by decide +kernel
theorem dX7_isBetter_162 : decode cX7_isBetter 162 = .ok (.ifCond .eq 12, 3) := by decide +kernel
theorem dX7_isBetter_165 : decode cX7_isBetter 165 = .ok (.iload 5, 2) := by decide +kernel
theorem dX7_isBetter_167 : decode cX7_isBetter 167 = .ok (.ifCond .ne 7, 3) := by decide +kernel
theorem dX7_isBetter_170 : decode cX7_isBetter 170 = .ok (.iconst 1, 1) := by decide +kernel
theorem dX7_isBetter_171 : decode cX7_isBetter 171 = .ok (.goto 4, 3) := by decide +kernel
theorem dX7_isBetter_174 : decode cX7_isBetter 174 = .ok (.iconst 0, 1) := by decide +kernel
theorem dX7_isBetter_175 : decode cX7_isBetter 175 = .ok (.ireturn, 1) := by decide +kernel
theorem dX7_swaps_0 : decode cX7_swaps 0 = .ok (.aload_n 0, 1) := by decide +kernel
theorem dX7_swaps_1 : decode cX7_swaps 1 = .ok (.getfield 136, 3) := by decide +kernel
theorem dX7_swaps_4 : decode cX7_swaps 4 = .ok (.ifCond .ne 6, 3) := by decide +kernel
theorem dX7_swaps_7 : decode cX7_swaps 7 = .ok (.ldc 143, 2) := by decide +kernel
theorem dX7_swaps_9 : decode cX7_swaps 9 = .ok (.ireturn, 1) := by decide +kernel
theorem dX7_swaps_10 : decode cX7_swaps 10 = .ok (.iload_n 1, 1) := by decide +kernel
theorem dX7_swaps_11 : decode cX7_swaps 11 = .ok (.i2l, 1) := by decide +kernel
theorem dX7_swaps_12 : decode cX7_swaps 12 = .ok (.lconst 1, 1) := by decide +kernel
theorem dX7_swaps_13 : decode cX7_swaps 13 = .ok (.ldc2_w 179, 3) := by decide +kernel
theorem dX7_swaps_16 : decode cX7_swaps 16 = .ok (.invokestatic 48, 3) := by decide +kernel
theorem dX7_swaps_19 : decode cX7_swaps 19 = .ok (.ifCond .eq 13, 3) := by decide +kernel
theorem dX7_swaps_22 : decode cX7_swaps 22 = .ok (.iload_n 2, 1) := by decide +kernel
theorem dX7_swaps_23 : decode cX7_swaps 23 = .ok (.i2l, 1) := by decide +kernel
theorem dX7_swaps_24 : decode cX7_swaps 24 = .ok (.lconst 0, 1) := by decide +kernel
theorem dX7_swaps_25 : decode cX7_swaps 25 = .ok (.lconst 1, 1) := by decide +kernel
theorem dX7_swaps_26 : decode cX7_swaps 26 = .ok (.invokestatic 48, 3) := by decide +kernel
theorem dX7_swaps_29 : decode cX7_swaps 29 = .ok (.ifCond .ne 6, 3) := by decide +kernel
theorem dX7_swaps_32 : decode cX7_swaps 32 = .ok (.ldc 58, 2) := by decide +kernel
theorem dX7_swaps_34 : decode cX7_swaps 34 = .ok (.ireturn, 1) := by decide +kernel
theorem dX7_swaps_35 : decode cX7_swaps 35 = .ok (.aload_n 0, 1) := by decide +kernel
theorem dX7_swaps_36 : decode cX7_swaps 36 = .ok (.iload_n 1, 1) := by decide +kernel
theorem dX7_swaps_37 : decode cX7_swaps 37 = .ok (.invokevirtual 197, 3) := by decide +kernel
theorem dX7_swaps_40 : decode cX7_swaps 40 = .ok (.iconst 0, 1) := by decide +kernel
theorem dX7_swaps_41 : decode cX7_swaps 41 = .ok (.istore_n 3, 1) := by decide +kernel
theorem dX7_swaps_42 : decode cX7_swaps 42 = .ok (.iload_n 3, 1) := by decide +kernel
theorem dX7_swaps_43 : decode cX7_swaps 43 = .ok (.iconst 5, 1) := by decide +kernel
theorem dX7_swaps_44 : decode cX7_swaps 44 = .ok (.if_icmp .ge 25, 3) := by decide +kernel
theorem dX7_swaps_47 : decode cX7_swaps 47 = .ok (.aload_n 0, 1) := by decide +kernel
theorem dX7_swaps_48 : decode cX7_swaps 48 = .ok (.getfield 38, 3) := by decide +kernel
theorem dX7_swaps_51 : decode cX7_swaps 51 = .ok (.iload_n 3, 1) := by decide +kernel
theorem dX7_swaps_52 : decode cX7_swaps 52 = .ok (.aload_n 0, 1) := by decide +kernel
theorem dX7_swaps_53 : decode cX7_swaps 53 = .ok (.getfield 7, 3) := by decide +kernel
theorem dX7_swaps_56 : decode cX7_swaps 56 = .ok (.sipush 1517, 3) := by decide +kernel
theorem dX7_swaps_59 : decode cX7_swaps 59 = .ok (.iload_n 3, 1) := by decide +kernel
theorem dX7_swaps_60 : decode cX7_swaps 60 = .ok (.iadd, 1) := by decide +kernel
theorem dX7_swaps_61 : decode cX7_swaps 61 = .ok (.iaload, 1) := by decide +kernel
theorem dX7_swaps_62 : decode cX7_swaps 62 = .ok (.iastore, 1) := by decide +kernel
theorem dX7_swaps_63 : decode cX7_swaps 63 = .ok (.iinc 3 1, 3) := by decide +kernel
theorem dX7_swaps_66 : decode cX7_swaps 66 = .ok (.goto (-24), 3) := by decide +kernel
theorem dX7_swaps_69 : decode cX7_swaps 69 = .ok (.iconst 0, 1) := by decide +kernel
theorem dX7_swaps_70 : decode cX7_swaps 70 = .ok (.istore_n 3, 1) := by decide +kernel
theorem dX7_swaps_71 : decode cX7_swaps 71 = .ok (.ldc 144, 2) := by decide +kernel
theorem dX7_swaps_73 : decode cX7_swaps 73 = .ok (.istore 4, 2) := by decide +kernel
theorem dX7_swaps_75 : decode cX7_swaps 75 = .ok (.aload_n 0, 1) := by decide +kernel
theorem dX7_swaps_76 : decode cX7_swaps 76 = .ok (.getfield 7, 3) := by decide +kernel
theorem dX7_swaps_79 : decode cX7_swaps 79 = .ok (.iconst 1, 1) := by decide +kernel
theorem dX7_swaps_80 : decode cX7_swaps 80 = .ok (.iaload, 1) := by decide +kernel
theorem dX7_swaps_81 : decode cX7_swaps 81 = .ok (.iconst 1, 1) := by decide +kernel
theorem dX7_swaps_82 : decode cX7_swaps 82 = .ok (.isub, 1) := by decide +kernel
theorem dX7_swaps_83 : decode cX7_swaps 83 = .ok (.istore 5, 2) := by decide +kernel
theorem dX7_swaps_85 : decode cX7_swaps 85 = .ok (.iload 5, 2) := by decide +kernel
theorem dX7_swaps_87 : decode cX7_swaps 87 = .ok (.ifCond .lt 76, 3) := by decide +kernel
theorem dX7_swaps_90 : decode cX7_swaps 90 = .ok (.aload_n 0, 1) := by decide +kernel
theorem dX7_swaps_91 : decode cX7_swaps 91 = .ok (.getfield 7, 3) := by decide +kernel
theorem dX7_swaps_94 : decode cX7_swaps 94 = .ok (.iconst 1, 1) := by decide +kernel
theorem dX7_swaps_95 : decode cX7_swaps 95 = .ok (.iaload, 1) := by decide +kernel
theorem dX7_swaps_96 : decode cX7_swaps 96 = .ok (.iconst 1, 1) := by decide +kernel
theorem dX7_swaps_97 : decode cX7_swaps 97 = .ok (.isub, 1) := by decide +kernel
theorem dX7_swaps_98 : decode cX7_swaps 98 = .ok (.istore 6, 2) := by decide +kernel
theorem dX7_swaps_100 : decode cX7_swaps 100 = .ok (.iload 6, 2) := by decide +kernel
theorem dX7_swaps_102 : decode cX7_swaps 102 = .ok (.iload 5, 2) := by decide +kernel
theorem dX7_swaps_104 : decode cX7_swaps 104 = .ok (.if_icmp .le 53, 3) := by decide +kernel
theorem dX7_swaps_107 : decode cX7_swaps 107 = .ok (.aload_n 0, 1) := by decide +kernel
theorem dX7_swaps_108 : decode cX7_swaps 108 = .ok (.iload 5, 2) := by decide +kernel
theorem dX7_swaps_110 : decode cX7_swaps 110 = .ok (.iload 6, 2) := by decide +kernel
theorem dX7_swaps_112 : decode cX7_swaps 112 = .ok (.iload_n 1, 1) := by decide +kernel
theorem dX7_swaps_113 : decode cX7_swaps 113 = .ok (.invokevirtual 221, 3) := by decide +kernel
theorem dX7_swaps_116 : decode cX7_swaps 116 = .ok (.istore 7, 2) := by decide +kernel
theorem dX7_swaps_118 : decode cX7_swaps 118 = .ok (.iload_n 3, 1) := by decide +kernel
theorem dX7_swaps_119 : decode cX7_swaps 119 = .ok (.iload 7, 2) := by decide +kernel
theorem dX7_swaps_121 : decode cX7_swaps 121 = .ok (.ifCond .eq 7, 3) := by decide +kernel
theorem dX7_swaps_124 : decode cX7_swaps 124 = .ok (.iconst 1, 1) := by decide +kernel
theorem dX7_swaps_125 : decode cX7_swaps 125 = .ok (.goto 4, 3) := by decide +kernel
theorem dX7_swaps_128 : decode cX7_swaps 128 = .ok (.iconst 0, 1) := by decide +kernel
theorem dX7_swaps_129 : decode cX7_swaps 129 = .ok (.iadd, 1) := by decide +kernel
theorem dX7_swaps_130 : decode cX7_swaps 130 = .ok (.istore_n 3, 1) := by decide +kernel
theorem dX7_swaps_131 : decode cX7_swaps 131 = .ok (.iload 7, 2) := by decide +kernel
theorem dX7_swaps_133 : decode cX7_swaps 133 = .ok (.ifCond .eq 14, 3) := by decide +kernel
theorem dX7_swaps_136 : decode cX7_swaps 136 = .ok (.bipush 10, 2) := by decide +kernel
theorem dX7_swaps_138 : decode cX7_swaps 138 = .ok (.iload 5, 2) := by decide +kernel
theorem dX7_swaps_140 : decode cX7_swaps 140 = .ok (.imul, 1) := by decide +kernel
theorem dX7_swaps_141 : decode cX7_swaps 141 = .ok (.iload 6, 2) := by decide +kernel
theorem dX7_swaps_143 : decode cX7_swaps 143 = .ok (.iadd, 1) := by decide +kernel
theorem dX7_swaps_144 : decode cX7_swaps 144 = .ok (.goto 5, 3) := by decide +kernel
theorem dX7_swaps_147 : decode cX7_swaps 147 = .ok (.iload 4, 2) := by decide +kernel
theorem dX7_swaps_149 : decode cX7_swaps 149 = .ok (.istore 4, 2) := by decide +kernel
theorem dX7_swaps_151 : decode cX7_swaps 151 = .ok (.iinc 6 (-1), 3) := by decide +kernel
theorem dX7_swaps_154 : decode cX7_swaps 154 = .ok (.goto (-54), 3) := by decide +kernel
theorem dX7_swaps_157 : decode cX7_swaps 157 = .ok (.iinc 5 (-1), 3) := by decide +kernel
theorem dX7_swaps_160 : decode cX7_swaps 160 = .ok (.goto (-75), 3) := by decide +kernel
theorem dX7_swaps_163 : decode cX7_swaps 163 = .ok (.iload_n 2, 1) := by decide +kernel
theorem dX7_swaps_164 : decode cX7_swaps 164 = .ok (.ifCond .ne 7, 3) := by decide +kernel
theorem dX7_swaps_167 : decode cX7_swaps 167 = .ok (.iload_n 3, 1) := by decide +kernel
theorem dX7_swaps_168 : decode cX7_swaps 168 = .ok (.goto 5, 3) := by decide +kernel
theorem dX7_swaps_171 : decode cX7_swaps 171 = .ok (.iload 4, 2) := by decide +kernel
theorem dX7_swaps_173 : decode cX7_swaps 173 = .ok (.ireturn, 1) := by decide +kernel
theorem dX7_soon_0 : decode cX7_soon 0 = .ok (.aload_n 0, 1) := by decide +kernel
theorem dX7_soon_1 : decode cX7_soon 1 = .ok (.iload_n 1, 1) := by decide +kernel
theorem dX7_soon_2 : decode cX7_soon 2 = .ok (.invokevirtual 184, 3) := by decide +kernel
theorem dX7_soon_5 : decode cX7_soon 5 = .ok (.ifCond .eq 13, 3) := by decide +kernel
theorem dX7_soon_8 : decode cX7_soon 8 = .ok (.iload_n 2, 1) := by decide +kernel
theorem dX7_soon_9 : decode cX7_soon 9 = .ok (.i2l, 1) := by decide +kernel
theorem dX7_soon_10 : decode cX7_soon 10 = .ok (.lconst 0, 1) := by decide +kernel
theorem dX7_soon_11 : decode cX7_soon 11 = .ok (.lconst 1, 1) := by decide +kernel
theorem dX7_soon_12 : decode cX7_soon 12 = .ok (.invokestatic 48, 3) := by decide +kernel
theorem dX7_soon_15 : decode cX7_soon 15 = .ok (.ifCond .ne 6, 3) := by decide +kernel
theorem dX7_soon_18 : decode cX7_soon 18 = .ok (.ldc 58, 2) := by decide +kernel
theorem dX7_soon_20 : decode cX7_soon 20 = .ok (.ireturn, 1) := by decide +kernel
theorem dX7_soon_21 : decode cX7_soon 21 = .ok (.ldc 144, 2) := by decide +kernel
theorem dX7_soon_23 : decode cX7_soon 23 = .ok (.istore_n 3, 1) := by decide +kernel
theorem dX7_soon_24 : decode cX7_soon 24 = .ok (.ldc 144, 2) := by decide +kernel
theorem dX7_soon_26 : decode cX7_soon 26 = .ok (.istore 4, 2) := by decide +kernel
theorem dX7_soon_28 : decode cX7_soon 28 = .ok (.iconst 0, 1) := by decide +kernel
theorem dX7_soon_29 : decode cX7_soon 29 = .ok (.istore 5, 2) := by decide +kernel
theorem dX7_soon_31 : decode cX7_soon 31 = .ok (.iload 5, 2) := by decide +kernel
theorem dX7_soon_33 : decode cX7_soon 33 = .ok (.aload_n 0, 1) := by decide +kernel
theorem dX7_soon_34 : decode cX7_soon 34 = .ok (.getfield 7, 3) := by decide +kernel
theorem dX7_soon_37 : decode cX7_soon 37 = .ok (.iconst 1, 1) := by decide +kernel
theorem dX7_soon_38 : decode cX7_soon 38 = .ok (.iaload, 1) := by decide +kernel
theorem dX7_soon_39 : decode cX7_soon 39 = .ok (.if_icmp .ge 90, 3) := by decide +kernel
theorem dX7_soon_42 : decode cX7_soon 42 = .ok (.aload_n 0, 1) := by decide +kernel
theorem dX7_soon_43 : decode cX7_soon 43 = .ok (.iconst 0, 1) := by decide +kernel
theorem dX7_soon_44 : decode cX7_soon 44 = .ok (.sipush 1512, 3) := by decide +kernel
theorem dX7_soon_47 : decode cX7_soon 47 = .ok (.invokevirtual 132, 3) := by decide +kernel
theorem dX7_soon_50 : decode cX7_soon 50 = .ok (.aload_n 0, 1) := by decide +kernel
theorem dX7_soon_51 : decode cX7_soon 51 = .ok (.getfield 7, 3) := by decide +kernel
theorem dX7_soon_54 : decode cX7_soon 54 = .ok (.sipush 1544, 3) := by decide +kernel
theorem dX7_soon_57 : decode cX7_soon 57 = .ok (.iload 5, 2) := by decide +kernel
theorem dX7_soon_59 : decode cX7_soon 59 = .ok (.iadd, 1) := by decide +kernel
theorem dX7_soon_60 : decode cX7_soon 60 = .ok (.iload_n 1, 1) := by decide +kernel
theorem dX7_soon_61 : decode cX7_soon 61 = .ok (.iastore, 1) := by decide +kernel
theorem dX7_soon_62 : decode cX7_soon 62 = .ok (.aload_n 0, 1) := by decide +kernel
theorem dX7_soon_63 : decode cX7_soon 63 = .ok (.iload_n 1, 1) := by decide +kernel
theorem dX7_soon_64 : decode cX7_soon 64 = .ok (.invokevirtual 200, 3) := by decide +kernel
theorem dX7_soon_67 : decode cX7_soon 67 = .ok (.istore 6, 2) := by decide +kernel
theorem dX7_soon_69 : decode cX7_soon 69 = .ok (.iload 6, 2) := by decide +kernel
theorem dX7_soon_71 : decode cX7_soon 71 = .ok (.ldc 144, 2) := by decide +kernel
theorem dX7_soon_73 : decode cX7_soon 73 = .ok (.if_icmp .eq 21, 3) := by decide +kernel
theorem dX7_soon_76 : decode cX7_soon 76 = .ok (.iload 4, 2) := by decide +kernel
theorem dX7_soon_78 : decode cX7_soon 78 = .ok (.ldc 144, 2) := by decide +kernel
theorem dX7_soon_80 : decode cX7_soon 80 = .ok (.if_icmp .eq 10, 3) := by decide +kernel
theorem dX7_soon_83 : decode cX7_soon 83 = .ok (.iload 6, 2) := by decide +kernel
theorem dX7_soon_85 : decode cX7_soon 85 = .ok (.iload 4, 2) := by decide +kernel
theorem dX7_soon_87 : decode cX7_soon 87 = .ok (.if_icmp .ge 7, 3) := by decide +kernel
theorem dX7_soon_90 : decode cX7_soon 90 = .ok (.iconst 1, 1) := by decide +kernel
theorem dX7_soon_91 : decode cX7_soon 91 = .ok (.goto 4, 3) := by decide +kernel
theorem dX7_soon_94 : decode cX7_soon 94 = .ok (.iconst 0, 1) := by decide +kernel
theorem dX7_soon_95 : decode cX7_soon 95 = .ok (.istore 7, 2) := by decide +kernel
theorem dX7_soon_97 : decode cX7_soon 97 = .ok (.iload 7, 2) := by decide +kernel
theorem dX7_soon_99 : decode cX7_soon 99 = .ok (.ifCond .eq 8, 3) := by decide +kernel
theorem dX7_soon_102 : decode cX7_soon 102 = .ok (.iload 5, 2) := by decide +kernel
theorem dX7_soon_104 : decode cX7_soon 104 = .ok (.goto 4, 3) := by decide +kernel
theorem dX7_soon_107 : decode cX7_soon 107 = .ok (.iload_n 3, 1) := by decide +kernel
theorem dX7_soon_108 : decode cX7_soon 108 = .ok (.istore_n 3, 1) := by decide +kernel
theorem dX7_soon_109 : decode cX7_soon 109 = .ok (.iload 7, 2) := by decide +kernel
theorem dX7_soon_111 : decode cX7_soon 111 = .ok (.ifCond .eq 8, 3) := by decide +kernel
theorem dX7_soon_114 : decode cX7_soon 114 = .ok (.iload 6, 2) := by decide +kernel
theorem dX7_soon_116 : decode cX7_soon 116 = .ok (.goto 5, 3) := by decide +kernel
theorem dX7_soon_119 : decode cX7_soon 119 = .ok (.iload 4, 2) := by decide +kernel
theorem dX7_soon_121 : decode cX7_soon 121 = .ok (.istore 4, 2) := by decide +kernel
theorem dX7_soon_123 : decode cX7_soon 123 = .ok (.iinc 5 1, 3) := by decide +kernel
theorem dX7_soon_126 : decode cX7_soon 126 = .ok (.goto (-95), 3) := by decide +kernel
theorem dX7_soon_129 : decode cX7_soon 129 = .ok (.iload_n 2, 1) := by decide +kernel
theorem dX7_soon_130 : decode cX7_soon 130 = .ok (.ifCond .ne 7, 3) := by decide +kernel
theorem dX7_soon_133 : decode cX7_soon 133 = .ok (.iload_n 3, 1) := by decide +kernel
theorem dX7_soon_134 : decode cX7_soon 134 = .ok (.goto 5, 3) := by decide +kernel
theorem dX7_soon_137 : decode cX7_soon 137 = .ok (.iload 4, 2) := by decide +kernel
theorem dX7_soon_139 : decode cX7_soon 139 = .ok (.ireturn, 1) := by decide +kernel
theorem dX7_noItems_0 : decode cX7_noItems 0 = .ok (.aload_n 0, 1) := by decide +kernel
theorem dX7_noItems_1 : decode cX7_noItems 1 = .ok (.iload_n 1, 1) := by decide +kernel
theorem dX7_noItems_2 : decode cX7_noItems 2 = .ok (.invokevirtual 184, 3) := by decide +kernel
theorem dX7_noItems_5 : decode cX7_noItems 5 = .ok (.ifCond .eq 31, 3) := by decide +kernel
theorem dX7_noItems_8 : decode cX7_noItems 8 = .ok (.aload_n 0, 1) := by decide +kernel
theorem dX7_noItems_9 : decode cX7_noItems 9 = .ok (.iload_n 2, 1) := by decide +kernel
theorem dX7_noItems_10 : decode cX7_noItems 10 = .ok (.invokevirtual 176, 3) := by decide +kernel
theorem dX7_noItems_13 : decode cX7_noItems 13 = .ok (.ifCond .eq 23, 3) := by decide +kernel
theorem dX7_noItems_16 : decode cX7_noItems 16 = .ok (.iload_n 3, 1) := by decide +kernel
theorem dX7_noItems_17 : decode cX7_noItems 17 = .ok (.invokestatic 52, 3) := by decide +kernel
theorem dX7_noItems_20 : decode cX7_noItems 20 = .ok (.ifCond .eq 16, 3) := by decide +kernel
theorem dX7_noItems_23 : decode cX7_noItems 23 = .ok (.iload 5, 2) := by decide +kernel
theorem dX7_noItems_25 : decode cX7_noItems 25 = .ok (.i2l, 1) := by decide +kernel
theorem dX7_noItems_26 : decode cX7_noItems 26 = .ok (.lconst 1, 1) := by decide +kernel
theorem dX7_noItems_27 : decode cX7_noItems 27 = .ok (.ldc2_w 224, 3) := by decide +kernel
theorem dX7_noItems_30 : decode cX7_noItems 30 = .ok (.invokestatic 48, 3) := by decide +kernel
theorem dX7_noItems_33 : decode cX7_noItems 33 = .ok (.ifCond .ne 6, 3) := by decide +kernel
theorem dX7_noItems_36 : decode cX7_noItems 36 = .ok (.ldc 58, 2) := by decide +kernel
theorem dX7_noItems_38 : decode cX7_noItems 38 = .ok (.ireturn, 1) := by decide +kernel
theorem dX7_noItems_39 : decode cX7_noItems 39 = .ok (.aload_n 0, 1) := by decide +kernel
theorem dX7_noItems_40 : decode cX7_noItems 40 = .ok (.getfield 20, 3) := by decide +kernel
theorem dX7_noItems_43 : decode cX7_noItems 43 = .ok (.iload_n 3, 1) := by decide +kernel
theorem dX7_noItems_44 : decode cX7_noItems 44 = .ok (.iaload, 1) := by decide +kernel
theorem dX7_noItems_45 : decode cX7_noItems 45 = .ok (.ifCond .ge 11, 3) := by decide +kernel
theorem dX7_noItems_48 : decode cX7_noItems 48 = .ok (.aload_n 0, 1) := by decide +kernel
theorem dX7_noItems_49 : decode cX7_noItems 49 = .ok (.iconst 1, 1) := by decide +kernel
theorem dX7_noItems_50 : decode cX7_noItems 50 = .ok (.invokevirtual 59, 3) := by decide +kernel
theorem dX7_noItems_53 : decode cX7_noItems 53 = .ok (.goto 24, 3) := by decide +kernel
theorem dX7_noItems_56 : decode cX7_noItems 56 = .ok (.aload_n 0, 1) := by decide +kernel
theorem dX7_noItems_57 : decode cX7_noItems 57 = .ok (.iload_n 3, 1) := by decide +kernel
theorem dX7_noItems_58 : decode cX7_noItems 58 = .ok (.iload 4, 2) := by decide +kernel
theorem dX7_noItems_60 : decode cX7_noItems 60 = .ok (.iload 5, 2) := by decide +kernel
theorem dX7_noItems_62 : decode cX7_noItems 62 = .ok (.invokevirtual 70, 3) := by decide +kernel
theorem dX7_noItems_65 : decode cX7_noItems 65 = .ok (.ifCond .eq 7, 3) := by decide +kernel
theorem dX7_noItems_68 : decode cX7_noItems 68 = .ok (.iconst 0, 1) := by decide +kernel
theorem dX7_noItems_69 : decode cX7_noItems 69 = .ok (.goto 8, 3) := by decide +kernel
theorem dX7_noItems_72 : decode cX7_noItems 72 = .ok (.aload_n 0, 1) := by decide +kernel
theorem dX7_noItems_73 : decode cX7_noItems 73 = .ok (.iconst 2, 1) := by decide +kernel
theorem dX7_noItems_74 : decode cX7_noItems 74 = .ok (.invokevirtual 59, 3) := by decide +kernel
theorem dX7_noItems_77 : decode cX7_noItems 77 = .ok (.ireturn, 1) := by decide +kernel
theorem dX7_isFedSo_0 : decode cX7_isFedSo 0 = .ok (.aload_n 0, 1) := by decide +kernel
theorem dX7_isFedSo_1 : decode cX7_isFedSo 1 = .ok (.iconst 0, 1) := by decide +kernel
theorem dX7_isFedSo_2 : decode cX7_isFedSo 2 = .ok (.sipush 1512, 3) := by decide +kernel
theorem dX7_isFedSo_5 : decode cX7_isFedSo 5 = .ok (.invokevirtual 132, 3) := by decide +kernel
theorem dX7_isFedSo_8 : decode cX7_isFedSo 8 = .ok (.aload_n 0, 1) := by decide +kernel
theorem dX7_isFedSo_9 : decode cX7_isFedSo 9 = .ok (.getfield 7, 3) := by decide +kernel
theorem dX7_isFedSo_12 : decode cX7_isFedSo 12 = .ok (.sipush 1512, 3) := by decide +kernel
theorem dX7_isFedSo_15 : decode cX7_isFedSo 15 = .ok (.iload_n 2, 1) := by decide +kernel
theorem dX7_isFedSo_16 : decode cX7_isFedSo 16 = .ok (.iadd, 1) := by decide +kernel
theorem dX7_isFedSo_17 : decode cX7_isFedSo 17 = .ok (.iload_n 3, 1) := by decide +kernel
theorem dX7_isFedSo_18 : decode cX7_isFedSo 18 = .ok (.iastore, 1) := by decide +kernel
theorem dX7_isFedSo_19 : decode cX7_isFedSo 19 = .ok (.iconst 0, 1) := by decide +kernel
theorem dX7_isFedSo_20 : decode cX7_isFedSo 20 = .ok (.istore 7, 2) := by decide +kernel
theorem dX7_isFedSo_22 : decode cX7_isFedSo 22 = .ok (.iload 7, 2) := by decide +kernel
theorem dX7_isFedSo_24 : decode cX7_isFedSo 24 = .ok (.iload 6, 2) := by decide +kernel
theorem dX7_isFedSo_26 : decode cX7_isFedSo 26 = .ok (.if_icmp .ge 47, 3) := by decide +kernel
theorem dX7_isFedSo_29 : decode cX7_isFedSo 29 = .ok (.aload_n 0, 1) := by decide +kernel
theorem dX7_isFedSo_30 : decode cX7_isFedSo 30 = .ok (.sipush 1512, 3) := by decide +kernel
theorem dX7_isFedSo_33 : decode cX7_isFedSo 33 = .ok (.invokevirtual 172, 3) := by decide +kernel
theorem dX7_isFedSo_36 : decode cX7_isFedSo 36 = .ok (.aload_n 0, 1) := by decide +kernel
theorem dX7_isFedSo_37 : decode cX7_isFedSo 37 = .ok (.getfield 7, 3) := by decide +kernel
theorem dX7_isFedSo_40 : decode cX7_isFedSo 40 = .ok (.sipush 1517, 3) := by decide +kernel
theorem dX7_isFedSo_43 : decode cX7_isFedSo 43 = .ok (.iload_n 1, 1) := by decide +kernel
theorem dX7_isFedSo_44 : decode cX7_isFedSo 44 = .ok (.iadd, 1) := by decide +kernel
theorem dX7_isFedSo_45 : decode cX7_isFedSo 45 = .ok (.iaload, 1) := by decide +kernel
theorem dX7_isFedSo_46 : decode cX7_isFedSo 46 = .ok (.aload_n 0, 1) := by decide +kernel
theorem dX7_isFedSo_47 : decode cX7_isFedSo 47 = .ok (.getfield 23, 3) := by decide +kernel
theorem dX7_isFedSo_50 : decode cX7_isFedSo 50 = .ok (.bipush 40, 2) := by decide +kernel
theorem dX7_isFedSo_52 : decode cX7_isFedSo 52 = .ok (.iload 4, 2) := by decide +kernel
theorem dX7_isFedSo_54 : decode cX7_isFedSo 54 = .ok (.imul, 1) := by decide +kernel
theorem dX7_isFedSo_55 : decode cX7_isFedSo 55 = .ok (.iload 5, 2) := by decide +kernel
theorem dX7_isFedSo_57 : decode cX7_isFedSo 57 = .ok (.iadd, 1) := by decide +kernel
theorem dX7_isFedSo_58 : decode cX7_isFedSo 58 = .ok (.iload 7, 2) := by decide +kernel
theorem dX7_isFedSo_60 : decode cX7_isFedSo 60 = .ok (.iadd, 1) := by decide +kernel
theorem dX7_isFedSo_61 : decode cX7_isFedSo 61 = .ok (.iaload, 1) := by decide +kernel
theorem dX7_isFedSo_62 : decode cX7_isFedSo 62 = .ok (.if_icmp .eq 5, 3) := by decide +kernel
theorem dX7_isFedSo_65 : decode cX7_isFedSo 65 = .ok (.iconst 0, 1) := by decide +kernel
theorem dX7_isFedSo_66 : decode cX7_isFedSo 66 = .ok (.ireturn, 1) := by decide +kernel
theorem dX7_isFedSo_67 : decode cX7_isFedSo 67 = .ok (.iinc 7 1, 3) := by decide +kernel
theorem dX7_isFedSo_70 : decode cX7_isFedSo 70 = .ok (.goto (-48), 3) := by decide +kernel
theorem dX7_isFedSo_73 : decode cX7_isFedSo 73 = .ok (.iconst 1, 1) := by decide +kernel
theorem dX7_isFedSo_74 : decode cX7_isFedSo 74 = .ok (.ireturn, 1) := by decide +kernel
theorem dX7_who_0 : decode cX7_who 0 = .ok (.aload_n 0, 1) := by decide +kernel
theorem dX7_who_1 : decode cX7_who 1 = .ok (.iload_n 1, 1) := by decide +kernel
theorem dX7_who_2 : decode cX7_who 2 = .ok (.iload_n 2, 1) := by decide +kernel
theorem dX7_who_3 : decode cX7_who 3 = .ok (.iload_n 3, 1) := by decide +kernel
theorem dX7_who_4 : decode cX7_who 4 = .ok (.iload 4, 2) := by decide +kernel
theorem dX7_who_6 : decode cX7_who 6 = .ok (.iload 5, 2) := by decide +kernel
theorem dX7_who_8 : decode cX7_who 8 = .ok (.invokevirtual 226, 3) := by decide +kernel
theorem dX7_who_11 : decode cX7_who 11 = .ok (.istore 6, 2) := by decide +kernel
theorem dX7_who_13 : decode cX7_who 13 = .ok (.iload 6, 2) := by decide +kernel
theorem dX7_who_15 : decode cX7_who 15 = .ok (.ifCond .eq 6, 3) := by decide +kernel
theorem dX7_who_18 : decode cX7_who 18 = .ok (.iload 6, 2) := by decide +kernel
theorem dX7_who_20 : decode cX7_who 20 = .ok (.ireturn, 1) := by decide +kernel
theorem dX7_who_21 : decode cX7_who 21 = .ok (.iconst 0, 1) := by decide +kernel
theorem dX7_who_22 : decode cX7_who 22 = .ok (.istore 7, 2) := by decide +kernel
theorem dX7_who_24 : decode cX7_who 24 = .ok (.iconst 1, 1) := by decide +kernel
theorem dX7_who_25 : decode cX7_who 25 = .ok (.istore 8, 2) := by decide +kernel
theorem dX7_who_27 : decode cX7_who 27 = .ok (.iload 8, 2) := by decide +kernel
theorem dX7_who_29 : decode cX7_who 29 = .ok (.bipush 6, 2) := by decide +kernel
theorem dX7_who_31 : decode cX7_who 31 = .ok (.if_icmp .ge 41, 3) := by decide +kernel
theorem dX7_who_34 : decode cX7_who 34 = .ok (.iload 7, 2) := by decide +kernel
theorem dX7_who_36 : decode cX7_who 36 = .ok (.aload_n 0, 1) := by decide +kernel
theorem dX7_who_37 : decode cX7_who 37 = .ok (.iload_n 1, 1) := by decide +kernel
theorem dX7_who_38 : decode cX7_who 38 = .ok (.bipush 20, 2) := by decide +kernel
theorem dX7_who_40 : decode cX7_who 40 = .ok (.iload_n 2, 1) := by decide +kernel
theorem dX7_who_41 : decode cX7_who 41 = .ok (.iadd, 1) := by decide +kernel
theorem dX7_who_42 : decode cX7_who 42 = .ok (.iload 8, 2) := by decide +kernel
theorem dX7_who_44 : decode cX7_who 44 = .ok (.iload_n 3, 1) := by decide +kernel
theorem dX7_who_45 : decode cX7_who 45 = .ok (.iload 4, 2) := by decide +kernel
theorem dX7_who_47 : decode cX7_who 47 = .ok (.iload 5, 2) := by decide +kernel
theorem dX7_who_49 : decode cX7_who 49 = .ok (.invokevirtual 230, 3) := by decide +kernel
theorem dX7_who_52 : decode cX7_who 52 = .ok (.ifCond .eq 10, 3) := by decide +kernel
theorem dX7_who_55 : decode cX7_who 55 = .ok (.iconst 1, 1) := by decide +kernel
theorem dX7_who_56 : decode cX7_who 56 = .ok (.iload 8, 2) := by decide +kernel
theorem dX7_who_58 : decode cX7_who 58 = .ok (.ishl, 1) := by decide +kernel
theorem dX7_who_59 : decode cX7_who 59 = .ok (.goto 4, 3) := by decide +kernel
theorem dX7_who_62 : decode cX7_who 62 = .ok (.iconst 0, 1) := by decide +kernel
theorem dX7_who_63 : decode cX7_who 63 = .ok (.ior, 1) := by decide +kernel
theorem dX7_who_64 : decode cX7_who 64 = .ok (.istore 7, 2) := by decide +kernel
theorem dX7_who_66 : decode cX7_who 66 = .ok (.iinc 8 1, 3) := by decide +kernel
theorem dX7_who_69 : decode cX7_who 69 = .ok (.goto (-42), 3) := by decide +kernel
theorem dX7_who_72 : decode cX7_who 72 = .ok (.aload_n 0, 1) := by decide +kernel
theorem dX7_who_73 : decode cX7_who 73 = .ok (.iload 7, 2) := by decide +kernel
theorem dX7_who_75 : decode cX7_who 75 = .ok (.invokevirtual 63, 3) := by decide +kernel
theorem dX7_who_78 : decode cX7_who 78 = .ok (.ireturn, 1) := by decide +kernel
theorem dX7_firsts_0 : decode cX7_firsts 0 = .ok (.aload_n 0, 1) := by decide +kernel
theorem dX7_firsts_1 : decode cX7_firsts 1 = .ok (.iload_n 1, 1) := by decide +kernel
theorem dX7_firsts_2 : decode cX7_firsts 2 = .ok (.iload_n 2, 1) := by decide +kernel
theorem dX7_firsts_3 : decode cX7_firsts 3 = .ok (.iload_n 3, 1) := by decide +kernel
theorem dX7_firsts_4 : decode cX7_firsts 4 = .ok (.iload 4, 2) := by decide +kernel
theorem dX7_firsts_6 : decode cX7_firsts 6 = .ok (.iload 5, 2) := by decide +kernel
theorem dX7_firsts_8 : decode cX7_firsts 8 = .ok (.invokevirtual 226, 3) := by decide +kernel
theorem dX7_firsts_11 : decode cX7_firsts 11 = .ok (.istore 6, 2) := by decide +kernel
theorem dX7_firsts_13 : decode cX7_firsts 13 = .ok (.iload 6, 2) := by decide +kernel
theorem dX7_firsts_15 : decode cX7_firsts 15 = .ok (.ifCond .eq 6, 3) := by decide +kernel
theorem dX7_firsts_18 : decode cX7_firsts 18 = .ok (.iload 6, 2) := by decide +kernel
theorem dX7_firsts_20 : decode cX7_firsts 20 = .ok (.ireturn, 1) := by decide +kernel
theorem dX7_firsts_21 : decode cX7_firsts 21 = .ok (.iconst 0, 1) := by decide +kernel
theorem dX7_firsts_22 : decode cX7_firsts 22 = .ok (.istore 7, 2) := by decide +kernel
theorem dX7_firsts_24 : decode cX7_firsts 24 = .ok (.iconst 0, 1) := by decide +kernel
theorem dX7_firsts_25 : decode cX7_firsts 25 = .ok (.istore 8, 2) := by decide +kernel
theorem dX7_firsts_27 : decode cX7_firsts 27 = .ok (.iload 8, 2) := by decide +kernel
theorem dX7_firsts_29 : decode cX7_firsts 29 = .ok (.aload_n 0, 1) := by decide +kernel
theorem dX7_firsts_30 : decode cX7_firsts 30 = .ok (.getfield 7, 3) := by decide +kernel
theorem dX7_firsts_33 : decode cX7_firsts 33 = .ok (.iconst 0, 1) := by decide +kernel
theorem dX7_firsts_34 : decode cX7_firsts 34 = .ok (.iaload, 1) := by decide +kernel
theorem dX7_firsts_35 : decode cX7_firsts 35 = .ok (.if_icmp .ge 41, 3) := by decide +kernel
theorem dX7_firsts_38 : decode cX7_firsts 38 = .ok (.iload 7, 2) := by decide +kernel
theorem dX7_firsts_40 : decode cX7_firsts 40 = .ok (.aload_n 0, 1) := by decide +kernel
theorem dX7_firsts_41 : decode cX7_firsts 41 = .ok (.iload_n 1, 1) := by decide +kernel
theorem dX7_firsts_42 : decode cX7_firsts 42 = .ok (.bipush 32, 2) := by decide +kernel
theorem dX7_firsts_44 : decode cX7_firsts 44 = .ok (.iload_n 2, 1) := by decide +kernel
theorem dX7_firsts_45 : decode cX7_firsts 45 = .ok (.iadd, 1) := by decide +kernel
theorem dX7_firsts_46 : decode cX7_firsts 46 = .ok (.iload 8, 2) := by decide +kernel
theorem dX7_firsts_48 : decode cX7_firsts 48 = .ok (.iload_n 3, 1) := by decide +kernel
theorem dX7_firsts_49 : decode cX7_firsts 49 = .ok (.iload 4, 2) := by decide +kernel
theorem dX7_firsts_51 : decode cX7_firsts 51 = .ok (.iload 5, 2) := by decide +kernel
theorem dX7_firsts_53 : decode cX7_firsts 53 = .ok (.invokevirtual 230, 3) := by decide +kernel
theorem dX7_firsts_56 : decode cX7_firsts 56 = .ok (.ifCond .eq 10, 3) := by decide +kernel
theorem dX7_firsts_59 : decode cX7_firsts 59 = .ok (.iconst 1, 1) := by decide +kernel
theorem dX7_firsts_60 : decode cX7_firsts 60 = .ok (.iload 8, 2) := by decide +kernel
theorem dX7_firsts_62 : decode cX7_firsts 62 = .ok (.ishl, 1) := by decide +kernel
theorem dX7_firsts_63 : decode cX7_firsts 63 = .ok (.goto 4, 3) := by decide +kernel
theorem dX7_firsts_66 : decode cX7_firsts 66 = .ok (.iconst 0, 1) := by decide +kernel
theorem dX7_firsts_67 : decode cX7_firsts 67 = .ok (.ior, 1) := by decide +kernel
