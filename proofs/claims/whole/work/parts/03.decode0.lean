theorem dX0_init_0 : decode cX0_init 0 = .ok (.aload_n 0, 1) := by decide +kernel
theorem dX0_init_1 : decode cX0_init 1 = .ok (.invokespecial 3, 3) := by decide +kernel
theorem dX0_init_4 : decode cX0_init 4 = .ok (.aload_n 0, 1) := by decide +kernel
theorem dX0_init_5 : decode cX0_init 5 = .ok (.bipush 24, 2) := by decide +kernel
theorem dX0_init_7 : decode cX0_init 7 = .ok (.bipush 56, 2) := by decide +kernel
theorem dX0_init_9 : decode cX0_init 9 = .ok (.multianewarray 11 2, 4) := by decide +kernel
theorem dX0_init_13 : decode cX0_init 13 = .ok (.putfield 13, 3) := by decide +kernel
theorem dX0_init_16 : decode cX0_init 16 = .ok (.return_, 1) := by decide +kernel
theorem dX0_forget_0 : decode cX0_forget 0 = .ok (.aload_n 0, 1) := by decide +kernel
theorem dX0_forget_1 : decode cX0_forget 1 = .ok (.iconst 0, 1) := by decide +kernel
theorem dX0_forget_2 : decode cX0_forget 2 = .ok (.putfield 18, 3) := by decide +kernel
theorem dX0_forget_5 : decode cX0_forget 5 = .ok (.return_, 1) := by decide +kernel
theorem dX0_keep_0 : decode cX0_keep 0 = .ok (.aload_n 1, 1) := by decide +kernel
theorem dX0_keep_1 : decode cX0_keep 1 = .ok (.aload_n 0, 1) := by decide +kernel
theorem dX0_keep_2 : decode cX0_keep 2 = .ok (.getfield 13, 3) := by decide +kernel
theorem dX0_keep_5 : decode cX0_keep 5 = .ok (.aload_n 0, 1) := by decide +kernel
theorem dX0_keep_6 : decode cX0_keep 6 = .ok (.getfield 22, 3) := by decide +kernel
theorem dX0_keep_9 : decode cX0_keep 9 = .ok (.aload_n 0, 1) := by decide +kernel
theorem dX0_keep_10 : decode cX0_keep 10 = .ok (.getfield 18, 3) := by decide +kernel
theorem dX0_keep_13 : decode cX0_keep 13 = .ok (.iadd, 1) := by decide +kernel
theorem dX0_keep_14 : decode cX0_keep 14 = .ok (.bipush 24, 2) := by decide +kernel
theorem dX0_keep_16 : decode cX0_keep 16 = .ok (.irem, 1) := by decide +kernel
theorem dX0_keep_17 : decode cX0_keep 17 = .ok (.aaload, 1) := by decide +kernel
theorem dX0_keep_18 : decode cX0_keep 18 = .ok (.invokevirtual 25, 3) := by decide +kernel
theorem dX0_keep_21 : decode cX0_keep 21 = .ok (.aload_n 0, 1) := by decide +kernel
theorem dX0_keep_22 : decode cX0_keep 22 = .ok (.getfield 18, 3) := by decide +kernel
theorem dX0_keep_25 : decode cX0_keep 25 = .ok (.bipush 24, 2) := by decide +kernel
theorem dX0_keep_27 : decode cX0_keep 27 = .ok (.if_icmp .ge 16, 3) := by decide +kernel
theorem dX0_keep_30 : decode cX0_keep 30 = .ok (.aload_n 0, 1) := by decide +kernel
theorem dX0_keep_31 : decode cX0_keep 31 = .ok (.dup, 1) := by decide +kernel
theorem dX0_keep_32 : decode cX0_keep 32 = .ok (.getfield 18, 3) := by decide +kernel
theorem dX0_keep_35 : decode cX0_keep 35 = .ok (.iconst 1, 1) := by decide +kernel
theorem dX0_keep_36 : decode cX0_keep 36 = .ok (.iadd, 1) := by decide +kernel
theorem dX0_keep_37 : decode cX0_keep 37 = .ok (.putfield 18, 3) := by decide +kernel
theorem dX0_keep_40 : decode cX0_keep 40 = .ok (.goto 16, 3) := by decide +kernel
theorem dX0_keep_43 : decode cX0_keep 43 = .ok (.aload_n 0, 1) := by decide +kernel
theorem dX0_keep_44 : decode cX0_keep 44 = .ok (.aload_n 0, 1) := by decide +kernel
theorem dX0_keep_45 : decode cX0_keep 45 = .ok (.getfield 22, 3) := by decide +kernel
theorem dX0_keep_48 : decode cX0_keep 48 = .ok (.iconst 1, 1) := by decide +kernel
theorem dX0_keep_49 : decode cX0_keep 49 = .ok (.iadd, 1) := by decide +kernel
theorem dX0_keep_50 : decode cX0_keep 50 = .ok (.bipush 24, 2) := by decide +kernel
theorem dX0_keep_52 : decode cX0_keep 52 = .ok (.irem, 1) := by decide +kernel
theorem dX0_keep_53 : decode cX0_keep 53 = .ok (.putfield 22, 3) := by decide +kernel
theorem dX0_keep_56 : decode cX0_keep 56 = .ok (.return_, 1) := by decide +kernel
theorem dX0_takeBack_0 : decode cX0_takeBack 0 = .ok (.aload_n 0, 1) := by decide +kernel
theorem dX0_takeBack_1 : decode cX0_takeBack 1 = .ok (.getfield 18, 3) := by decide +kernel
theorem dX0_takeBack_4 : decode cX0_takeBack 4 = .ok (.ifCond .ne 5, 3) := by decide +kernel
theorem dX0_takeBack_7 : decode cX0_takeBack 7 = .ok (.iconst 0, 1) := by decide +kernel
theorem dX0_takeBack_8 : decode cX0_takeBack 8 = .ok (.ireturn, 1) := by decide +kernel
theorem dX0_takeBack_9 : decode cX0_takeBack 9 = .ok (.aload_n 0, 1) := by decide +kernel
theorem dX0_takeBack_10 : decode cX0_takeBack 10 = .ok (.dup, 1) := by decide +kernel
theorem dX0_takeBack_11 : decode cX0_takeBack 11 = .ok (.getfield 18, 3) := by decide +kernel
theorem dX0_takeBack_14 : decode cX0_takeBack 14 = .ok (.iconst 1, 1) := by decide +kernel
theorem dX0_takeBack_15 : decode cX0_takeBack 15 = .ok (.isub, 1) := by decide +kernel
theorem dX0_takeBack_16 : decode cX0_takeBack 16 = .ok (.putfield 18, 3) := by decide +kernel
theorem dX0_takeBack_19 : decode cX0_takeBack 19 = .ok (.aload_n 1, 1) := by decide +kernel
theorem dX0_takeBack_20 : decode cX0_takeBack 20 = .ok (.aload_n 0, 1) := by decide +kernel
theorem dX0_takeBack_21 : decode cX0_takeBack 21 = .ok (.getfield 13, 3) := by decide +kernel
theorem dX0_takeBack_24 : decode cX0_takeBack 24 = .ok (.aload_n 0, 1) := by decide +kernel
theorem dX0_takeBack_25 : decode cX0_takeBack 25 = .ok (.getfield 22, 3) := by decide +kernel
theorem dX0_takeBack_28 : decode cX0_takeBack 28 = .ok (.aload_n 0, 1) := by decide +kernel
theorem dX0_takeBack_29 : decode cX0_takeBack 29 = .ok (.getfield 18, 3) := by decide +kernel
theorem dX0_takeBack_32 : decode cX0_takeBack 32 = .ok (.iadd, 1) := by decide +kernel
theorem dX0_takeBack_33 : decode cX0_takeBack 33 = .ok (.bipush 24, 2) := by decide +kernel
theorem dX0_takeBack_35 : decode cX0_takeBack 35 = .ok (.irem, 1) := by decide +kernel
theorem dX0_takeBack_36 : decode cX0_takeBack 36 = .ok (.aaload, 1) := by decide +kernel
theorem dX0_takeBack_37 : decode cX0_takeBack 37 = .ok (.invokevirtual 29, 3) := by decide +kernel
theorem dX0_takeBack_40 : decode cX0_takeBack 40 = .ok (.iconst 1, 1) := by decide +kernel
theorem dX0_takeBack_41 : decode cX0_takeBack 41 = .ok (.ireturn, 1) := by decide +kernel
theorem dX1_init_0 : decode cX1_init 0 = .ok (.aload_n 0, 1) := by decide +kernel
theorem dX1_init_1 : decode cX1_init 1 = .ok (.invokespecial 3, 3) := by decide +kernel
theorem dX1_init_4 : decode cX1_init 4 = .ok (.aload_n 0, 1) := by decide +kernel
theorem dX1_init_5 : decode cX1_init 5 = .ok (.bipush 16, 2) := by decide +kernel
theorem dX1_init_7 : decode cX1_init 7 = .ok (.newarray .int, 2) := by decide +kernel
theorem dX1_init_9 : decode cX1_init 9 = .ok (.putfield 9, 3) := by decide +kernel
theorem dX1_init_12 : decode cX1_init 12 = .ok (.return_, 1) := by decide +kernel
theorem dX1_turnTo_0 : decode cX1_turnTo 0 = .ok (.aload_n 0, 1) := by decide +kernel
theorem dX1_turnTo_1 : decode cX1_turnTo 1 = .ok (.iconst 0, 1) := by decide +kernel
theorem dX1_turnTo_2 : decode cX1_turnTo 2 = .ok (.putfield 15, 3) := by decide +kernel
theorem dX1_turnTo_5 : decode cX1_turnTo 5 = .ok (.aload_n 0, 1) := by decide +kernel
theorem dX1_turnTo_6 : decode cX1_turnTo 6 = .ok (.iload_n 1, 1) := by decide +kernel
theorem dX1_turnTo_7 : decode cX1_turnTo 7 = .ok (.putfield 19, 3) := by decide +kernel
theorem dX1_turnTo_10 : decode cX1_turnTo 10 = .ok (.aload_n 0, 1) := by decide +kernel
theorem dX1_turnTo_11 : decode cX1_turnTo 11 = .ok (.aload_n 2, 1) := by decide +kernel
theorem dX1_turnTo_12 : decode cX1_turnTo 12 = .ok (.getfield 22, 3) := by decide +kernel
theorem dX1_turnTo_15 : decode cX1_turnTo 15 = .ok (.iload_n 1, 1) := by decide +kernel
theorem dX1_turnTo_16 : decode cX1_turnTo 16 = .ok (.iaload, 1) := by decide +kernel
theorem dX1_turnTo_17 : decode cX1_turnTo 17 = .ok (.putfield 27, 3) := by decide +kernel
theorem dX1_turnTo_20 : decode cX1_turnTo 20 = .ok (.aload_n 0, 1) := by decide +kernel
theorem dX1_turnTo_21 : decode cX1_turnTo 21 = .ok (.aload_n 2, 1) := by decide +kernel
theorem dX1_turnTo_22 : decode cX1_turnTo 22 = .ok (.getfield 30, 3) := by decide +kernel
theorem dX1_turnTo_25 : decode cX1_turnTo 25 = .ok (.iload_n 1, 1) := by decide +kernel
theorem dX1_turnTo_26 : decode cX1_turnTo 26 = .ok (.iaload, 1) := by decide +kernel
theorem dX1_turnTo_27 : decode cX1_turnTo 27 = .ok (.putfield 33, 3) := by decide +kernel
theorem dX1_turnTo_30 : decode cX1_turnTo 30 = .ok (.aload_n 0, 1) := by decide +kernel
theorem dX1_turnTo_31 : decode cX1_turnTo 31 = .ok (.aload_n 2, 1) := by decide +kernel
theorem dX1_turnTo_32 : decode cX1_turnTo 32 = .ok (.getfield 35, 3) := by decide +kernel
theorem dX1_turnTo_35 : decode cX1_turnTo 35 = .ok (.iload_n 1, 1) := by decide +kernel
theorem dX1_turnTo_36 : decode cX1_turnTo 36 = .ok (.iaload, 1) := by decide +kernel
theorem dX1_turnTo_37 : decode cX1_turnTo 37 = .ok (.putfield 38, 3) := by decide +kernel
theorem dX1_turnTo_40 : decode cX1_turnTo 40 = .ok (.return_, 1) := by decide +kernel
theorem dX1_sizeAsked_0 : decode cX1_sizeAsked 0 = .ok (.aload_n 0, 1) := by decide +kernel
theorem dX1_sizeAsked_1 : decode cX1_sizeAsked 1 = .ok (.getfield 27, 3) := by decide +kernel
theorem dX1_sizeAsked_4 : decode cX1_sizeAsked 4 = .ok (.iconst 2, 1) := by decide +kernel
theorem dX1_sizeAsked_5 : decode cX1_sizeAsked 5 = .ok (.if_icmp .ne 15, 3) := by decide +kernel
theorem dX1_sizeAsked_8 : decode cX1_sizeAsked 8 = .ok (.aload_n 0, 1) := by decide +kernel
theorem dX1_sizeAsked_9 : decode cX1_sizeAsked 9 = .ok (.bipush 12, 2) := by decide +kernel
theorem dX1_sizeAsked_11 : decode cX1_sizeAsked 11 = .ok (.invokevirtual 40, 3) := by decide +kernel
theorem dX1_sizeAsked_14 : decode cX1_sizeAsked 14 = .ok (.aload_n 0, 1) := by decide +kernel
theorem dX1_sizeAsked_15 : decode cX1_sizeAsked 15 = .ok (.invokevirtual 44, 3) := by decide +kernel
theorem dX1_sizeAsked_18 : decode cX1_sizeAsked 18 = .ok (.ineg, 1) := by decide +kernel
theorem dX1_sizeAsked_19 : decode cX1_sizeAsked 19 = .ok (.ireturn, 1) := by decide +kernel
theorem dX1_sizeAsked_20 : decode cX1_sizeAsked 20 = .ok (.aload_n 0, 1) := by decide +kernel
theorem dX1_sizeAsked_21 : decode cX1_sizeAsked 21 = .ok (.getfield 27, 3) := by decide +kernel
theorem dX1_sizeAsked_24 : decode cX1_sizeAsked 24 = .ok (.iconst 1, 1) := by decide +kernel
theorem dX1_sizeAsked_25 : decode cX1_sizeAsked 25 = .ok (.invokestatic 48, 3) := by decide +kernel
theorem dX1_sizeAsked_28 : decode cX1_sizeAsked 28 = .ok (.ifCond .eq 10, 3) := by decide +kernel
theorem dX1_sizeAsked_31 : decode cX1_sizeAsked 31 = .ok (.aload_n 0, 1) := by decide +kernel
theorem dX1_sizeAsked_32 : decode cX1_sizeAsked 32 = .ok (.invokevirtual 44, 3) := by decide +kernel
theorem dX1_sizeAsked_35 : decode cX1_sizeAsked 35 = .ok (.goto 7, 3) := by decide +kernel
theorem dX1_sizeAsked_38 : decode cX1_sizeAsked 38 = .ok (.aload_n 0, 1) := by decide +kernel
theorem dX1_sizeAsked_39 : decode cX1_sizeAsked 39 = .ok (.invokevirtual 52, 3) := by decide +kernel
theorem dX1_sizeAsked_42 : decode cX1_sizeAsked 42 = .ok (.ireturn, 1) := by decide +kernel
theorem dX1_markAsked_0 : decode cX1_markAsked 0 = .ok (.aload_n 0, 1) := by decide +kernel
theorem dX1_markAsked_1 : decode cX1_markAsked 1 = .ok (.getfield 27, 3) := by decide +kernel
theorem dX1_markAsked_4 : decode cX1_markAsked 4 = .ok (.iconst 1, 1) := by decide +kernel
theorem dX1_markAsked_5 : decode cX1_markAsked 5 = .ok (.invokestatic 48, 3) := by decide +kernel
theorem dX1_markAsked_8 : decode cX1_markAsked 8 = .ok (.ifCond .eq 10, 3) := by decide +kernel
theorem dX1_markAsked_11 : decode cX1_markAsked 11 = .ok (.aload_n 0, 1) := by decide +kernel
theorem dX1_markAsked_12 : decode cX1_markAsked 12 = .ok (.invokevirtual 55, 3) := by decide +kernel
theorem dX1_markAsked_15 : decode cX1_markAsked 15 = .ok (.goto 7, 3) := by decide +kernel
theorem dX1_markAsked_18 : decode cX1_markAsked 18 = .ok (.aload_n 0, 1) := by decide +kernel
theorem dX1_markAsked_19 : decode cX1_markAsked 19 = .ok (.invokevirtual 58, 3) := by decide +kernel
theorem dX1_markAsked_22 : decode cX1_markAsked 22 = .ok (.ireturn, 1) := by decide +kernel
theorem dX1_sizeOfSoup_0 : decode cX1_sizeOfSoup 0 = .ok (.aload_n 0, 1) := by decide +kernel
theorem dX1_sizeOfSoup_1 : decode cX1_sizeOfSoup 1 = .ok (.bipush 11, 2) := by decide +kernel
theorem dX1_sizeOfSoup_3 : decode cX1_sizeOfSoup 3 = .ok (.invokevirtual 40, 3) := by decide +kernel
theorem dX1_sizeOfSoup_6 : decode cX1_sizeOfSoup 6 = .ok (.aload_n 0, 1) := by decide +kernel
theorem dX1_sizeOfSoup_7 : decode cX1_sizeOfSoup 7 = .ok (.invokevirtual 61, 3) := by decide +kernel
theorem dX1_sizeOfSoup_10 : decode cX1_sizeOfSoup 10 = .ok (.aload_n 0, 1) := by decide +kernel
theorem dX1_sizeOfSoup_11 : decode cX1_sizeOfSoup 11 = .ok (.invokevirtual 55, 3) := by decide +kernel
theorem dX1_sizeOfSoup_14 : decode cX1_sizeOfSoup 14 = .ok (.iadd, 1) := by decide +kernel
theorem dX1_sizeOfSoup_15 : decode cX1_sizeOfSoup 15 = .ok (.ireturn, 1) := by decide +kernel
theorem dX1_sizeOfStern_0 : decode cX1_sizeOfStern 0 = .ok (.aload_n 0, 1) := by decide +kernel
theorem dX1_sizeOfStern_1 : decode cX1_sizeOfStern 1 = .ok (.getfield 27, 3) := by decide +kernel
theorem dX1_sizeOfStern_4 : decode cX1_sizeOfStern 4 = .ok (.iconst 5, 1) := by decide +kernel
theorem dX1_sizeOfStern_5 : decode cX1_sizeOfStern 5 = .ok (.if_icmp .ne 16, 3) := by decide +kernel
theorem dX1_sizeOfStern_8 : decode cX1_sizeOfStern 8 = .ok (.aload_n 0, 1) := by decide +kernel
theorem dX1_sizeOfStern_9 : decode cX1_sizeOfStern 9 = .ok (.bipush 14, 2) := by decide +kernel
theorem dX1_sizeOfStern_11 : decode cX1_sizeOfStern 11 = .ok (.invokevirtual 40, 3) := by decide +kernel
theorem dX1_sizeOfStern_14 : decode cX1_sizeOfStern 14 = .ok (.iconst 2, 1) := by decide +kernel
theorem dX1_sizeOfStern_15 : decode cX1_sizeOfStern 15 = .ok (.aload_n 0, 1) := by decide +kernel
theorem dX1_sizeOfStern_16 : decode cX1_sizeOfStern 16 = .ok (.invokevirtual 64, 3) := by decide +kernel
theorem dX1_sizeOfStern_19 : decode cX1_sizeOfStern 19 = .ok (.imul, 1) := by decide +kernel
theorem dX1_sizeOfStern_20 : decode cX1_sizeOfStern 20 = .ok (.ireturn, 1) := by decide +kernel
theorem dX1_sizeOfStern_21 : decode cX1_sizeOfStern 21 = .ok (.aload_n 0, 1) := by decide +kernel
theorem dX1_sizeOfStern_22 : decode cX1_sizeOfStern 22 = .ok (.invokevirtual 64, 3) := by decide +kernel
theorem dX1_sizeOfStern_25 : decode cX1_sizeOfStern 25 = .ok (.ireturn, 1) := by decide +kernel
theorem dX1_sizeOfAnyStern_0 : decode cX1_sizeOfAnyStern 0 = .ok (.aload_n 0, 1) := by decide +kernel
theorem dX1_sizeOfAnyStern_1 : decode cX1_sizeOfAnyStern 1 = .ok (.bipush 13, 2) := by decide +kernel
theorem dX1_sizeOfAnyStern_3 : decode cX1_sizeOfAnyStern 3 = .ok (.invokevirtual 40, 3) := by decide +kernel
theorem dX1_sizeOfAnyStern_6 : decode cX1_sizeOfAnyStern 6 = .ok (.aload_n 0, 1) := by decide +kernel
theorem dX1_sizeOfAnyStern_7 : decode cX1_sizeOfAnyStern 7 = .ok (.invokevirtual 61, 3) := by decide +kernel
theorem dX1_sizeOfAnyStern_10 : decode cX1_sizeOfAnyStern 10 = .ok (.bipush 100, 2) := by decide +kernel
theorem dX1_sizeOfAnyStern_12 : decode cX1_sizeOfAnyStern 12 = .ok (.isub, 1) := by decide +kernel
theorem dX1_sizeOfAnyStern_13 : decode cX1_sizeOfAnyStern 13 = .ok (.ireturn, 1) := by decide +kernel
theorem dX1_sizeLent_0 : decode cX1_sizeLent 0 = .ok (.aload_n 0, 1) := by decide +kernel
theorem dX1_sizeLent_1 : decode cX1_sizeLent 1 = .ok (.bipush 10, 2) := by decide +kernel
theorem dX1_sizeLent_3 : decode cX1_sizeLent 3 = .ok (.invokevirtual 40, 3) := by decide +kernel
theorem dX1_sizeLent_6 : decode cX1_sizeLent 6 = .ok (.aload_n 0, 1) := by decide +kernel
theorem dX1_sizeLent_7 : decode cX1_sizeLent 7 = .ok (.getfield 33, 3) := by decide +kernel
theorem dX1_sizeLent_10 : decode cX1_sizeLent 10 = .ok (.ireturn, 1) := by decide +kernel
theorem dX1_markOfSoup_0 : decode cX1_markOfSoup 0 = .ok (.aload_n 0, 1) := by decide +kernel
theorem dX1_markOfSoup_1 : decode cX1_markOfSoup 1 = .ok (.getfield 27, 3) := by decide +kernel
theorem dX1_markOfSoup_4 : decode cX1_markOfSoup 4 = .ok (.iconst 3, 1) := by decide +kernel
theorem dX1_markOfSoup_5 : decode cX1_markOfSoup 5 = .ok (.if_icmp .ne 18, 3) := by decide +kernel
theorem dX1_markOfSoup_8 : decode cX1_markOfSoup 8 = .ok (.aload_n 0, 1) := by decide +kernel
theorem dX1_markOfSoup_9 : decode cX1_markOfSoup 9 = .ok (.bipush 22, 2) := by decide +kernel
theorem dX1_markOfSoup_11 : decode cX1_markOfSoup 11 = .ok (.invokevirtual 40, 3) := by decide +kernel
theorem dX1_markOfSoup_14 : decode cX1_markOfSoup 14 = .ok (.aload_n 0, 1) := by decide +kernel
theorem dX1_markOfSoup_15 : decode cX1_markOfSoup 15 = .ok (.invokevirtual 67, 3) := by decide +kernel
theorem dX1_markOfSoup_18 : decode cX1_markOfSoup 18 = .ok (.sipush 1000, 3) := by decide +kernel
theorem dX1_markOfSoup_21 : decode cX1_markOfSoup 21 = .ok (.isub, 1) := by decide +kernel
theorem dX1_markOfSoup_22 : decode cX1_markOfSoup 22 = .ok (.ireturn, 1) := by decide +kernel
theorem dX1_markOfSoup_23 : decode cX1_markOfSoup 23 = .ok (.aload_n 0, 1) := by decide +kernel
theorem dX1_markOfSoup_24 : decode cX1_markOfSoup 24 = .ok (.getfield 27, 3) := by decide +kernel
theorem dX1_markOfSoup_27 : decode cX1_markOfSoup 27 = .ok (.iconst 2, 1) := by decide +kernel
theorem dX1_markOfSoup_28 : decode cX1_markOfSoup 28 = .ok (.if_icmp .ne 16, 3) := by decide +kernel
theorem dX1_markOfSoup_31 : decode cX1_markOfSoup 31 = .ok (.aload_n 0, 1) := by decide +kernel
theorem dX1_markOfSoup_32 : decode cX1_markOfSoup 32 = .ok (.bipush 24, 2) := by decide +kernel
theorem dX1_markOfSoup_34 : decode cX1_markOfSoup 34 = .ok (.invokevirtual 40, 3) := by decide +kernel
theorem dX1_markOfSoup_37 : decode cX1_markOfSoup 37 = .ok (.iconst 2, 1) := by decide +kernel
theorem dX1_markOfSoup_38 : decode cX1_markOfSoup 38 = .ok (.aload_n 0, 1) := by decide +kernel
theorem dX1_markOfSoup_39 : decode cX1_markOfSoup 39 = .ok (.invokevirtual 67, 3) := by decide +kernel
theorem dX1_markOfSoup_42 : decode cX1_markOfSoup 42 = .ok (.imul, 1) := by decide +kernel
theorem dX1_markOfSoup_43 : decode cX1_markOfSoup 43 = .ok (.ireturn, 1) := by decide +kernel
theorem dX1_markOfSoup_44 : decode cX1_markOfSoup 44 = .ok (.aload_n 0, 1) := by decide +kernel
theorem dX1_markOfSoup_45 : decode cX1_markOfSoup 45 = .ok (.invokevirtual 67, 3) := by decide +kernel
theorem dX1_markOfSoup_48 : decode cX1_markOfSoup 48 = .ok (.ireturn, 1) := by decide +kernel
theorem dX1_markOfAnySoup_0 : decode cX1_markOfAnySoup 0 = .ok (.aload_n 0, 1) := by decide +kernel
theorem dX1_markOfAnySoup_1 : decode cX1_markOfAnySoup 1 = .ok (.bipush 21, 2) := by decide +kernel
theorem dX1_markOfAnySoup_3 : decode cX1_markOfAnySoup 3 = .ok (.invokevirtual 40, 3) := by decide +kernel
theorem dX1_markOfAnySoup_6 : decode cX1_markOfAnySoup 6 = .ok (.aload_n 0, 1) := by decide +kernel
theorem dX1_markOfAnySoup_7 : decode cX1_markOfAnySoup 7 = .ok (.invokevirtual 70, 3) := by decide +kernel
theorem dX1_markOfAnySoup_10 : decode cX1_markOfAnySoup 10 = .ok (.aload_n 0, 1) := by decide +kernel
theorem dX1_markOfAnySoup_11 : decode cX1_markOfAnySoup 11 = .ok (.getfield 38, 3) := by decide +kernel
theorem dX1_markOfAnySoup_14 : decode cX1_markOfAnySoup 14 = .ok (.iadd, 1) := by decide +kernel
theorem dX1_markOfAnySoup_15 : decode cX1_markOfAnySoup 15 = .ok (.ireturn, 1) := by decide +kernel
theorem dX1_markOfStern_0 : decode cX1_markOfStern 0 = .ok (.aload_n 0, 1) := by decide +kernel
theorem dX1_markOfStern_1 : decode cX1_markOfStern 1 = .ok (.bipush 23, 2) := by decide +kernel
theorem dX1_markOfStern_3 : decode cX1_markOfStern 3 = .ok (.invokevirtual 40, 3) := by decide +kernel
theorem dX1_markOfStern_6 : decode cX1_markOfStern 6 = .ok (.aload_n 0, 1) := by decide +kernel
theorem dX1_markOfStern_7 : decode cX1_markOfStern 7 = .ok (.invokevirtual 70, 3) := by decide +kernel
theorem dX1_markOfStern_10 : decode cX1_markOfStern 10 = .ok (.aload_n 0, 1) := by decide +kernel
theorem dX1_markOfStern_11 : decode cX1_markOfStern 11 = .ok (.invokevirtual 52, 3) := by decide +kernel
theorem dX1_markOfStern_14 : decode cX1_markOfStern 14 = .ok (.isub, 1) := by decide +kernel
theorem dX1_markOfStern_15 : decode cX1_markOfStern 15 = .ok (.ireturn, 1) := by decide +kernel
theorem dX1_markLent_0 : decode cX1_markLent 0 = .ok (.aload_n 0, 1) := by decide +kernel
theorem dX1_markLent_1 : decode cX1_markLent 1 = .ok (.bipush 20, 2) := by decide +kernel
theorem dX1_markLent_3 : decode cX1_markLent 3 = .ok (.invokevirtual 40, 3) := by decide +kernel
theorem dX1_markLent_6 : decode cX1_markLent 6 = .ok (.aload_n 0, 1) := by decide +kernel
theorem dX1_markLent_7 : decode cX1_markLent 7 = .ok (.getfield 19, 3) := by decide +kernel
theorem dX1_markLent_10 : decode cX1_markLent 10 = .ok (.ireturn, 1) := by decide +kernel
theorem dX1_begin_0 : decode cX1_begin 0 = .ok (.aload_n 0, 1) := by decide +kernel
theorem dX1_begin_1 : decode cX1_begin 1 = .ok (.getfield 15, 3) := by decide +kernel
theorem dX1_begin_4 : decode cX1_begin 4 = .ok (.bipush 16, 2) := by decide +kernel
theorem dX1_begin_6 : decode cX1_begin 6 = .ok (.if_icmp .ge 20, 3) := by decide +kernel
theorem dX1_begin_9 : decode cX1_begin 9 = .ok (.aload_n 0, 1) := by decide +kernel
theorem dX1_begin_10 : decode cX1_begin 10 = .ok (.getfield 9, 3) := by decide +kernel
theorem dX1_begin_13 : decode cX1_begin 13 = .ok (.aload_n 0, 1) := by decide +kernel
theorem dX1_begin_14 : decode cX1_begin 14 = .ok (.dup, 1) := by decide +kernel
theorem dX1_begin_15 : decode cX1_begin 15 = .ok (.getfield 15, 3) := by decide +kernel
theorem dX1_begin_18 : decode cX1_begin 18 = .ok (.dup_x1, 1) := by decide +kernel
theorem dX1_begin_19 : decode cX1_begin 19 = .ok (.iconst 1, 1) := by decide +kernel
theorem dX1_begin_20 : decode cX1_begin 20 = .ok (.iadd, 1) := by decide +kernel
theorem dX1_begin_21 : decode cX1_begin 21 = .ok (.putfield 15, 3) := by decide +kernel
theorem dX1_begin_24 : decode cX1_begin 24 = .ok (.iload_n 1, 1) := by decide +kernel
theorem dX1_begin_25 : decode cX1_begin 25 = .ok (.iastore, 1) := by decide +kernel
theorem dX1_begin_26 : decode cX1_begin 26 = .ok (.return_, 1) := by decide +kernel
theorem dX2_init_0 : decode cX2_init 0 = .ok (.aload_n 0, 1) := by decide +kernel
theorem dX2_init_1 : decode cX2_init 1 = .ok (.invokespecial 3, 3) := by decide +kernel
theorem dX2_init_4 : decode cX2_init 4 = .ok (.aload_n 0, 1) := by decide +kernel
theorem dX2_init_5 : decode cX2_init 5 = .ok (.new 9, 3) := by decide +kernel
theorem dX2_init_8 : decode cX2_init 8 = .ok (.dup, 1) := by decide +kernel
theorem dX2_init_9 : decode cX2_init 9 = .ok (.invokespecial 11, 3) := by decide +kernel
theorem dX2_init_12 : decode cX2_init 12 = .ok (.putfield 12, 3) := by decide +kernel
theorem dX2_init_15 : decode cX2_init 15 = .ok (.aload_n 0, 1) := by decide +kernel
theorem dX2_init_16 : decode cX2_init 16 = .ok (.bipush 100, 2) := by decide +kernel
theorem dX2_init_18 : decode cX2_init 18 = .ok (.newarray .int, 2) := by decide +kernel
theorem dX2_init_20 : decode cX2_init 20 = .ok (.putfield 18, 3) := by decide +kernel
theorem dX2_init_23 : decode cX2_init 23 = .ok (.return_, 1) := by decide +kernel
theorem dX2_append_0 : decode cX2_append 0 = .ok (.aload_n 0, 1) := by decide +kernel
theorem dX2_append_1 : decode cX2_append 1 = .ok (.getfield 22, 3) := by decide +kernel
theorem dX2_append_4 : decode cX2_append 4 = .ok (.bipush 100, 2) := by decide +kernel
theorem dX2_append_6 : decode cX2_append 6 = .ok (.if_icmp .lt 5, 3) := by decide +kernel
theorem dX2_append_9 : decode cX2_append 9 = .ok (.iconst 0, 1) := by decide +kernel
theorem dX2_append_10 : decode cX2_append 10 = .ok (.ireturn, 1) := by decide +kernel
theorem dX2_append_11 : decode cX2_append 11 = .ok (.aload_n 0, 1) := by decide +kernel
theorem dX2_append_12 : decode cX2_append 12 = .ok (.getfield 18, 3) := by decide +kernel
theorem dX2_append_15 : decode cX2_append 15 = .ok (.aload_n 0, 1) := by decide +kernel
theorem dX2_append_16 : decode cX2_append 16 = .ok (.dup, 1) := by decide +kernel
theorem dX2_append_17 : decode cX2_append 17 = .ok (.getfield 22, 3) := by decide +kernel
theorem dX2_append_20 : decode cX2_append 20 = .ok (.dup_x1, 1) := by decide +kernel
theorem dX2_append_21 : decode cX2_append 21 = .ok (.iconst 1, 1) := by decide +kernel
theorem dX2_append_22 : decode cX2_append 22 = .ok (.iadd, 1) := by decide +kernel
theorem dX2_append_23 : decode cX2_append 23 = .ok (.putfield 22, 3) := by decide +kernel
theorem dX2_append_26 : decode cX2_append 26 = .ok (.iload_n 1, 1) := by decide +kernel
theorem dX2_append_27 : decode cX2_append 27 = .ok (.iastore, 1) := by decide +kernel
theorem dX2_append_28 : decode cX2_append 28 = .ok (.iconst 1, 1) := by decide +kernel
theorem dX2_append_29 : decode cX2_append 29 = .ok (.ireturn, 1) := by decide +kernel
theorem dX2_readAll_0 : decode cX2_readAll 0 = .ok (.aload_n 0, 1) := by decide +kernel
theorem dX2_readAll_1 : decode cX2_readAll 1 = .ok (.iconst 0, 1) := by decide +kernel
theorem dX2_readAll_2 : decode cX2_readAll 2 = .ok (.putfield 26, 3) := by decide +kernel
theorem dX2_readAll_5 : decode cX2_readAll 5 = .ok (.aload_n 0, 1) := by decide +kernel
theorem dX2_readAll_6 : decode cX2_readAll 6 = .ok (.iconst 0, 1) := by decide +kernel
theorem dX2_readAll_7 : decode cX2_readAll 7 = .ok (.putfield 29, 3) := by decide +kernel
theorem dX2_readAll_10 : decode cX2_readAll 10 = .ok (.aload_n 0, 1) := by decide +kernel
theorem dX2_readAll_11 : decode cX2_readAll 11 = .ok (.iconst 0, 1) := by decide +kernel
theorem dX2_readAll_12 : decode cX2_readAll 12 = .ok (.putfield 32, 3) := by decide +kernel
theorem dX2_readAll_15 : decode cX2_readAll 15 = .ok (.aload_n 0, 1) := by decide +kernel
theorem dX2_readAll_16 : decode cX2_readAll 16 = .ok (.getfield 12, 3) := by decide +kernel
theorem dX2_readAll_19 : decode cX2_readAll 19 = .ok (.iconst 0, 1) := by decide +kernel
theorem dX2_readAll_20 : decode cX2_readAll 20 = .ok (.putfield 35, 3) := by decide +kernel
theorem dX2_readAll_23 : decode cX2_readAll 23 = .ok (.aload_n 0, 1) := by decide +kernel
theorem dX2_readAll_24 : decode cX2_readAll 24 = .ok (.getfield 12, 3) := by decide +kernel
theorem dX2_readAll_27 : decode cX2_readAll 27 = .ok (.iconst 0, 1) := by decide +kernel
theorem dX2_readAll_28 : decode cX2_readAll 28 = .ok (.putfield 38, 3) := by decide +kernel
theorem dX2_readAll_31 : decode cX2_readAll 31 = .ok (.aload_n 0, 1) := by decide +kernel
theorem dX2_readAll_32 : decode cX2_readAll 32 = .ok (.invokevirtual 41, 3) := by decide +kernel
theorem dX2_readAll_35 : decode cX2_readAll 35 = .ok (.aload_n 0, 1) := by decide +kernel
theorem dX2_readAll_36 : decode cX2_readAll 36 = .ok (.invokevirtual 44, 3) := by decide +kernel
theorem dX2_readAll_39 : decode cX2_readAll 39 = .ok (.aload_n 0, 1) := by decide +kernel
theorem dX2_readAll_40 : decode cX2_readAll 40 = .ok (.invokevirtual 47, 3) := by decide +kernel
theorem dX2_readAll_43 : decode cX2_readAll 43 = .ok (.aload_n 0, 1) := by decide +kernel
theorem dX2_readAll_44 : decode cX2_readAll 44 = .ok (.iconst 0, 1) := by decide +kernel
theorem dX2_readAll_45 : decode cX2_readAll 45 = .ok (.putfield 22, 3) := by decide +kernel
theorem dX2_readAll_48 : decode cX2_readAll 48 = .ok (.aload_n 0, 1) := by decide +kernel
theorem dX2_readAll_49 : decode cX2_readAll 49 = .ok (.getfield 29, 3) := by decide +kernel
theorem dX2_readAll_52 : decode cX2_readAll 52 = .ok (.ireturn, 1) := by decide +kernel
theorem dX2_readLaw_0 : decode cX2_readLaw 0 = .ok (.aload_n 0, 1) := by decide +kernel
theorem dX2_readLaw_1 : decode cX2_readLaw 1 = .ok (.bipush 108, 2) := by decide +kernel
theorem dX2_readLaw_3 : decode cX2_readLaw 3 = .ok (.invokevirtual 50, 3) := by decide +kernel
theorem dX2_readLaw_6 : decode cX2_readLaw 6 = .ok (.aload_n 0, 1) := by decide +kernel
theorem dX2_readLaw_7 : decode cX2_readLaw 7 = .ok (.getfield 12, 3) := by decide +kernel
theorem dX2_readLaw_10 : decode cX2_readLaw 10 = .ok (.aload_n 0, 1) := by decide +kernel
theorem dX2_readLaw_11 : decode cX2_readLaw 11 = .ok (.iconst 0, 1) := by decide +kernel
theorem dX2_readLaw_12 : decode cX2_readLaw 12 = .ok (.bipush 9, 2) := by decide +kernel
theorem dX2_readLaw_14 : decode cX2_readLaw 14 = .ok (.invokevirtual 54, 3) := by decide +kernel
theorem dX2_readLaw_17 : decode cX2_readLaw 17 = .ok (.putfield 58, 3) := by decide +kernel
theorem dX2_readLaw_20 : decode cX2_readLaw 20 = .ok (.aload_n 0, 1) := by decide +kernel
theorem dX2_readLaw_21 : decode cX2_readLaw 21 = .ok (.bipush 44, 2) := by decide +kernel
theorem dX2_readLaw_23 : decode cX2_readLaw 23 = .ok (.invokevirtual 50, 3) := by decide +kernel
theorem dX2_readLaw_26 : decode cX2_readLaw 26 = .ok (.aload_n 0, 1) := by decide +kernel
theorem dX2_readLaw_27 : decode cX2_readLaw 27 = .ok (.getfield 12, 3) := by decide +kernel
theorem dX2_readLaw_30 : decode cX2_readLaw 30 = .ok (.aload_n 0, 1) := by decide +kernel
theorem dX2_readLaw_31 : decode cX2_readLaw 31 = .ok (.iconst 1, 1) := by decide +kernel
theorem dX2_readLaw_32 : decode cX2_readLaw 32 = .ok (.bipush 6, 2) := by decide +kernel
theorem dX2_readLaw_34 : decode cX2_readLaw 34 = .ok (.invokevirtual 54, 3) := by decide +kernel
theorem dX2_readLaw_37 : decode cX2_readLaw 37 = .ok (.putfield 61, 3) := by decide +kernel
theorem dX2_readLaw_40 : decode cX2_readLaw 40 = .ok (.aload_n 0, 1) := by decide +kernel
theorem dX2_readLaw_41 : decode cX2_readLaw 41 = .ok (.bipush 59, 2) := by decide +kernel
theorem dX2_readLaw_43 : decode cX2_readLaw 43 = .ok (.invokevirtual 50, 3) := by decide +kernel
theorem dX2_readLaw_46 : decode cX2_readLaw 46 = .ok (.return_, 1) := by decide +kernel
theorem dX2_readChildren_0 : decode cX2_readChildren 0 = .ok (.iconst 0, 1) := by decide +kernel
theorem dX2_readChildren_1 : decode cX2_readChildren 1 = .ok (.istore_n 1, 1) := by decide +kernel
theorem dX2_readChildren_2 : decode cX2_readChildren 2 = .ok (.iload_n 1, 1) := by decide +kernel
theorem dX2_readChildren_3 : decode cX2_readChildren 3 = .ok (.iconst 5, 1) := by decide +kernel
theorem dX2_readChildren_4 : decode cX2_readChildren 4 = .ok (.if_icmp .ge 99, 3) := by decide +kernel
theorem dX2_readChildren_7 : decode cX2_readChildren 7 = .ok (.aload_n 0, 1) := by decide +kernel
theorem dX2_readChildren_8 : decode cX2_readChildren 8 = .ok (.getfield 29, 3) := by decide +kernel
theorem dX2_readChildren_11 : decode cX2_readChildren 11 = .ok (.ifCond .ne 92, 3) := by decide +kernel
theorem dX2_readChildren_14 : decode cX2_readChildren 14 = .ok (.iload_n 1, 1) := by decide +kernel
theorem dX2_readChildren_15 : decode cX2_readChildren 15 = .ok (.ifCond .eq 12, 3) := by decide +kernel
theorem dX2_readChildren_18 : decode cX2_readChildren 18 = .ok (.aload_n 0, 1) := by decide +kernel
theorem dX2_readChildren_19 : decode cX2_readChildren 19 = .ok (.invokevirtual 64, 3) := by decide +kernel
theorem dX2_readChildren_22 : decode cX2_readChildren 22 = .ok (.bipush 99, 2) := by decide +kernel
theorem dX2_readChildren_24 : decode cX2_readChildren 24 = .ok (.if_icmp .ne 79, 3) := by decide +kernel
theorem dX2_readChildren_27 : decode cX2_readChildren 27 = .ok (.aload_n 0, 1) := by decide +kernel
theorem dX2_readChildren_28 : decode cX2_readChildren 28 = .ok (.bipush 99, 2) := by decide +kernel
theorem dX2_readChildren_30 : decode cX2_readChildren 30 = .ok (.invokevirtual 50, 3) := by decide +kernel
theorem dX2_readChildren_33 : decode cX2_readChildren 33 = .ok (.aload_n 0, 1) := by decide +kernel
theorem dX2_readChildren_34 : decode cX2_readChildren 34 = .ok (.getfield 12, 3) := by decide +kernel
theorem dX2_readChildren_37 : decode cX2_readChildren 37 = .ok (.getfield 68, 3) := by decide +kernel
theorem dX2_readChildren_40 : decode cX2_readChildren 40 = .ok (.iload_n 1, 1) := by decide +kernel
theorem dX2_readChildren_41 : decode cX2_readChildren 41 = .ok (.aload_n 0, 1) := by decide +kernel
theorem dX2_readChildren_42 : decode cX2_readChildren 42 = .ok (.iconst 0, 1) := by decide +kernel
theorem dX2_readChildren_43 : decode cX2_readChildren 43 = .ok (.bipush 60, 2) := by decide +kernel
theorem dX2_readChildren_45 : decode cX2_readChildren 45 = .ok (.invokevirtual 54, 3) := by decide +kernel
theorem dX2_readChildren_48 : decode cX2_readChildren 48 = .ok (.iastore, 1) := by decide +kernel
theorem dX2_readChildren_49 : decode cX2_readChildren 49 = .ok (.aload_n 0, 1) := by decide +kernel
theorem dX2_readChildren_50 : decode cX2_readChildren 50 = .ok (.bipush 44, 2) := by decide +kernel
theorem dX2_readChildren_52 : decode cX2_readChildren 52 = .ok (.invokevirtual 50, 3) := by decide +kernel
theorem dX2_readChildren_55 : decode cX2_readChildren 55 = .ok (.aload_n 0, 1) := by decide +kernel
theorem dX2_readChildren_56 : decode cX2_readChildren 56 = .ok (.getfield 12, 3) := by decide +kernel
theorem dX2_readChildren_59 : decode cX2_readChildren 59 = .ok (.getfield 71, 3) := by decide +kernel
theorem dX2_readChildren_62 : decode cX2_readChildren 62 = .ok (.iload_n 1, 1) := by decide +kernel
theorem dX2_readChildren_63 : decode cX2_readChildren 63 = .ok (.aload_n 0, 1) := by decide +kernel
theorem dX2_readChildren_64 : decode cX2_readChildren 64 = .ok (.iconst 0, 1) := by decide +kernel
theorem dX2_readChildren_65 : decode cX2_readChildren 65 = .ok (.bipush 20, 2) := by decide +kernel
theorem dX2_readChildren_67 : decode cX2_readChildren 67 = .ok (.invokevirtual 54, 3) := by decide +kernel
theorem dX2_readChildren_70 : decode cX2_readChildren 70 = .ok (.iastore, 1) := by decide +kernel
theorem dX2_readChildren_71 : decode cX2_readChildren 71 = .ok (.aload_n 0, 1) := by decide +kernel
theorem dX2_readChildren_72 : decode cX2_readChildren 72 = .ok (.bipush 59, 2) := by decide +kernel
theorem dX2_readChildren_74 : decode cX2_readChildren 74 = .ok (.invokevirtual 50, 3) := by decide +kernel
theorem dX2_readChildren_77 : decode cX2_readChildren 77 = .ok (.aload_n 0, 1) := by decide +kernel
theorem dX2_readChildren_78 : decode cX2_readChildren 78 = .ok (.getfield 12, 3) := by decide +kernel
theorem dX2_readChildren_81 : decode cX2_readChildren 81 = .ok (.getfield 74, 3) := by decide +kernel
theorem dX2_readChildren_84 : decode cX2_readChildren 84 = .ok (.iload_n 1, 1) := by decide +kernel
theorem dX2_readChildren_85 : decode cX2_readChildren 85 = .ok (.iconst 0, 1) := by decide +kernel
theorem dX2_readChildren_86 : decode cX2_readChildren 86 = .ok (.iastore, 1) := by decide +kernel
theorem dX2_readChildren_87 : decode cX2_readChildren 87 = .ok (.aload_n 0, 1) := by decide +kernel
theorem dX2_readChildren_88 : decode cX2_readChildren 88 = .ok (.getfield 12, 3) := by decide +kernel
theorem dX2_readChildren_91 : decode cX2_readChildren 91 = .ok (.iload_n 1, 1) := by decide +kernel
theorem dX2_readChildren_92 : decode cX2_readChildren 92 = .ok (.iconst 1, 1) := by decide +kernel
theorem dX2_readChildren_93 : decode cX2_readChildren 93 = .ok (.iadd, 1) := by decide +kernel
theorem dX2_readChildren_94 : decode cX2_readChildren 94 = .ok (.putfield 35, 3) := by decide +kernel
theorem dX2_readChildren_97 : decode cX2_readChildren 97 = .ok (.iinc 1 1, 3) := by decide +kernel
theorem dX2_readChildren_100 : decode cX2_readChildren 100 = .ok (.goto (-98), 3) := by decide +kernel
theorem dX2_readChildren_103 : decode cX2_readChildren 103 = .ok (.aload_n 0, 1) := by decide +kernel
theorem dX2_readChildren_104 : decode cX2_readChildren 104 = .ok (.getfield 12, 3) := by decide +kernel
theorem dX2_readChildren_107 : decode cX2_readChildren 107 = .ok (.getfield 35, 3) := by decide +kernel
theorem dX2_readChildren_110 : decode cX2_readChildren 110 = .ok (.iconst 5, 1) := by decide +kernel
theorem dX2_readChildren_111 : decode cX2_readChildren 111 = .ok (.if_icmp .ne 17, 3) := by decide +kernel
theorem dX2_readChildren_114 : decode cX2_readChildren 114 = .ok (.aload_n 0, 1) := by decide +kernel
theorem dX2_readChildren_115 : decode cX2_readChildren 115 = .ok (.invokevirtual 64, 3) := by decide +kernel
theorem dX2_readChildren_118 : decode cX2_readChildren 118 = .ok (.bipush 99, 2) := by decide +kernel
theorem dX2_readChildren_120 : decode cX2_readChildren 120 = .ok (.if_icmp .ne 8, 3) := by decide +kernel
theorem dX2_readChildren_123 : decode cX2_readChildren 123 = .ok (.aload_n 0, 1) := by decide +kernel
theorem dX2_readChildren_124 : decode cX2_readChildren 124 = .ok (.iconst 3, 1) := by decide +kernel
theorem dX2_readChildren_125 : decode cX2_readChildren 125 = .ok (.invokevirtual 77, 3) := by decide +kernel
theorem dX2_readChildren_128 : decode cX2_readChildren 128 = .ok (.return_, 1) := by decide +kernel
theorem dX2_readGrans_0 : decode cX2_readGrans 0 = .ok (.iconst 0, 1) := by decide +kernel
theorem dX2_readGrans_1 : decode cX2_readGrans 1 = .ok (.istore_n 1, 1) := by decide +kernel
theorem dX2_readGrans_2 : decode cX2_readGrans 2 = .ok (.iload_n 1, 1) := by decide +kernel
theorem dX2_readGrans_3 : decode cX2_readGrans 3 = .ok (.bipush 6, 2) := by decide +kernel
theorem dX2_readGrans_5 : decode cX2_readGrans 5 = .ok (.if_icmp .ge 146, 3) := by decide +kernel
theorem dX2_readGrans_8 : decode cX2_readGrans 8 = .ok (.aload_n 0, 1) := by decide +kernel
theorem dX2_readGrans_9 : decode cX2_readGrans 9 = .ok (.getfield 29, 3) := by decide +kernel
theorem dX2_readGrans_12 : decode cX2_readGrans 12 = .ok (.ifCond .ne 139, 3) := by decide +kernel
theorem dX2_readGrans_15 : decode cX2_readGrans 15 = .ok (.iload_n 1, 1) := by decide +kernel
theorem dX2_readGrans_16 : decode cX2_readGrans 16 = .ok (.ifCond .eq 14, 3) := by decide +kernel
theorem dX2_readGrans_19 : decode cX2_readGrans 19 = .ok (.aload_n 0, 1) := by decide +kernel
theorem dX2_readGrans_20 : decode cX2_readGrans 20 = .ok (.getfield 26, 3) := by decide +kernel
theorem dX2_readGrans_23 : decode cX2_readGrans 23 = .ok (.aload_n 0, 1) := by decide +kernel
theorem dX2_readGrans_24 : decode cX2_readGrans 24 = .ok (.getfield 22, 3) := by decide +kernel
theorem dX2_readGrans_27 : decode cX2_readGrans 27 = .ok (.if_icmp .ge 124, 3) := by decide +kernel
theorem dX2_readGrans_30 : decode cX2_readGrans 30 = .ok (.aload_n 0, 1) := by decide +kernel
theorem dX2_readGrans_31 : decode cX2_readGrans 31 = .ok (.getfield 12, 3) := by decide +kernel
theorem dX2_readGrans_34 : decode cX2_readGrans 34 = .ok (.getfield 80, 3) := by decide +kernel
theorem dX2_readGrans_37 : decode cX2_readGrans 37 = .ok (.iload_n 1, 1) := by decide +kernel
theorem dX2_readGrans_38 : decode cX2_readGrans 38 = .ok (.aload_n 0, 1) := by decide +kernel
theorem dX2_readGrans_39 : decode cX2_readGrans 39 = .ok (.invokevirtual 83, 3) := by decide +kernel
theorem dX2_readGrans_42 : decode cX2_readGrans 42 = .ok (.iastore, 1) := by decide +kernel
theorem dX2_readGrans_43 : decode cX2_readGrans 43 = .ok (.aload_n 0, 1) := by decide +kernel
theorem dX2_readGrans_44 : decode cX2_readGrans 44 = .ok (.getfield 12, 3) := by decide +kernel
theorem dX2_readGrans_47 : decode cX2_readGrans 47 = .ok (.getfield 86, 3) := by decide +kernel
theorem dX2_readGrans_50 : decode cX2_readGrans 50 = .ok (.iload_n 1, 1) := by decide +kernel
theorem dX2_readGrans_51 : decode cX2_readGrans 51 = .ok (.aload_n 0, 1) := by decide +kernel
theorem dX2_readGrans_52 : decode cX2_readGrans 52 = .ok (.iconst 1, 1) := by decide +kernel
theorem dX2_readGrans_53 : decode cX2_readGrans 53 = .ok (.bipush 9, 2) := by decide +kernel
theorem dX2_readGrans_55 : decode cX2_readGrans 55 = .ok (.invokevirtual 54, 3) := by decide +kernel
theorem dX2_readGrans_58 : decode cX2_readGrans 58 = .ok (.iastore, 1) := by decide +kernel
theorem dX2_readGrans_59 : decode cX2_readGrans 59 = .ok (.aload_n 0, 1) := by decide +kernel
theorem dX2_readGrans_60 : decode cX2_readGrans 60 = .ok (.bipush 44, 2) := by decide +kernel
theorem dX2_readGrans_62 : decode cX2_readGrans 62 = .ok (.invokevirtual 50, 3) := by decide +kernel
theorem dX2_readGrans_65 : decode cX2_readGrans 65 = .ok (.aload_n 0, 1) := by decide +kernel
theorem dX2_readGrans_66 : decode cX2_readGrans 66 = .ok (.getfield 12, 3) := by decide +kernel
theorem dX2_readGrans_69 : decode cX2_readGrans 69 = .ok (.getfield 89, 3) := by decide +kernel
theorem dX2_readGrans_72 : decode cX2_readGrans 72 = .ok (.iload_n 1, 1) := by decide +kernel
theorem dX2_readGrans_73 : decode cX2_readGrans 73 = .ok (.aload_n 0, 1) := by decide +kernel
theorem dX2_readGrans_74 : decode cX2_readGrans 74 = .ok (.iconst 0, 1) := by decide +kernel
theorem dX2_readGrans_75 : decode cX2_readGrans 75 = .ok (.aload_n 0, 1) := by decide +kernel
theorem dX2_readGrans_76 : decode cX2_readGrans 76 = .ok (.getfield 12, 3) := by decide +kernel
theorem dX2_readGrans_79 : decode cX2_readGrans 79 = .ok (.getfield 35, 3) := by decide +kernel
theorem dX2_readGrans_82 : decode cX2_readGrans 82 = .ok (.iconst 1, 1) := by decide +kernel
theorem dX2_readGrans_83 : decode cX2_readGrans 83 = .ok (.isub, 1) := by decide +kernel
theorem dX2_readGrans_84 : decode cX2_readGrans 84 = .ok (.invokevirtual 54, 3) := by decide +kernel
theorem dX2_readGrans_87 : decode cX2_readGrans 87 = .ok (.iastore, 1) := by decide +kernel
theorem dX2_readGrans_88 : decode cX2_readGrans 88 = .ok (.aload_n 0, 1) := by decide +kernel
theorem dX2_readGrans_89 : decode cX2_readGrans 89 = .ok (.bipush 44, 2) := by decide +kernel
theorem dX2_readGrans_91 : decode cX2_readGrans 91 = .ok (.invokevirtual 50, 3) := by decide +kernel
theorem dX2_readGrans_94 : decode cX2_readGrans 94 = .ok (.aload_n 0, 1) := by decide +kernel
theorem dX2_readGrans_95 : decode cX2_readGrans 95 = .ok (.getfield 12, 3) := by decide +kernel
theorem dX2_readGrans_98 : decode cX2_readGrans 98 = .ok (.getfield 92, 3) := by decide +kernel
theorem dX2_readGrans_101 : decode cX2_readGrans 101 = .ok (.iload_n 1, 1) := by decide +kernel
theorem dX2_readGrans_102 : decode cX2_readGrans 102 = .ok (.aload_n 0, 1) := by decide +kernel
theorem dX2_readGrans_103 : decode cX2_readGrans 103 = .ok (.iconst 0, 1) := by decide +kernel
theorem dX2_readGrans_104 : decode cX2_readGrans 104 = .ok (.iconst 4, 1) := by decide +kernel
theorem dX2_readGrans_105 : decode cX2_readGrans 105 = .ok (.invokevirtual 54, 3) := by decide +kernel
theorem dX2_readGrans_108 : decode cX2_readGrans 108 = .ok (.iastore, 1) := by decide +kernel
theorem dX2_readGrans_109 : decode cX2_readGrans 109 = .ok (.aload_n 0, 1) := by decide +kernel
theorem dX2_readGrans_110 : decode cX2_readGrans 110 = .ok (.bipush 59, 2) := by decide +kernel
theorem dX2_readGrans_112 : decode cX2_readGrans 112 = .ok (.invokevirtual 50, 3) := by decide +kernel
theorem dX2_readGrans_115 : decode cX2_readGrans 115 = .ok (.aload_n 0, 1) := by decide +kernel
theorem dX2_readGrans_116 : decode cX2_readGrans 116 = .ok (.getfield 12, 3) := by decide +kernel
theorem dX2_readGrans_119 : decode cX2_readGrans 119 = .ok (.getfield 95, 3) := by decide +kernel
theorem dX2_readGrans_122 : decode cX2_readGrans 122 = .ok (.iload_n 1, 1) := by decide +kernel
theorem dX2_readGrans_123 : decode cX2_readGrans 123 = .ok (.iconst 0, 1) := by decide +kernel
theorem dX2_readGrans_124 : decode cX2_readGrans 124 = .ok (.iastore, 1) := by decide +kernel
theorem dX2_readGrans_125 : decode cX2_readGrans 125 = .ok (.aload_n 0, 1) := by decide +kernel
theorem dX2_readGrans_126 : decode cX2_readGrans 126 = .ok (.getfield 12, 3) := by decide +kernel
theorem dX2_readGrans_129 : decode cX2_readGrans 129 = .ok (.getfield 98, 3) := by decide +kernel
theorem dX2_readGrans_132 : decode cX2_readGrans 132 = .ok (.iload_n 1, 1) := by decide +kernel
theorem dX2_readGrans_133 : decode cX2_readGrans 133 = .ok (.iconst 0, 1) := by decide +kernel
theorem dX2_readGrans_134 : decode cX2_readGrans 134 = .ok (.iastore, 1) := by decide +kernel
theorem dX2_readGrans_135 : decode cX2_readGrans 135 = .ok (.aload_n 0, 1) := by decide +kernel
theorem dX2_readGrans_136 : decode cX2_readGrans 136 = .ok (.getfield 12, 3) := by decide +kernel
theorem dX2_readGrans_139 : decode cX2_readGrans 139 = .ok (.iload_n 1, 1) := by decide +kernel
theorem dX2_readGrans_140 : decode cX2_readGrans 140 = .ok (.iconst 1, 1) := by decide +kernel
theorem dX2_readGrans_141 : decode cX2_readGrans 141 = .ok (.iadd, 1) := by decide +kernel
theorem dX2_readGrans_142 : decode cX2_readGrans 142 = .ok (.putfield 38, 3) := by decide +kernel
theorem dX2_readGrans_145 : decode cX2_readGrans 145 = .ok (.iinc 1 1, 3) := by decide +kernel
theorem dX2_readGrans_148 : decode cX2_readGrans 148 = .ok (.goto (-146), 3) := by decide +kernel
theorem dX2_readGrans_151 : decode cX2_readGrans 151 = .ok (.aload_n 0, 1) := by decide +kernel
theorem dX2_readGrans_152 : decode cX2_readGrans 152 = .ok (.getfield 26, 3) := by decide +kernel
theorem dX2_readGrans_155 : decode cX2_readGrans 155 = .ok (.aload_n 0, 1) := by decide +kernel
theorem dX2_readGrans_156 : decode cX2_readGrans 156 = .ok (.getfield 22, 3) := by decide +kernel
theorem dX2_readGrans_159 : decode cX2_readGrans 159 = .ok (.if_icmp .ge 22, 3) := by decide +kernel
theorem dX2_readGrans_162 : decode cX2_readGrans 162 = .ok (.aload_n 0, 1) := by decide +kernel
theorem dX2_readGrans_163 : decode cX2_readGrans 163 = .ok (.aload_n 0, 1) := by decide +kernel
theorem dX2_readGrans_164 : decode cX2_readGrans 164 = .ok (.invokevirtual 64, 3) := by decide +kernel
theorem dX2_readGrans_167 : decode cX2_readGrans 167 = .ok (.invokestatic 101, 3) := by decide +kernel
theorem dX2_readGrans_170 : decode cX2_readGrans 170 = .ok (.ifCond .ne 7, 3) := by decide +kernel
theorem dX2_readGrans_173 : decode cX2_readGrans 173 = .ok (.iconst 1, 1) := by decide +kernel
theorem dX2_readGrans_174 : decode cX2_readGrans 174 = .ok (.goto 4, 3) := by decide +kernel
theorem dX2_readGrans_177 : decode cX2_readGrans 177 = .ok (.iconst 3, 1) := by decide +kernel
theorem dX2_readGrans_178 : decode cX2_readGrans 178 = .ok (.invokevirtual 77, 3) := by decide +kernel
theorem dX2_readGrans_181 : decode cX2_readGrans 181 = .ok (.return_, 1) := by decide +kernel
theorem dX2_nextByte_0 : decode cX2_nextByte 0 = .ok (.aload_n 0, 1) := by decide +kernel
theorem dX2_nextByte_1 : decode cX2_nextByte 1 = .ok (.getfield 26, 3) := by decide +kernel
theorem dX2_nextByte_4 : decode cX2_nextByte 4 = .ok (.aload_n 0, 1) := by decide +kernel
theorem dX2_nextByte_5 : decode cX2_nextByte 5 = .ok (.getfield 22, 3) := by decide +kernel
theorem dX2_nextByte_8 : decode cX2_nextByte 8 = .ok (.if_icmp .ge 15, 3) := by decide +kernel
theorem dX2_nextByte_11 : decode cX2_nextByte 11 = .ok (.aload_n 0, 1) := by decide +kernel
theorem dX2_nextByte_12 : decode cX2_nextByte 12 = .ok (.getfield 18, 3) := by decide +kernel
theorem dX2_nextByte_15 : decode cX2_nextByte 15 = .ok (.aload_n 0, 1) := by decide +kernel
theorem dX2_nextByte_16 : decode cX2_nextByte 16 = .ok (.getfield 26, 3) := by decide +kernel
theorem dX2_nextByte_19 : decode cX2_nextByte 19 = .ok (.iaload, 1) := by decide +kernel
theorem dX2_nextByte_20 : decode cX2_nextByte 20 = .ok (.goto 4, 3) := by decide +kernel
theorem dX2_nextByte_23 : decode cX2_nextByte 23 = .ok (.iconst (-1), 1) := by decide +kernel
theorem dX2_nextByte_24 : decode cX2_nextByte 24 = .ok (.ireturn, 1) := by decide +kernel
theorem dX2_fail_0 : decode cX2_fail 0 = .ok (.aload_n 0, 1) := by decide +kernel
theorem dX2_fail_1 : decode cX2_fail 1 = .ok (.getfield 29, 3) := by decide +kernel
theorem dX2_fail_4 : decode cX2_fail 4 = .ok (.ifCond .ne 16, 3) := by decide +kernel
theorem dX2_fail_7 : decode cX2_fail 7 = .ok (.aload_n 0, 1) := by decide +kernel
theorem dX2_fail_8 : decode cX2_fail 8 = .ok (.iload_n 1, 1) := by decide +kernel
theorem dX2_fail_9 : decode cX2_fail 9 = .ok (.putfield 29, 3) := by decide +kernel
theorem dX2_fail_12 : decode cX2_fail 12 = .ok (.aload_n 0, 1) := by decide +kernel
theorem dX2_fail_13 : decode cX2_fail 13 = .ok (.aload_n 0, 1) := by decide +kernel
theorem dX2_fail_14 : decode cX2_fail 14 = .ok (.getfield 26, 3) := by decide +kernel
theorem dX2_fail_17 : decode cX2_fail 17 = .ok (.putfield 32, 3) := by decide +kernel
theorem dX2_fail_20 : decode cX2_fail 20 = .ok (.return_, 1) := by decide +kernel
theorem dX2_takeSign_0 : decode cX2_takeSign 0 = .ok (.aload_n 0, 1) := by decide +kernel
theorem dX2_takeSign_1 : decode cX2_takeSign 1 = .ok (.invokevirtual 64, 3) := by decide +kernel
theorem dX2_takeSign_4 : decode cX2_takeSign 4 = .ok (.iload_n 1, 1) := by decide +kernel
theorem dX2_takeSign_5 : decode cX2_takeSign 5 = .ok (.if_icmp .eq 11, 3) := by decide +kernel
theorem dX2_takeSign_8 : decode cX2_takeSign 8 = .ok (.aload_n 0, 1) := by decide +kernel
theorem dX2_takeSign_9 : decode cX2_takeSign 9 = .ok (.iconst 1, 1) := by decide +kernel
theorem dX2_takeSign_10 : decode cX2_takeSign 10 = .ok (.invokevirtual 77, 3) := by decide +kernel
theorem dX2_takeSign_13 : decode cX2_takeSign 13 = .ok (.goto 20, 3) := by decide +kernel
theorem dX2_takeSign_16 : decode cX2_takeSign 16 = .ok (.aload_n 0, 1) := by decide +kernel
theorem dX2_takeSign_17 : decode cX2_takeSign 17 = .ok (.getfield 29, 3) := by decide +kernel
theorem dX2_takeSign_20 : decode cX2_takeSign 20 = .ok (.ifCond .ne 13, 3) := by decide +kernel
theorem dX2_takeSign_23 : decode cX2_takeSign 23 = .ok (.aload_n 0, 1) := by decide +kernel
theorem dX2_takeSign_24 : decode cX2_takeSign 24 = .ok (.dup, 1) := by decide +kernel
theorem dX2_takeSign_25 : decode cX2_takeSign 25 = .ok (.getfield 26, 3) := by decide +kernel
theorem dX2_takeSign_28 : decode cX2_takeSign 28 = .ok (.iconst 1, 1) := by decide +kernel
theorem dX2_takeSign_29 : decode cX2_takeSign 29 = .ok (.iadd, 1) := by decide +kernel
theorem dX2_takeSign_30 : decode cX2_takeSign 30 = .ok (.putfield 26, 3) := by decide +kernel
theorem dX2_takeSign_33 : decode cX2_takeSign 33 = .ok (.return_, 1) := by decide +kernel
theorem dX2_takeSort_0 : decode cX2_takeSort 0 = .ok (.aload_n 0, 1) := by decide +kernel
theorem dX2_takeSort_1 : decode cX2_takeSort 1 = .ok (.invokevirtual 64, 3) := by decide +kernel
theorem dX2_takeSort_4 : decode cX2_takeSort 4 = .ok (.invokestatic 101, 3) := by decide +kernel
theorem dX2_takeSort_7 : decode cX2_takeSort 7 = .ok (.istore_n 1, 1) := by decide +kernel
theorem dX2_takeSort_8 : decode cX2_takeSort 8 = .ok (.iload_n 1, 1) := by decide +kernel
theorem dX2_takeSort_9 : decode cX2_takeSort 9 = .ok (.ifCond .ne 11, 3) := by decide +kernel
theorem dX2_takeSort_12 : decode cX2_takeSort 12 = .ok (.aload_n 0, 1) := by decide +kernel
theorem dX2_takeSort_13 : decode cX2_takeSort 13 = .ok (.iconst 1, 1) := by decide +kernel
theorem dX2_takeSort_14 : decode cX2_takeSort 14 = .ok (.invokevirtual 77, 3) := by decide +kernel
theorem dX2_takeSort_17 : decode cX2_takeSort 17 = .ok (.goto 20, 3) := by decide +kernel
theorem dX2_takeSort_20 : decode cX2_takeSort 20 = .ok (.aload_n 0, 1) := by decide +kernel
theorem dX2_takeSort_21 : decode cX2_takeSort 21 = .ok (.getfield 29, 3) := by decide +kernel
theorem dX2_takeSort_24 : decode cX2_takeSort 24 = .ok (.ifCond .ne 13, 3) := by decide +kernel
theorem dX2_takeSort_27 : decode cX2_takeSort 27 = .ok (.aload_n 0, 1) := by decide +kernel
theorem dX2_takeSort_28 : decode cX2_takeSort 28 = .ok (.dup, 1) := by decide +kernel
theorem dX2_takeSort_29 : decode cX2_takeSort 29 = .ok (.getfield 26, 3) := by decide +kernel
theorem dX2_takeSort_32 : decode cX2_takeSort 32 = .ok (.iconst 1, 1) := by decide +kernel
theorem dX2_takeSort_33 : decode cX2_takeSort 33 = .ok (.iadd, 1) := by decide +kernel
theorem dX2_takeSort_34 : decode cX2_takeSort 34 = .ok (.putfield 26, 3) := by decide +kernel
theorem dX2_takeSort_37 : decode cX2_takeSort 37 = .ok (.iload_n 1, 1) := by decide +kernel
theorem dX2_takeSort_38 : decode cX2_takeSort 38 = .ok (.ireturn, 1) := by decide +kernel
theorem dX2_takeNumber_0 : decode cX2_takeNumber 0 = .ok (.iconst 0, 1) := by decide +kernel
theorem dX2_takeNumber_1 : decode cX2_takeNumber 1 = .ok (.istore_n 3, 1) := by decide +kernel
theorem dX2_takeNumber_2 : decode cX2_takeNumber 2 = .ok (.iconst 0, 1) := by decide +kernel
theorem dX2_takeNumber_3 : decode cX2_takeNumber 3 = .ok (.istore 4, 2) := by decide +kernel
theorem dX2_takeNumber_5 : decode cX2_takeNumber 5 = .ok (.aload_n 0, 1) := by decide +kernel
theorem dX2_takeNumber_6 : decode cX2_takeNumber 6 = .ok (.getfield 26, 3) := by decide +kernel
theorem dX2_takeNumber_9 : decode cX2_takeNumber 9 = .ok (.istore 5, 2) := by decide +kernel
theorem dX2_takeNumber_11 : decode cX2_takeNumber 11 = .ok (.iload 5, 2) := by decide +kernel
theorem dX2_takeNumber_13 : decode cX2_takeNumber 13 = .ok (.aload_n 0, 1) := by decide +kernel
theorem dX2_takeNumber_14 : decode cX2_takeNumber 14 = .ok (.getfield 22, 3) := by decide +kernel
theorem dX2_takeNumber_17 : decode cX2_takeNumber 17 = .ok (.if_icmp .ge 55, 3) := by decide +kernel
theorem dX2_takeNumber_20 : decode cX2_takeNumber 20 = .ok (.aload_n 0, 1) := by decide +kernel
theorem dX2_takeNumber_21 : decode cX2_takeNumber 21 = .ok (.getfield 18, 3) := by decide +kernel
theorem dX2_takeNumber_24 : decode cX2_takeNumber 24 = .ok (.iload 5, 2) := by decide +kernel
theorem dX2_takeNumber_26 : decode cX2_takeNumber 26 = .ok (.iaload, 1) := by decide +kernel
theorem dX2_takeNumber_27 : decode cX2_takeNumber 27 = .ok (.bipush 48, 2) := by decide +kernel
theorem dX2_takeNumber_29 : decode cX2_takeNumber 29 = .ok (.bipush 57, 2) := by decide +kernel
theorem dX2_takeNumber_31 : decode cX2_takeNumber 31 = .ok (.invokestatic 105, 3) := by decide +kernel
theorem dX2_takeNumber_34 : decode cX2_takeNumber 34 = .ok (.ifCond .eq 38, 3) := by decide +kernel
theorem dX2_takeNumber_37 : decode cX2_takeNumber 37 = .ok (.iload 4, 2) := by decide +kernel
theorem dX2_takeNumber_39 : decode cX2_takeNumber 39 = .ok (.iconst 2, 1) := by decide +kernel
theorem dX2_takeNumber_40 : decode cX2_takeNumber 40 = .ok (.if_icmp .ge 21, 3) := by decide +kernel
theorem dX2_takeNumber_43 : decode cX2_takeNumber 43 = .ok (.bipush 10, 2) := by decide +kernel
theorem dX2_takeNumber_45 : decode cX2_takeNumber 45 = .ok (.iload_n 3, 1) := by decide +kernel
theorem dX2_takeNumber_46 : decode cX2_takeNumber 46 = .ok (.imul, 1) := by decide +kernel
theorem dX2_takeNumber_47 : decode cX2_takeNumber 47 = .ok (.aload_n 0, 1) := by decide +kernel
theorem dX2_takeNumber_48 : decode cX2_takeNumber 48 = .ok (.getfield 18, 3) := by decide +kernel
theorem dX2_takeNumber_51 : decode cX2_takeNumber 51 = .ok (.iload 5, 2) := by decide +kernel
theorem dX2_takeNumber_53 : decode cX2_takeNumber 53 = .ok (.iaload, 1) := by decide +kernel
theorem dX2_takeNumber_54 : decode cX2_takeNumber 54 = .ok (.iadd, 1) := by decide +kernel
theorem dX2_takeNumber_55 : decode cX2_takeNumber 55 = .ok (.bipush 48, 2) := by decide +kernel
theorem dX2_takeNumber_57 : decode cX2_takeNumber 57 = .ok (.isub, 1) := by decide +kernel
theorem dX2_takeNumber_58 : decode cX2_takeNumber 58 = .ok (.goto 4, 3) := by decide +kernel
theorem dX2_takeNumber_61 : decode cX2_takeNumber 61 = .ok (.iload_n 3, 1) := by decide +kernel
theorem dX2_takeNumber_62 : decode cX2_takeNumber 62 = .ok (.istore_n 3, 1) := by decide +kernel
theorem dX2_takeNumber_63 : decode cX2_takeNumber 63 = .ok (.iinc 4 1, 3) := by decide +kernel
theorem dX2_takeNumber_66 : decode cX2_takeNumber 66 = .ok (.iinc 5 1, 3) := by decide +kernel
theorem dX2_takeNumber_69 : decode cX2_takeNumber 69 = .ok (.goto (-58), 3) := by decide +kernel
theorem dX2_takeNumber_72 : decode cX2_takeNumber 72 = .ok (.iload 4, 2) := by decide +kernel
theorem dX2_takeNumber_74 : decode cX2_takeNumber 74 = .ok (.iconst 1, 1) := by decide +kernel
theorem dX2_takeNumber_75 : decode cX2_takeNumber 75 = .ok (.if_icmp .lt 9, 3) := by decide +kernel
theorem dX2_takeNumber_78 : decode cX2_takeNumber 78 = .ok (.iload 4, 2) := by decide +kernel
theorem dX2_takeNumber_80 : decode cX2_takeNumber 80 = .ok (.iconst 2, 1) := by decide +kernel
theorem dX2_takeNumber_81 : decode cX2_takeNumber 81 = .ok (.if_icmp .le 11, 3) := by decide +kernel
theorem dX2_takeNumber_84 : decode cX2_takeNumber 84 = .ok (.aload_n 0, 1) := by decide +kernel
theorem dX2_takeNumber_85 : decode cX2_takeNumber 85 = .ok (.iconst 1, 1) := by decide +kernel
theorem dX2_takeNumber_86 : decode cX2_takeNumber 86 = .ok (.invokevirtual 77, 3) := by decide +kernel
theorem dX2_takeNumber_89 : decode cX2_takeNumber 89 = .ok (.goto 38, 3) := by decide +kernel
theorem dX2_takeNumber_92 : decode cX2_takeNumber 92 = .ok (.iload_n 3, 1) := by decide +kernel
theorem dX2_takeNumber_93 : decode cX2_takeNumber 93 = .ok (.iload_n 1, 1) := by decide +kernel
theorem dX2_takeNumber_94 : decode cX2_takeNumber 94 = .ok (.iload_n 2, 1) := by decide +kernel
theorem dX2_takeNumber_95 : decode cX2_takeNumber 95 = .ok (.invokestatic 105, 3) := by decide +kernel
theorem dX2_takeNumber_98 : decode cX2_takeNumber 98 = .ok (.ifCond .ne 11, 3) := by decide +kernel
theorem dX2_takeNumber_101 : decode cX2_takeNumber 101 = .ok (.aload_n 0, 1) := by decide +kernel
theorem dX2_takeNumber_102 : decode cX2_takeNumber 102 = .ok (.iconst 2, 1) := by decide +kernel
theorem dX2_takeNumber_103 : decode cX2_takeNumber 103 = .ok (.invokevirtual 77, 3) := by decide +kernel
theorem dX2_takeNumber_106 : decode cX2_takeNumber 106 = .ok (.goto 21, 3) := by decide +kernel
theorem dX2_takeNumber_109 : decode cX2_takeNumber 109 = .ok (.aload_n 0, 1) := by decide +kernel
theorem dX2_takeNumber_110 : decode cX2_takeNumber 110 = .ok (.getfield 29, 3) := by decide +kernel
theorem dX2_takeNumber_113 : decode cX2_takeNumber 113 = .ok (.ifCond .ne 14, 3) := by decide +kernel
theorem dX2_takeNumber_116 : decode cX2_takeNumber 116 = .ok (.aload_n 0, 1) := by decide +kernel
theorem dX2_takeNumber_117 : decode cX2_takeNumber 117 = .ok (.dup, 1) := by decide +kernel
theorem dX2_takeNumber_118 : decode cX2_takeNumber 118 = .ok (.getfield 26, 3) := by decide +kernel
theorem dX2_takeNumber_121 : decode cX2_takeNumber 121 = .ok (.iload 4, 2) := by decide +kernel
theorem dX2_takeNumber_123 : decode cX2_takeNumber 123 = .ok (.iadd, 1) := by decide +kernel
theorem dX2_takeNumber_124 : decode cX2_takeNumber 124 = .ok (.putfield 26, 3) := by decide +kernel
theorem dX2_takeNumber_127 : decode cX2_takeNumber 127 = .ok (.iload_n 3, 1) := by decide +kernel
theorem dX2_takeNumber_128 : decode cX2_takeNumber 128 = .ok (.ireturn, 1) := by decide +kernel
theorem dX2_sortOf_0 : decode cX2_sortOf 0 = .ok (.iload_n 0, 1) := by decide +kernel
theorem dX2_sortOf_1 : decode cX2_sortOf 1 = .ok (.tableswitch 65 110 119 #[61, 57, 65, 65, 65, 55, 59, 65, 65, 63], 55) := by decide +kernel
theorem dX2_sortOf_56 : decode cX2_sortOf 56 = .ok (.iconst 1, 1) := by decide +kernel
theorem dX2_sortOf_57 : decode cX2_sortOf 57 = .ok (.ireturn, 1) := by decide +kernel
theorem dX2_sortOf_58 : decode cX2_sortOf 58 = .ok (.iconst 2, 1) := by decide +kernel
theorem dX2_sortOf_59 : decode cX2_sortOf 59 = .ok (.ireturn, 1) := by decide +kernel
theorem dX2_sortOf_60 : decode cX2_sortOf 60 = .ok (.iconst 3, 1) := by decide +kernel
theorem dX2_sortOf_61 : decode cX2_sortOf 61 = .ok (.ireturn, 1) := by decide +kernel
theorem dX2_sortOf_62 : decode cX2_sortOf 62 = .ok (.iconst 4, 1) := by decide +kernel
theorem dX2_sortOf_63 : decode cX2_sortOf 63 = .ok (.ireturn, 1) := by decide +kernel
theorem dX2_sortOf_64 : decode cX2_sortOf 64 = .ok (.iconst 5, 1) := by decide +kernel
theorem dX2_sortOf_65 : decode cX2_sortOf 65 = .ok (.ireturn, 1) := by decide +kernel
theorem dX2_sortOf_66 : decode cX2_sortOf 66 = .ok (.iconst 0, 1) := by decide +kernel
theorem dX2_sortOf_67 : decode cX2_sortOf 67 = .ok (.ireturn, 1) := by decide +kernel
theorem dX3_init_0 : decode cX3_init 0 = .ok (.aload_n 0, 1) := by decide +kernel
theorem dX3_init_1 : decode cX3_init 1 = .ok (.invokespecial 3, 3) := by decide +kernel
theorem dX3_init_4 : decode cX3_init 4 = .ok (.aload_n 0, 1) := by decide +kernel
theorem dX3_init_5 : decode cX3_init 5 = .ok (.new 9, 3) := by decide +kernel
theorem dX3_init_8 : decode cX3_init 8 = .ok (.dup, 1) := by decide +kernel
theorem dX3_init_9 : decode cX3_init 9 = .ok (.invokespecial 11, 3) := by decide +kernel
theorem dX3_init_12 : decode cX3_init 12 = .ok (.putfield 12, 3) := by decide +kernel
theorem dX3_init_15 : decode cX3_init 15 = .ok (.aload_n 0, 1) := by decide +kernel
theorem dX3_init_16 : decode cX3_init 16 = .ok (.bipush 6, 2) := by decide +kernel
theorem dX3_init_18 : decode cX3_init 18 = .ok (.newarray .int, 2) := by decide +kernel
theorem dX3_init_20 : decode cX3_init 20 = .ok (.putfield 18, 3) := by decide +kernel
theorem dX3_init_23 : decode cX3_init 23 = .ok (.aload_n 0, 1) := by decide +kernel
theorem dX3_init_24 : decode cX3_init 24 = .ok (.bipush 30, 2) := by decide +kernel
theorem dX3_init_26 : decode cX3_init 26 = .ok (.newarray .int, 2) := by decide +kernel
theorem dX3_init_28 : decode cX3_init 28 = .ok (.putfield 22, 3) := by decide +kernel
theorem dX3_init_31 : decode cX3_init 31 = .ok (.aload_n 0, 1) := by decide +kernel
theorem dX3_init_32 : decode cX3_init 32 = .ok (.bipush 7, 2) := by decide +kernel
theorem dX3_init_34 : decode cX3_init 34 = .ok (.newarray .int, 2) := by decide +kernel
theorem dX3_init_36 : decode cX3_init 36 = .ok (.putfield 25, 3) := by decide +kernel
theorem dX3_init_39 : decode cX3_init 39 = .ok (.return_, 1) := by decide +kernel
theorem dX3_fewestChanges_0 : decode cX3_fewestChanges 0 = .ok (.aload_n 0, 1) := by decide +kernel
theorem dX3_fewestChanges_1 : decode cX3_fewestChanges 1 = .ok (.getfield 12, 3) := by decide +kernel
theorem dX3_fewestChanges_4 : decode cX3_fewestChanges 4 = .ok (.aload_n 1, 1) := by decide +kernel
theorem dX3_fewestChanges_5 : decode cX3_fewestChanges 5 = .ok (.invokevirtual 28, 3) := by decide +kernel
theorem dX3_fewestChanges_8 : decode cX3_fewestChanges 8 = .ok (.aload_n 0, 1) := by decide +kernel
theorem dX3_fewestChanges_9 : decode cX3_fewestChanges 9 = .ok (.iload_n 2, 1) := by decide +kernel
theorem dX3_fewestChanges_10 : decode cX3_fewestChanges 10 = .ok (.putfield 32, 3) := by decide +kernel
theorem dX3_fewestChanges_13 : decode cX3_fewestChanges 13 = .ok (.aload_n 0, 1) := by decide +kernel
theorem dX3_fewestChanges_14 : decode cX3_fewestChanges 14 = .ok (.iload_n 3, 1) := by decide +kernel
theorem dX3_fewestChanges_15 : decode cX3_fewestChanges 15 = .ok (.aload_n 0, 1) := by decide +kernel
theorem dX3_fewestChanges_16 : decode cX3_fewestChanges 16 = .ok (.invokevirtual 36, 3) := by decide +kernel
theorem dX3_fewestChanges_19 : decode cX3_fewestChanges 19 = .ok (.aload_n 0, 1) := by decide +kernel
theorem dX3_fewestChanges_20 : decode cX3_fewestChanges 20 = .ok (.getfield 12, 3) := by decide +kernel
theorem dX3_fewestChanges_23 : decode cX3_fewestChanges 23 = .ok (.getfield 40, 3) := by decide +kernel
theorem dX3_fewestChanges_26 : decode cX3_fewestChanges 26 = .ok (.iadd, 1) := by decide +kernel
theorem dX3_fewestChanges_27 : decode cX3_fewestChanges 27 = .ok (.invokestatic 43, 3) := by decide +kernel
theorem dX3_fewestChanges_30 : decode cX3_fewestChanges 30 = .ok (.putfield 49, 3) := by decide +kernel
theorem dX3_fewestChanges_33 : decode cX3_fewestChanges 33 = .ok (.aload_n 0, 1) := by decide +kernel
theorem dX3_fewestChanges_34 : decode cX3_fewestChanges 34 = .ok (.invokevirtual 52, 3) := by decide +kernel
theorem dX3_fewestChanges_37 : decode cX3_fewestChanges 37 = .ok (.iconst 0, 1) := by decide +kernel
theorem dX3_fewestChanges_38 : decode cX3_fewestChanges 38 = .ok (.istore 4, 2) := by decide +kernel
theorem dX3_fewestChanges_40 : decode cX3_fewestChanges 40 = .ok (.iload 4, 2) := by decide +kernel
theorem dX3_fewestChanges_42 : decode cX3_fewestChanges 42 = .ok (.aload_n 0, 1) := by decide +kernel
theorem dX3_fewestChanges_43 : decode cX3_fewestChanges 43 = .ok (.getfield 12, 3) := by decide +kernel
theorem dX3_fewestChanges_46 : decode cX3_fewestChanges 46 = .ok (.getfield 55, 3) := by decide +kernel
theorem dX3_fewestChanges_49 : decode cX3_fewestChanges 49 = .ok (.if_icmp .gt 23, 3) := by decide +kernel
theorem dX3_fewestChanges_52 : decode cX3_fewestChanges 52 = .ok (.aload_n 0, 1) := by decide +kernel
theorem dX3_fewestChanges_53 : decode cX3_fewestChanges 53 = .ok (.iconst 0, 1) := by decide +kernel
theorem dX3_fewestChanges_54 : decode cX3_fewestChanges 54 = .ok (.iload 4, 2) := by decide +kernel
theorem dX3_fewestChanges_56 : decode cX3_fewestChanges 56 = .ok (.iconst 0, 1) := by decide +kernel
theorem dX3_fewestChanges_57 : decode cX3_fewestChanges 57 = .ok (.invokevirtual 58, 3) := by decide +kernel
theorem dX3_fewestChanges_60 : decode cX3_fewestChanges 60 = .ok (.ifCond .eq 6, 3) := by decide +kernel
theorem dX3_fewestChanges_63 : decode cX3_fewestChanges 63 = .ok (.iload 4, 2) := by decide +kernel
theorem dX3_fewestChanges_65 : decode cX3_fewestChanges 65 = .ok (.ireturn, 1) := by decide +kernel
theorem dX3_fewestChanges_66 : decode cX3_fewestChanges 66 = .ok (.iinc 4 1, 3) := by decide +kernel
theorem dX3_fewestChanges_69 : decode cX3_fewestChanges 69 = .ok (.goto (-29), 3) := by decide +kernel
theorem dX3_fewestChanges_72 : decode cX3_fewestChanges 72 = .ok (.ldc 62, 2) := by decide +kernel
theorem dX3_fewestChanges_74 : decode cX3_fewestChanges 74 = .ok (.ireturn, 1) := by decide +kernel
theorem dX3_longestIll_0 : decode cX3_longestIll 0 = .ok (.iconst 0, 1) := by decide +kernel
theorem dX3_longestIll_1 : decode cX3_longestIll 1 = .ok (.istore_n 1, 1) := by decide +kernel
theorem dX3_longestIll_2 : decode cX3_longestIll 2 = .ok (.iconst 0, 1) := by decide +kernel
theorem dX3_longestIll_3 : decode cX3_longestIll 3 = .ok (.istore_n 2, 1) := by decide +kernel
theorem dX3_longestIll_4 : decode cX3_longestIll 4 = .ok (.iload_n 2, 1) := by decide +kernel
theorem dX3_longestIll_5 : decode cX3_longestIll 5 = .ok (.aload_n 0, 1) := by decide +kernel
theorem dX3_longestIll_6 : decode cX3_longestIll 6 = .ok (.getfield 12, 3) := by decide +kernel
theorem dX3_longestIll_9 : decode cX3_longestIll 9 = .ok (.getfield 55, 3) := by decide +kernel
theorem dX3_longestIll_12 : decode cX3_longestIll 12 = .ok (.if_icmp .ge 23, 3) := by decide +kernel
theorem dX3_longestIll_15 : decode cX3_longestIll 15 = .ok (.iload_n 1, 1) := by decide +kernel
theorem dX3_longestIll_16 : decode cX3_longestIll 16 = .ok (.aload_n 0, 1) := by decide +kernel
theorem dX3_longestIll_17 : decode cX3_longestIll 17 = .ok (.getfield 12, 3) := by decide +kernel
theorem dX3_longestIll_20 : decode cX3_longestIll 20 = .ok (.getfield 63, 3) := by decide +kernel
theorem dX3_longestIll_23 : decode cX3_longestIll 23 = .ok (.iload_n 2, 1) := by decide +kernel
theorem dX3_longestIll_24 : decode cX3_longestIll 24 = .ok (.iaload, 1) := by decide +kernel
theorem dX3_longestIll_25 : decode cX3_longestIll 25 = .ok (.invokestatic 66, 3) := by decide +kernel
theorem dX3_longestIll_28 : decode cX3_longestIll 28 = .ok (.istore_n 1, 1) := by decide +kernel
theorem dX3_longestIll_29 : decode cX3_longestIll 29 = .ok (.iinc 2 1, 3) := by decide +kernel
theorem dX3_longestIll_32 : decode cX3_longestIll 32 = .ok (.goto (-28), 3) := by decide +kernel
theorem dX3_longestIll_35 : decode cX3_longestIll 35 = .ok (.iload_n 1, 1) := by decide +kernel
theorem dX3_longestIll_36 : decode cX3_longestIll 36 = .ok (.ireturn, 1) := by decide +kernel
theorem dX3_noteReach_0 : decode cX3_noteReach 0 = .ok (.aload_n 0, 1) := by decide +kernel
theorem dX3_noteReach_1 : decode cX3_noteReach 1 = .ok (.getfield 25, 3) := by decide +kernel
theorem dX3_noteReach_4 : decode cX3_noteReach 4 = .ok (.aload_n 0, 1) := by decide +kernel
theorem dX3_noteReach_5 : decode cX3_noteReach 5 = .ok (.getfield 12, 3) := by decide +kernel
theorem dX3_noteReach_8 : decode cX3_noteReach 8 = .ok (.getfield 55, 3) := by decide +kernel
theorem dX3_noteReach_11 : decode cX3_noteReach 11 = .ok (.iconst 0, 1) := by decide +kernel
theorem dX3_noteReach_12 : decode cX3_noteReach 12 = .ok (.iastore, 1) := by decide +kernel
theorem dX3_noteReach_13 : decode cX3_noteReach 13 = .ok (.aload_n 0, 1) := by decide +kernel
theorem dX3_noteReach_14 : decode cX3_noteReach 14 = .ok (.getfield 12, 3) := by decide +kernel
theorem dX3_noteReach_17 : decode cX3_noteReach 17 = .ok (.getfield 55, 3) := by decide +kernel
theorem dX3_noteReach_20 : decode cX3_noteReach 20 = .ok (.iconst 1, 1) := by decide +kernel
theorem dX3_noteReach_21 : decode cX3_noteReach 21 = .ok (.isub, 1) := by decide +kernel
theorem dX3_noteReach_22 : decode cX3_noteReach 22 = .ok (.istore_n 1, 1) := by decide +kernel
theorem dX3_noteReach_23 : decode cX3_noteReach 23 = .ok (.iload_n 1, 1) := by decide +kernel
theorem dX3_noteReach_24 : decode cX3_noteReach 24 = .ok (.ifCond .lt 116, 3) := by decide +kernel
theorem dX3_noteReach_27 : decode cX3_noteReach 27 = .ok (.aload_n 0, 1) := by decide +kernel
theorem dX3_noteReach_28 : decode cX3_noteReach 28 = .ok (.getfield 18, 3) := by decide +kernel
theorem dX3_noteReach_31 : decode cX3_noteReach 31 = .ok (.iload_n 1, 1) := by decide +kernel
theorem dX3_noteReach_32 : decode cX3_noteReach 32 = .ok (.aload_n 0, 1) := by decide +kernel
theorem dX3_noteReach_33 : decode cX3_noteReach 33 = .ok (.getfield 12, 3) := by decide +kernel
theorem dX3_noteReach_36 : decode cX3_noteReach 36 = .ok (.getfield 69, 3) := by decide +kernel
theorem dX3_noteReach_39 : decode cX3_noteReach 39 = .ok (.iload_n 1, 1) := by decide +kernel
theorem dX3_noteReach_40 : decode cX3_noteReach 40 = .ok (.iaload, 1) := by decide +kernel
theorem dX3_noteReach_41 : decode cX3_noteReach 41 = .ok (.iastore, 1) := by decide +kernel
theorem dX3_noteReach_42 : decode cX3_noteReach 42 = .ok (.aload_n 0, 1) := by decide +kernel
theorem dX3_noteReach_43 : decode cX3_noteReach 43 = .ok (.getfield 25, 3) := by decide +kernel
theorem dX3_noteReach_46 : decode cX3_noteReach 46 = .ok (.iload_n 1, 1) := by decide +kernel
theorem dX3_noteReach_47 : decode cX3_noteReach 47 = .ok (.aload_n 0, 1) := by decide +kernel
theorem dX3_noteReach_48 : decode cX3_noteReach 48 = .ok (.getfield 25, 3) := by decide +kernel
theorem dX3_noteReach_51 : decode cX3_noteReach 51 = .ok (.iload_n 1, 1) := by decide +kernel
theorem dX3_noteReach_52 : decode cX3_noteReach 52 = .ok (.iconst 1, 1) := by decide +kernel
theorem dX3_noteReach_53 : decode cX3_noteReach 53 = .ok (.iadd, 1) := by decide +kernel
theorem dX3_noteReach_54 : decode cX3_noteReach 54 = .ok (.iaload, 1) := by decide +kernel
theorem dX3_noteReach_55 : decode cX3_noteReach 55 = .ok (.iastore, 1) := by decide +kernel
theorem dX3_noteReach_56 : decode cX3_noteReach 56 = .ok (.iconst 0, 1) := by decide +kernel
theorem dX3_noteReach_57 : decode cX3_noteReach 57 = .ok (.istore_n 2, 1) := by decide +kernel
theorem dX3_noteReach_58 : decode cX3_noteReach 58 = .ok (.iload_n 2, 1) := by decide +kernel
theorem dX3_noteReach_59 : decode cX3_noteReach 59 = .ok (.aload_n 0, 1) := by decide +kernel
theorem dX3_noteReach_60 : decode cX3_noteReach 60 = .ok (.getfield 12, 3) := by decide +kernel
theorem dX3_noteReach_63 : decode cX3_noteReach 63 = .ok (.getfield 40, 3) := by decide +kernel
theorem dX3_noteReach_66 : decode cX3_noteReach 66 = .ok (.if_icmp .ge 53, 3) := by decide +kernel
theorem dX3_noteReach_69 : decode cX3_noteReach 69 = .ok (.aload_n 0, 1) := by decide +kernel
theorem dX3_noteReach_70 : decode cX3_noteReach 70 = .ok (.getfield 12, 3) := by decide +kernel
theorem dX3_noteReach_73 : decode cX3_noteReach 73 = .ok (.getfield 69, 3) := by decide +kernel
theorem dX3_noteReach_76 : decode cX3_noteReach 76 = .ok (.iload_n 1, 1) := by decide +kernel
theorem dX3_noteReach_77 : decode cX3_noteReach 77 = .ok (.iload_n 2, 1) := by decide +kernel
theorem dX3_noteReach_78 : decode cX3_noteReach 78 = .ok (.iastore, 1) := by decide +kernel
theorem dX3_noteReach_79 : decode cX3_noteReach 79 = .ok (.aload_n 0, 1) := by decide +kernel
theorem dX3_noteReach_80 : decode cX3_noteReach 80 = .ok (.getfield 22, 3) := by decide +kernel
theorem dX3_noteReach_83 : decode cX3_noteReach 83 = .ok (.iload_n 1, 1) := by decide +kernel
theorem dX3_noteReach_84 : decode cX3_noteReach 84 = .ok (.iconst 5, 1) := by decide +kernel
theorem dX3_noteReach_85 : decode cX3_noteReach 85 = .ok (.imul, 1) := by decide +kernel
theorem dX3_noteReach_86 : decode cX3_noteReach 86 = .ok (.iload_n 2, 1) := by decide +kernel
theorem dX3_noteReach_87 : decode cX3_noteReach 87 = .ok (.iadd, 1) := by decide +kernel
theorem dX3_noteReach_88 : decode cX3_noteReach 88 = .ok (.aload_n 0, 1) := by decide +kernel
theorem dX3_noteReach_89 : decode cX3_noteReach 89 = .ok (.iload_n 1, 1) := by decide +kernel
theorem dX3_noteReach_90 : decode cX3_noteReach 90 = .ok (.invokevirtual 72, 3) := by decide +kernel
theorem dX3_noteReach_93 : decode cX3_noteReach 93 = .ok (.iastore, 1) := by decide +kernel
theorem dX3_noteReach_94 : decode cX3_noteReach 94 = .ok (.aload_n 0, 1) := by decide +kernel
theorem dX3_noteReach_95 : decode cX3_noteReach 95 = .ok (.getfield 25, 3) := by decide +kernel
theorem dX3_noteReach_98 : decode cX3_noteReach 98 = .ok (.iload_n 1, 1) := by decide +kernel
theorem dX3_noteReach_99 : decode cX3_noteReach 99 = .ok (.dup2, 1) := by decide +kernel
theorem dX3_noteReach_100 : decode cX3_noteReach 100 = .ok (.iaload, 1) := by decide +kernel
theorem dX3_noteReach_101 : decode cX3_noteReach 101 = .ok (.aload_n 0, 1) := by decide +kernel
theorem dX3_noteReach_102 : decode cX3_noteReach 102 = .ok (.getfield 22, 3) := by decide +kernel
theorem dX3_noteReach_105 : decode cX3_noteReach 105 = .ok (.iload_n 1, 1) := by decide +kernel
theorem dX3_noteReach_106 : decode cX3_noteReach 106 = .ok (.iconst 5, 1) := by decide +kernel
theorem dX3_noteReach_107 : decode cX3_noteReach 107 = .ok (.imul, 1) := by decide +kernel
theorem dX3_noteReach_108 : decode cX3_noteReach 108 = .ok (.iload_n 2, 1) := by decide +kernel
theorem dX3_noteReach_109 : decode cX3_noteReach 109 = .ok (.iadd, 1) := by decide +kernel
theorem dX3_noteReach_110 : decode cX3_noteReach 110 = .ok (.iaload, 1) := by decide +kernel
theorem dX3_noteReach_111 : decode cX3_noteReach 111 = .ok (.ior, 1) := by decide +kernel
theorem dX3_noteReach_112 : decode cX3_noteReach 112 = .ok (.iastore, 1) := by decide +kernel
theorem dX3_noteReach_113 : decode cX3_noteReach 113 = .ok (.iinc 2 1, 3) := by decide +kernel
theorem dX3_noteReach_116 : decode cX3_noteReach 116 = .ok (.goto (-58), 3) := by decide +kernel
theorem dX3_noteReach_119 : decode cX3_noteReach 119 = .ok (.aload_n 0, 1) := by decide +kernel
theorem dX3_noteReach_120 : decode cX3_noteReach 120 = .ok (.getfield 12, 3) := by decide +kernel
theorem dX3_noteReach_123 : decode cX3_noteReach 123 = .ok (.getfield 69, 3) := by decide +kernel
theorem dX3_noteReach_126 : decode cX3_noteReach 126 = .ok (.iload_n 1, 1) := by decide +kernel
theorem dX3_noteReach_127 : decode cX3_noteReach 127 = .ok (.aload_n 0, 1) := by decide +kernel
theorem dX3_noteReach_128 : decode cX3_noteReach 128 = .ok (.getfield 18, 3) := by decide +kernel
theorem dX3_noteReach_131 : decode cX3_noteReach 131 = .ok (.iload_n 1, 1) := by decide +kernel
theorem dX3_noteReach_132 : decode cX3_noteReach 132 = .ok (.iaload, 1) := by decide +kernel
theorem dX3_noteReach_133 : decode cX3_noteReach 133 = .ok (.iastore, 1) := by decide +kernel
theorem dX3_noteReach_134 : decode cX3_noteReach 134 = .ok (.iinc 1 (-1), 3) := by decide +kernel
theorem dX3_noteReach_137 : decode cX3_noteReach 137 = .ok (.goto (-114), 3) := by decide +kernel
theorem dX3_noteReach_140 : decode cX3_noteReach 140 = .ok (.return_, 1) := by decide +kernel
theorem dX3_visited_0 : decode cX3_visited 0 = .ok (.iconst 0, 1) := by decide +kernel
theorem dX3_visited_1 : decode cX3_visited 1 = .ok (.istore_n 2, 1) := by decide +kernel
theorem dX3_visited_2 : decode cX3_visited 2 = .ok (.iconst 0, 1) := by decide +kernel
theorem dX3_visited_3 : decode cX3_visited 3 = .ok (.istore_n 3, 1) := by decide +kernel
theorem dX3_visited_4 : decode cX3_visited 4 = .ok (.iload_n 3, 1) := by decide +kernel
theorem dX3_visited_5 : decode cX3_visited 5 = .ok (.aload_n 0, 1) := by decide +kernel
theorem dX3_visited_6 : decode cX3_visited 6 = .ok (.getfield 49, 3) := by decide +kernel
theorem dX3_visited_9 : decode cX3_visited 9 = .ok (.if_icmp .ge 38, 3) := by decide +kernel
theorem dX3_visited_12 : decode cX3_visited 12 = .ok (.aload_n 0, 1) := by decide +kernel
theorem dX3_visited_13 : decode cX3_visited 13 = .ok (.getfield 12, 3) := by decide +kernel
theorem dX3_visited_16 : decode cX3_visited 16 = .ok (.iload_n 1, 1) := by decide +kernel
theorem dX3_visited_17 : decode cX3_visited 17 = .ok (.iload_n 3, 1) := by decide +kernel
theorem dX3_visited_18 : decode cX3_visited 18 = .ok (.invokevirtual 76, 3) := by decide +kernel
theorem dX3_visited_21 : decode cX3_visited 21 = .ok (.istore 4, 2) := by decide +kernel
theorem dX3_visited_23 : decode cX3_visited 23 = .ok (.iload_n 2, 1) := by decide +kernel
theorem dX3_visited_24 : decode cX3_visited 24 = .ok (.iload 4, 2) := by decide +kernel
theorem dX3_visited_26 : decode cX3_visited 26 = .ok (.ldc 62, 2) := by decide +kernel
theorem dX3_visited_28 : decode cX3_visited 28 = .ok (.if_icmp .ne 7, 3) := by decide +kernel
theorem dX3_visited_31 : decode cX3_visited 31 = .ok (.iconst 0, 1) := by decide +kernel
theorem dX3_visited_32 : decode cX3_visited 32 = .ok (.goto 7, 3) := by decide +kernel
theorem dX3_visited_35 : decode cX3_visited 35 = .ok (.iconst 1, 1) := by decide +kernel
theorem dX3_visited_36 : decode cX3_visited 36 = .ok (.iload 4, 2) := by decide +kernel
theorem dX3_visited_38 : decode cX3_visited 38 = .ok (.ishl, 1) := by decide +kernel
theorem dX3_visited_39 : decode cX3_visited 39 = .ok (.ior, 1) := by decide +kernel
theorem dX3_visited_40 : decode cX3_visited 40 = .ok (.istore_n 2, 1) := by decide +kernel
theorem dX3_visited_41 : decode cX3_visited 41 = .ok (.iinc 3 1, 3) := by decide +kernel
theorem dX3_visited_44 : decode cX3_visited 44 = .ok (.goto (-40), 3) := by decide +kernel
theorem dX3_visited_47 : decode cX3_visited 47 = .ok (.iload_n 2, 1) := by decide +kernel
theorem dX3_visited_48 : decode cX3_visited 48 = .ok (.ireturn, 1) := by decide +kernel
theorem dX3_place_0 : decode cX3_place 0 = .ok (.iload_n 2, 1) := by decide +kernel
theorem dX3_place_1 : decode cX3_place 1 = .ok (.aload_n 0, 1) := by decide +kernel
theorem dX3_place_2 : decode cX3_place 2 = .ok (.getfield 12, 3) := by decide +kernel
theorem dX3_place_5 : decode cX3_place 5 = .ok (.getfield 55, 3) := by decide +kernel
theorem dX3_place_8 : decode cX3_place 8 = .ok (.iload_n 1, 1) := by decide +kernel
theorem dX3_place_9 : decode cX3_place 9 = .ok (.isub, 1) := by decide +kernel
theorem dX3_place_10 : decode cX3_place 10 = .ok (.if_icmp .gt 21, 3) := by decide +kernel
theorem dX3_place_13 : decode cX3_place 13 = .ok (.aload_n 0, 1) := by decide +kernel
theorem dX3_place_14 : decode cX3_place 14 = .ok (.getfield 32, 3) := by decide +kernel
theorem dX3_place_17 : decode cX3_place 17 = .ok (.iload_n 3, 1) := by decide +kernel
theorem dX3_place_18 : decode cX3_place 18 = .ok (.aload_n 0, 1) := by decide +kernel
theorem dX3_place_19 : decode cX3_place 19 = .ok (.getfield 25, 3) := by decide +kernel
theorem dX3_place_22 : decode cX3_place 22 = .ok (.iload_n 1, 1) := by decide +kernel
theorem dX3_place_23 : decode cX3_place 23 = .ok (.iaload, 1) := by decide +kernel
theorem dX3_place_24 : decode cX3_place 24 = .ok (.ior, 1) := by decide +kernel
theorem dX3_place_25 : decode cX3_place 25 = .ok (.iconst (-1), 1) := by decide +kernel
theorem dX3_place_26 : decode cX3_place 26 = .ok (.ixor, 1) := by decide +kernel
theorem dX3_place_27 : decode cX3_place 27 = .ok (.iand, 1) := by decide +kernel
theorem dX3_place_28 : decode cX3_place 28 = .ok (.ifCond .eq 5, 3) := by decide +kernel
theorem dX3_place_31 : decode cX3_place 31 = .ok (.iconst 0, 1) := by decide +kernel
theorem dX3_place_32 : decode cX3_place 32 = .ok (.ireturn, 1) := by decide +kernel
theorem dX3_place_33 : decode cX3_place 33 = .ok (.iload_n 1, 1) := by decide +kernel
theorem dX3_place_34 : decode cX3_place 34 = .ok (.aload_n 0, 1) := by decide +kernel
theorem dX3_place_35 : decode cX3_place 35 = .ok (.getfield 12, 3) := by decide +kernel
theorem dX3_place_38 : decode cX3_place 38 = .ok (.getfield 55, 3) := by decide +kernel
theorem dX3_place_41 : decode cX3_place 41 = .ok (.if_icmp .lt 30, 3) := by decide +kernel
theorem dX3_place_44 : decode cX3_place 44 = .ok (.aload_n 0, 1) := by decide +kernel
theorem dX3_place_45 : decode cX3_place 45 = .ok (.getfield 32, 3) := by decide +kernel
theorem dX3_place_48 : decode cX3_place 48 = .ok (.aload_n 0, 1) := by decide +kernel
theorem dX3_place_49 : decode cX3_place 49 = .ok (.getfield 12, 3) := by decide +kernel
theorem dX3_place_52 : decode cX3_place 52 = .ok (.aload_n 0, 1) := by decide +kernel
theorem dX3_place_53 : decode cX3_place 53 = .ok (.getfield 49, 3) := by decide +kernel
theorem dX3_place_56 : decode cX3_place 56 = .ok (.invokevirtual 79, 3) := by decide +kernel
theorem dX3_place_59 : decode cX3_place 59 = .ok (.iconst (-1), 1) := by decide +kernel
theorem dX3_place_60 : decode cX3_place 60 = .ok (.ixor, 1) := by decide +kernel
theorem dX3_place_61 : decode cX3_place 61 = .ok (.iand, 1) := by decide +kernel
theorem dX3_place_62 : decode cX3_place 62 = .ok (.ifCond .ne 7, 3) := by decide +kernel
theorem dX3_place_65 : decode cX3_place 65 = .ok (.iconst 1, 1) := by decide +kernel
theorem dX3_place_66 : decode cX3_place 66 = .ok (.goto 4, 3) := by decide +kernel
theorem dX3_place_69 : decode cX3_place 69 = .ok (.iconst 0, 1) := by decide +kernel
theorem dX3_place_70 : decode cX3_place 70 = .ok (.ireturn, 1) := by decide +kernel
theorem dX3_place_71 : decode cX3_place 71 = .ok (.iconst 0, 1) := by decide +kernel
theorem dX3_place_72 : decode cX3_place 72 = .ok (.istore 4, 2) := by decide +kernel
theorem dX3_place_74 : decode cX3_place 74 = .ok (.iload 4, 2) := by decide +kernel
theorem dX3_place_76 : decode cX3_place 76 = .ok (.aload_n 0, 1) := by decide +kernel
theorem dX3_place_77 : decode cX3_place 77 = .ok (.getfield 12, 3) := by decide +kernel
theorem dX3_place_80 : decode cX3_place 80 = .ok (.getfield 40, 3) := by decide +kernel
theorem dX3_place_83 : decode cX3_place 83 = .ok (.if_icmp .ge 73, 3) := by decide +kernel
theorem dX3_place_86 : decode cX3_place 86 = .ok (.iload 4, 2) := by decide +kernel
theorem dX3_place_88 : decode cX3_place 88 = .ok (.aload_n 0, 1) := by decide +kernel
theorem dX3_place_89 : decode cX3_place 89 = .ok (.getfield 18, 3) := by decide +kernel
theorem dX3_place_92 : decode cX3_place 92 = .ok (.iload_n 1, 1) := by decide +kernel
theorem dX3_place_93 : decode cX3_place 93 = .ok (.iaload, 1) := by decide +kernel
theorem dX3_place_94 : decode cX3_place 94 = .ok (.if_icmp .ne 7, 3) := by decide +kernel
theorem dX3_place_97 : decode cX3_place 97 = .ok (.iconst 0, 1) := by decide +kernel
theorem dX3_place_98 : decode cX3_place 98 = .ok (.goto 4, 3) := by decide +kernel
theorem dX3_place_101 : decode cX3_place 101 = .ok (.iconst 1, 1) := by decide +kernel
theorem dX3_place_102 : decode cX3_place 102 = .ok (.istore 5, 2) := by decide +kernel
theorem dX3_place_104 : decode cX3_place 104 = .ok (.aload_n 0, 1) := by decide +kernel
theorem dX3_place_105 : decode cX3_place 105 = .ok (.getfield 12, 3) := by decide +kernel
theorem dX3_place_108 : decode cX3_place 108 = .ok (.getfield 69, 3) := by decide +kernel
theorem dX3_place_111 : decode cX3_place 111 = .ok (.iload_n 1, 1) := by decide +kernel
theorem dX3_place_112 : decode cX3_place 112 = .ok (.iload 4, 2) := by decide +kernel
theorem dX3_place_114 : decode cX3_place 114 = .ok (.iastore, 1) := by decide +kernel
theorem dX3_place_115 : decode cX3_place 115 = .ok (.iload 5, 2) := by decide +kernel
theorem dX3_place_117 : decode cX3_place 117 = .ok (.iload_n 2, 1) := by decide +kernel
theorem dX3_place_118 : decode cX3_place 118 = .ok (.if_icmp .gt 32, 3) := by decide +kernel
theorem dX3_place_121 : decode cX3_place 121 = .ok (.aload_n 0, 1) := by decide +kernel
theorem dX3_place_122 : decode cX3_place 122 = .ok (.iload_n 1, 1) := by decide +kernel
theorem dX3_place_123 : decode cX3_place 123 = .ok (.iconst 1, 1) := by decide +kernel
theorem dX3_place_124 : decode cX3_place 124 = .ok (.iadd, 1) := by decide +kernel
theorem dX3_place_125 : decode cX3_place 125 = .ok (.iload_n 2, 1) := by decide +kernel
theorem dX3_place_126 : decode cX3_place 126 = .ok (.iload 5, 2) := by decide +kernel
theorem dX3_place_128 : decode cX3_place 128 = .ok (.isub, 1) := by decide +kernel
theorem dX3_place_129 : decode cX3_place 129 = .ok (.iload_n 3, 1) := by decide +kernel
theorem dX3_place_130 : decode cX3_place 130 = .ok (.aload_n 0, 1) := by decide +kernel
theorem dX3_place_131 : decode cX3_place 131 = .ok (.getfield 22, 3) := by decide +kernel
theorem dX3_place_134 : decode cX3_place 134 = .ok (.iload_n 1, 1) := by decide +kernel
theorem dX3_place_135 : decode cX3_place 135 = .ok (.iconst 5, 1) := by decide +kernel
theorem dX3_place_136 : decode cX3_place 136 = .ok (.imul, 1) := by decide +kernel
theorem dX3_place_137 : decode cX3_place 137 = .ok (.iload 4, 2) := by decide +kernel
theorem dX3_place_139 : decode cX3_place 139 = .ok (.iadd, 1) := by decide +kernel
theorem dX3_place_140 : decode cX3_place 140 = .ok (.iaload, 1) := by decide +kernel
theorem dX3_place_141 : decode cX3_place 141 = .ok (.ior, 1) := by decide +kernel
theorem dX3_place_142 : decode cX3_place 142 = .ok (.invokevirtual 58, 3) := by decide +kernel
theorem dX3_place_145 : decode cX3_place 145 = .ok (.ifCond .eq 5, 3) := by decide +kernel
theorem dX3_place_148 : decode cX3_place 148 = .ok (.iconst 1, 1) := by decide +kernel
theorem dX3_place_149 : decode cX3_place 149 = .ok (.ireturn, 1) := by decide +kernel
theorem dX3_place_150 : decode cX3_place 150 = .ok (.iinc 4 1, 3) := by decide +kernel
theorem dX3_place_153 : decode cX3_place 153 = .ok (.goto (-79), 3) := by decide +kernel
theorem dX3_place_156 : decode cX3_place 156 = .ok (.aload_n 0, 1) := by decide +kernel
theorem dX3_place_157 : decode cX3_place 157 = .ok (.getfield 12, 3) := by decide +kernel
theorem dX3_place_160 : decode cX3_place 160 = .ok (.getfield 69, 3) := by decide +kernel
theorem dX3_place_163 : decode cX3_place 163 = .ok (.iload_n 1, 1) := by decide +kernel
theorem dX3_place_164 : decode cX3_place 164 = .ok (.aload_n 0, 1) := by decide +kernel
theorem dX3_place_165 : decode cX3_place 165 = .ok (.getfield 18, 3) := by decide +kernel
theorem dX3_place_168 : decode cX3_place 168 = .ok (.iload_n 1, 1) := by decide +kernel
theorem dX3_place_169 : decode cX3_place 169 = .ok (.iaload, 1) := by decide +kernel
theorem dX3_place_170 : decode cX3_place 170 = .ok (.iastore, 1) := by decide +kernel
theorem dX3_place_171 : decode cX3_place 171 = .ok (.iconst 0, 1) := by decide +kernel
theorem dX3_place_172 : decode cX3_place 172 = .ok (.ireturn, 1) := by decide +kernel
theorem dX4_init_0 : decode cX4_init 0 = .ok (.aload_n 0, 1) := by decide +kernel
theorem dX4_init_1 : decode cX4_init 1 = .ok (.invokespecial 3, 3) := by decide +kernel
theorem dX4_init_4 : decode cX4_init 4 = .ok (.aload_n 0, 1) := by decide +kernel
theorem dX4_init_5 : decode cX4_init 5 = .ok (.bipush 8, 2) := by decide +kernel
theorem dX4_init_7 : decode cX4_init 7 = .ok (.bipush 40, 2) := by decide +kernel
theorem dX4_init_9 : decode cX4_init 9 = .ok (.multianewarray 9 2, 4) := by decide +kernel
theorem dX4_init_13 : decode cX4_init 13 = .ok (.putfield 11, 3) := by decide +kernel
theorem dX4_init_16 : decode cX4_init 16 = .ok (.aload_n 0, 1) := by decide +kernel
theorem dX4_init_17 : decode cX4_init 17 = .ok (.bipush 8, 2) := by decide +kernel
theorem dX4_init_19 : decode cX4_init 19 = .ok (.newarray .int, 2) := by decide +kernel
theorem dX4_init_21 : decode cX4_init 21 = .ok (.putfield 16, 3) := by decide +kernel
theorem dX4_init_24 : decode cX4_init 24 = .ok (.aload_n 0, 1) := by decide +kernel
theorem dX4_init_25 : decode cX4_init 25 = .ok (.bipush 8, 2) := by decide +kernel
theorem dX4_init_27 : decode cX4_init 27 = .ok (.newarray .int, 2) := by decide +kernel
theorem dX4_init_29 : decode cX4_init 29 = .ok (.putfield 20, 3) := by decide +kernel
theorem dX4_init_32 : decode cX4_init 32 = .ok (.iconst 0, 1) := by decide +kernel
theorem dX4_init_33 : decode cX4_init 33 = .ok (.istore_n 1, 1) := by decide +kernel
theorem dX4_init_34 : decode cX4_init 34 = .ok (.iload_n 1, 1) := by decide +kernel
theorem dX4_init_35 : decode cX4_init 35 = .ok (.bipush 8, 2) := by decide +kernel
theorem dX4_init_37 : decode cX4_init 37 = .ok (.if_icmp .ge 16, 3) := by decide +kernel
theorem dX4_init_40 : decode cX4_init 40 = .ok (.aload_n 0, 1) := by decide +kernel
theorem dX4_init_41 : decode cX4_init 41 = .ok (.getfield 20, 3) := by decide +kernel
theorem dX4_init_44 : decode cX4_init 44 = .ok (.iload_n 1, 1) := by decide +kernel
theorem dX4_init_45 : decode cX4_init 45 = .ok (.iconst (-1), 1) := by decide +kernel
theorem dX4_init_46 : decode cX4_init 46 = .ok (.iastore, 1) := by decide +kernel
theorem dX4_init_47 : decode cX4_init 47 = .ok (.iinc 1 1, 3) := by decide +kernel
theorem dX4_init_50 : decode cX4_init 50 = .ok (.goto (-16), 3) := by decide +kernel
theorem dX4_init_53 : decode cX4_init 53 = .ok (.return_, 1) := by decide +kernel
theorem dX4_holds_0 : decode cX4_holds 0 = .ok (.iload_n 0, 1) := by decide +kernel
theorem dX4_holds_1 : decode cX4_holds 1 = .ok (.iconst 0, 1) := by decide +kernel
theorem dX4_holds_2 : decode cX4_holds 2 = .ok (.bipush 7, 2) := by decide +kernel
theorem dX4_holds_4 : decode cX4_holds 4 = .ok (.invokestatic 23, 3) := by decide +kernel
theorem dX4_holds_7 : decode cX4_holds 7 = .ok (.ireturn, 1) := by decide +kernel
theorem dX4_isMissing_0 : decode cX4_isMissing 0 = .ok (.aload_n 0, 1) := by decide +kernel
theorem dX4_isMissing_1 : decode cX4_isMissing 1 = .ok (.getfield 20, 3) := by decide +kernel
theorem dX4_isMissing_4 : decode cX4_isMissing 4 = .ok (.iload_n 1, 1) := by decide +kernel
theorem dX4_isMissing_5 : decode cX4_isMissing 5 = .ok (.iaload, 1) := by decide +kernel
theorem dX4_isMissing_6 : decode cX4_isMissing 6 = .ok (.iconst (-1), 1) := by decide +kernel
theorem dX4_isMissing_7 : decode cX4_isMissing 7 = .ok (.if_icmp .ne 7, 3) := by decide +kernel
theorem dX4_isMissing_10 : decode cX4_isMissing 10 = .ok (.iconst 1, 1) := by decide +kernel
theorem dX4_isMissing_11 : decode cX4_isMissing 11 = .ok (.goto 4, 3) := by decide +kernel
theorem dX4_isMissing_14 : decode cX4_isMissing 14 = .ok (.iconst 0, 1) := by decide +kernel
theorem dX4_isMissing_15 : decode cX4_isMissing 15 = .ok (.ireturn, 1) := by decide +kernel
theorem dX4_lay_0 : decode cX4_lay 0 = .ok (.aload_n 0, 1) := by decide +kernel
theorem dX4_lay_1 : decode cX4_lay 1 = .ok (.getfield 16, 3) := by decide +kernel
theorem dX4_lay_4 : decode cX4_lay 4 = .ok (.iload_n 1, 1) := by decide +kernel
theorem dX4_lay_5 : decode cX4_lay 5 = .ok (.iload_n 2, 1) := by decide +kernel
theorem dX4_lay_6 : decode cX4_lay 6 = .ok (.iastore, 1) := by decide +kernel
theorem dX4_lay_7 : decode cX4_lay 7 = .ok (.aload_n 0, 1) := by decide +kernel
theorem dX4_lay_8 : decode cX4_lay 8 = .ok (.getfield 20, 3) := by decide +kernel
theorem dX4_lay_11 : decode cX4_lay 11 = .ok (.iload_n 1, 1) := by decide +kernel
theorem dX4_lay_12 : decode cX4_lay 12 = .ok (.iload_n 3, 1) := by decide +kernel
theorem dX4_lay_13 : decode cX4_lay 13 = .ok (.iastore, 1) := by decide +kernel
theorem dX4_lay_14 : decode cX4_lay 14 = .ok (.iconst 0, 1) := by decide +kernel
theorem dX4_lay_15 : decode cX4_lay 15 = .ok (.istore 4, 2) := by decide +kernel
theorem dX4_lay_17 : decode cX4_lay 17 = .ok (.iload 4, 2) := by decide +kernel
theorem dX4_lay_19 : decode cX4_lay 19 = .ok (.iload_n 3, 1) := by decide +kernel
theorem dX4_lay_20 : decode cX4_lay 20 = .ok (.if_icmp .ge 19, 3) := by decide +kernel
theorem dX4_lay_23 : decode cX4_lay 23 = .ok (.aload_n 0, 1) := by decide +kernel
theorem dX4_lay_24 : decode cX4_lay 24 = .ok (.getfield 11, 3) := by decide +kernel
theorem dX4_lay_27 : decode cX4_lay 27 = .ok (.iload_n 1, 1) := by decide +kernel
theorem dX4_lay_28 : decode cX4_lay 28 = .ok (.aaload, 1) := by decide +kernel
theorem dX4_lay_29 : decode cX4_lay 29 = .ok (.iload 4, 2) := by decide +kernel
theorem dX4_lay_31 : decode cX4_lay 31 = .ok (.iconst 0, 1) := by decide +kernel
theorem dX4_lay_32 : decode cX4_lay 32 = .ok (.iastore, 1) := by decide +kernel
theorem dX4_lay_33 : decode cX4_lay 33 = .ok (.iinc 4 1, 3) := by decide +kernel
theorem dX4_lay_36 : decode cX4_lay 36 = .ok (.goto (-19), 3) := by decide +kernel
theorem dX4_lay_39 : decode cX4_lay 39 = .ok (.return_, 1) := by decide +kernel
theorem dX4_takeAway_0 : decode cX4_takeAway 0 = .ok (.aload_n 0, 1) := by decide +kernel
theorem dX4_takeAway_1 : decode cX4_takeAway 1 = .ok (.getfield 20, 3) := by decide +kernel
theorem dX4_takeAway_4 : decode cX4_takeAway 4 = .ok (.iload_n 1, 1) := by decide +kernel
theorem dX4_takeAway_5 : decode cX4_takeAway 5 = .ok (.iaload, 1) := by decide +kernel
theorem dX4_takeAway_6 : decode cX4_takeAway 6 = .ok (.istore_n 2, 1) := by decide +kernel
theorem dX4_takeAway_7 : decode cX4_takeAway 7 = .ok (.aload_n 0, 1) := by decide +kernel
theorem dX4_takeAway_8 : decode cX4_takeAway 8 = .ok (.getfield 20, 3) := by decide +kernel
theorem dX4_takeAway_11 : decode cX4_takeAway 11 = .ok (.iload_n 1, 1) := by decide +kernel
theorem dX4_takeAway_12 : decode cX4_takeAway 12 = .ok (.iconst (-1), 1) := by decide +kernel
theorem dX4_takeAway_13 : decode cX4_takeAway 13 = .ok (.iastore, 1) := by decide +kernel
theorem dX4_takeAway_14 : decode cX4_takeAway 14 = .ok (.iload_n 2, 1) := by decide +kernel
theorem dX4_takeAway_15 : decode cX4_takeAway 15 = .ok (.ireturn, 1) := by decide +kernel
theorem dX4_put_0 : decode cX4_put 0 = .ok (.aload_n 0, 1) := by decide +kernel
theorem dX4_put_1 : decode cX4_put 1 = .ok (.getfield 16, 3) := by decide +kernel
theorem dX4_put_4 : decode cX4_put 4 = .ok (.iload_n 1, 1) := by decide +kernel
theorem dX4_put_5 : decode cX4_put 5 = .ok (.iaload, 1) := by decide +kernel
theorem dX4_put_6 : decode cX4_put 6 = .ok (.ifCond .ne 16, 3) := by decide +kernel
theorem dX4_put_9 : decode cX4_put 9 = .ok (.aload_n 0, 1) := by decide +kernel
theorem dX4_put_10 : decode cX4_put 10 = .ok (.getfield 11, 3) := by decide +kernel
theorem dX4_put_13 : decode cX4_put 13 = .ok (.iload_n 1, 1) := by decide +kernel
theorem dX4_put_14 : decode cX4_put 14 = .ok (.aaload, 1) := by decide +kernel
theorem dX4_put_15 : decode cX4_put 15 = .ok (.iload_n 2, 1) := by decide +kernel
theorem dX4_put_16 : decode cX4_put 16 = .ok (.iload_n 3, 1) := by decide +kernel
theorem dX4_put_17 : decode cX4_put 17 = .ok (.i2b, 1) := by decide +kernel
theorem dX4_put_18 : decode cX4_put 18 = .ok (.iastore, 1) := by decide +kernel
theorem dX4_put_19 : decode cX4_put 19 = .ok (.goto 27, 3) := by decide +kernel
theorem dX4_put_22 : decode cX4_put 22 = .ok (.aload_n 0, 1) := by decide +kernel
theorem dX4_put_23 : decode cX4_put 23 = .ok (.getfield 11, 3) := by decide +kernel
theorem dX4_put_26 : decode cX4_put 26 = .ok (.iload_n 1, 1) := by decide +kernel
theorem dX4_put_27 : decode cX4_put 27 = .ok (.aaload, 1) := by decide +kernel
theorem dX4_put_28 : decode cX4_put 28 = .ok (.iload_n 2, 1) := by decide +kernel
theorem dX4_put_29 : decode cX4_put 29 = .ok (.aload_n 0, 1) := by decide +kernel
theorem dX4_put_30 : decode cX4_put 30 = .ok (.getfield 16, 3) := by decide +kernel
theorem dX4_put_33 : decode cX4_put 33 = .ok (.iload_n 1, 1) := by decide +kernel
theorem dX4_put_34 : decode cX4_put 34 = .ok (.iaload, 1) := by decide +kernel
theorem dX4_put_35 : decode cX4_put 35 = .ok (.iconst 1, 1) := by decide +kernel
theorem dX4_put_36 : decode cX4_put 36 = .ok (.if_icmp .ne 8, 3) := by decide +kernel
theorem dX4_put_39 : decode cX4_put 39 = .ok (.iload_n 3, 1) := by decide +kernel
theorem dX4_put_40 : decode cX4_put 40 = .ok (.i2s, 1) := by decide +kernel
theorem dX4_put_41 : decode cX4_put 41 = .ok (.goto 4, 3) := by decide +kernel
theorem dX4_put_44 : decode cX4_put 44 = .ok (.iload_n 3, 1) := by decide +kernel
theorem dX4_put_45 : decode cX4_put 45 = .ok (.iastore, 1) := by decide +kernel
theorem dX4_put_46 : decode cX4_put 46 = .ok (.aload_n 0, 1) := by decide +kernel
theorem dX4_put_47 : decode cX4_put 47 = .ok (.getfield 11, 3) := by decide +kernel
theorem dX4_put_50 : decode cX4_put 50 = .ok (.iload_n 1, 1) := by decide +kernel
theorem dX4_put_51 : decode cX4_put 51 = .ok (.aaload, 1) := by decide +kernel
theorem dX4_put_52 : decode cX4_put 52 = .ok (.iload_n 2, 1) := by decide +kernel
theorem dX4_put_53 : decode cX4_put 53 = .ok (.iaload, 1) := by decide +kernel
theorem dX4_put_54 : decode cX4_put 54 = .ok (.ireturn, 1) := by decide +kernel
theorem dX4_itemAt_0 : decode cX4_itemAt 0 = .ok (.aload_n 0, 1) := by decide +kernel
theorem dX4_itemAt_1 : decode cX4_itemAt 1 = .ok (.getfield 11, 3) := by decide +kernel
theorem dX4_itemAt_4 : decode cX4_itemAt 4 = .ok (.iload_n 1, 1) := by decide +kernel
theorem dX4_itemAt_5 : decode cX4_itemAt 5 = .ok (.aaload, 1) := by decide +kernel
theorem dX4_itemAt_6 : decode cX4_itemAt 6 = .ok (.iload_n 2, 1) := by decide +kernel
theorem dX4_itemAt_7 : decode cX4_itemAt 7 = .ok (.iaload, 1) := by decide +kernel
theorem dX4_itemAt_8 : decode cX4_itemAt 8 = .ok (.ireturn, 1) := by decide +kernel
theorem dX4_findingOf_0 : decode cX4_findingOf 0 = .ok (.aload_n 0, 1) := by decide +kernel
theorem dX4_findingOf_1 : decode cX4_findingOf 1 = .ok (.iload_n 1, 1) := by decide +kernel
theorem dX4_findingOf_2 : decode cX4_findingOf 2 = .ok (.invokevirtual 27, 3) := by decide +kernel
theorem dX4_findingOf_5 : decode cX4_findingOf 5 = .ok (.ifCond .eq 5, 3) := by decide +kernel
theorem dX4_findingOf_8 : decode cX4_findingOf 8 = .ok (.iconst 1, 1) := by decide +kernel
theorem dX4_findingOf_9 : decode cX4_findingOf 9 = .ok (.ireturn, 1) := by decide +kernel
theorem dX4_findingOf_10 : decode cX4_findingOf 10 = .ok (.aload_n 0, 1) := by decide +kernel
theorem dX4_findingOf_11 : decode cX4_findingOf 11 = .ok (.iload_n 1, 1) := by decide +kernel
theorem dX4_findingOf_12 : decode cX4_findingOf 12 = .ok (.iload_n 2, 1) := by decide +kernel
theorem dX4_findingOf_13 : decode cX4_findingOf 13 = .ok (.iload_n 3, 1) := by decide +kernel
theorem dX4_findingOf_14 : decode cX4_findingOf 14 = .ok (.invokevirtual 31, 3) := by decide +kernel
theorem dX4_findingOf_17 : decode cX4_findingOf 17 = .ok (.ifCond .eq 7, 3) := by decide +kernel
theorem dX4_findingOf_20 : decode cX4_findingOf 20 = .ok (.iconst 0, 1) := by decide +kernel
theorem dX4_findingOf_21 : decode cX4_findingOf 21 = .ok (.goto 4, 3) := by decide +kernel
theorem dX4_findingOf_24 : decode cX4_findingOf 24 = .ok (.iconst 2, 1) := by decide +kernel
theorem dX4_findingOf_25 : decode cX4_findingOf 25 = .ok (.ireturn, 1) := by decide +kernel
theorem dX4_findingOfMove_0 : decode cX4_findingOfMove 0 = .ok (.aload_n 0, 1) := by decide +kernel
theorem dX4_findingOfMove_1 : decode cX4_findingOfMove 1 = .ok (.iload_n 1, 1) := by decide +kernel
theorem dX4_findingOfMove_2 : decode cX4_findingOfMove 2 = .ok (.invokevirtual 27, 3) := by decide +kernel
theorem dX4_findingOfMove_5 : decode cX4_findingOfMove 5 = .ok (.ifCond .ne 11, 3) := by decide +kernel
theorem dX4_findingOfMove_8 : decode cX4_findingOfMove 8 = .ok (.aload_n 0, 1) := by decide +kernel
theorem dX4_findingOfMove_9 : decode cX4_findingOfMove 9 = .ok (.iload_n 3, 1) := by decide +kernel
theorem dX4_findingOfMove_10 : decode cX4_findingOfMove 10 = .ok (.invokevirtual 27, 3) := by decide +kernel
theorem dX4_findingOfMove_13 : decode cX4_findingOfMove 13 = .ok (.ifCond .eq 5, 3) := by decide +kernel
theorem dX4_findingOfMove_16 : decode cX4_findingOfMove 16 = .ok (.iconst 1, 1) := by decide +kernel
theorem dX4_findingOfMove_17 : decode cX4_findingOfMove 17 = .ok (.ireturn, 1) := by decide +kernel
theorem dX4_findingOfMove_18 : decode cX4_findingOfMove 18 = .ok (.aload_n 0, 1) := by decide +kernel
theorem dX4_findingOfMove_19 : decode cX4_findingOfMove 19 = .ok (.getfield 16, 3) := by decide +kernel
theorem dX4_findingOfMove_22 : decode cX4_findingOfMove 22 = .ok (.iload_n 1, 1) := by decide +kernel
theorem dX4_findingOfMove_23 : decode cX4_findingOfMove 23 = .ok (.iaload, 1) := by decide +kernel
theorem dX4_findingOfMove_24 : decode cX4_findingOfMove 24 = .ok (.aload_n 0, 1) := by decide +kernel
theorem dX4_findingOfMove_25 : decode cX4_findingOfMove 25 = .ok (.getfield 16, 3) := by decide +kernel
theorem dX4_findingOfMove_28 : decode cX4_findingOfMove 28 = .ok (.iload_n 3, 1) := by decide +kernel
theorem dX4_findingOfMove_29 : decode cX4_findingOfMove 29 = .ok (.iaload, 1) := by decide +kernel
theorem dX4_findingOfMove_30 : decode cX4_findingOfMove 30 = .ok (.if_icmp .eq 5, 3) := by decide +kernel
theorem dX4_findingOfMove_33 : decode cX4_findingOfMove 33 = .ok (.iconst 5, 1) := by decide +kernel
theorem dX4_findingOfMove_34 : decode cX4_findingOfMove 34 = .ok (.ireturn, 1) := by decide +kernel
theorem dX4_findingOfMove_35 : decode cX4_findingOfMove 35 = .ok (.aload_n 0, 1) := by decide +kernel
theorem dX4_findingOfMove_36 : decode cX4_findingOfMove 36 = .ok (.iload_n 1, 1) := by decide +kernel
theorem dX4_findingOfMove_37 : decode cX4_findingOfMove 37 = .ok (.iload_n 2, 1) := by decide +kernel
theorem dX4_findingOfMove_38 : decode cX4_findingOfMove 38 = .ok (.iload 5, 2) := by decide +kernel
theorem dX4_findingOfMove_40 : decode cX4_findingOfMove 40 = .ok (.invokevirtual 31, 3) := by decide +kernel
theorem dX4_findingOfMove_43 : decode cX4_findingOfMove 43 = .ok (.ifCond .eq 19, 3) := by decide +kernel
theorem dX4_findingOfMove_46 : decode cX4_findingOfMove 46 = .ok (.aload_n 0, 1) := by decide +kernel
theorem dX4_findingOfMove_47 : decode cX4_findingOfMove 47 = .ok (.iload_n 3, 1) := by decide +kernel
theorem dX4_findingOfMove_48 : decode cX4_findingOfMove 48 = .ok (.iload 4, 2) := by decide +kernel
theorem dX4_findingOfMove_50 : decode cX4_findingOfMove 50 = .ok (.iload 5, 2) := by decide +kernel
theorem dX4_findingOfMove_52 : decode cX4_findingOfMove 52 = .ok (.invokevirtual 31, 3) := by decide +kernel
theorem dX4_findingOfMove_55 : decode cX4_findingOfMove 55 = .ok (.ifCond .eq 7, 3) := by decide +kernel
theorem dX4_findingOfMove_58 : decode cX4_findingOfMove 58 = .ok (.iconst 0, 1) := by decide +kernel
theorem dX4_findingOfMove_59 : decode cX4_findingOfMove 59 = .ok (.goto 4, 3) := by decide +kernel
theorem dX4_findingOfMove_62 : decode cX4_findingOfMove 62 = .ok (.iconst 2, 1) := by decide +kernel
theorem dX4_findingOfMove_63 : decode cX4_findingOfMove 63 = .ok (.ireturn, 1) := by decide +kernel
theorem dX4_move_0 : decode cX4_move 0 = .ok (.aload_n 0, 1) := by decide +kernel
theorem dX4_move_1 : decode cX4_move 1 = .ok (.getfield 11, 3) := by decide +kernel
theorem dX4_move_4 : decode cX4_move 4 = .ok (.iload_n 1, 1) := by decide +kernel
theorem dX4_move_5 : decode cX4_move 5 = .ok (.aaload, 1) := by decide +kernel
theorem dX4_move_6 : decode cX4_move 6 = .ok (.iload_n 2, 1) := by decide +kernel
theorem dX4_move_7 : decode cX4_move 7 = .ok (.aload_n 0, 1) := by decide +kernel
theorem dX4_move_8 : decode cX4_move 8 = .ok (.getfield 11, 3) := by decide +kernel
theorem dX4_move_11 : decode cX4_move 11 = .ok (.iload_n 3, 1) := by decide +kernel
theorem dX4_move_12 : decode cX4_move 12 = .ok (.aaload, 1) := by decide +kernel
theorem dX4_move_13 : decode cX4_move 13 = .ok (.iload 4, 2) := by decide +kernel
theorem dX4_move_15 : decode cX4_move 15 = .ok (.iload 5, 2) := by decide +kernel
theorem dX4_move_17 : decode cX4_move 17 = .ok (.invokestatic 34, 3) := by decide +kernel
theorem dX4_move_20 : decode cX4_move 20 = .ok (.return_, 1) := by decide +kernel
theorem dX4_rowsThere_0 : decode cX4_rowsThere 0 = .ok (.iconst 0, 1) := by decide +kernel
theorem dX4_rowsThere_1 : decode cX4_rowsThere 1 = .ok (.istore_n 1, 1) := by decide +kernel
theorem dX4_rowsThere_2 : decode cX4_rowsThere 2 = .ok (.iconst 0, 1) := by decide +kernel
theorem dX4_rowsThere_3 : decode cX4_rowsThere 3 = .ok (.istore_n 2, 1) := by decide +kernel
theorem dX4_rowsThere_4 : decode cX4_rowsThere 4 = .ok (.iload_n 2, 1) := by decide +kernel
theorem dX4_rowsThere_5 : decode cX4_rowsThere 5 = .ok (.bipush 8, 2) := by decide +kernel
theorem dX4_rowsThere_7 : decode cX4_rowsThere 7 = .ok (.if_icmp .ge 25, 3) := by decide +kernel
theorem dX4_rowsThere_10 : decode cX4_rowsThere 10 = .ok (.iload_n 1, 1) := by decide +kernel
theorem dX4_rowsThere_11 : decode cX4_rowsThere 11 = .ok (.aload_n 0, 1) := by decide +kernel
theorem dX4_rowsThere_12 : decode cX4_rowsThere 12 = .ok (.iload_n 2, 1) := by decide +kernel
theorem dX4_rowsThere_13 : decode cX4_rowsThere 13 = .ok (.invokevirtual 27, 3) := by decide +kernel
theorem dX4_rowsThere_16 : decode cX4_rowsThere 16 = .ok (.ifCond .eq 7, 3) := by decide +kernel
theorem dX4_rowsThere_19 : decode cX4_rowsThere 19 = .ok (.iconst 0, 1) := by decide +kernel
theorem dX4_rowsThere_20 : decode cX4_rowsThere 20 = .ok (.goto 4, 3) := by decide +kernel
theorem dX4_rowsThere_23 : decode cX4_rowsThere 23 = .ok (.iconst 1, 1) := by decide +kernel
theorem dX4_rowsThere_24 : decode cX4_rowsThere 24 = .ok (.iadd, 1) := by decide +kernel
theorem dX4_rowsThere_25 : decode cX4_rowsThere 25 = .ok (.istore_n 1, 1) := by decide +kernel
theorem dX4_rowsThere_26 : decode cX4_rowsThere 26 = .ok (.iinc 2 1, 3) := by decide +kernel
theorem dX4_rowsThere_29 : decode cX4_rowsThere 29 = .ok (.goto (-25), 3) := by decide +kernel
theorem dX4_rowsThere_32 : decode cX4_rowsThere 32 = .ok (.iload_n 1, 1) := by decide +kernel
theorem dX4_rowsThere_33 : decode cX4_rowsThere 33 = .ok (.ireturn, 1) := by decide +kernel
theorem dX4_isSpan_0 : decode cX4_isSpan 0 = .ok (.iload_n 2, 1) := by decide +kernel
theorem dX4_isSpan_1 : decode cX4_isSpan 1 = .ok (.ifCond .lt 33, 3) := by decide +kernel
theorem dX4_isSpan_4 : decode cX4_isSpan 4 = .ok (.iload_n 3, 1) := by decide +kernel
theorem dX4_isSpan_5 : decode cX4_isSpan 5 = .ok (.ifCond .lt 29, 3) := by decide +kernel
theorem dX4_isSpan_8 : decode cX4_isSpan 8 = .ok (.iload_n 2, 1) := by decide +kernel
theorem dX4_isSpan_9 : decode cX4_isSpan 9 = .ok (.aload_n 0, 1) := by decide +kernel
theorem dX4_isSpan_10 : decode cX4_isSpan 10 = .ok (.getfield 20, 3) := by decide +kernel
theorem dX4_isSpan_13 : decode cX4_isSpan 13 = .ok (.iload_n 1, 1) := by decide +kernel
theorem dX4_isSpan_14 : decode cX4_isSpan 14 = .ok (.iaload, 1) := by decide +kernel
theorem dX4_isSpan_15 : decode cX4_isSpan 15 = .ok (.if_icmp .gt 19, 3) := by decide +kernel
theorem dX4_isSpan_18 : decode cX4_isSpan 18 = .ok (.iload_n 3, 1) := by decide +kernel
theorem dX4_isSpan_19 : decode cX4_isSpan 19 = .ok (.aload_n 0, 1) := by decide +kernel
theorem dX4_isSpan_20 : decode cX4_isSpan 20 = .ok (.getfield 20, 3) := by decide +kernel
theorem dX4_isSpan_23 : decode cX4_isSpan 23 = .ok (.iload_n 1, 1) := by decide +kernel
theorem dX4_isSpan_24 : decode cX4_isSpan 24 = .ok (.iaload, 1) := by decide +kernel
theorem dX4_isSpan_25 : decode cX4_isSpan 25 = .ok (.iload_n 2, 1) := by decide +kernel
theorem dX4_isSpan_26 : decode cX4_isSpan 26 = .ok (.isub, 1) := by decide +kernel
theorem dX4_isSpan_27 : decode cX4_isSpan 27 = .ok (.if_icmp .gt 7, 3) := by decide +kernel
theorem dX4_isSpan_30 : decode cX4_isSpan 30 = .ok (.iconst 1, 1) := by decide +kernel
theorem dX4_isSpan_31 : decode cX4_isSpan 31 = .ok (.goto 4, 3) := by decide +kernel
theorem dX4_isSpan_34 : decode cX4_isSpan 34 = .ok (.iconst 0, 1) := by decide +kernel
theorem dX4_isSpan_35 : decode cX4_isSpan 35 = .ok (.ireturn, 1) := by decide +kernel
theorem dX5_init_0 : decode cX5_init 0 = .ok (.aload_n 0, 1) := by decide +kernel
theorem dX5_init_1 : decode cX5_init 1 = .ok (.invokespecial 3, 3) := by decide +kernel
theorem dX5_init_4 : decode cX5_init 4 = .ok (.aload_n 0, 1) := by decide +kernel
theorem dX5_init_5 : decode cX5_init 5 = .ok (.iconst 5, 1) := by decide +kernel
theorem dX5_init_6 : decode cX5_init 6 = .ok (.newarray .int, 2) := by decide +kernel
theorem dX5_init_8 : decode cX5_init 8 = .ok (.putfield 9, 3) := by decide +kernel
theorem dX5_init_11 : decode cX5_init 11 = .ok (.aload_n 0, 1) := by decide +kernel
theorem dX5_init_12 : decode cX5_init 12 = .ok (.iconst 5, 1) := by decide +kernel
theorem dX5_init_13 : decode cX5_init 13 = .ok (.newarray .int, 2) := by decide +kernel
theorem dX5_init_15 : decode cX5_init 15 = .ok (.putfield 15, 3) := by decide +kernel
theorem dX5_init_18 : decode cX5_init 18 = .ok (.aload_n 0, 1) := by decide +kernel
theorem dX5_init_19 : decode cX5_init 19 = .ok (.iconst 5, 1) := by decide +kernel
theorem dX5_init_20 : decode cX5_init 20 = .ok (.newarray .int, 2) := by decide +kernel
theorem dX5_init_22 : decode cX5_init 22 = .ok (.putfield 18, 3) := by decide +kernel
theorem dX5_init_25 : decode cX5_init 25 = .ok (.aload_n 0, 1) := by decide +kernel
theorem dX5_init_26 : decode cX5_init 26 = .ok (.bipush 6, 2) := by decide +kernel
theorem dX5_init_28 : decode cX5_init 28 = .ok (.newarray .int, 2) := by decide +kernel
theorem dX5_init_30 : decode cX5_init 30 = .ok (.putfield 21, 3) := by decide +kernel
theorem dX5_init_33 : decode cX5_init 33 = .ok (.aload_n 0, 1) := by decide +kernel
theorem dX5_init_34 : decode cX5_init 34 = .ok (.bipush 6, 2) := by decide +kernel
theorem dX5_init_36 : decode cX5_init 36 = .ok (.newarray .int, 2) := by decide +kernel
theorem dX5_init_38 : decode cX5_init 38 = .ok (.putfield 24, 3) := by decide +kernel
theorem dX5_init_41 : decode cX5_init 41 = .ok (.aload_n 0, 1) := by decide +kernel
theorem dX5_init_42 : decode cX5_init 42 = .ok (.bipush 6, 2) := by decide +kernel
theorem dX5_init_44 : decode cX5_init 44 = .ok (.newarray .int, 2) := by decide +kernel
theorem dX5_init_46 : decode cX5_init 46 = .ok (.putfield 27, 3) := by decide +kernel
theorem dX5_init_49 : decode cX5_init 49 = .ok (.aload_n 0, 1) := by decide +kernel
theorem dX5_init_50 : decode cX5_init 50 = .ok (.bipush 6, 2) := by decide +kernel
theorem dX5_init_52 : decode cX5_init 52 = .ok (.newarray .int, 2) := by decide +kernel
theorem dX5_init_54 : decode cX5_init 54 = .ok (.putfield 30, 3) := by decide +kernel
theorem dX5_init_57 : decode cX5_init 57 = .ok (.aload_n 0, 1) := by decide +kernel
theorem dX5_init_58 : decode cX5_init 58 = .ok (.bipush 6, 2) := by decide +kernel
theorem dX5_init_60 : decode cX5_init 60 = .ok (.newarray .int, 2) := by decide +kernel
theorem dX5_init_62 : decode cX5_init 62 = .ok (.putfield 33, 3) := by decide +kernel
theorem dX5_init_65 : decode cX5_init 65 = .ok (.aload_n 0, 1) := by decide +kernel
theorem dX5_init_66 : decode cX5_init 66 = .ok (.bipush 6, 2) := by decide +kernel
theorem dX5_init_68 : decode cX5_init 68 = .ok (.newarray .int, 2) := by decide +kernel
theorem dX5_init_70 : decode cX5_init 70 = .ok (.putfield 36, 3) := by decide +kernel
theorem dX5_init_73 : decode cX5_init 73 = .ok (.aload_n 0, 1) := by decide +kernel
theorem dX5_init_74 : decode cX5_init 74 = .ok (.bipush 6, 2) := by decide +kernel
theorem dX5_init_76 : decode cX5_init 76 = .ok (.newarray .int, 2) := by decide +kernel
theorem dX5_init_78 : decode cX5_init 78 = .ok (.putfield 39, 3) := by decide +kernel
theorem dX5_init_81 : decode cX5_init 81 = .ok (.aload_n 0, 1) := by decide +kernel
theorem dX5_init_82 : decode cX5_init 82 = .ok (.iconst 5, 1) := by decide +kernel
theorem dX5_init_83 : decode cX5_init 83 = .ok (.newarray .int, 2) := by decide +kernel
theorem dX5_init_85 : decode cX5_init 85 = .ok (.putfield 42, 3) := by decide +kernel
theorem dX5_init_88 : decode cX5_init 88 = .ok (.return_, 1) := by decide +kernel
theorem dX5_hasChild_0 : decode cX5_hasChild 0 = .ok (.iload_n 1, 1) := by decide +kernel
theorem dX5_hasChild_1 : decode cX5_hasChild 1 = .ok (.ifCond .lt 15, 3) := by decide +kernel
theorem dX5_hasChild_4 : decode cX5_hasChild 4 = .ok (.iload_n 1, 1) := by decide +kernel
theorem dX5_hasChild_5 : decode cX5_hasChild 5 = .ok (.aload_n 0, 1) := by decide +kernel
theorem dX5_hasChild_6 : decode cX5_hasChild 6 = .ok (.getfield 45, 3) := by decide +kernel
theorem dX5_hasChild_9 : decode cX5_hasChild 9 = .ok (.if_icmp .ge 7, 3) := by decide +kernel
theorem dX5_hasChild_12 : decode cX5_hasChild 12 = .ok (.iconst 1, 1) := by decide +kernel
theorem dX5_hasChild_13 : decode cX5_hasChild 13 = .ok (.goto 4, 3) := by decide +kernel
theorem dX5_hasChild_16 : decode cX5_hasChild 16 = .ok (.iconst 0, 1) := by decide +kernel
theorem dX5_hasChild_17 : decode cX5_hasChild 17 = .ok (.ireturn, 1) := by decide +kernel
theorem dX5_hasGran_0 : decode cX5_hasGran 0 = .ok (.iload_n 1, 1) := by decide +kernel
theorem dX5_hasGran_1 : decode cX5_hasGran 1 = .ok (.ifCond .lt 15, 3) := by decide +kernel
theorem dX5_hasGran_4 : decode cX5_hasGran 4 = .ok (.iload_n 1, 1) := by decide +kernel
theorem dX5_hasGran_5 : decode cX5_hasGran 5 = .ok (.aload_n 0, 1) := by decide +kernel
theorem dX5_hasGran_6 : decode cX5_hasGran 6 = .ok (.getfield 49, 3) := by decide +kernel
theorem dX5_hasGran_9 : decode cX5_hasGran 9 = .ok (.if_icmp .ge 7, 3) := by decide +kernel
theorem dX5_hasGran_12 : decode cX5_hasGran 12 = .ok (.iconst 1, 1) := by decide +kernel
theorem dX5_hasGran_13 : decode cX5_hasGran 13 = .ok (.goto 4, 3) := by decide +kernel
theorem dX5_hasGran_16 : decode cX5_hasGran 16 = .ok (.iconst 0, 1) := by decide +kernel
theorem dX5_hasGran_17 : decode cX5_hasGran 17 = .ok (.ireturn, 1) := by decide +kernel
theorem dX5_allChildren_0 : decode cX5_allChildren 0 = .ok (.iconst 1, 1) := by decide +kernel
theorem dX5_allChildren_1 : decode cX5_allChildren 1 = .ok (.aload_n 0, 1) := by decide +kernel
theorem dX5_allChildren_2 : decode cX5_allChildren 2 = .ok (.getfield 45, 3) := by decide +kernel
theorem dX5_allChildren_5 : decode cX5_allChildren 5 = .ok (.ishl, 1) := by decide +kernel
theorem dX5_allChildren_6 : decode cX5_allChildren 6 = .ok (.iconst 1, 1) := by decide +kernel
theorem dX5_allChildren_7 : decode cX5_allChildren 7 = .ok (.isub, 1) := by decide +kernel
theorem dX5_allChildren_8 : decode cX5_allChildren 8 = .ok (.ireturn, 1) := by decide +kernel
theorem dX5_save_0 : decode cX5_save 0 = .ok (.aload_n 1, 1) := by decide +kernel
theorem dX5_save_1 : decode cX5_save 1 = .ok (.iconst 0, 1) := by decide +kernel
theorem dX5_save_2 : decode cX5_save 2 = .ok (.aload_n 0, 1) := by decide +kernel
theorem dX5_save_3 : decode cX5_save 3 = .ok (.getfield 52, 3) := by decide +kernel
theorem dX5_save_6 : decode cX5_save 6 = .ok (.iastore, 1) := by decide +kernel
theorem dX5_save_7 : decode cX5_save 7 = .ok (.aload_n 1, 1) := by decide +kernel
theorem dX5_save_8 : decode cX5_save 8 = .ok (.iconst 1, 1) := by decide +kernel
theorem dX5_save_9 : decode cX5_save 9 = .ok (.aload_n 0, 1) := by decide +kernel
theorem dX5_save_10 : decode cX5_save 10 = .ok (.getfield 55, 3) := by decide +kernel
theorem dX5_save_13 : decode cX5_save 13 = .ok (.iastore, 1) := by decide +kernel
theorem dX5_save_14 : decode cX5_save 14 = .ok (.aload_n 1, 1) := by decide +kernel
theorem dX5_save_15 : decode cX5_save 15 = .ok (.iconst 2, 1) := by decide +kernel
theorem dX5_save_16 : decode cX5_save 16 = .ok (.aload_n 0, 1) := by decide +kernel
theorem dX5_save_17 : decode cX5_save 17 = .ok (.getfield 45, 3) := by decide +kernel
theorem dX5_save_20 : decode cX5_save 20 = .ok (.iastore, 1) := by decide +kernel
theorem dX5_save_21 : decode cX5_save 21 = .ok (.aload_n 1, 1) := by decide +kernel
theorem dX5_save_22 : decode cX5_save 22 = .ok (.iconst 3, 1) := by decide +kernel
theorem dX5_save_23 : decode cX5_save 23 = .ok (.aload_n 0, 1) := by decide +kernel
theorem dX5_save_24 : decode cX5_save 24 = .ok (.getfield 49, 3) := by decide +kernel
theorem dX5_save_27 : decode cX5_save 27 = .ok (.iastore, 1) := by decide +kernel
theorem dX5_save_28 : decode cX5_save 28 = .ok (.aload_n 1, 1) := by decide +kernel
theorem dX5_save_29 : decode cX5_save 29 = .ok (.iconst 4, 1) := by decide +kernel
theorem dX5_save_30 : decode cX5_save 30 = .ok (.aload_n 0, 1) := by decide +kernel
theorem dX5_save_31 : decode cX5_save 31 = .ok (.getfield 58, 3) := by decide +kernel
theorem dX5_save_34 : decode cX5_save 34 = .ok (.iastore, 1) := by decide +kernel
theorem dX5_save_35 : decode cX5_save 35 = .ok (.iconst 5, 1) := by decide +kernel
theorem dX5_save_36 : decode cX5_save 36 = .ok (.istore_n 2, 1) := by decide +kernel
theorem dX5_save_37 : decode cX5_save 37 = .ok (.iconst 0, 1) := by decide +kernel
theorem dX5_save_38 : decode cX5_save 38 = .ok (.istore_n 3, 1) := by decide +kernel
theorem dX5_save_39 : decode cX5_save 39 = .ok (.iload_n 3, 1) := by decide +kernel
theorem dX5_save_40 : decode cX5_save 40 = .ok (.iconst 5, 1) := by decide +kernel
theorem dX5_save_41 : decode cX5_save 41 = .ok (.if_icmp .ge 45, 3) := by decide +kernel
theorem dX5_save_44 : decode cX5_save 44 = .ok (.aload_n 1, 1) := by decide +kernel
theorem dX5_save_45 : decode cX5_save 45 = .ok (.iload_n 2, 1) := by decide +kernel
theorem dX5_save_46 : decode cX5_save 46 = .ok (.iinc 2 1, 3) := by decide +kernel
theorem dX5_save_49 : decode cX5_save 49 = .ok (.aload_n 0, 1) := by decide +kernel
theorem dX5_save_50 : decode cX5_save 50 = .ok (.getfield 9, 3) := by decide +kernel
theorem dX5_save_53 : decode cX5_save 53 = .ok (.iload_n 3, 1) := by decide +kernel
theorem dX5_save_54 : decode cX5_save 54 = .ok (.iaload, 1) := by decide +kernel
theorem dX5_save_55 : decode cX5_save 55 = .ok (.iastore, 1) := by decide +kernel
theorem dX5_save_56 : decode cX5_save 56 = .ok (.aload_n 1, 1) := by decide +kernel
theorem dX5_save_57 : decode cX5_save 57 = .ok (.iload_n 2, 1) := by decide +kernel
theorem dX5_save_58 : decode cX5_save 58 = .ok (.iinc 2 1, 3) := by decide +kernel
theorem dX5_save_61 : decode cX5_save 61 = .ok (.aload_n 0, 1) := by decide +kernel
theorem dX5_save_62 : decode cX5_save 62 = .ok (.getfield 15, 3) := by decide +kernel
theorem dX5_save_65 : decode cX5_save 65 = .ok (.iload_n 3, 1) := by decide +kernel
theorem dX5_save_66 : decode cX5_save 66 = .ok (.iaload, 1) := by decide +kernel
theorem dX5_save_67 : decode cX5_save 67 = .ok (.iastore, 1) := by decide +kernel
theorem dX5_save_68 : decode cX5_save 68 = .ok (.aload_n 1, 1) := by decide +kernel
theorem dX5_save_69 : decode cX5_save 69 = .ok (.iload_n 2, 1) := by decide +kernel
theorem dX5_save_70 : decode cX5_save 70 = .ok (.iinc 2 1, 3) := by decide +kernel
theorem dX5_save_73 : decode cX5_save 73 = .ok (.aload_n 0, 1) := by decide +kernel
theorem dX5_save_74 : decode cX5_save 74 = .ok (.getfield 18, 3) := by decide +kernel
theorem dX5_save_77 : decode cX5_save 77 = .ok (.iload_n 3, 1) := by decide +kernel
theorem dX5_save_78 : decode cX5_save 78 = .ok (.iaload, 1) := by decide +kernel
theorem dX5_save_79 : decode cX5_save 79 = .ok (.iastore, 1) := by decide +kernel
theorem dX5_save_80 : decode cX5_save 80 = .ok (.iinc 3 1, 3) := by decide +kernel
theorem dX5_save_83 : decode cX5_save 83 = .ok (.goto (-44), 3) := by decide +kernel
theorem dX5_save_86 : decode cX5_save 86 = .ok (.iconst 0, 1) := by decide +kernel
theorem dX5_save_87 : decode cX5_save 87 = .ok (.istore_n 3, 1) := by decide +kernel
theorem dX5_save_88 : decode cX5_save 88 = .ok (.iload_n 3, 1) := by decide +kernel
theorem dX5_save_89 : decode cX5_save 89 = .ok (.bipush 6, 2) := by decide +kernel
theorem dX5_save_91 : decode cX5_save 91 = .ok (.if_icmp .ge 81, 3) := by decide +kernel
theorem dX5_save_94 : decode cX5_save 94 = .ok (.aload_n 1, 1) := by decide +kernel
theorem dX5_save_95 : decode cX5_save 95 = .ok (.iload_n 2, 1) := by decide +kernel
theorem dX5_save_96 : decode cX5_save 96 = .ok (.iinc 2 1, 3) := by decide +kernel
theorem dX5_save_99 : decode cX5_save 99 = .ok (.aload_n 0, 1) := by decide +kernel
theorem dX5_save_100 : decode cX5_save 100 = .ok (.getfield 21, 3) := by decide +kernel
theorem dX5_save_103 : decode cX5_save 103 = .ok (.iload_n 3, 1) := by decide +kernel
theorem dX5_save_104 : decode cX5_save 104 = .ok (.iaload, 1) := by decide +kernel
theorem dX5_save_105 : decode cX5_save 105 = .ok (.iastore, 1) := by decide +kernel
theorem dX5_save_106 : decode cX5_save 106 = .ok (.aload_n 1, 1) := by decide +kernel
theorem dX5_save_107 : decode cX5_save 107 = .ok (.iload_n 2, 1) := by decide +kernel
theorem dX5_save_108 : decode cX5_save 108 = .ok (.iinc 2 1, 3) := by decide +kernel
theorem dX5_save_111 : decode cX5_save 111 = .ok (.aload_n 0, 1) := by decide +kernel
theorem dX5_save_112 : decode cX5_save 112 = .ok (.getfield 24, 3) := by decide +kernel
theorem dX5_save_115 : decode cX5_save 115 = .ok (.iload_n 3, 1) := by decide +kernel
theorem dX5_save_116 : decode cX5_save 116 = .ok (.iaload, 1) := by decide +kernel
theorem dX5_save_117 : decode cX5_save 117 = .ok (.iastore, 1) := by decide +kernel
theorem dX5_save_118 : decode cX5_save 118 = .ok (.aload_n 1, 1) := by decide +kernel
theorem dX5_save_119 : decode cX5_save 119 = .ok (.iload_n 2, 1) := by decide +kernel
theorem dX5_save_120 : decode cX5_save 120 = .ok (.iinc 2 1, 3) := by decide +kernel
theorem dX5_save_123 : decode cX5_save 123 = .ok (.aload_n 0, 1) := by decide +kernel
theorem dX5_save_124 : decode cX5_save 124 = .ok (.getfield 27, 3) := by decide +kernel
theorem dX5_save_127 : decode cX5_save 127 = .ok (.iload_n 3, 1) := by decide +kernel
theorem dX5_save_128 : decode cX5_save 128 = .ok (.iaload, 1) := by decide +kernel
theorem dX5_save_129 : decode cX5_save 129 = .ok (.iastore, 1) := by decide +kernel
theorem dX5_save_130 : decode cX5_save 130 = .ok (.aload_n 1, 1) := by decide +kernel
theorem dX5_save_131 : decode cX5_save 131 = .ok (.iload_n 2, 1) := by decide +kernel
theorem dX5_save_132 : decode cX5_save 132 = .ok (.iinc 2 1, 3) := by decide +kernel
theorem dX5_save_135 : decode cX5_save 135 = .ok (.aload_n 0, 1) := by decide +kernel
theorem dX5_save_136 : decode cX5_save 136 = .ok (.getfield 30, 3) := by decide +kernel
theorem dX5_save_139 : decode cX5_save 139 = .ok (.iload_n 3, 1) := by decide +kernel
theorem dX5_save_140 : decode cX5_save 140 = .ok (.iaload, 1) := by decide +kernel
theorem dX5_save_141 : decode cX5_save 141 = .ok (.iastore, 1) := by decide +kernel
theorem dX5_save_142 : decode cX5_save 142 = .ok (.aload_n 1, 1) := by decide +kernel
theorem dX5_save_143 : decode cX5_save 143 = .ok (.iload_n 2, 1) := by decide +kernel
theorem dX5_save_144 : decode cX5_save 144 = .ok (.iinc 2 1, 3) := by decide +kernel
theorem dX5_save_147 : decode cX5_save 147 = .ok (.aload_n 0, 1) := by decide +kernel
theorem dX5_save_148 : decode cX5_save 148 = .ok (.getfield 33, 3) := by decide +kernel
theorem dX5_save_151 : decode cX5_save 151 = .ok (.iload_n 3, 1) := by decide +kernel
theorem dX5_save_152 : decode cX5_save 152 = .ok (.iaload, 1) := by decide +kernel
theorem dX5_save_153 : decode cX5_save 153 = .ok (.iastore, 1) := by decide +kernel
theorem dX5_save_154 : decode cX5_save 154 = .ok (.aload_n 1, 1) := by decide +kernel
theorem dX5_save_155 : decode cX5_save 155 = .ok (.iload_n 2, 1) := by decide +kernel
theorem dX5_save_156 : decode cX5_save 156 = .ok (.iinc 2 1, 3) := by decide +kernel
theorem dX5_save_159 : decode cX5_save 159 = .ok (.aload_n 0, 1) := by decide +kernel
theorem dX5_save_160 : decode cX5_save 160 = .ok (.getfield 36, 3) := by decide +kernel
theorem dX5_save_163 : decode cX5_save 163 = .ok (.iload_n 3, 1) := by decide +kernel
theorem dX5_save_164 : decode cX5_save 164 = .ok (.iaload, 1) := by decide +kernel
theorem dX5_save_165 : decode cX5_save 165 = .ok (.iastore, 1) := by decide +kernel
theorem dX5_save_166 : decode cX5_save 166 = .ok (.iinc 3 1, 3) := by decide +kernel
theorem dX5_save_169 : decode cX5_save 169 = .ok (.goto (-81), 3) := by decide +kernel
theorem dX5_save_172 : decode cX5_save 172 = .ok (.return_, 1) := by decide +kernel
theorem dX5_load_0 : decode cX5_load 0 = .ok (.aload_n 0, 1) := by decide +kernel
theorem dX5_load_1 : decode cX5_load 1 = .ok (.aload_n 1, 1) := by decide +kernel
theorem dX5_load_2 : decode cX5_load 2 = .ok (.iconst 0, 1) := by decide +kernel
theorem dX5_load_3 : decode cX5_load 3 = .ok (.iaload, 1) := by decide +kernel
theorem dX5_load_4 : decode cX5_load 4 = .ok (.putfield 52, 3) := by decide +kernel
theorem dX5_load_7 : decode cX5_load 7 = .ok (.aload_n 0, 1) := by decide +kernel
theorem dX5_load_8 : decode cX5_load 8 = .ok (.aload_n 1, 1) := by decide +kernel
theorem dX5_load_9 : decode cX5_load 9 = .ok (.iconst 1, 1) := by decide +kernel
theorem dX5_load_10 : decode cX5_load 10 = .ok (.iaload, 1) := by decide +kernel
theorem dX5_load_11 : decode cX5_load 11 = .ok (.putfield 55, 3) := by decide +kernel
theorem dX5_load_14 : decode cX5_load 14 = .ok (.aload_n 0, 1) := by decide +kernel
theorem dX5_load_15 : decode cX5_load 15 = .ok (.aload_n 1, 1) := by decide +kernel
theorem dX5_load_16 : decode cX5_load 16 = .ok (.iconst 2, 1) := by decide +kernel
theorem dX5_load_17 : decode cX5_load 17 = .ok (.iaload, 1) := by decide +kernel
theorem dX5_load_18 : decode cX5_load 18 = .ok (.putfield 45, 3) := by decide +kernel
theorem dX5_load_21 : decode cX5_load 21 = .ok (.aload_n 0, 1) := by decide +kernel
theorem dX5_load_22 : decode cX5_load 22 = .ok (.aload_n 1, 1) := by decide +kernel
theorem dX5_load_23 : decode cX5_load 23 = .ok (.iconst 3, 1) := by decide +kernel
theorem dX5_load_24 : decode cX5_load 24 = .ok (.iaload, 1) := by decide +kernel
theorem dX5_load_25 : decode cX5_load 25 = .ok (.putfield 49, 3) := by decide +kernel
theorem dX5_load_28 : decode cX5_load 28 = .ok (.aload_n 0, 1) := by decide +kernel
theorem dX5_load_29 : decode cX5_load 29 = .ok (.aload_n 1, 1) := by decide +kernel
theorem dX5_load_30 : decode cX5_load 30 = .ok (.iconst 4, 1) := by decide +kernel
theorem dX5_load_31 : decode cX5_load 31 = .ok (.iaload, 1) := by decide +kernel
theorem dX5_load_32 : decode cX5_load 32 = .ok (.putfield 58, 3) := by decide +kernel
theorem dX5_load_35 : decode cX5_load 35 = .ok (.iconst 5, 1) := by decide +kernel
theorem dX5_load_36 : decode cX5_load 36 = .ok (.istore_n 2, 1) := by decide +kernel
theorem dX5_load_37 : decode cX5_load 37 = .ok (.iconst 0, 1) := by decide +kernel
theorem dX5_load_38 : decode cX5_load 38 = .ok (.istore_n 3, 1) := by decide +kernel
theorem dX5_load_39 : decode cX5_load 39 = .ok (.iload_n 3, 1) := by decide +kernel
theorem dX5_load_40 : decode cX5_load 40 = .ok (.iconst 5, 1) := by decide +kernel
theorem dX5_load_41 : decode cX5_load 41 = .ok (.if_icmp .ge 45, 3) := by decide +kernel
theorem dX5_load_44 : decode cX5_load 44 = .ok (.aload_n 0, 1) := by decide +kernel
theorem dX5_load_45 : decode cX5_load 45 = .ok (.getfield 9, 3) := by decide +kernel
theorem dX5_load_48 : decode cX5_load 48 = .ok (.iload_n 3, 1) := by decide +kernel
theorem dX5_load_49 : decode cX5_load 49 = .ok (.aload_n 1, 1) := by decide +kernel
theorem dX5_load_50 : decode cX5_load 50 = .ok (.iload_n 2, 1) := by decide +kernel
theorem dX5_load_51 : decode cX5_load 51 = .ok (.iinc 2 1, 3) := by decide +kernel
theorem dX5_load_54 : decode cX5_load 54 = .ok (.iaload, 1) := by decide +kernel
theorem dX5_load_55 : decode cX5_load 55 = .ok (.iastore, 1) := by decide +kernel
theorem dX5_load_56 : decode cX5_load 56 = .ok (.aload_n 0, 1) := by decide +kernel
theorem dX5_load_57 : decode cX5_load 57 = .ok (.getfield 15, 3) := by decide +kernel
theorem dX5_load_60 : decode cX5_load 60 = .ok (.iload_n 3, 1) := by decide +kernel
theorem dX5_load_61 : decode cX5_load 61 = .ok (.aload_n 1, 1) := by decide +kernel
theorem dX5_load_62 : decode cX5_load 62 = .ok (.iload_n 2, 1) := by decide +kernel
theorem dX5_load_63 : decode cX5_load 63 = .ok (.iinc 2 1, 3) := by decide +kernel
theorem dX5_load_66 : decode cX5_load 66 = .ok (.iaload, 1) := by decide +kernel
theorem dX5_load_67 : decode cX5_load 67 = .ok (.iastore, 1) := by decide +kernel
theorem dX5_load_68 : decode cX5_load 68 = .ok (.aload_n 0, 1) := by decide +kernel
theorem dX5_load_69 : decode cX5_load 69 = .ok (.getfield 18, 3) := by decide +kernel
theorem dX5_load_72 : decode cX5_load 72 = .ok (.iload_n 3, 1) := by decide +kernel
theorem dX5_load_73 : decode cX5_load 73 = .ok (.aload_n 1, 1) := by decide +kernel
theorem dX5_load_74 : decode cX5_load 74 = .ok (.iload_n 2, 1) := by decide +kernel
theorem dX5_load_75 : decode cX5_load 75 = .ok (.iinc 2 1, 3) := by decide +kernel
theorem dX5_load_78 : decode cX5_load 78 = .ok (.iaload, 1) := by decide +kernel
theorem dX5_load_79 : decode cX5_load 79 = .ok (.iastore, 1) := by decide +kernel
theorem dX5_load_80 : decode cX5_load 80 = .ok (.iinc 3 1, 3) := by decide +kernel
theorem dX5_load_83 : decode cX5_load 83 = .ok (.goto (-44), 3) := by decide +kernel
theorem dX5_load_86 : decode cX5_load 86 = .ok (.iconst 0, 1) := by decide +kernel
theorem dX5_load_87 : decode cX5_load 87 = .ok (.istore_n 3, 1) := by decide +kernel
theorem dX5_load_88 : decode cX5_load 88 = .ok (.iload_n 3, 1) := by decide +kernel
theorem dX5_load_89 : decode cX5_load 89 = .ok (.bipush 6, 2) := by decide +kernel
theorem dX5_load_91 : decode cX5_load 91 = .ok (.if_icmp .ge 81, 3) := by decide +kernel
theorem dX5_load_94 : decode cX5_load 94 = .ok (.aload_n 0, 1) := by decide +kernel
theorem dX5_load_95 : decode cX5_load 95 = .ok (.getfield 21, 3) := by decide +kernel
theorem dX5_load_98 : decode cX5_load 98 = .ok (.iload_n 3, 1) := by decide +kernel
theorem dX5_load_99 : decode cX5_load 99 = .ok (.aload_n 1, 1) := by decide +kernel
theorem dX5_load_100 : decode cX5_load 100 = .ok (.iload_n 2, 1) := by decide +kernel
theorem dX5_load_101 : decode cX5_load 101 = .ok (.iinc 2 1, 3) := by decide +kernel
theorem dX5_load_104 : decode cX5_load 104 = .ok (.iaload, 1) := by decide +kernel
theorem dX5_load_105 : decode cX5_load 105 = .ok (.iastore, 1) := by decide +kernel
theorem dX5_load_106 : decode cX5_load 106 = .ok (.aload_n 0, 1) := by decide +kernel
theorem dX5_load_107 : decode cX5_load 107 = .ok (.getfield 24, 3) := by decide +kernel
theorem dX5_load_110 : decode cX5_load 110 = .ok (.iload_n 3, 1) := by decide +kernel
theorem dX5_load_111 : decode cX5_load 111 = .ok (.aload_n 1, 1) := by decide +kernel
theorem dX5_load_112 : decode cX5_load 112 = .ok (.iload_n 2, 1) := by decide +kernel
theorem dX5_load_113 : decode cX5_load 113 = .ok (.iinc 2 1, 3) := by decide +kernel
theorem dX5_load_116 : decode cX5_load 116 = .ok (.iaload, 1) := by decide +kernel
theorem dX5_load_117 : decode cX5_load 117 = .ok (.iastore, 1) := by decide +kernel
theorem dX5_load_118 : decode cX5_load 118 = .ok (.aload_n 0, 1) := by decide +kernel
theorem dX5_load_119 : decode cX5_load 119 = .ok (.getfield 27, 3) := by decide +kernel
theorem dX5_load_122 : decode cX5_load 122 = .ok (.iload_n 3, 1) := by decide +kernel
theorem dX5_load_123 : decode cX5_load 123 = .ok (.aload_n 1, 1) := by decide +kernel
theorem dX5_load_124 : decode cX5_load 124 = .ok (.iload_n 2, 1) := by decide +kernel
theorem dX5_load_125 : decode cX5_load 125 = .ok (.iinc 2 1, 3) := by decide +kernel
theorem dX5_load_128 : decode cX5_load 128 = .ok (.iaload, 1) := by decide +kernel
theorem dX5_load_129 : decode cX5_load 129 = .ok (.iastore, 1) := by decide +kernel
theorem dX5_load_130 : decode cX5_load 130 = .ok (.aload_n 0, 1) := by decide +kernel
theorem dX5_load_131 : decode cX5_load 131 = .ok (.getfield 30, 3) := by decide +kernel
theorem dX5_load_134 : decode cX5_load 134 = .ok (.iload_n 3, 1) := by decide +kernel
theorem dX5_load_135 : decode cX5_load 135 = .ok (.aload_n 1, 1) := by decide +kernel
theorem dX5_load_136 : decode cX5_load 136 = .ok (.iload_n 2, 1) := by decide +kernel
theorem dX5_load_137 : decode cX5_load 137 = .ok (.iinc 2 1, 3) := by decide +kernel
theorem dX5_load_140 : decode cX5_load 140 = .ok (.iaload, 1) := by decide +kernel
theorem dX5_load_141 : decode cX5_load 141 = .ok (.iastore, 1) := by decide +kernel
theorem dX5_load_142 : decode cX5_load 142 = .ok (.aload_n 0, 1) := by decide +kernel
theorem dX5_load_143 : decode cX5_load 143 = .ok (.getfield 33, 3) := by decide +kernel
theorem dX5_load_146 : decode cX5_load 146 = .ok (.iload_n 3, 1) := by decide +kernel
theorem dX5_load_147 : decode cX5_load 147 = .ok (.aload_n 1, 1) := by decide +kernel
theorem dX5_load_148 : decode cX5_load 148 = .ok (.iload_n 2, 1) := by decide +kernel
theorem dX5_load_149 : decode cX5_load 149 = .ok (.iinc 2 1, 3) := by decide +kernel
theorem dX5_load_152 : decode cX5_load 152 = .ok (.iaload, 1) := by decide +kernel
theorem dX5_load_153 : decode cX5_load 153 = .ok (.iastore, 1) := by decide +kernel
theorem dX5_load_154 : decode cX5_load 154 = .ok (.aload_n 0, 1) := by decide +kernel
theorem dX5_load_155 : decode cX5_load 155 = .ok (.getfield 36, 3) := by decide +kernel
theorem dX5_load_158 : decode cX5_load 158 = .ok (.iload_n 3, 1) := by decide +kernel
theorem dX5_load_159 : decode cX5_load 159 = .ok (.aload_n 1, 1) := by decide +kernel
theorem dX5_load_160 : decode cX5_load 160 = .ok (.iload_n 2, 1) := by decide +kernel
theorem dX5_load_161 : decode cX5_load 161 = .ok (.iinc 2 1, 3) := by decide +kernel
theorem dX5_load_164 : decode cX5_load 164 = .ok (.iaload, 1) := by decide +kernel
theorem dX5_load_165 : decode cX5_load 165 = .ok (.iastore, 1) := by decide +kernel
theorem dX5_load_166 : decode cX5_load 166 = .ok (.iinc 3 1, 3) := by decide +kernel
theorem dX5_load_169 : decode cX5_load 169 = .ok (.goto (-81), 3) := by decide +kernel
theorem dX5_load_172 : decode cX5_load 172 = .ok (.return_, 1) := by decide +kernel
theorem dX5_hostOf_0 : decode cX5_hostOf 0 = .ok (.aload_n 0, 1) := by decide +kernel
theorem dX5_hostOf_1 : decode cX5_hostOf 1 = .ok (.getfield 45, 3) := by decide +kernel
theorem dX5_hostOf_4 : decode cX5_hostOf 4 = .ok (.iconst 1, 1) := by decide +kernel
theorem dX5_hostOf_5 : decode cX5_hostOf 5 = .ok (.if_icmp .lt 13, 3) := by decide +kernel
theorem dX5_hostOf_8 : decode cX5_hostOf 8 = .ok (.aload_n 0, 1) := by decide +kernel
theorem dX5_hostOf_9 : decode cX5_hostOf 9 = .ok (.getfield 33, 3) := by decide +kernel
theorem dX5_hostOf_12 : decode cX5_hostOf 12 = .ok (.iload_n 1, 1) := by decide +kernel
theorem dX5_hostOf_13 : decode cX5_hostOf 13 = .ok (.iaload, 1) := by decide +kernel
theorem dX5_hostOf_14 : decode cX5_hostOf 14 = .ok (.iload_n 2, 1) := by decide +kernel
theorem dX5_hostOf_15 : decode cX5_hostOf 15 = .ok (.if_icmp .le 6, 3) := by decide +kernel
theorem dX5_hostOf_18 : decode cX5_hostOf 18 = .ok (.ldc 61, 2) := by decide +kernel
theorem dX5_hostOf_20 : decode cX5_hostOf 20 = .ok (.ireturn, 1) := by decide +kernel
theorem dX5_hostOf_21 : decode cX5_hostOf 21 = .ok (.aload_n 0, 1) := by decide +kernel
theorem dX5_hostOf_22 : decode cX5_hostOf 22 = .ok (.getfield 27, 3) := by decide +kernel
theorem dX5_hostOf_25 : decode cX5_hostOf 25 = .ok (.iload_n 1, 1) := by decide +kernel
theorem dX5_hostOf_26 : decode cX5_hostOf 26 = .ok (.iaload, 1) := by decide +kernel
theorem dX5_hostOf_27 : decode cX5_hostOf 27 = .ok (.aload_n 0, 1) := by decide +kernel
theorem dX5_hostOf_28 : decode cX5_hostOf 28 = .ok (.getfield 30, 3) := by decide +kernel
theorem dX5_hostOf_31 : decode cX5_hostOf 31 = .ok (.iload_n 1, 1) := by decide +kernel
theorem dX5_hostOf_32 : decode cX5_hostOf 32 = .ok (.iaload, 1) := by decide +kernel
theorem dX5_hostOf_33 : decode cX5_hostOf 33 = .ok (.aload_n 0, 1) := by decide +kernel
theorem dX5_hostOf_34 : decode cX5_hostOf 34 = .ok (.getfield 58, 3) := by decide +kernel
theorem dX5_hostOf_37 : decode cX5_hostOf 37 = .ok (.iload_n 2, 1) := by decide +kernel
theorem dX5_hostOf_38 : decode cX5_hostOf 38 = .ok (.iadd, 1) := by decide +kernel
theorem dX5_hostOf_39 : decode cX5_hostOf 39 = .ok (.imul, 1) := by decide +kernel
theorem dX5_hostOf_40 : decode cX5_hostOf 40 = .ok (.iadd, 1) := by decide +kernel
theorem dX5_hostOf_41 : decode cX5_hostOf 41 = .ok (.aload_n 0, 1) := by decide +kernel
theorem dX5_hostOf_42 : decode cX5_hostOf 42 = .ok (.getfield 45, 3) := by decide +kernel
theorem dX5_hostOf_45 : decode cX5_hostOf 45 = .ok (.irem, 1) := by decide +kernel
theorem dX5_hostOf_46 : decode cX5_hostOf 46 = .ok (.ireturn, 1) := by decide +kernel
theorem dX5_seat_0 : decode cX5_seat 0 = .ok (.iconst 0, 1) := by decide +kernel
theorem dX5_seat_1 : decode cX5_seat 1 = .ok (.istore_n 2, 1) := by decide +kernel
theorem dX5_seat_2 : decode cX5_seat 2 = .ok (.iload_n 2, 1) := by decide +kernel
theorem dX5_seat_3 : decode cX5_seat 3 = .ok (.aload_n 0, 1) := by decide +kernel
theorem dX5_seat_4 : decode cX5_seat 4 = .ok (.getfield 45, 3) := by decide +kernel
theorem dX5_seat_7 : decode cX5_seat 7 = .ok (.if_icmp .ge 16, 3) := by decide +kernel
theorem dX5_seat_10 : decode cX5_seat 10 = .ok (.aload_n 0, 1) := by decide +kernel
theorem dX5_seat_11 : decode cX5_seat 11 = .ok (.getfield 42, 3) := by decide +kernel
theorem dX5_seat_14 : decode cX5_seat 14 = .ok (.iload_n 2, 1) := by decide +kernel
theorem dX5_seat_15 : decode cX5_seat 15 = .ok (.iconst 0, 1) := by decide +kernel
theorem dX5_seat_16 : decode cX5_seat 16 = .ok (.iastore, 1) := by decide +kernel
theorem dX5_seat_17 : decode cX5_seat 17 = .ok (.iinc 2 1, 3) := by decide +kernel
theorem dX5_seat_20 : decode cX5_seat 20 = .ok (.goto (-18), 3) := by decide +kernel
theorem dX5_seat_23 : decode cX5_seat 23 = .ok (.iconst 0, 1) := by decide +kernel
theorem dX5_seat_24 : decode cX5_seat 24 = .ok (.istore_n 2, 1) := by decide +kernel
theorem dX5_seat_25 : decode cX5_seat 25 = .ok (.iload_n 2, 1) := by decide +kernel
theorem dX5_seat_26 : decode cX5_seat 26 = .ok (.aload_n 0, 1) := by decide +kernel
theorem dX5_seat_27 : decode cX5_seat 27 = .ok (.getfield 49, 3) := by decide +kernel
theorem dX5_seat_30 : decode cX5_seat 30 = .ok (.if_icmp .ge 49, 3) := by decide +kernel
theorem dX5_seat_33 : decode cX5_seat 33 = .ok (.aload_n 0, 1) := by decide +kernel
theorem dX5_seat_34 : decode cX5_seat 34 = .ok (.getfield 39, 3) := by decide +kernel
theorem dX5_seat_37 : decode cX5_seat 37 = .ok (.iload_n 2, 1) := by decide +kernel
theorem dX5_seat_38 : decode cX5_seat 38 = .ok (.aload_n 0, 1) := by decide +kernel
theorem dX5_seat_39 : decode cX5_seat 39 = .ok (.iload_n 2, 1) := by decide +kernel
theorem dX5_seat_40 : decode cX5_seat 40 = .ok (.iload_n 1, 1) := by decide +kernel
theorem dX5_seat_41 : decode cX5_seat 41 = .ok (.invokevirtual 62, 3) := by decide +kernel
theorem dX5_seat_44 : decode cX5_seat 44 = .ok (.iastore, 1) := by decide +kernel
theorem dX5_seat_45 : decode cX5_seat 45 = .ok (.aload_n 0, 1) := by decide +kernel
theorem dX5_seat_46 : decode cX5_seat 46 = .ok (.getfield 39, 3) := by decide +kernel
theorem dX5_seat_49 : decode cX5_seat 49 = .ok (.iload_n 2, 1) := by decide +kernel
theorem dX5_seat_50 : decode cX5_seat 50 = .ok (.iaload, 1) := by decide +kernel
theorem dX5_seat_51 : decode cX5_seat 51 = .ok (.ldc 61, 2) := by decide +kernel
theorem dX5_seat_53 : decode cX5_seat 53 = .ok (.if_icmp .eq 20, 3) := by decide +kernel
theorem dX5_seat_56 : decode cX5_seat 56 = .ok (.aload_n 0, 1) := by decide +kernel
theorem dX5_seat_57 : decode cX5_seat 57 = .ok (.getfield 42, 3) := by decide +kernel
theorem dX5_seat_60 : decode cX5_seat 60 = .ok (.aload_n 0, 1) := by decide +kernel
theorem dX5_seat_61 : decode cX5_seat 61 = .ok (.getfield 39, 3) := by decide +kernel
theorem dX5_seat_64 : decode cX5_seat 64 = .ok (.iload_n 2, 1) := by decide +kernel
theorem dX5_seat_65 : decode cX5_seat 65 = .ok (.iaload, 1) := by decide +kernel
theorem dX5_seat_66 : decode cX5_seat 66 = .ok (.dup2, 1) := by decide +kernel
theorem dX5_seat_67 : decode cX5_seat 67 = .ok (.iaload, 1) := by decide +kernel
theorem dX5_seat_68 : decode cX5_seat 68 = .ok (.iconst 1, 1) := by decide +kernel
theorem dX5_seat_69 : decode cX5_seat 69 = .ok (.iload_n 2, 1) := by decide +kernel
theorem dX5_seat_70 : decode cX5_seat 70 = .ok (.ishl, 1) := by decide +kernel
theorem dX5_seat_71 : decode cX5_seat 71 = .ok (.ior, 1) := by decide +kernel
theorem dX5_seat_72 : decode cX5_seat 72 = .ok (.iastore, 1) := by decide +kernel
theorem dX5_seat_73 : decode cX5_seat 73 = .ok (.iinc 2 1, 3) := by decide +kernel
theorem dX5_seat_76 : decode cX5_seat 76 = .ok (.goto (-51), 3) := by decide +kernel
theorem dX5_seat_79 : decode cX5_seat 79 = .ok (.return_, 1) := by decide +kernel
theorem dX5_brings_0 : decode cX5_brings 0 = .ok (.aload_n 0, 1) := by decide +kernel
theorem dX5_brings_1 : decode cX5_brings 1 = .ok (.getfield 39, 3) := by decide +kernel
theorem dX5_brings_4 : decode cX5_brings 4 = .ok (.iload_n 1, 1) := by decide +kernel
theorem dX5_brings_5 : decode cX5_brings 5 = .ok (.iaload, 1) := by decide +kernel
theorem dX5_brings_6 : decode cX5_brings 6 = .ok (.ldc 61, 2) := by decide +kernel
theorem dX5_brings_8 : decode cX5_brings 8 = .ok (.if_icmp .eq 28, 3) := by decide +kernel
theorem dX5_brings_11 : decode cX5_brings 11 = .ok (.aload_n 0, 1) := by decide +kernel
theorem dX5_brings_12 : decode cX5_brings 12 = .ok (.getfield 42, 3) := by decide +kernel
theorem dX5_brings_15 : decode cX5_brings 15 = .ok (.aload_n 0, 1) := by decide +kernel
theorem dX5_brings_16 : decode cX5_brings 16 = .ok (.getfield 39, 3) := by decide +kernel
theorem dX5_brings_19 : decode cX5_brings 19 = .ok (.iload_n 1, 1) := by decide +kernel
theorem dX5_brings_20 : decode cX5_brings 20 = .ok (.iaload, 1) := by decide +kernel
theorem dX5_brings_21 : decode cX5_brings 21 = .ok (.iaload, 1) := by decide +kernel
theorem dX5_brings_22 : decode cX5_brings 22 = .ok (.aload_n 0, 1) := by decide +kernel
theorem dX5_brings_23 : decode cX5_brings 23 = .ok (.getfield 36, 3) := by decide +kernel
theorem dX5_brings_26 : decode cX5_brings 26 = .ok (.iload_n 1, 1) := by decide +kernel
theorem dX5_brings_27 : decode cX5_brings 27 = .ok (.iaload, 1) := by decide +kernel
theorem dX5_brings_28 : decode cX5_brings 28 = .ok (.iand, 1) := by decide +kernel
theorem dX5_brings_29 : decode cX5_brings 29 = .ok (.ifCond .ne 7, 3) := by decide +kernel
theorem dX5_brings_32 : decode cX5_brings 32 = .ok (.iconst 1, 1) := by decide +kernel
theorem dX5_brings_33 : decode cX5_brings 33 = .ok (.goto 4, 3) := by decide +kernel
theorem dX5_brings_36 : decode cX5_brings 36 = .ok (.iconst 0, 1) := by decide +kernel
theorem dX5_brings_37 : decode cX5_brings 37 = .ok (.ireturn, 1) := by decide +kernel
theorem dX5_guestsOf_0 : decode cX5_guestsOf 0 = .ok (.aload_n 0, 1) := by decide +kernel
theorem dX5_guestsOf_1 : decode cX5_guestsOf 1 = .ok (.iconst 0, 1) := by decide +kernel
theorem dX5_guestsOf_2 : decode cX5_guestsOf 2 = .ok (.invokevirtual 66, 3) := by decide +kernel
theorem dX5_guestsOf_5 : decode cX5_guestsOf 5 = .ok (.aload_n 0, 1) := by decide +kernel
theorem dX5_guestsOf_6 : decode cX5_guestsOf 6 = .ok (.getfield 42, 3) := by decide +kernel
theorem dX5_guestsOf_9 : decode cX5_guestsOf 9 = .ok (.iload_n 1, 1) := by decide +kernel
theorem dX5_guestsOf_10 : decode cX5_guestsOf 10 = .ok (.iaload, 1) := by decide +kernel
theorem dX5_guestsOf_11 : decode cX5_guestsOf 11 = .ok (.ireturn, 1) := by decide +kernel
theorem dX5_lostOn_0 : decode cX5_lostOn 0 = .ok (.aload_n 0, 1) := by decide +kernel
theorem dX5_lostOn_1 : decode cX5_lostOn 1 = .ok (.iload_n 1, 1) := by decide +kernel
theorem dX5_lostOn_2 : decode cX5_lostOn 2 = .ok (.invokevirtual 66, 3) := by decide +kernel
theorem dX5_lostOn_5 : decode cX5_lostOn 5 = .ok (.iconst 0, 1) := by decide +kernel
theorem dX5_lostOn_6 : decode cX5_lostOn 6 = .ok (.istore_n 2, 1) := by decide +kernel
theorem dX5_lostOn_7 : decode cX5_lostOn 7 = .ok (.iconst 0, 1) := by decide +kernel
theorem dX5_lostOn_8 : decode cX5_lostOn 8 = .ok (.istore_n 3, 1) := by decide +kernel
theorem dX5_lostOn_9 : decode cX5_lostOn 9 = .ok (.iload_n 3, 1) := by decide +kernel
theorem dX5_lostOn_10 : decode cX5_lostOn 10 = .ok (.aload_n 0, 1) := by decide +kernel
theorem dX5_lostOn_11 : decode cX5_lostOn 11 = .ok (.getfield 49, 3) := by decide +kernel
theorem dX5_lostOn_14 : decode cX5_lostOn 14 = .ok (.if_icmp .ge 38, 3) := by decide +kernel
theorem dX5_lostOn_17 : decode cX5_lostOn 17 = .ok (.iload_n 2, 1) := by decide +kernel
theorem dX5_lostOn_18 : decode cX5_lostOn 18 = .ok (.aload_n 0, 1) := by decide +kernel
theorem dX5_lostOn_19 : decode cX5_lostOn 19 = .ok (.getfield 39, 3) := by decide +kernel
theorem dX5_lostOn_22 : decode cX5_lostOn 22 = .ok (.iload_n 3, 1) := by decide +kernel
theorem dX5_lostOn_23 : decode cX5_lostOn 23 = .ok (.iaload, 1) := by decide +kernel
theorem dX5_lostOn_24 : decode cX5_lostOn 24 = .ok (.ldc 61, 2) := by decide +kernel
theorem dX5_lostOn_26 : decode cX5_lostOn 26 = .ok (.if_icmp .eq 17, 3) := by decide +kernel
theorem dX5_lostOn_29 : decode cX5_lostOn 29 = .ok (.aload_n 0, 1) := by decide +kernel
theorem dX5_lostOn_30 : decode cX5_lostOn 30 = .ok (.iload_n 3, 1) := by decide +kernel
theorem dX5_lostOn_31 : decode cX5_lostOn 31 = .ok (.invokevirtual 70, 3) := by decide +kernel
theorem dX5_lostOn_34 : decode cX5_lostOn 34 = .ok (.ifCond .ne 9, 3) := by decide +kernel
theorem dX5_lostOn_37 : decode cX5_lostOn 37 = .ok (.iconst 1, 1) := by decide +kernel
theorem dX5_lostOn_38 : decode cX5_lostOn 38 = .ok (.iload_n 3, 1) := by decide +kernel
theorem dX5_lostOn_39 : decode cX5_lostOn 39 = .ok (.ishl, 1) := by decide +kernel
theorem dX5_lostOn_40 : decode cX5_lostOn 40 = .ok (.goto 4, 3) := by decide +kernel
theorem dX5_lostOn_43 : decode cX5_lostOn 43 = .ok (.iconst 0, 1) := by decide +kernel
theorem dX5_lostOn_44 : decode cX5_lostOn 44 = .ok (.ior, 1) := by decide +kernel
theorem dX5_lostOn_45 : decode cX5_lostOn 45 = .ok (.istore_n 2, 1) := by decide +kernel
theorem dX5_lostOn_46 : decode cX5_lostOn 46 = .ok (.iinc 3 1, 3) := by decide +kernel
theorem dX5_lostOn_49 : decode cX5_lostOn 49 = .ok (.goto (-40), 3) := by decide +kernel
theorem dX5_lostOn_52 : decode cX5_lostOn 52 = .ok (.iload_n 2, 1) := by decide +kernel
theorem dX5_lostOn_53 : decode cX5_lostOn 53 = .ok (.ireturn, 1) := by decide +kernel
theorem dX5_servedIn_0 : decode cX5_servedIn 0 = .ok (.iconst 0, 1) := by decide +kernel
theorem dX5_servedIn_1 : decode cX5_servedIn 1 = .ok (.istore_n 2, 1) := by decide +kernel
theorem dX5_servedIn_2 : decode cX5_servedIn 2 = .ok (.iconst 0, 1) := by decide +kernel
theorem dX5_servedIn_3 : decode cX5_servedIn 3 = .ok (.istore_n 3, 1) := by decide +kernel
theorem dX5_servedIn_4 : decode cX5_servedIn 4 = .ok (.iload_n 3, 1) := by decide +kernel
theorem dX5_servedIn_5 : decode cX5_servedIn 5 = .ok (.iload_n 1, 1) := by decide +kernel
theorem dX5_servedIn_6 : decode cX5_servedIn 6 = .ok (.if_icmp .ge 17, 3) := by decide +kernel
theorem dX5_servedIn_9 : decode cX5_servedIn 9 = .ok (.iload_n 2, 1) := by decide +kernel
theorem dX5_servedIn_10 : decode cX5_servedIn 10 = .ok (.aload_n 0, 1) := by decide +kernel
theorem dX5_servedIn_11 : decode cX5_servedIn 11 = .ok (.iload_n 3, 1) := by decide +kernel
theorem dX5_servedIn_12 : decode cX5_servedIn 12 = .ok (.invokevirtual 74, 3) := by decide +kernel
theorem dX5_servedIn_15 : decode cX5_servedIn 15 = .ok (.ior, 1) := by decide +kernel
theorem dX5_servedIn_16 : decode cX5_servedIn 16 = .ok (.istore_n 2, 1) := by decide +kernel
theorem dX5_servedIn_17 : decode cX5_servedIn 17 = .ok (.iinc 3 1, 3) := by decide +kernel
theorem dX5_servedIn_20 : decode cX5_servedIn 20 = .ok (.goto (-16), 3) := by decide +kernel
theorem dX5_servedIn_23 : decode cX5_servedIn 23 = .ok (.iload_n 2, 1) := by decide +kernel
theorem dX5_servedIn_24 : decode cX5_servedIn 24 = .ok (.ireturn, 1) := by decide +kernel
theorem dX5_servedOn_0 : decode cX5_servedOn 0 = .ok (.aload_n 0, 1) := by decide +kernel
theorem dX5_servedOn_1 : decode cX5_servedOn 1 = .ok (.iload_n 1, 1) := by decide +kernel
theorem dX5_servedOn_2 : decode cX5_servedOn 2 = .ok (.invokevirtual 66, 3) := by decide +kernel
theorem dX5_servedOn_5 : decode cX5_servedOn 5 = .ok (.iconst 0, 1) := by decide +kernel
theorem dX5_servedOn_6 : decode cX5_servedOn 6 = .ok (.istore_n 2, 1) := by decide +kernel
theorem dX5_servedOn_7 : decode cX5_servedOn 7 = .ok (.iconst 0, 1) := by decide +kernel
theorem dX5_servedOn_8 : decode cX5_servedOn 8 = .ok (.istore_n 3, 1) := by decide +kernel
theorem dX5_servedOn_9 : decode cX5_servedOn 9 = .ok (.iload_n 3, 1) := by decide +kernel
theorem dX5_servedOn_10 : decode cX5_servedOn 10 = .ok (.aload_n 0, 1) := by decide +kernel
theorem dX5_servedOn_11 : decode cX5_servedOn 11 = .ok (.getfield 49, 3) := by decide +kernel
theorem dX5_servedOn_14 : decode cX5_servedOn 14 = .ok (.if_icmp .ge 32, 3) := by decide +kernel
theorem dX5_servedOn_17 : decode cX5_servedOn 17 = .ok (.iload_n 2, 1) := by decide +kernel
theorem dX5_servedOn_18 : decode cX5_servedOn 18 = .ok (.aload_n 0, 1) := by decide +kernel
theorem dX5_servedOn_19 : decode cX5_servedOn 19 = .ok (.iload_n 3, 1) := by decide +kernel
theorem dX5_servedOn_20 : decode cX5_servedOn 20 = .ok (.invokevirtual 70, 3) := by decide +kernel
theorem dX5_servedOn_23 : decode cX5_servedOn 23 = .ok (.ifCond .eq 14, 3) := by decide +kernel
theorem dX5_servedOn_26 : decode cX5_servedOn 26 = .ok (.iconst 1, 1) := by decide +kernel
theorem dX5_servedOn_27 : decode cX5_servedOn 27 = .ok (.aload_n 0, 1) := by decide +kernel
theorem dX5_servedOn_28 : decode cX5_servedOn 28 = .ok (.getfield 39, 3) := by decide +kernel
theorem dX5_servedOn_31 : decode cX5_servedOn 31 = .ok (.iload_n 3, 1) := by decide +kernel
theorem dX5_servedOn_32 : decode cX5_servedOn 32 = .ok (.iaload, 1) := by decide +kernel
theorem dX5_servedOn_33 : decode cX5_servedOn 33 = .ok (.ishl, 1) := by decide +kernel
theorem dX5_servedOn_34 : decode cX5_servedOn 34 = .ok (.goto 4, 3) := by decide +kernel
theorem dX5_servedOn_37 : decode cX5_servedOn 37 = .ok (.iconst 0, 1) := by decide +kernel
theorem dX5_servedOn_38 : decode cX5_servedOn 38 = .ok (.ior, 1) := by decide +kernel
theorem dX5_servedOn_39 : decode cX5_servedOn 39 = .ok (.istore_n 2, 1) := by decide +kernel
theorem dX5_servedOn_40 : decode cX5_servedOn 40 = .ok (.iinc 3 1, 3) := by decide +kernel
theorem dX5_servedOn_43 : decode cX5_servedOn 43 = .ok (.goto (-34), 3) := by decide +kernel
theorem dX5_servedOn_46 : decode cX5_servedOn 46 = .ok (.iload_n 2, 1) := by decide +kernel
theorem dX5_servedOn_47 : decode cX5_servedOn 47 = .ok (.ireturn, 1) := by decide +kernel
theorem dX5_hasPeaceful_0 : decode cX5_hasPeaceful 0 = .ok (.iconst 0, 1) := by decide +kernel
theorem dX5_hasPeaceful_1 : decode cX5_hasPeaceful 1 = .ok (.istore_n 2, 1) := by decide +kernel
theorem dX5_hasPeaceful_2 : decode cX5_hasPeaceful 2 = .ok (.iload_n 2, 1) := by decide +kernel
theorem dX5_hasPeaceful_3 : decode cX5_hasPeaceful 3 = .ok (.aload_n 0, 1) := by decide +kernel
theorem dX5_hasPeaceful_4 : decode cX5_hasPeaceful 4 = .ok (.getfield 49, 3) := by decide +kernel
theorem dX5_hasPeaceful_7 : decode cX5_hasPeaceful 7 = .ok (.if_icmp .ge 31, 3) := by decide +kernel
theorem dX5_hasPeaceful_10 : decode cX5_hasPeaceful 10 = .ok (.iload_n 1, 1) := by decide +kernel
theorem dX5_hasPeaceful_11 : decode cX5_hasPeaceful 11 = .ok (.iload_n 2, 1) := by decide +kernel
theorem dX5_hasPeaceful_12 : decode cX5_hasPeaceful 12 = .ok (.ishr, 1) := by decide +kernel
theorem dX5_hasPeaceful_13 : decode cX5_hasPeaceful 13 = .ok (.iconst 1, 1) := by decide +kernel
theorem dX5_hasPeaceful_14 : decode cX5_hasPeaceful 14 = .ok (.iand, 1) := by decide +kernel
theorem dX5_hasPeaceful_15 : decode cX5_hasPeaceful 15 = .ok (.iconst 1, 1) := by decide +kernel
theorem dX5_hasPeaceful_16 : decode cX5_hasPeaceful 16 = .ok (.if_icmp .ne 16, 3) := by decide +kernel
theorem dX5_hasPeaceful_19 : decode cX5_hasPeaceful 19 = .ok (.iload_n 1, 1) := by decide +kernel
theorem dX5_hasPeaceful_20 : decode cX5_hasPeaceful 20 = .ok (.aload_n 0, 1) := by decide +kernel
theorem dX5_hasPeaceful_21 : decode cX5_hasPeaceful 21 = .ok (.getfield 36, 3) := by decide +kernel
theorem dX5_hasPeaceful_24 : decode cX5_hasPeaceful 24 = .ok (.iload_n 2, 1) := by decide +kernel
theorem dX5_hasPeaceful_25 : decode cX5_hasPeaceful 25 = .ok (.iaload, 1) := by decide +kernel
theorem dX5_hasPeaceful_26 : decode cX5_hasPeaceful 26 = .ok (.iand, 1) := by decide +kernel
theorem dX5_hasPeaceful_27 : decode cX5_hasPeaceful 27 = .ok (.ifCond .ne 5, 3) := by decide +kernel
theorem dX5_hasPeaceful_30 : decode cX5_hasPeaceful 30 = .ok (.iconst 1, 1) := by decide +kernel
theorem dX5_hasPeaceful_31 : decode cX5_hasPeaceful 31 = .ok (.ireturn, 1) := by decide +kernel
theorem dX5_hasPeaceful_32 : decode cX5_hasPeaceful 32 = .ok (.iinc 2 1, 3) := by decide +kernel
theorem dX5_hasPeaceful_35 : decode cX5_hasPeaceful 35 = .ok (.goto (-33), 3) := by decide +kernel
theorem dX5_hasPeaceful_38 : decode cX5_hasPeaceful 38 = .ok (.iconst 0, 1) := by decide +kernel
theorem dX5_hasPeaceful_39 : decode cX5_hasPeaceful 39 = .ok (.ireturn, 1) := by decide +kernel
theorem dX5_passDays_0 : decode cX5_passDays 0 = .ok (.iconst 0, 1) := by decide +kernel
theorem dX5_passDays_1 : decode cX5_passDays 1 = .ok (.istore_n 2, 1) := by decide +kernel
theorem dX5_passDays_2 : decode cX5_passDays 2 = .ok (.iload_n 2, 1) := by decide +kernel
theorem dX5_passDays_3 : decode cX5_passDays 3 = .ok (.iload_n 1, 1) := by decide +kernel
theorem dX5_passDays_4 : decode cX5_passDays 4 = .ok (.if_icmp .ge 13, 3) := by decide +kernel
theorem dX5_passDays_7 : decode cX5_passDays 7 = .ok (.aload_n 0, 1) := by decide +kernel
theorem dX5_passDays_8 : decode cX5_passDays 8 = .ok (.invokevirtual 78, 3) := by decide +kernel
theorem dX5_passDays_11 : decode cX5_passDays 11 = .ok (.iinc 2 1, 3) := by decide +kernel
theorem dX5_passDays_14 : decode cX5_passDays 14 = .ok (.goto (-12), 3) := by decide +kernel
theorem dX5_passDays_17 : decode cX5_passDays 17 = .ok (.return_, 1) := by decide +kernel
theorem dX5_passDay_0 : decode cX5_passDay 0 = .ok (.aload_n 0, 1) := by decide +kernel
theorem dX5_passDay_1 : decode cX5_passDay 1 = .ok (.iconst 0, 1) := by decide +kernel
theorem dX5_passDay_2 : decode cX5_passDay 2 = .ok (.invokevirtual 66, 3) := by decide +kernel
theorem dX5_passDay_5 : decode cX5_passDay 5 = .ok (.iconst 0, 1) := by decide +kernel
theorem dX5_passDay_6 : decode cX5_passDay 6 = .ok (.istore_n 1, 1) := by decide +kernel
theorem dX5_passDay_7 : decode cX5_passDay 7 = .ok (.iload_n 1, 1) := by decide +kernel
theorem dX5_passDay_8 : decode cX5_passDay 8 = .ok (.aload_n 0, 1) := by decide +kernel
theorem dX5_passDay_9 : decode cX5_passDay 9 = .ok (.getfield 49, 3) := by decide +kernel
theorem dX5_passDay_12 : decode cX5_passDay 12 = .ok (.if_icmp .ge 28, 3) := by decide +kernel
theorem dX5_passDay_15 : decode cX5_passDay 15 = .ok (.aload_n 0, 1) := by decide +kernel
theorem dX5_passDay_16 : decode cX5_passDay 16 = .ok (.iload_n 1, 1) := by decide +kernel
theorem dX5_passDay_17 : decode cX5_passDay 17 = .ok (.invokevirtual 70, 3) := by decide +kernel
theorem dX5_passDay_20 : decode cX5_passDay 20 = .ok (.ifCond .eq 14, 3) := by decide +kernel
theorem dX5_passDay_23 : decode cX5_passDay 23 = .ok (.aload_n 0, 1) := by decide +kernel
theorem dX5_passDay_24 : decode cX5_passDay 24 = .ok (.iload_n 1, 1) := by decide +kernel
theorem dX5_passDay_25 : decode cX5_passDay 25 = .ok (.aload_n 0, 1) := by decide +kernel
theorem dX5_passDay_26 : decode cX5_passDay 26 = .ok (.getfield 39, 3) := by decide +kernel
theorem dX5_passDay_29 : decode cX5_passDay 29 = .ok (.iload_n 1, 1) := by decide +kernel
theorem dX5_passDay_30 : decode cX5_passDay 30 = .ok (.iaload, 1) := by decide +kernel
theorem dX5_passDay_31 : decode cX5_passDay 31 = .ok (.invokevirtual 81, 3) := by decide +kernel
theorem dX5_passDay_34 : decode cX5_passDay 34 = .ok (.iinc 1 1, 3) := by decide +kernel
theorem dX5_passDay_37 : decode cX5_passDay 37 = .ok (.goto (-30), 3) := by decide +kernel
theorem dX5_passDay_40 : decode cX5_passDay 40 = .ok (.iconst 0, 1) := by decide +kernel
theorem dX5_passDay_41 : decode cX5_passDay 41 = .ok (.istore_n 1, 1) := by decide +kernel
theorem dX5_passDay_42 : decode cX5_passDay 42 = .ok (.iload_n 1, 1) := by decide +kernel
theorem dX5_passDay_43 : decode cX5_passDay 43 = .ok (.aload_n 0, 1) := by decide +kernel
theorem dX5_passDay_44 : decode cX5_passDay 44 = .ok (.getfield 45, 3) := by decide +kernel
theorem dX5_passDay_47 : decode cX5_passDay 47 = .ok (.if_icmp .ge 19, 3) := by decide +kernel
theorem dX5_passDay_50 : decode cX5_passDay 50 = .ok (.aload_n 0, 1) := by decide +kernel
theorem dX5_passDay_51 : decode cX5_passDay 51 = .ok (.iload_n 1, 1) := by decide +kernel
theorem dX5_passDay_52 : decode cX5_passDay 52 = .ok (.aload_n 0, 1) := by decide +kernel
theorem dX5_passDay_53 : decode cX5_passDay 53 = .ok (.getfield 52, 3) := by decide +kernel
theorem dX5_passDay_56 : decode cX5_passDay 56 = .ok (.ineg, 1) := by decide +kernel
theorem dX5_passDay_57 : decode cX5_passDay 57 = .ok (.invokevirtual 85, 3) := by decide +kernel
theorem dX5_passDay_60 : decode cX5_passDay 60 = .ok (.iinc 1 1, 3) := by decide +kernel
theorem dX5_passDay_63 : decode cX5_passDay 63 = .ok (.goto (-21), 3) := by decide +kernel
theorem dX5_passDay_66 : decode cX5_passDay 66 = .ok (.aload_n 0, 1) := by decide +kernel
theorem dX5_passDay_67 : decode cX5_passDay 67 = .ok (.dup, 1) := by decide +kernel
theorem dX5_passDay_68 : decode cX5_passDay 68 = .ok (.getfield 58, 3) := by decide +kernel
theorem dX5_passDay_71 : decode cX5_passDay 71 = .ok (.iconst 1, 1) := by decide +kernel
theorem dX5_passDay_72 : decode cX5_passDay 72 = .ok (.iadd, 1) := by decide +kernel
theorem dX5_passDay_73 : decode cX5_passDay 73 = .ok (.putfield 58, 3) := by decide +kernel
theorem dX5_passDay_76 : decode cX5_passDay 76 = .ok (.iconst 0, 1) := by decide +kernel
theorem dX5_passDay_77 : decode cX5_passDay 77 = .ok (.istore_n 1, 1) := by decide +kernel
theorem dX5_passDay_78 : decode cX5_passDay 78 = .ok (.iload_n 1, 1) := by decide +kernel
theorem dX5_passDay_79 : decode cX5_passDay 79 = .ok (.aload_n 0, 1) := by decide +kernel
theorem dX5_passDay_80 : decode cX5_passDay 80 = .ok (.getfield 49, 3) := by decide +kernel
theorem dX5_passDay_83 : decode cX5_passDay 83 = .ok (.if_icmp .ge 27, 3) := by decide +kernel
theorem dX5_passDay_86 : decode cX5_passDay 86 = .ok (.aload_n 0, 1) := by decide +kernel
theorem dX5_passDay_87 : decode cX5_passDay 87 = .ok (.getfield 33, 3) := by decide +kernel
theorem dX5_passDay_90 : decode cX5_passDay 90 = .ok (.iload_n 1, 1) := by decide +kernel
theorem dX5_passDay_91 : decode cX5_passDay 91 = .ok (.aload_n 0, 1) := by decide +kernel
theorem dX5_passDay_92 : decode cX5_passDay 92 = .ok (.getfield 33, 3) := by decide +kernel
theorem dX5_passDay_95 : decode cX5_passDay 95 = .ok (.iload_n 1, 1) := by decide +kernel
theorem dX5_passDay_96 : decode cX5_passDay 96 = .ok (.iaload, 1) := by decide +kernel
theorem dX5_passDay_97 : decode cX5_passDay 97 = .ok (.iconst 1, 1) := by decide +kernel
theorem dX5_passDay_98 : decode cX5_passDay 98 = .ok (.isub, 1) := by decide +kernel
theorem dX5_passDay_99 : decode cX5_passDay 99 = .ok (.iconst 0, 1) := by decide +kernel
theorem dX5_passDay_100 : decode cX5_passDay 100 = .ok (.invokestatic 88, 3) := by decide +kernel
theorem dX5_passDay_103 : decode cX5_passDay 103 = .ok (.iastore, 1) := by decide +kernel
theorem dX5_passDay_104 : decode cX5_passDay 104 = .ok (.iinc 1 1, 3) := by decide +kernel
theorem dX5_passDay_107 : decode cX5_passDay 107 = .ok (.goto (-29), 3) := by decide +kernel
theorem dX5_passDay_110 : decode cX5_passDay 110 = .ok (.return_, 1) := by decide +kernel
theorem dX5_visit_0 : decode cX5_visit 0 = .ok (.aload_n 0, 1) := by decide +kernel
theorem dX5_visit_1 : decode cX5_visit 1 = .ok (.getfield 21, 3) := by decide +kernel
theorem dX5_visit_4 : decode cX5_visit 4 = .ok (.iload_n 1, 1) := by decide +kernel
theorem dX5_visit_5 : decode cX5_visit 5 = .ok (.iaload, 1) := by decide +kernel
theorem dX5_visit_6 : decode cX5_visit 6 = .ok (.tableswitch 161 1 5 #[34, 48, 70, 125, 140], 34) := by decide +kernel
theorem dX5_visit_40 : decode cX5_visit 40 = .ok (.aload_n 0, 1) := by decide +kernel
theorem dX5_visit_41 : decode cX5_visit 41 = .ok (.iload_n 2, 1) := by decide +kernel
theorem dX5_visit_42 : decode cX5_visit 42 = .ok (.aload_n 0, 1) := by decide +kernel
theorem dX5_visit_43 : decode cX5_visit 43 = .ok (.getfield 24, 3) := by decide +kernel
theorem dX5_visit_46 : decode cX5_visit 46 = .ok (.iload_n 1, 1) := by decide +kernel
theorem dX5_visit_47 : decode cX5_visit 47 = .ok (.iaload, 1) := by decide +kernel
theorem dX5_visit_48 : decode cX5_visit 48 = .ok (.invokevirtual 85, 3) := by decide +kernel
theorem dX5_visit_51 : decode cX5_visit 51 = .ok (.goto 116, 3) := by decide +kernel
theorem dX5_visit_54 : decode cX5_visit 54 = .ok (.aload_n 0, 1) := by decide +kernel
theorem dX5_visit_55 : decode cX5_visit 55 = .ok (.iload_n 2, 1) := by decide +kernel
theorem dX5_visit_56 : decode cX5_visit 56 = .ok (.iconst 2, 1) := by decide +kernel
theorem dX5_visit_57 : decode cX5_visit 57 = .ok (.aload_n 0, 1) := by decide +kernel
theorem dX5_visit_58 : decode cX5_visit 58 = .ok (.getfield 24, 3) := by decide +kernel
theorem dX5_visit_61 : decode cX5_visit 61 = .ok (.iload_n 1, 1) := by decide +kernel
theorem dX5_visit_62 : decode cX5_visit 62 = .ok (.iaload, 1) := by decide +kernel
theorem dX5_visit_63 : decode cX5_visit 63 = .ok (.imul, 1) := by decide +kernel
theorem dX5_visit_64 : decode cX5_visit 64 = .ok (.invokevirtual 85, 3) := by decide +kernel
theorem dX5_visit_67 : decode cX5_visit 67 = .ok (.aload_n 0, 1) := by decide +kernel
theorem dX5_visit_68 : decode cX5_visit 68 = .ok (.iload_n 2, 1) := by decide +kernel
theorem dX5_visit_69 : decode cX5_visit 69 = .ok (.iconst 1, 1) := by decide +kernel
theorem dX5_visit_70 : decode cX5_visit 70 = .ok (.invokevirtual 93, 3) := by decide +kernel
theorem dX5_visit_73 : decode cX5_visit 73 = .ok (.goto 94, 3) := by decide +kernel
theorem dX5_visit_76 : decode cX5_visit 76 = .ok (.aload_n 0, 1) := by decide +kernel
theorem dX5_visit_77 : decode cX5_visit 77 = .ok (.iload_n 2, 1) := by decide +kernel
theorem dX5_visit_78 : decode cX5_visit 78 = .ok (.aload_n 0, 1) := by decide +kernel
theorem dX5_visit_79 : decode cX5_visit 79 = .ok (.getfield 24, 3) := by decide +kernel
theorem dX5_visit_82 : decode cX5_visit 82 = .ok (.iload_n 1, 1) := by decide +kernel
theorem dX5_visit_83 : decode cX5_visit 83 = .ok (.iaload, 1) := by decide +kernel
theorem dX5_visit_84 : decode cX5_visit 84 = .ok (.iconst 2, 1) := by decide +kernel
theorem dX5_visit_85 : decode cX5_visit 85 = .ok (.idiv, 1) := by decide +kernel
theorem dX5_visit_86 : decode cX5_visit 86 = .ok (.invokevirtual 85, 3) := by decide +kernel
theorem dX5_visit_89 : decode cX5_visit 89 = .ok (.aload_n 0, 1) := by decide +kernel
theorem dX5_visit_90 : decode cX5_visit 90 = .ok (.getfield 18, 3) := by decide +kernel
theorem dX5_visit_93 : decode cX5_visit 93 = .ok (.iload_n 2, 1) := by decide +kernel
theorem dX5_visit_94 : decode cX5_visit 94 = .ok (.dup2, 1) := by decide +kernel
theorem dX5_visit_95 : decode cX5_visit 95 = .ok (.iaload, 1) := by decide +kernel
theorem dX5_visit_96 : decode cX5_visit 96 = .ok (.aload_n 0, 1) := by decide +kernel
theorem dX5_visit_97 : decode cX5_visit 97 = .ok (.getfield 55, 3) := by decide +kernel
theorem dX5_visit_100 : decode cX5_visit 100 = .ok (.iconst 1, 1) := by decide +kernel
theorem dX5_visit_101 : decode cX5_visit 101 = .ok (.if_icmp .ge 7, 3) := by decide +kernel
theorem dX5_visit_104 : decode cX5_visit 104 = .ok (.iconst 0, 1) := by decide +kernel
theorem dX5_visit_105 : decode cX5_visit 105 = .ok (.goto 21, 3) := by decide +kernel
theorem dX5_visit_108 : decode cX5_visit 108 = .ok (.iconst 1, 1) := by decide +kernel
theorem dX5_visit_109 : decode cX5_visit 109 = .ok (.aload_n 0, 1) := by decide +kernel
theorem dX5_visit_110 : decode cX5_visit 110 = .ok (.getfield 24, 3) := by decide +kernel
theorem dX5_visit_113 : decode cX5_visit 113 = .ok (.iload_n 1, 1) := by decide +kernel
theorem dX5_visit_114 : decode cX5_visit 114 = .ok (.iaload, 1) := by decide +kernel
theorem dX5_visit_115 : decode cX5_visit 115 = .ok (.aload_n 0, 1) := by decide +kernel
theorem dX5_visit_116 : decode cX5_visit 116 = .ok (.getfield 58, 3) := by decide +kernel
theorem dX5_visit_119 : decode cX5_visit 119 = .ok (.iadd, 1) := by decide +kernel
theorem dX5_visit_120 : decode cX5_visit 120 = .ok (.aload_n 0, 1) := by decide +kernel
theorem dX5_visit_121 : decode cX5_visit 121 = .ok (.getfield 55, 3) := by decide +kernel
theorem dX5_visit_124 : decode cX5_visit 124 = .ok (.irem, 1) := by decide +kernel
theorem dX5_visit_125 : decode cX5_visit 125 = .ok (.ishl, 1) := by decide +kernel
theorem dX5_visit_126 : decode cX5_visit 126 = .ok (.ior, 1) := by decide +kernel
theorem dX5_visit_127 : decode cX5_visit 127 = .ok (.iastore, 1) := by decide +kernel
theorem dX5_visit_128 : decode cX5_visit 128 = .ok (.goto 39, 3) := by decide +kernel
theorem dX5_visit_131 : decode cX5_visit 131 = .ok (.aload_n 0, 1) := by decide +kernel
theorem dX5_visit_132 : decode cX5_visit 132 = .ok (.iload_n 2, 1) := by decide +kernel
theorem dX5_visit_133 : decode cX5_visit 133 = .ok (.aload_n 0, 1) := by decide +kernel
theorem dX5_visit_134 : decode cX5_visit 134 = .ok (.getfield 24, 3) := by decide +kernel
theorem dX5_visit_137 : decode cX5_visit 137 = .ok (.iload_n 1, 1) := by decide +kernel
theorem dX5_visit_138 : decode cX5_visit 138 = .ok (.iaload, 1) := by decide +kernel
theorem dX5_visit_139 : decode cX5_visit 139 = .ok (.ineg, 1) := by decide +kernel
theorem dX5_visit_140 : decode cX5_visit 140 = .ok (.invokevirtual 93, 3) := by decide +kernel
theorem dX5_visit_143 : decode cX5_visit 143 = .ok (.goto 24, 3) := by decide +kernel
theorem dX5_visit_146 : decode cX5_visit 146 = .ok (.aload_n 0, 1) := by decide +kernel
theorem dX5_visit_147 : decode cX5_visit 147 = .ok (.iload_n 2, 1) := by decide +kernel
theorem dX5_visit_148 : decode cX5_visit 148 = .ok (.aload_n 0, 1) := by decide +kernel
theorem dX5_visit_149 : decode cX5_visit 149 = .ok (.getfield 24, 3) := by decide +kernel
theorem dX5_visit_152 : decode cX5_visit 152 = .ok (.iload_n 1, 1) := by decide +kernel
theorem dX5_visit_153 : decode cX5_visit 153 = .ok (.iaload, 1) := by decide +kernel
theorem dX5_visit_154 : decode cX5_visit 154 = .ok (.ineg, 1) := by decide +kernel
theorem dX5_visit_155 : decode cX5_visit 155 = .ok (.invokevirtual 93, 3) := by decide +kernel
theorem dX5_visit_158 : decode cX5_visit 158 = .ok (.aload_n 0, 1) := by decide +kernel
theorem dX5_visit_159 : decode cX5_visit 159 = .ok (.iload_n 2, 1) := by decide +kernel
theorem dX5_visit_160 : decode cX5_visit 160 = .ok (.iconst 1, 1) := by decide +kernel
theorem dX5_visit_161 : decode cX5_visit 161 = .ok (.invokevirtual 85, 3) := by decide +kernel
theorem dX5_visit_164 : decode cX5_visit 164 = .ok (.goto 3, 3) := by decide +kernel
theorem dX5_visit_167 : decode cX5_visit 167 = .ok (.return_, 1) := by decide +kernel
theorem dX5_addFed_0 : decode cX5_addFed 0 = .ok (.aload_n 0, 1) := by decide +kernel
theorem dX5_addFed_1 : decode cX5_addFed 1 = .ok (.getfield 9, 3) := by decide +kernel
theorem dX5_addFed_4 : decode cX5_addFed 4 = .ok (.iload_n 1, 1) := by decide +kernel
theorem dX5_addFed_5 : decode cX5_addFed 5 = .ok (.iconst 0, 1) := by decide +kernel
theorem dX5_addFed_6 : decode cX5_addFed 6 = .ok (.bipush 99, 2) := by decide +kernel
theorem dX5_addFed_8 : decode cX5_addFed 8 = .ok (.aload_n 0, 1) := by decide +kernel
theorem dX5_addFed_9 : decode cX5_addFed 9 = .ok (.getfield 9, 3) := by decide +kernel
theorem dX5_addFed_12 : decode cX5_addFed 12 = .ok (.iload_n 1, 1) := by decide +kernel
theorem dX5_addFed_13 : decode cX5_addFed 13 = .ok (.iaload, 1) := by decide +kernel
theorem dX5_addFed_14 : decode cX5_addFed 14 = .ok (.iload_n 2, 1) := by decide +kernel
theorem dX5_addFed_15 : decode cX5_addFed 15 = .ok (.iadd, 1) := by decide +kernel
theorem dX5_addFed_16 : decode cX5_addFed 16 = .ok (.invokestatic 96, 3) := by decide +kernel
theorem dX5_addFed_19 : decode cX5_addFed 19 = .ok (.invokestatic 88, 3) := by decide +kernel
theorem dX5_addFed_22 : decode cX5_addFed 22 = .ok (.iastore, 1) := by decide +kernel
theorem dX5_addFed_23 : decode cX5_addFed 23 = .ok (.return_, 1) := by decide +kernel
theorem dX5_addSpoilt_0 : decode cX5_addSpoilt 0 = .ok (.aload_n 0, 1) := by decide +kernel
theorem dX5_addSpoilt_1 : decode cX5_addSpoilt 1 = .ok (.getfield 15, 3) := by decide +kernel
theorem dX5_addSpoilt_4 : decode cX5_addSpoilt 4 = .ok (.iload_n 1, 1) := by decide +kernel
theorem dX5_addSpoilt_5 : decode cX5_addSpoilt 5 = .ok (.iconst 0, 1) := by decide +kernel
theorem dX5_addSpoilt_6 : decode cX5_addSpoilt 6 = .ok (.bipush 20, 2) := by decide +kernel
theorem dX5_addSpoilt_8 : decode cX5_addSpoilt 8 = .ok (.aload_n 0, 1) := by decide +kernel
theorem dX5_addSpoilt_9 : decode cX5_addSpoilt 9 = .ok (.getfield 15, 3) := by decide +kernel
theorem dX5_addSpoilt_12 : decode cX5_addSpoilt 12 = .ok (.iload_n 1, 1) := by decide +kernel
theorem dX5_addSpoilt_13 : decode cX5_addSpoilt 13 = .ok (.iaload, 1) := by decide +kernel
theorem dX5_addSpoilt_14 : decode cX5_addSpoilt 14 = .ok (.iload_n 2, 1) := by decide +kernel
theorem dX5_addSpoilt_15 : decode cX5_addSpoilt 15 = .ok (.iadd, 1) := by decide +kernel
theorem dX5_addSpoilt_16 : decode cX5_addSpoilt 16 = .ok (.invokestatic 96, 3) := by decide +kernel
theorem dX5_addSpoilt_19 : decode cX5_addSpoilt 19 = .ok (.invokestatic 88, 3) := by decide +kernel
theorem dX5_addSpoilt_22 : decode cX5_addSpoilt 22 = .ok (.iastore, 1) := by decide +kernel
theorem dX5_addSpoilt_23 : decode cX5_addSpoilt 23 = .ok (.return_, 1) := by decide +kernel
theorem dX5_daysToWhole_0 : decode cX5_daysToWhole 0 = .ok (.iconst 1, 1) := by decide +kernel
theorem dX5_daysToWhole_1 : decode cX5_daysToWhole 1 = .ok (.aload_n 0, 1) := by decide +kernel
theorem dX5_daysToWhole_2 : decode cX5_daysToWhole 2 = .ok (.getfield 55, 3) := by decide +kernel
theorem dX5_daysToWhole_5 : decode cX5_daysToWhole 5 = .ok (.ishl, 1) := by decide +kernel
theorem dX5_daysToWhole_6 : decode cX5_daysToWhole 6 = .ok (.iconst 1, 1) := by decide +kernel
theorem dX5_daysToWhole_7 : decode cX5_daysToWhole 7 = .ok (.isub, 1) := by decide +kernel
theorem dX5_daysToWhole_8 : decode cX5_daysToWhole 8 = .ok (.istore_n 2, 1) := by decide +kernel
theorem dX5_daysToWhole_9 : decode cX5_daysToWhole 9 = .ok (.iconst 0, 1) := by decide +kernel
theorem dX5_daysToWhole_10 : decode cX5_daysToWhole 10 = .ok (.istore_n 3, 1) := by decide +kernel
theorem dX5_daysToWhole_11 : decode cX5_daysToWhole 11 = .ok (.iload_n 3, 1) := by decide +kernel
theorem dX5_daysToWhole_12 : decode cX5_daysToWhole 12 = .ok (.bipush 60, 2) := by decide +kernel
theorem dX5_daysToWhole_14 : decode cX5_daysToWhole 14 = .ok (.if_icmp .gt 25, 3) := by decide +kernel
theorem dX5_daysToWhole_17 : decode cX5_daysToWhole 17 = .ok (.aload_n 0, 1) := by decide +kernel
theorem dX5_daysToWhole_18 : decode cX5_daysToWhole 18 = .ok (.getfield 18, 3) := by decide +kernel
theorem dX5_daysToWhole_21 : decode cX5_daysToWhole 21 = .ok (.iload_n 1, 1) := by decide +kernel
theorem dX5_daysToWhole_22 : decode cX5_daysToWhole 22 = .ok (.iaload, 1) := by decide +kernel
theorem dX5_daysToWhole_23 : decode cX5_daysToWhole 23 = .ok (.iload_n 2, 1) := by decide +kernel
theorem dX5_daysToWhole_24 : decode cX5_daysToWhole 24 = .ok (.if_icmp .ne 5, 3) := by decide +kernel
theorem dX5_daysToWhole_27 : decode cX5_daysToWhole 27 = .ok (.iload_n 3, 1) := by decide +kernel
theorem dX5_daysToWhole_28 : decode cX5_daysToWhole 28 = .ok (.ireturn, 1) := by decide +kernel
theorem dX5_daysToWhole_29 : decode cX5_daysToWhole 29 = .ok (.aload_n 0, 1) := by decide +kernel
theorem dX5_daysToWhole_30 : decode cX5_daysToWhole 30 = .ok (.invokevirtual 78, 3) := by decide +kernel
theorem dX5_daysToWhole_33 : decode cX5_daysToWhole 33 = .ok (.iinc 3 1, 3) := by decide +kernel
theorem dX5_daysToWhole_36 : decode cX5_daysToWhole 36 = .ok (.goto (-25), 3) := by decide +kernel
theorem dX5_daysToWhole_39 : decode cX5_daysToWhole 39 = .ok (.ldc 61, 2) := by decide +kernel
theorem dX5_daysToWhole_41 : decode cX5_daysToWhole 41 = .ok (.ireturn, 1) := by decide +kernel
theorem dX5_fallIll_0 : decode cX5_fallIll 0 = .ok (.aload_n 0, 1) := by decide +kernel
theorem dX5_fallIll_1 : decode cX5_fallIll 1 = .ok (.getfield 49, 3) := by decide +kernel
theorem dX5_fallIll_4 : decode cX5_fallIll 4 = .ok (.ifCond .le 22, 3) := by decide +kernel
theorem dX5_fallIll_7 : decode cX5_fallIll 7 = .ok (.aload_n 0, 1) := by decide +kernel
theorem dX5_fallIll_8 : decode cX5_fallIll 8 = .ok (.getfield 33, 3) := by decide +kernel
theorem dX5_fallIll_11 : decode cX5_fallIll 11 = .ok (.lload_n 1, 1) := by decide +kernel
theorem dX5_fallIll_12 : decode cX5_fallIll 12 = .ok (.aload_n 0, 1) := by decide +kernel
theorem dX5_fallIll_13 : decode cX5_fallIll 13 = .ok (.getfield 49, 3) := by decide +kernel
theorem dX5_fallIll_16 : decode cX5_fallIll 16 = .ok (.i2l, 1) := by decide +kernel
theorem dX5_fallIll_17 : decode cX5_fallIll 17 = .ok (.lrem, 1) := by decide +kernel
theorem dX5_fallIll_18 : decode cX5_fallIll 18 = .ok (.l2i, 1) := by decide +kernel
theorem dX5_fallIll_19 : decode cX5_fallIll 19 = .ok (.lload_n 1, 1) := by decide +kernel
theorem dX5_fallIll_20 : decode cX5_fallIll 20 = .ok (.ldc2_w 99, 3) := by decide +kernel
theorem dX5_fallIll_23 : decode cX5_fallIll 23 = .ok (.lrem, 1) := by decide +kernel
theorem dX5_fallIll_24 : decode cX5_fallIll 24 = .ok (.l2i, 1) := by decide +kernel
theorem dX5_fallIll_25 : decode cX5_fallIll 25 = .ok (.iastore, 1) := by decide +kernel
theorem dX5_fallIll_26 : decode cX5_fallIll 26 = .ok (.return_, 1) := by decide +kernel
theorem dX5_sumOf_0 : decode cX5_sumOf 0 = .ok (.iconst 0, 1) := by decide +kernel
theorem dX5_sumOf_1 : decode cX5_sumOf 1 = .ok (.istore_n 2, 1) := by decide +kernel
theorem dX5_sumOf_2 : decode cX5_sumOf 2 = .ok (.iconst 0, 1) := by decide +kernel
theorem dX5_sumOf_3 : decode cX5_sumOf 3 = .ok (.istore_n 3, 1) := by decide +kernel
theorem dX5_sumOf_4 : decode cX5_sumOf 4 = .ok (.iload_n 3, 1) := by decide +kernel
theorem dX5_sumOf_5 : decode cX5_sumOf 5 = .ok (.iload_n 1, 1) := by decide +kernel
theorem dX5_sumOf_6 : decode cX5_sumOf 6 = .ok (.if_icmp .ge 15, 3) := by decide +kernel
theorem dX5_sumOf_9 : decode cX5_sumOf 9 = .ok (.iload_n 2, 1) := by decide +kernel
theorem dX5_sumOf_10 : decode cX5_sumOf 10 = .ok (.aload_n 0, 1) := by decide +kernel
theorem dX5_sumOf_11 : decode cX5_sumOf 11 = .ok (.iload_n 3, 1) := by decide +kernel
theorem dX5_sumOf_12 : decode cX5_sumOf 12 = .ok (.iaload, 1) := by decide +kernel
theorem dX5_sumOf_13 : decode cX5_sumOf 13 = .ok (.iadd, 1) := by decide +kernel
theorem dX5_sumOf_14 : decode cX5_sumOf 14 = .ok (.istore_n 2, 1) := by decide +kernel
theorem dX5_sumOf_15 : decode cX5_sumOf 15 = .ok (.iinc 3 1, 3) := by decide +kernel
theorem dX5_sumOf_18 : decode cX5_sumOf 18 = .ok (.goto (-14), 3) := by decide +kernel
theorem dX5_sumOf_21 : decode cX5_sumOf 21 = .ok (.iload_n 2, 1) := by decide +kernel
theorem dX5_sumOf_22 : decode cX5_sumOf 22 = .ok (.ireturn, 1) := by decide +kernel
theorem dX6_init_0 : decode cX6_init 0 = .ok (.aload_n 0, 1) := by decide +kernel
theorem dX6_init_1 : decode cX6_init 1 = .ok (.invokespecial 1, 3) := by decide +kernel
theorem dX6_init_4 : decode cX6_init 4 = .ok (.aload_n 0, 1) := by decide +kernel
theorem dX6_init_5 : decode cX6_init 5 = .ok (.new 7, 3) := by decide +kernel
theorem dX6_init_8 : decode cX6_init 8 = .ok (.dup, 1) := by decide +kernel
theorem dX6_init_9 : decode cX6_init 9 = .ok (.invokespecial 9, 3) := by decide +kernel
theorem dX6_init_12 : decode cX6_init 12 = .ok (.putfield 10, 3) := by decide +kernel
theorem dX6_init_15 : decode cX6_init 15 = .ok (.aload_n 0, 1) := by decide +kernel
theorem dX6_init_16 : decode cX6_init 16 = .ok (.new 16, 3) := by decide +kernel
theorem dX6_init_19 : decode cX6_init 19 = .ok (.dup, 1) := by decide +kernel
theorem dX6_init_20 : decode cX6_init 20 = .ok (.invokespecial 18, 3) := by decide +kernel
theorem dX6_init_23 : decode cX6_init 23 = .ok (.putfield 19, 3) := by decide +kernel
theorem dX6_init_26 : decode cX6_init 26 = .ok (.aload_n 0, 1) := by decide +kernel
theorem dX6_init_27 : decode cX6_init 27 = .ok (.new 23, 3) := by decide +kernel
theorem dX6_init_30 : decode cX6_init 30 = .ok (.dup, 1) := by decide +kernel
theorem dX6_init_31 : decode cX6_init 31 = .ok (.invokespecial 25, 3) := by decide +kernel
theorem dX6_init_34 : decode cX6_init 34 = .ok (.putfield 26, 3) := by decide +kernel
theorem dX6_init_37 : decode cX6_init 37 = .ok (.aload_n 0, 1) := by decide +kernel
theorem dX6_init_38 : decode cX6_init 38 = .ok (.new 23, 3) := by decide +kernel
theorem dX6_init_41 : decode cX6_init 41 = .ok (.dup, 1) := by decide +kernel
theorem dX6_init_42 : decode cX6_init 42 = .ok (.invokespecial 25, 3) := by decide +kernel
theorem dX6_init_45 : decode cX6_init 45 = .ok (.putfield 30, 3) := by decide +kernel
theorem dX6_init_48 : decode cX6_init 48 = .ok (.aload_n 0, 1) := by decide +kernel
theorem dX6_init_49 : decode cX6_init 49 = .ok (.bipush 56, 2) := by decide +kernel
theorem dX6_init_51 : decode cX6_init 51 = .ok (.newarray .int, 2) := by decide +kernel
theorem dX6_init_53 : decode cX6_init 53 = .ok (.putfield 33, 3) := by decide +kernel
theorem dX6_init_56 : decode cX6_init 56 = .ok (.aload_n 0, 1) := by decide +kernel
theorem dX6_init_57 : decode cX6_init 57 = .ok (.iconst 5, 1) := by decide +kernel
theorem dX6_init_58 : decode cX6_init 58 = .ok (.newarray .int, 2) := by decide +kernel
theorem dX6_init_60 : decode cX6_init 60 = .ok (.putfield 37, 3) := by decide +kernel
theorem dX6_init_63 : decode cX6_init 63 = .ok (.aload_n 0, 1) := by decide +kernel
theorem dX6_init_64 : decode cX6_init 64 = .ok (.new 40, 3) := by decide +kernel
theorem dX6_init_67 : decode cX6_init 67 = .ok (.dup, 1) := by decide +kernel
theorem dX6_init_68 : decode cX6_init 68 = .ok (.invokespecial 42, 3) := by decide +kernel
theorem dX6_init_71 : decode cX6_init 71 = .ok (.putfield 43, 3) := by decide +kernel
theorem dX6_init_74 : decode cX6_init 74 = .ok (.aload_n 0, 1) := by decide +kernel
theorem dX6_init_75 : decode cX6_init 75 = .ok (.iconst 2, 1) := by decide +kernel
theorem dX6_init_76 : decode cX6_init 76 = .ok (.bipush 56, 2) := by decide +kernel
theorem dX6_init_78 : decode cX6_init 78 = .ok (.multianewarray 47 2, 4) := by decide +kernel
theorem dX6_init_82 : decode cX6_init 82 = .ok (.putfield 49, 3) := by decide +kernel
theorem dX6_init_85 : decode cX6_init 85 = .ok (.aload_n 0, 1) := by decide +kernel
theorem dX6_init_86 : decode cX6_init 86 = .ok (.iconst 2, 1) := by decide +kernel
theorem dX6_init_87 : decode cX6_init 87 = .ok (.newarray .boolean, 2) := by decide +kernel
theorem dX6_init_89 : decode cX6_init 89 = .ok (.putfield 52, 3) := by decide +kernel
theorem dX6_init_92 : decode cX6_init 92 = .ok (.aload_n 0, 1) := by decide +kernel
theorem dX6_init_93 : decode cX6_init 93 = .ok (.new 56, 3) := by decide +kernel
theorem dX6_init_96 : decode cX6_init 96 = .ok (.dup, 1) := by decide +kernel
theorem dX6_init_97 : decode cX6_init 97 = .ok (.invokespecial 58, 3) := by decide +kernel
theorem dX6_init_100 : decode cX6_init 100 = .ok (.putfield 59, 3) := by decide +kernel
theorem dX6_init_103 : decode cX6_init 103 = .ok (.aload_n 0, 1) := by decide +kernel
theorem dX6_init_104 : decode cX6_init 104 = .ok (.new 63, 3) := by decide +kernel
theorem dX6_init_107 : decode cX6_init 107 = .ok (.dup, 1) := by decide +kernel
theorem dX6_init_108 : decode cX6_init 108 = .ok (.invokespecial 65, 3) := by decide +kernel
theorem dX6_init_111 : decode cX6_init 111 = .ok (.putfield 66, 3) := by decide +kernel
theorem dX6_init_114 : decode cX6_init 114 = .ok (.return_, 1) := by decide +kernel
theorem dX6_row_0 : decode cX6_row 0 = .ok (.iload_n 1, 1) := by decide +kernel
theorem dX6_row_1 : decode cX6_row 1 = .ok (.invokestatic 70, 3) := by decide +kernel
theorem dX6_row_4 : decode cX6_row 4 = .ok (.ifCond .eq 18, 3) := by decide +kernel
theorem dX6_row_7 : decode cX6_row 7 = .ok (.iload_n 2, 1) := by decide +kernel
theorem dX6_row_8 : decode cX6_row 8 = .ok (.iconst 0, 1) := by decide +kernel
theorem dX6_row_9 : decode cX6_row 9 = .ok (.iconst 2, 1) := by decide +kernel
theorem dX6_row_10 : decode cX6_row 10 = .ok (.invokestatic 74, 3) := by decide +kernel
theorem dX6_row_13 : decode cX6_row 13 = .ok (.ifCond .eq 9, 3) := by decide +kernel
theorem dX6_row_16 : decode cX6_row 16 = .ok (.iload_n 3, 1) := by decide +kernel
theorem dX6_row_17 : decode cX6_row 17 = .ok (.bipush 40, 2) := by decide +kernel
theorem dX6_row_19 : decode cX6_row 19 = .ok (.if_icmp .le 6, 3) := by decide +kernel
theorem dX6_row_22 : decode cX6_row 22 = .ok (.ldc 78, 2) := by decide +kernel
theorem dX6_row_24 : decode cX6_row 24 = .ok (.ireturn, 1) := by decide +kernel
theorem dX6_row_25 : decode cX6_row 25 = .ok (.iload_n 3, 1) := by decide +kernel
theorem dX6_row_26 : decode cX6_row 26 = .ok (.ifCond .ge 9, 3) := by decide +kernel
theorem dX6_row_29 : decode cX6_row 29 = .ok (.aload_n 0, 1) := by decide +kernel
theorem dX6_row_30 : decode cX6_row 30 = .ok (.iconst 4, 1) := by decide +kernel
theorem dX6_row_31 : decode cX6_row 31 = .ok (.invokevirtual 79, 3) := by decide +kernel
theorem dX6_row_34 : decode cX6_row 34 = .ok (.ireturn, 1) := by decide +kernel
theorem dX6_row_35 : decode cX6_row 35 = .ok (.aload_n 0, 1) := by decide +kernel
theorem dX6_row_36 : decode cX6_row 36 = .ok (.getfield 10, 3) := by decide +kernel
theorem dX6_row_39 : decode cX6_row 39 = .ok (.iload_n 1, 1) := by decide +kernel
theorem dX6_row_40 : decode cX6_row 40 = .ok (.iload_n 2, 1) := by decide +kernel
theorem dX6_row_41 : decode cX6_row 41 = .ok (.iload_n 3, 1) := by decide +kernel
theorem dX6_row_42 : decode cX6_row 42 = .ok (.invokevirtual 83, 3) := by decide +kernel
theorem dX6_row_45 : decode cX6_row 45 = .ok (.aload_n 0, 1) := by decide +kernel
theorem dX6_row_46 : decode cX6_row 46 = .ok (.iconst 0, 1) := by decide +kernel
theorem dX6_row_47 : decode cX6_row 47 = .ok (.putfield 87, 3) := by decide +kernel
theorem dX6_row_50 : decode cX6_row 50 = .ok (.iload_n 3, 1) := by decide +kernel
theorem dX6_row_51 : decode cX6_row 51 = .ok (.ireturn, 1) := by decide +kernel
theorem dX6_set_0 : decode cX6_set 0 = .ok (.iload_n 1, 1) := by decide +kernel
theorem dX6_set_1 : decode cX6_set 1 = .ok (.invokestatic 70, 3) := by decide +kernel
theorem dX6_set_4 : decode cX6_set 4 = .ok (.ifCond .ne 6, 3) := by decide +kernel
theorem dX6_set_7 : decode cX6_set 7 = .ok (.ldc 78, 2) := by decide +kernel
theorem dX6_set_9 : decode cX6_set 9 = .ok (.ireturn, 1) := by decide +kernel
theorem dX6_set_10 : decode cX6_set 10 = .ok (.aload_n 0, 1) := by decide +kernel
theorem dX6_set_11 : decode cX6_set 11 = .ok (.getfield 10, 3) := by decide +kernel
theorem dX6_set_14 : decode cX6_set 14 = .ok (.iload_n 1, 1) := by decide +kernel
theorem dX6_set_15 : decode cX6_set 15 = .ok (.iload_n 2, 1) := by decide +kernel
theorem dX6_set_16 : decode cX6_set 16 = .ok (.iconst 1, 1) := by decide +kernel
theorem dX6_set_17 : decode cX6_set 17 = .ok (.invokevirtual 91, 3) := by decide +kernel
theorem dX6_set_20 : decode cX6_set 20 = .ok (.istore 4, 2) := by decide +kernel
theorem dX6_set_22 : decode cX6_set 22 = .ok (.iload 4, 2) := by decide +kernel
theorem dX6_set_24 : decode cX6_set 24 = .ok (.ifCond .eq 10, 3) := by decide +kernel
theorem dX6_set_27 : decode cX6_set 27 = .ok (.aload_n 0, 1) := by decide +kernel
theorem dX6_set_28 : decode cX6_set 28 = .ok (.iload 4, 2) := by decide +kernel
theorem dX6_set_30 : decode cX6_set 30 = .ok (.invokevirtual 79, 3) := by decide +kernel
theorem dX6_set_33 : decode cX6_set 33 = .ok (.ireturn, 1) := by decide +kernel
theorem dX6_set_34 : decode cX6_set 34 = .ok (.aload_n 0, 1) := by decide +kernel
theorem dX6_set_35 : decode cX6_set 35 = .ok (.iconst 0, 1) := by decide +kernel
theorem dX6_set_36 : decode cX6_set 36 = .ok (.putfield 87, 3) := by decide +kernel
theorem dX6_set_39 : decode cX6_set 39 = .ok (.aload_n 0, 1) := by decide +kernel
theorem dX6_set_40 : decode cX6_set 40 = .ok (.getfield 10, 3) := by decide +kernel
theorem dX6_set_43 : decode cX6_set 43 = .ok (.iload_n 1, 1) := by decide +kernel
theorem dX6_set_44 : decode cX6_set 44 = .ok (.iload_n 2, 1) := by decide +kernel
theorem dX6_set_45 : decode cX6_set 45 = .ok (.iload_n 3, 1) := by decide +kernel
theorem dX6_set_46 : decode cX6_set 46 = .ok (.invokevirtual 95, 3) := by decide +kernel
theorem dX6_set_49 : decode cX6_set 49 = .ok (.ireturn, 1) := by decide +kernel
theorem dX6_copy_0 : decode cX6_copy 0 = .ok (.iload_n 1, 1) := by decide +kernel
theorem dX6_copy_1 : decode cX6_copy 1 = .ok (.invokestatic 70, 3) := by decide +kernel
theorem dX6_copy_4 : decode cX6_copy 4 = .ok (.ifCond .eq 10, 3) := by decide +kernel
theorem dX6_copy_7 : decode cX6_copy 7 = .ok (.iload_n 3, 1) := by decide +kernel
theorem dX6_copy_8 : decode cX6_copy 8 = .ok (.invokestatic 70, 3) := by decide +kernel
theorem dX6_copy_11 : decode cX6_copy 11 = .ok (.ifCond .ne 6, 3) := by decide +kernel
theorem dX6_copy_14 : decode cX6_copy 14 = .ok (.ldc 78, 2) := by decide +kernel
theorem dX6_copy_16 : decode cX6_copy 16 = .ok (.ireturn, 1) := by decide +kernel
theorem dX6_copy_17 : decode cX6_copy 17 = .ok (.aload_n 0, 1) := by decide +kernel
theorem dX6_copy_18 : decode cX6_copy 18 = .ok (.getfield 10, 3) := by decide +kernel
theorem dX6_copy_21 : decode cX6_copy 21 = .ok (.iload_n 1, 1) := by decide +kernel
theorem dX6_copy_22 : decode cX6_copy 22 = .ok (.iload_n 2, 1) := by decide +kernel
theorem dX6_copy_23 : decode cX6_copy 23 = .ok (.iload_n 3, 1) := by decide +kernel
theorem dX6_copy_24 : decode cX6_copy 24 = .ok (.iload 4, 2) := by decide +kernel
theorem dX6_copy_26 : decode cX6_copy 26 = .ok (.iload 5, 2) := by decide +kernel
theorem dX6_copy_28 : decode cX6_copy 28 = .ok (.invokevirtual 98, 3) := by decide +kernel
theorem dX6_copy_31 : decode cX6_copy 31 = .ok (.istore 6, 2) := by decide +kernel
theorem dX6_copy_33 : decode cX6_copy 33 = .ok (.iload 6, 2) := by decide +kernel
theorem dX6_copy_35 : decode cX6_copy 35 = .ok (.ifCond .eq 10, 3) := by decide +kernel
theorem dX6_copy_38 : decode cX6_copy 38 = .ok (.aload_n 0, 1) := by decide +kernel
theorem dX6_copy_39 : decode cX6_copy 39 = .ok (.iload 6, 2) := by decide +kernel
theorem dX6_copy_41 : decode cX6_copy 41 = .ok (.invokevirtual 79, 3) := by decide +kernel
theorem dX6_copy_44 : decode cX6_copy 44 = .ok (.ireturn, 1) := by decide +kernel
theorem dX6_copy_45 : decode cX6_copy 45 = .ok (.aload_n 0, 1) := by decide +kernel
theorem dX6_copy_46 : decode cX6_copy 46 = .ok (.iconst 0, 1) := by decide +kernel
theorem dX6_copy_47 : decode cX6_copy 47 = .ok (.putfield 87, 3) := by decide +kernel
theorem dX6_copy_50 : decode cX6_copy 50 = .ok (.aload_n 0, 1) := by decide +kernel
theorem dX6_copy_51 : decode cX6_copy 51 = .ok (.getfield 10, 3) := by decide +kernel
theorem dX6_copy_54 : decode cX6_copy 54 = .ok (.iload_n 1, 1) := by decide +kernel
theorem dX6_copy_55 : decode cX6_copy 55 = .ok (.iload_n 2, 1) := by decide +kernel
theorem dX6_copy_56 : decode cX6_copy 56 = .ok (.iload_n 3, 1) := by decide +kernel
theorem dX6_copy_57 : decode cX6_copy 57 = .ok (.iload 4, 2) := by decide +kernel
theorem dX6_copy_59 : decode cX6_copy 59 = .ok (.iload 5, 2) := by decide +kernel
theorem dX6_copy_61 : decode cX6_copy 61 = .ok (.invokevirtual 102, 3) := by decide +kernel
theorem dX6_copy_64 : decode cX6_copy 64 = .ok (.iload 5, 2) := by decide +kernel
theorem dX6_copy_66 : decode cX6_copy 66 = .ok (.ireturn, 1) := by decide +kernel
theorem dX6_drop_0 : decode cX6_drop 0 = .ok (.iload_n 1, 1) := by decide +kernel
theorem dX6_drop_1 : decode cX6_drop 1 = .ok (.invokestatic 70, 3) := by decide +kernel
theorem dX6_drop_4 : decode cX6_drop 4 = .ok (.ifCond .ne 6, 3) := by decide +kernel
theorem dX6_drop_7 : decode cX6_drop 7 = .ok (.ldc 78, 2) := by decide +kernel
theorem dX6_drop_9 : decode cX6_drop 9 = .ok (.ireturn, 1) := by decide +kernel
theorem dX6_drop_10 : decode cX6_drop 10 = .ok (.aload_n 0, 1) := by decide +kernel
theorem dX6_drop_11 : decode cX6_drop 11 = .ok (.getfield 10, 3) := by decide +kernel
theorem dX6_drop_14 : decode cX6_drop 14 = .ok (.iload_n 1, 1) := by decide +kernel
theorem dX6_drop_15 : decode cX6_drop 15 = .ok (.invokevirtual 106, 3) := by decide +kernel
theorem dX6_drop_18 : decode cX6_drop 18 = .ok (.ifCond .eq 9, 3) := by decide +kernel
theorem dX6_drop_21 : decode cX6_drop 21 = .ok (.aload_n 0, 1) := by decide +kernel
theorem dX6_drop_22 : decode cX6_drop 22 = .ok (.iconst 1, 1) := by decide +kernel
theorem dX6_drop_23 : decode cX6_drop 23 = .ok (.invokevirtual 79, 3) := by decide +kernel
theorem dX6_drop_26 : decode cX6_drop 26 = .ok (.ireturn, 1) := by decide +kernel
theorem dX6_drop_27 : decode cX6_drop 27 = .ok (.aload_n 0, 1) := by decide +kernel
theorem dX6_drop_28 : decode cX6_drop 28 = .ok (.iconst 0, 1) := by decide +kernel
theorem dX6_drop_29 : decode cX6_drop 29 = .ok (.putfield 87, 3) := by decide +kernel
theorem dX6_drop_32 : decode cX6_drop 32 = .ok (.aload_n 0, 1) := by decide +kernel
theorem dX6_drop_33 : decode cX6_drop 33 = .ok (.getfield 10, 3) := by decide +kernel
theorem dX6_drop_36 : decode cX6_drop 36 = .ok (.iload_n 1, 1) := by decide +kernel
theorem dX6_drop_37 : decode cX6_drop 37 = .ok (.invokevirtual 109, 3) := by decide +kernel
theorem dX6_drop_40 : decode cX6_drop 40 = .ok (.ireturn, 1) := by decide +kernel
theorem dX6_feed_0 : decode cX6_feed 0 = .ok (.iload_n 1, 1) := by decide +kernel
