theorem dX0_init_0 : decode cX0_init 0 = .ok (.aload_n 0, 1) := by decide +kernel
theorem dX0_init_1 : decode cX0_init 1 = .ok (.invokespecial 3, 3) := by decide +kernel
theorem dX0_init_4 : decode cX0_init 4 = .ok (.aload_n 0, 1) := by decide +kernel
theorem dX0_init_5 : decode cX0_init 5 = .ok (.bipush 12, 2) := by decide +kernel
theorem dX0_init_7 : decode cX0_init 7 = .ok (.anewarray 9, 3) := by decide +kernel
theorem dX0_init_10 : decode cX0_init 10 = .ok (.putfield 11, 3) := by decide +kernel
theorem dX0_init_13 : decode cX0_init 13 = .ok (.aload_n 0, 1) := by decide +kernel
theorem dX0_init_14 : decode cX0_init 14 = .ok (.iconst 0, 1) := by decide +kernel
theorem dX0_init_15 : decode cX0_init 15 = .ok (.putfield 17, 3) := by decide +kernel
theorem dX0_init_18 : decode cX0_init 18 = .ok (.return_, 1) := by decide +kernel
theorem dX0_hasRoom_0 : decode cX0_hasRoom 0 = .ok (.aload_n 0, 1) := by decide +kernel
theorem dX0_hasRoom_1 : decode cX0_hasRoom 1 = .ok (.getfield 17, 3) := by decide +kernel
theorem dX0_hasRoom_4 : decode cX0_hasRoom 4 = .ok (.aload_n 0, 1) := by decide +kernel
theorem dX0_hasRoom_5 : decode cX0_hasRoom 5 = .ok (.getfield 11, 3) := by decide +kernel
theorem dX0_hasRoom_8 : decode cX0_hasRoom 8 = .ok (.arraylength, 1) := by decide +kernel
theorem dX0_hasRoom_9 : decode cX0_hasRoom 9 = .ok (.if_icmp .ge 7, 3) := by decide +kernel
theorem dX0_hasRoom_12 : decode cX0_hasRoom 12 = .ok (.iconst 1, 1) := by decide +kernel
theorem dX0_hasRoom_13 : decode cX0_hasRoom 13 = .ok (.goto 4, 3) := by decide +kernel
theorem dX0_hasRoom_16 : decode cX0_hasRoom 16 = .ok (.iconst 0, 1) := by decide +kernel
theorem dX0_hasRoom_17 : decode cX0_hasRoom 17 = .ok (.ireturn, 1) := by decide +kernel
theorem dX0_put_0 : decode cX0_put 0 = .ok (.aload_n 0, 1) := by decide +kernel
theorem dX0_put_1 : decode cX0_put 1 = .ok (.getfield 17, 3) := by decide +kernel
theorem dX0_put_4 : decode cX0_put 4 = .ok (.ifCond .lt 35, 3) := by decide +kernel
theorem dX0_put_7 : decode cX0_put 7 = .ok (.aload_n 0, 1) := by decide +kernel
theorem dX0_put_8 : decode cX0_put 8 = .ok (.getfield 17, 3) := by decide +kernel
theorem dX0_put_11 : decode cX0_put 11 = .ok (.aload_n 0, 1) := by decide +kernel
theorem dX0_put_12 : decode cX0_put 12 = .ok (.getfield 11, 3) := by decide +kernel
theorem dX0_put_15 : decode cX0_put 15 = .ok (.arraylength, 1) := by decide +kernel
theorem dX0_put_16 : decode cX0_put 16 = .ok (.if_icmp .ge 23, 3) := by decide +kernel
theorem dX0_put_19 : decode cX0_put 19 = .ok (.aload_n 0, 1) := by decide +kernel
theorem dX0_put_20 : decode cX0_put 20 = .ok (.getfield 11, 3) := by decide +kernel
theorem dX0_put_23 : decode cX0_put 23 = .ok (.aload_n 0, 1) := by decide +kernel
theorem dX0_put_24 : decode cX0_put 24 = .ok (.getfield 17, 3) := by decide +kernel
theorem dX0_put_27 : decode cX0_put 27 = .ok (.aload_n 1, 1) := by decide +kernel
theorem dX0_put_28 : decode cX0_put 28 = .ok (.aastore, 1) := by decide +kernel
theorem dX0_put_29 : decode cX0_put 29 = .ok (.aload_n 0, 1) := by decide +kernel
theorem dX0_put_30 : decode cX0_put 30 = .ok (.dup, 1) := by decide +kernel
theorem dX0_put_31 : decode cX0_put 31 = .ok (.getfield 17, 3) := by decide +kernel
theorem dX0_put_34 : decode cX0_put 34 = .ok (.iconst 1, 1) := by decide +kernel
theorem dX0_put_35 : decode cX0_put 35 = .ok (.iadd, 1) := by decide +kernel
theorem dX0_put_36 : decode cX0_put 36 = .ok (.putfield 17, 3) := by decide +kernel
theorem dX0_put_39 : decode cX0_put 39 = .ok (.return_, 1) := by decide +kernel
theorem dX0_liveRule_0 : decode cX0_liveRule 0 = .ok (.iload_n 1, 1) := by decide +kernel
theorem dX0_liveRule_1 : decode cX0_liveRule 1 = .ok (.ifCond .lt 12, 3) := by decide +kernel
theorem dX0_liveRule_4 : decode cX0_liveRule 4 = .ok (.iload_n 1, 1) := by decide +kernel
theorem dX0_liveRule_5 : decode cX0_liveRule 5 = .ok (.aload_n 0, 1) := by decide +kernel
theorem dX0_liveRule_6 : decode cX0_liveRule 6 = .ok (.getfield 11, 3) := by decide +kernel
theorem dX0_liveRule_9 : decode cX0_liveRule 9 = .ok (.arraylength, 1) := by decide +kernel
theorem dX0_liveRule_10 : decode cX0_liveRule 10 = .ok (.if_icmp .lt 5, 3) := by decide +kernel
theorem dX0_liveRule_13 : decode cX0_liveRule 13 = .ok (.aconst_null, 1) := by decide +kernel
theorem dX0_liveRule_14 : decode cX0_liveRule 14 = .ok (.areturn, 1) := by decide +kernel
theorem dX0_liveRule_15 : decode cX0_liveRule 15 = .ok (.aload_n 0, 1) := by decide +kernel
theorem dX0_liveRule_16 : decode cX0_liveRule 16 = .ok (.getfield 11, 3) := by decide +kernel
theorem dX0_liveRule_19 : decode cX0_liveRule 19 = .ok (.iload_n 1, 1) := by decide +kernel
theorem dX0_liveRule_20 : decode cX0_liveRule 20 = .ok (.aaload, 1) := by decide +kernel
theorem dX0_liveRule_21 : decode cX0_liveRule 21 = .ok (.astore_n 2, 1) := by decide +kernel
theorem dX0_liveRule_22 : decode cX0_liveRule 22 = .ok (.aload_n 2, 1) := by decide +kernel
theorem dX0_liveRule_23 : decode cX0_liveRule 23 = .ok (.ifnull 10, 3) := by decide +kernel
theorem dX0_liveRule_26 : decode cX0_liveRule 26 = .ok (.aload_n 2, 1) := by decide +kernel
theorem dX0_liveRule_27 : decode cX0_liveRule 27 = .ok (.getfield 21, 3) := by decide +kernel
theorem dX0_liveRule_30 : decode cX0_liveRule 30 = .ok (.ifCond .eq 7, 3) := by decide +kernel
theorem dX0_liveRule_33 : decode cX0_liveRule 33 = .ok (.aconst_null, 1) := by decide +kernel
theorem dX0_liveRule_34 : decode cX0_liveRule 34 = .ok (.goto 4, 3) := by decide +kernel
theorem dX0_liveRule_37 : decode cX0_liveRule 37 = .ok (.aload_n 2, 1) := by decide +kernel
theorem dX0_liveRule_38 : decode cX0_liveRule 38 = .ok (.areturn, 1) := by decide +kernel
theorem dX0_countLive_0 : decode cX0_countLive 0 = .ok (.iconst 0, 1) := by decide +kernel
theorem dX0_countLive_1 : decode cX0_countLive 1 = .ok (.istore_n 1, 1) := by decide +kernel
theorem dX0_countLive_2 : decode cX0_countLive 2 = .ok (.iconst 0, 1) := by decide +kernel
theorem dX0_countLive_3 : decode cX0_countLive 3 = .ok (.istore_n 2, 1) := by decide +kernel
theorem dX0_countLive_4 : decode cX0_countLive 4 = .ok (.iload_n 2, 1) := by decide +kernel
theorem dX0_countLive_5 : decode cX0_countLive 5 = .ok (.aload_n 0, 1) := by decide +kernel
theorem dX0_countLive_6 : decode cX0_countLive 6 = .ok (.getfield 17, 3) := by decide +kernel
theorem dX0_countLive_9 : decode cX0_countLive 9 = .ok (.if_icmp .ge 20, 3) := by decide +kernel
theorem dX0_countLive_12 : decode cX0_countLive 12 = .ok (.aload_n 0, 1) := by decide +kernel
theorem dX0_countLive_13 : decode cX0_countLive 13 = .ok (.iload_n 2, 1) := by decide +kernel
theorem dX0_countLive_14 : decode cX0_countLive 14 = .ok (.invokevirtual 25, 3) := by decide +kernel
theorem dX0_countLive_17 : decode cX0_countLive 17 = .ok (.ifnull 6, 3) := by decide +kernel
theorem dX0_countLive_20 : decode cX0_countLive 20 = .ok (.iinc 1 1, 3) := by decide +kernel
theorem dX0_countLive_23 : decode cX0_countLive 23 = .ok (.iinc 2 1, 3) := by decide +kernel
theorem dX0_countLive_26 : decode cX0_countLive 26 = .ok (.goto (-22), 3) := by decide +kernel
theorem dX0_countLive_29 : decode cX0_countLive 29 = .ok (.iload_n 1, 1) := by decide +kernel
theorem dX0_countLive_30 : decode cX0_countLive 30 = .ok (.ireturn, 1) := by decide +kernel
theorem dX0_chosenRule_0 : decode cX0_chosenRule 0 = .ok (.aconst_null, 1) := by decide +kernel
theorem dX0_chosenRule_1 : decode cX0_chosenRule 1 = .ok (.astore 5, 2) := by decide +kernel
theorem dX0_chosenRule_3 : decode cX0_chosenRule 3 = .ok (.iconst 0, 1) := by decide +kernel
theorem dX0_chosenRule_4 : decode cX0_chosenRule 4 = .ok (.istore 6, 2) := by decide +kernel
theorem dX0_chosenRule_6 : decode cX0_chosenRule 6 = .ok (.iload 6, 2) := by decide +kernel
theorem dX0_chosenRule_8 : decode cX0_chosenRule 8 = .ok (.aload_n 0, 1) := by decide +kernel
theorem dX0_chosenRule_9 : decode cX0_chosenRule 9 = .ok (.getfield 17, 3) := by decide +kernel
theorem dX0_chosenRule_12 : decode cX0_chosenRule 12 = .ok (.if_icmp .ge 81, 3) := by decide +kernel
theorem dX0_chosenRule_15 : decode cX0_chosenRule 15 = .ok (.aload_n 0, 1) := by decide +kernel
theorem dX0_chosenRule_16 : decode cX0_chosenRule 16 = .ok (.iload 6, 2) := by decide +kernel
theorem dX0_chosenRule_18 : decode cX0_chosenRule 18 = .ok (.invokevirtual 25, 3) := by decide +kernel
theorem dX0_chosenRule_21 : decode cX0_chosenRule 21 = .ok (.astore 7, 2) := by decide +kernel
theorem dX0_chosenRule_23 : decode cX0_chosenRule 23 = .ok (.aload 7, 2) := by decide +kernel
theorem dX0_chosenRule_25 : decode cX0_chosenRule 25 = .ok (.ifnull 62, 3) := by decide +kernel
theorem dX0_chosenRule_28 : decode cX0_chosenRule 28 = .ok (.aload 7, 2) := by decide +kernel
theorem dX0_chosenRule_30 : decode cX0_chosenRule 30 = .ok (.getfield 29, 3) := by decide +kernel
theorem dX0_chosenRule_33 : decode cX0_chosenRule 33 = .ok (.iload_n 2, 1) := by decide +kernel
theorem dX0_chosenRule_34 : decode cX0_chosenRule 34 = .ok (.if_icmp .eq 6, 3) := by decide +kernel
theorem dX0_chosenRule_37 : decode cX0_chosenRule 37 = .ok (.goto 50, 3) := by decide +kernel
theorem dX0_chosenRule_40 : decode cX0_chosenRule 40 = .ok (.aload 5, 2) := by decide +kernel
theorem dX0_chosenRule_42 : decode cX0_chosenRule 42 = .ok (.ifnull 16, 3) := by decide +kernel
theorem dX0_chosenRule_45 : decode cX0_chosenRule 45 = .ok (.aload 7, 2) := by decide +kernel
theorem dX0_chosenRule_47 : decode cX0_chosenRule 47 = .ok (.getfield 32, 3) := by decide +kernel
theorem dX0_chosenRule_50 : decode cX0_chosenRule 50 = .ok (.aload 5, 2) := by decide +kernel
theorem dX0_chosenRule_52 : decode cX0_chosenRule 52 = .ok (.getfield 32, 3) := by decide +kernel
theorem dX0_chosenRule_55 : decode cX0_chosenRule 55 = .ok (.if_icmp .le 7, 3) := by decide +kernel
theorem dX0_chosenRule_58 : decode cX0_chosenRule 58 = .ok (.iconst 1, 1) := by decide +kernel
theorem dX0_chosenRule_59 : decode cX0_chosenRule 59 = .ok (.goto 4, 3) := by decide +kernel
theorem dX0_chosenRule_62 : decode cX0_chosenRule 62 = .ok (.iconst 0, 1) := by decide +kernel
theorem dX0_chosenRule_63 : decode cX0_chosenRule 63 = .ok (.istore 8, 2) := by decide +kernel
theorem dX0_chosenRule_65 : decode cX0_chosenRule 65 = .ok (.iload 8, 2) := by decide +kernel
theorem dX0_chosenRule_67 : decode cX0_chosenRule 67 = .ok (.ifCond .eq 20, 3) := by decide +kernel
theorem dX0_chosenRule_70 : decode cX0_chosenRule 70 = .ok (.aload_n 1, 1) := by decide +kernel
theorem dX0_chosenRule_71 : decode cX0_chosenRule 71 = .ok (.aload 7, 2) := by decide +kernel
theorem dX0_chosenRule_73 : decode cX0_chosenRule 73 = .ok (.iload_n 3, 1) := by decide +kernel
theorem dX0_chosenRule_74 : decode cX0_chosenRule 74 = .ok (.iload 4, 2) := by decide +kernel
theorem dX0_chosenRule_76 : decode cX0_chosenRule 76 = .ok (.invokevirtual 35, 3) := by decide +kernel
theorem dX0_chosenRule_79 : decode cX0_chosenRule 79 = .ok (.iconst (-1), 1) := by decide +kernel
theorem dX0_chosenRule_80 : decode cX0_chosenRule 80 = .ok (.if_icmp .eq 7, 3) := by decide +kernel
theorem dX0_chosenRule_83 : decode cX0_chosenRule 83 = .ok (.aload 7, 2) := by decide +kernel
theorem dX0_chosenRule_85 : decode cX0_chosenRule 85 = .ok (.astore 5, 2) := by decide +kernel
theorem dX0_chosenRule_87 : decode cX0_chosenRule 87 = .ok (.iinc 6 1, 3) := by decide +kernel
theorem dX0_chosenRule_90 : decode cX0_chosenRule 90 = .ok (.goto (-84), 3) := by decide +kernel
theorem dX0_chosenRule_93 : decode cX0_chosenRule 93 = .ok (.aload 5, 2) := by decide +kernel
theorem dX0_chosenRule_95 : decode cX0_chosenRule 95 = .ok (.areturn, 1) := by decide +kernel
theorem dX1_init_0 : decode cX1_init 0 = .ok (.aload_n 0, 1) := by decide +kernel
theorem dX1_init_1 : decode cX1_init 1 = .ok (.invokespecial 3, 3) := by decide +kernel
theorem dX1_init_4 : decode cX1_init 4 = .ok (.aload_n 0, 1) := by decide +kernel
theorem dX1_init_5 : decode cX1_init 5 = .ok (.bipush 95, 2) := by decide +kernel
theorem dX1_init_7 : decode cX1_init 7 = .ok (.newarray .int, 2) := by decide +kernel
theorem dX1_init_9 : decode cX1_init 9 = .ok (.putfield 9, 3) := by decide +kernel
theorem dX1_init_12 : decode cX1_init 12 = .ok (.aload_n 0, 1) := by decide +kernel
theorem dX1_init_13 : decode cX1_init 13 = .ok (.bipush 10, 2) := by decide +kernel
theorem dX1_init_15 : decode cX1_init 15 = .ok (.newarray .int, 2) := by decide +kernel
theorem dX1_init_17 : decode cX1_init 17 = .ok (.putfield 15, 3) := by decide +kernel
theorem dX1_init_20 : decode cX1_init 20 = .ok (.aload_n 0, 1) := by decide +kernel
theorem dX1_init_21 : decode cX1_init 21 = .ok (.bipush 10, 2) := by decide +kernel
theorem dX1_init_23 : decode cX1_init 23 = .ok (.newarray .int, 2) := by decide +kernel
theorem dX1_init_25 : decode cX1_init 25 = .ok (.putfield 18, 3) := by decide +kernel
theorem dX1_init_28 : decode cX1_init 28 = .ok (.aload_n 0, 1) := by decide +kernel
theorem dX1_init_29 : decode cX1_init 29 = .ok (.bipush 10, 2) := by decide +kernel
theorem dX1_init_31 : decode cX1_init 31 = .ok (.newarray .int, 2) := by decide +kernel
theorem dX1_init_33 : decode cX1_init 33 = .ok (.putfield 21, 3) := by decide +kernel
theorem dX1_init_36 : decode cX1_init 36 = .ok (.aload_n 0, 1) := by decide +kernel
theorem dX1_init_37 : decode cX1_init 37 = .ok (.bipush 10, 2) := by decide +kernel
theorem dX1_init_39 : decode cX1_init 39 = .ok (.newarray .int, 2) := by decide +kernel
theorem dX1_init_41 : decode cX1_init 41 = .ok (.putfield 24, 3) := by decide +kernel
theorem dX1_init_44 : decode cX1_init 44 = .ok (.aload_n 0, 1) := by decide +kernel
theorem dX1_init_45 : decode cX1_init 45 = .ok (.bipush 10, 2) := by decide +kernel
theorem dX1_init_47 : decode cX1_init 47 = .ok (.newarray .int, 2) := by decide +kernel
theorem dX1_init_49 : decode cX1_init 49 = .ok (.putfield 27, 3) := by decide +kernel
theorem dX1_init_52 : decode cX1_init 52 = .ok (.aload_n 0, 1) := by decide +kernel
theorem dX1_init_53 : decode cX1_init 53 = .ok (.bipush 10, 2) := by decide +kernel
theorem dX1_init_55 : decode cX1_init 55 = .ok (.newarray .int, 2) := by decide +kernel
theorem dX1_init_57 : decode cX1_init 57 = .ok (.putfield 30, 3) := by decide +kernel
theorem dX1_init_60 : decode cX1_init 60 = .ok (.aload_n 0, 1) := by decide +kernel
theorem dX1_init_61 : decode cX1_init 61 = .ok (.iconst 0, 1) := by decide +kernel
theorem dX1_init_62 : decode cX1_init 62 = .ok (.putfield 33, 3) := by decide +kernel
theorem dX1_init_65 : decode cX1_init 65 = .ok (.aload_n 0, 1) := by decide +kernel
theorem dX1_init_66 : decode cX1_init 66 = .ok (.iconst 0, 1) := by decide +kernel
theorem dX1_init_67 : decode cX1_init 67 = .ok (.putfield 37, 3) := by decide +kernel
theorem dX1_init_70 : decode cX1_init 70 = .ok (.aload_n 0, 1) := by decide +kernel
theorem dX1_init_71 : decode cX1_init 71 = .ok (.iconst 0, 1) := by decide +kernel
theorem dX1_init_72 : decode cX1_init 72 = .ok (.putfield 40, 3) := by decide +kernel
theorem dX1_init_75 : decode cX1_init 75 = .ok (.aload_n 0, 1) := by decide +kernel
theorem dX1_init_76 : decode cX1_init 76 = .ok (.iconst 0, 1) := by decide +kernel
theorem dX1_init_77 : decode cX1_init 77 = .ok (.putfield 43, 3) := by decide +kernel
theorem dX1_init_80 : decode cX1_init 80 = .ok (.return_, 1) := by decide +kernel
theorem dX1_lay_0 : decode cX1_lay 0 = .ok (.aload_n 0, 1) := by decide +kernel
theorem dX1_lay_1 : decode cX1_lay 1 = .ok (.invokevirtual 46, 3) := by decide +kernel
theorem dX1_lay_4 : decode cX1_lay 4 = .ok (.aload_n 2, 1) := by decide +kernel
theorem dX1_lay_5 : decode cX1_lay 5 = .ok (.invokevirtual 49, 3) := by decide +kernel
theorem dX1_lay_8 : decode cX1_lay 8 = .ok (.ifCond .le 17, 3) := by decide +kernel
theorem dX1_lay_11 : decode cX1_lay 11 = .ok (.aload_n 0, 1) := by decide +kernel
theorem dX1_lay_12 : decode cX1_lay 12 = .ok (.bipush 10, 2) := by decide +kernel
theorem dX1_lay_14 : decode cX1_lay 14 = .ok (.iconst 0, 1) := by decide +kernel
theorem dX1_lay_15 : decode cX1_lay 15 = .ok (.aload_n 2, 1) := by decide +kernel
theorem dX1_lay_16 : decode cX1_lay 16 = .ok (.getfield 55, 3) := by decide +kernel
theorem dX1_lay_19 : decode cX1_lay 19 = .ok (.iconst 1, 1) := by decide +kernel
theorem dX1_lay_20 : decode cX1_lay 20 = .ok (.isub, 1) := by decide +kernel
theorem dX1_lay_21 : decode cX1_lay 21 = .ok (.iconst 0, 1) := by decide +kernel
theorem dX1_lay_22 : decode cX1_lay 22 = .ok (.invokevirtual 58, 3) := by decide +kernel
theorem dX1_lay_25 : decode cX1_lay 25 = .ok (.iconst 0, 1) := by decide +kernel
theorem dX1_lay_26 : decode cX1_lay 26 = .ok (.istore_n 3, 1) := by decide +kernel
theorem dX1_lay_27 : decode cX1_lay 27 = .ok (.iload_n 3, 1) := by decide +kernel
theorem dX1_lay_28 : decode cX1_lay 28 = .ok (.bipush 105, 2) := by decide +kernel
theorem dX1_lay_30 : decode cX1_lay 30 = .ok (.if_icmp .ge 156, 3) := by decide +kernel
theorem dX1_lay_33 : decode cX1_lay 33 = .ok (.aload_n 0, 1) := by decide +kernel
theorem dX1_lay_34 : decode cX1_lay 34 = .ok (.getfield 33, 3) := by decide +kernel
theorem dX1_lay_37 : decode cX1_lay 37 = .ok (.ifCond .le 149, 3) := by decide +kernel
theorem dX1_lay_40 : decode cX1_lay 40 = .ok (.aload_n 0, 1) := by decide +kernel
theorem dX1_lay_41 : decode cX1_lay 41 = .ok (.getfield 33, 3) := by decide +kernel
theorem dX1_lay_44 : decode cX1_lay 44 = .ok (.bipush 10, 2) := by decide +kernel
theorem dX1_lay_46 : decode cX1_lay 46 = .ok (.if_icmp .gt 140, 3) := by decide +kernel
theorem dX1_lay_49 : decode cX1_lay 49 = .ok (.aload_n 0, 1) := by decide +kernel
theorem dX1_lay_50 : decode cX1_lay 50 = .ok (.dup, 1) := by decide +kernel
theorem dX1_lay_51 : decode cX1_lay 51 = .ok (.getfield 33, 3) := by decide +kernel
theorem dX1_lay_54 : decode cX1_lay 54 = .ok (.iconst 1, 1) := by decide +kernel
theorem dX1_lay_55 : decode cX1_lay 55 = .ok (.isub, 1) := by decide +kernel
theorem dX1_lay_56 : decode cX1_lay 56 = .ok (.putfield 33, 3) := by decide +kernel
theorem dX1_lay_59 : decode cX1_lay 59 = .ok (.aload_n 0, 1) := by decide +kernel
theorem dX1_lay_60 : decode cX1_lay 60 = .ok (.getfield 21, 3) := by decide +kernel
theorem dX1_lay_63 : decode cX1_lay 63 = .ok (.aload_n 0, 1) := by decide +kernel
theorem dX1_lay_64 : decode cX1_lay 64 = .ok (.getfield 33, 3) := by decide +kernel
theorem dX1_lay_67 : decode cX1_lay 67 = .ok (.iaload, 1) := by decide +kernel
theorem dX1_lay_68 : decode cX1_lay 68 = .ok (.istore 4, 2) := by decide +kernel
theorem dX1_lay_70 : decode cX1_lay 70 = .ok (.aload_n 0, 1) := by decide +kernel
theorem dX1_lay_71 : decode cX1_lay 71 = .ok (.getfield 24, 3) := by decide +kernel
theorem dX1_lay_74 : decode cX1_lay 74 = .ok (.aload_n 0, 1) := by decide +kernel
theorem dX1_lay_75 : decode cX1_lay 75 = .ok (.getfield 33, 3) := by decide +kernel
theorem dX1_lay_78 : decode cX1_lay 78 = .ok (.iaload, 1) := by decide +kernel
theorem dX1_lay_79 : decode cX1_lay 79 = .ok (.istore 5, 2) := by decide +kernel
theorem dX1_lay_81 : decode cX1_lay 81 = .ok (.aload_n 0, 1) := by decide +kernel
theorem dX1_lay_82 : decode cX1_lay 82 = .ok (.getfield 27, 3) := by decide +kernel
theorem dX1_lay_85 : decode cX1_lay 85 = .ok (.aload_n 0, 1) := by decide +kernel
theorem dX1_lay_86 : decode cX1_lay 86 = .ok (.getfield 33, 3) := by decide +kernel
theorem dX1_lay_89 : decode cX1_lay 89 = .ok (.iaload, 1) := by decide +kernel
theorem dX1_lay_90 : decode cX1_lay 90 = .ok (.istore 6, 2) := by decide +kernel
theorem dX1_lay_92 : decode cX1_lay 92 = .ok (.aload_n 0, 1) := by decide +kernel
theorem dX1_lay_93 : decode cX1_lay 93 = .ok (.getfield 30, 3) := by decide +kernel
theorem dX1_lay_96 : decode cX1_lay 96 = .ok (.aload_n 0, 1) := by decide +kernel
theorem dX1_lay_97 : decode cX1_lay 97 = .ok (.getfield 33, 3) := by decide +kernel
theorem dX1_lay_100 : decode cX1_lay 100 = .ok (.iaload, 1) := by decide +kernel
theorem dX1_lay_101 : decode cX1_lay 101 = .ok (.istore 7, 2) := by decide +kernel
theorem dX1_lay_103 : decode cX1_lay 103 = .ok (.iload 4, 2) := by decide +kernel
theorem dX1_lay_105 : decode cX1_lay 105 = .ok (.invokestatic 62, 3) := by decide +kernel
theorem dX1_lay_108 : decode cX1_lay 108 = .ok (.ifCond .eq 29, 3) := by decide +kernel
theorem dX1_lay_111 : decode cX1_lay 111 = .ok (.aload_n 0, 1) := by decide +kernel
theorem dX1_lay_112 : decode cX1_lay 112 = .ok (.dup, 1) := by decide +kernel
theorem dX1_lay_113 : decode cX1_lay 113 = .ok (.getfield 43, 3) := by decide +kernel
theorem dX1_lay_116 : decode cX1_lay 116 = .ok (.iconst 1, 1) := by decide +kernel
theorem dX1_lay_117 : decode cX1_lay 117 = .ok (.iadd, 1) := by decide +kernel
theorem dX1_lay_118 : decode cX1_lay 118 = .ok (.putfield 43, 3) := by decide +kernel
theorem dX1_lay_121 : decode cX1_lay 121 = .ok (.aload_n 0, 1) := by decide +kernel
theorem dX1_lay_122 : decode cX1_lay 122 = .ok (.aload_n 0, 1) := by decide +kernel
theorem dX1_lay_123 : decode cX1_lay 123 = .ok (.getfield 40, 3) := by decide +kernel
theorem dX1_lay_126 : decode cX1_lay 126 = .ok (.iload 7, 2) := by decide +kernel
theorem dX1_lay_128 : decode cX1_lay 128 = .ok (.invokestatic 66, 3) := by decide +kernel
theorem dX1_lay_131 : decode cX1_lay 131 = .ok (.putfield 40, 3) := by decide +kernel
theorem dX1_lay_134 : decode cX1_lay 134 = .ok (.goto 46, 3) := by decide +kernel
theorem dX1_lay_137 : decode cX1_lay 137 = .ok (.aload_n 1, 1) := by decide +kernel
theorem dX1_lay_138 : decode cX1_lay 138 = .ok (.aload_n 2, 1) := by decide +kernel
theorem dX1_lay_139 : decode cX1_lay 139 = .ok (.iload 4, 2) := by decide +kernel
theorem dX1_lay_141 : decode cX1_lay 141 = .ok (.iload 5, 2) := by decide +kernel
theorem dX1_lay_143 : decode cX1_lay 143 = .ok (.iload 6, 2) := by decide +kernel
theorem dX1_lay_145 : decode cX1_lay 145 = .ok (.invokevirtual 72, 3) := by decide +kernel
theorem dX1_lay_148 : decode cX1_lay 148 = .ok (.astore 8, 2) := by decide +kernel
theorem dX1_lay_150 : decode cX1_lay 150 = .ok (.aload 8, 2) := by decide +kernel
theorem dX1_lay_152 : decode cX1_lay 152 = .ok (.ifnull 28, 3) := by decide +kernel
theorem dX1_lay_155 : decode cX1_lay 155 = .ok (.aload_n 0, 1) := by decide +kernel
theorem dX1_lay_156 : decode cX1_lay 156 = .ok (.aload 8, 2) := by decide +kernel
theorem dX1_lay_158 : decode cX1_lay 158 = .ok (.iload 5, 2) := by decide +kernel
theorem dX1_lay_160 : decode cX1_lay 160 = .ok (.iload 6, 2) := by decide +kernel
theorem dX1_lay_162 : decode cX1_lay 162 = .ok (.invokevirtual 78, 3) := by decide +kernel
theorem dX1_lay_165 : decode cX1_lay 165 = .ok (.aload_n 0, 1) := by decide +kernel
theorem dX1_lay_166 : decode cX1_lay 166 = .ok (.aload_n 2, 1) := by decide +kernel
theorem dX1_lay_167 : decode cX1_lay 167 = .ok (.aload 8, 2) := by decide +kernel
theorem dX1_lay_169 : decode cX1_lay 169 = .ok (.iload 5, 2) := by decide +kernel
theorem dX1_lay_171 : decode cX1_lay 171 = .ok (.iload 6, 2) := by decide +kernel
theorem dX1_lay_173 : decode cX1_lay 173 = .ok (.iload 7, 2) := by decide +kernel
theorem dX1_lay_175 : decode cX1_lay 175 = .ok (.iconst 1, 1) := by decide +kernel
theorem dX1_lay_176 : decode cX1_lay 176 = .ok (.iadd, 1) := by decide +kernel
theorem dX1_lay_177 : decode cX1_lay 177 = .ok (.invokevirtual 82, 3) := by decide +kernel
theorem dX1_lay_180 : decode cX1_lay 180 = .ok (.iinc 3 1, 3) := by decide +kernel
theorem dX1_lay_183 : decode cX1_lay 183 = .ok (.goto (-156), 3) := by decide +kernel
theorem dX1_lay_186 : decode cX1_lay 186 = .ok (.return_, 1) := by decide +kernel
theorem dX1_clear_0 : decode cX1_clear 0 = .ok (.aload_n 0, 1) := by decide +kernel
theorem dX1_clear_1 : decode cX1_clear 1 = .ok (.getfield 15, 3) := by decide +kernel
theorem dX1_clear_4 : decode cX1_clear 4 = .ok (.iconst 0, 1) := by decide +kernel
theorem dX1_clear_5 : decode cX1_clear 5 = .ok (.invokestatic 86, 3) := by decide +kernel
theorem dX1_clear_8 : decode cX1_clear 8 = .ok (.aload_n 0, 1) := by decide +kernel
theorem dX1_clear_9 : decode cX1_clear 9 = .ok (.getfield 18, 3) := by decide +kernel
theorem dX1_clear_12 : decode cX1_clear 12 = .ok (.iconst 0, 1) := by decide +kernel
theorem dX1_clear_13 : decode cX1_clear 13 = .ok (.invokestatic 86, 3) := by decide +kernel
theorem dX1_clear_16 : decode cX1_clear 16 = .ok (.aload_n 0, 1) := by decide +kernel
theorem dX1_clear_17 : decode cX1_clear 17 = .ok (.iconst 0, 1) := by decide +kernel
theorem dX1_clear_18 : decode cX1_clear 18 = .ok (.putfield 33, 3) := by decide +kernel
theorem dX1_clear_21 : decode cX1_clear 21 = .ok (.aload_n 0, 1) := by decide +kernel
theorem dX1_clear_22 : decode cX1_clear 22 = .ok (.iconst 0, 1) := by decide +kernel
theorem dX1_clear_23 : decode cX1_clear 23 = .ok (.putfield 37, 3) := by decide +kernel
theorem dX1_clear_26 : decode cX1_clear 26 = .ok (.aload_n 0, 1) := by decide +kernel
theorem dX1_clear_27 : decode cX1_clear 27 = .ok (.iconst 0, 1) := by decide +kernel
theorem dX1_clear_28 : decode cX1_clear 28 = .ok (.putfield 40, 3) := by decide +kernel
theorem dX1_clear_31 : decode cX1_clear 31 = .ok (.aload_n 0, 1) := by decide +kernel
theorem dX1_clear_32 : decode cX1_clear 32 = .ok (.iconst 0, 1) := by decide +kernel
theorem dX1_clear_33 : decode cX1_clear 33 = .ok (.putfield 43, 3) := by decide +kernel
theorem dX1_clear_36 : decode cX1_clear 36 = .ok (.return_, 1) := by decide +kernel
theorem dX1_push_0 : decode cX1_push 0 = .ok (.aload_n 0, 1) := by decide +kernel
theorem dX1_push_1 : decode cX1_push 1 = .ok (.getfield 33, 3) := by decide +kernel
theorem dX1_push_4 : decode cX1_push 4 = .ok (.ifCond .lt 63, 3) := by decide +kernel
theorem dX1_push_7 : decode cX1_push 7 = .ok (.aload_n 0, 1) := by decide +kernel
theorem dX1_push_8 : decode cX1_push 8 = .ok (.getfield 33, 3) := by decide +kernel
theorem dX1_push_11 : decode cX1_push 11 = .ok (.bipush 10, 2) := by decide +kernel
theorem dX1_push_13 : decode cX1_push 13 = .ok (.if_icmp .ge 54, 3) := by decide +kernel
theorem dX1_push_16 : decode cX1_push 16 = .ok (.aload_n 0, 1) := by decide +kernel
theorem dX1_push_17 : decode cX1_push 17 = .ok (.getfield 21, 3) := by decide +kernel
theorem dX1_push_20 : decode cX1_push 20 = .ok (.aload_n 0, 1) := by decide +kernel
theorem dX1_push_21 : decode cX1_push 21 = .ok (.getfield 33, 3) := by decide +kernel
theorem dX1_push_24 : decode cX1_push 24 = .ok (.iload_n 1, 1) := by decide +kernel
theorem dX1_push_25 : decode cX1_push 25 = .ok (.iastore, 1) := by decide +kernel
theorem dX1_push_26 : decode cX1_push 26 = .ok (.aload_n 0, 1) := by decide +kernel
theorem dX1_push_27 : decode cX1_push 27 = .ok (.getfield 24, 3) := by decide +kernel
theorem dX1_push_30 : decode cX1_push 30 = .ok (.aload_n 0, 1) := by decide +kernel
theorem dX1_push_31 : decode cX1_push 31 = .ok (.getfield 33, 3) := by decide +kernel
theorem dX1_push_34 : decode cX1_push 34 = .ok (.iload_n 2, 1) := by decide +kernel
theorem dX1_push_35 : decode cX1_push 35 = .ok (.iastore, 1) := by decide +kernel
theorem dX1_push_36 : decode cX1_push 36 = .ok (.aload_n 0, 1) := by decide +kernel
theorem dX1_push_37 : decode cX1_push 37 = .ok (.getfield 27, 3) := by decide +kernel
theorem dX1_push_40 : decode cX1_push 40 = .ok (.aload_n 0, 1) := by decide +kernel
theorem dX1_push_41 : decode cX1_push 41 = .ok (.getfield 33, 3) := by decide +kernel
theorem dX1_push_44 : decode cX1_push 44 = .ok (.iload_n 3, 1) := by decide +kernel
theorem dX1_push_45 : decode cX1_push 45 = .ok (.iastore, 1) := by decide +kernel
theorem dX1_push_46 : decode cX1_push 46 = .ok (.aload_n 0, 1) := by decide +kernel
theorem dX1_push_47 : decode cX1_push 47 = .ok (.getfield 30, 3) := by decide +kernel
theorem dX1_push_50 : decode cX1_push 50 = .ok (.aload_n 0, 1) := by decide +kernel
theorem dX1_push_51 : decode cX1_push 51 = .ok (.getfield 33, 3) := by decide +kernel
theorem dX1_push_54 : decode cX1_push 54 = .ok (.iload 4, 2) := by decide +kernel
theorem dX1_push_56 : decode cX1_push 56 = .ok (.iastore, 1) := by decide +kernel
theorem dX1_push_57 : decode cX1_push 57 = .ok (.aload_n 0, 1) := by decide +kernel
theorem dX1_push_58 : decode cX1_push 58 = .ok (.dup, 1) := by decide +kernel
theorem dX1_push_59 : decode cX1_push 59 = .ok (.getfield 33, 3) := by decide +kernel
theorem dX1_push_62 : decode cX1_push 62 = .ok (.iconst 1, 1) := by decide +kernel
theorem dX1_push_63 : decode cX1_push 63 = .ok (.iadd, 1) := by decide +kernel
theorem dX1_push_64 : decode cX1_push 64 = .ok (.putfield 33, 3) := by decide +kernel
theorem dX1_push_67 : decode cX1_push 67 = .ok (.return_, 1) := by decide +kernel
theorem dX1_layRule_0 : decode cX1_layRule 0 = .ok (.aload_n 0, 1) := by decide +kernel
theorem dX1_layRule_1 : decode cX1_layRule 1 = .ok (.getfield 37, 3) := by decide +kernel
theorem dX1_layRule_4 : decode cX1_layRule 4 = .ok (.ifCond .lt 38, 3) := by decide +kernel
theorem dX1_layRule_7 : decode cX1_layRule 7 = .ok (.aload_n 0, 1) := by decide +kernel
theorem dX1_layRule_8 : decode cX1_layRule 8 = .ok (.getfield 37, 3) := by decide +kernel
theorem dX1_layRule_11 : decode cX1_layRule 11 = .ok (.aload_n 0, 1) := by decide +kernel
theorem dX1_layRule_12 : decode cX1_layRule 12 = .ok (.getfield 9, 3) := by decide +kernel
theorem dX1_layRule_15 : decode cX1_layRule 15 = .ok (.arraylength, 1) := by decide +kernel
theorem dX1_layRule_16 : decode cX1_layRule 16 = .ok (.if_icmp .ge 26, 3) := by decide +kernel
theorem dX1_layRule_19 : decode cX1_layRule 19 = .ok (.aload_n 0, 1) := by decide +kernel
theorem dX1_layRule_20 : decode cX1_layRule 20 = .ok (.getfield 9, 3) := by decide +kernel
theorem dX1_layRule_23 : decode cX1_layRule 23 = .ok (.aload_n 0, 1) := by decide +kernel
theorem dX1_layRule_24 : decode cX1_layRule 24 = .ok (.getfield 37, 3) := by decide +kernel
theorem dX1_layRule_27 : decode cX1_layRule 27 = .ok (.aload_n 1, 1) := by decide +kernel
theorem dX1_layRule_28 : decode cX1_layRule 28 = .ok (.getfield 92, 3) := by decide +kernel
theorem dX1_layRule_31 : decode cX1_layRule 31 = .ok (.iastore, 1) := by decide +kernel
theorem dX1_layRule_32 : decode cX1_layRule 32 = .ok (.aload_n 0, 1) := by decide +kernel
theorem dX1_layRule_33 : decode cX1_layRule 33 = .ok (.dup, 1) := by decide +kernel
theorem dX1_layRule_34 : decode cX1_layRule 34 = .ok (.getfield 37, 3) := by decide +kernel
theorem dX1_layRule_37 : decode cX1_layRule 37 = .ok (.iconst 1, 1) := by decide +kernel
theorem dX1_layRule_38 : decode cX1_layRule 38 = .ok (.iadd, 1) := by decide +kernel
theorem dX1_layRule_39 : decode cX1_layRule 39 = .ok (.putfield 37, 3) := by decide +kernel
theorem dX1_layRule_42 : decode cX1_layRule 42 = .ok (.aload_n 1, 1) := by decide +kernel
theorem dX1_layRule_43 : decode cX1_layRule 43 = .ok (.getfield 97, 3) := by decide +kernel
theorem dX1_layRule_46 : decode cX1_layRule 46 = .ok (.ifCond .eq 7, 3) := by decide +kernel
theorem dX1_layRule_49 : decode cX1_layRule 49 = .ok (.iload_n 2, 1) := by decide +kernel
theorem dX1_layRule_50 : decode cX1_layRule 50 = .ok (.ifCond .ge 4, 3) := by decide +kernel
theorem dX1_layRule_53 : decode cX1_layRule 53 = .ok (.return_, 1) := by decide +kernel
theorem dX1_layRule_54 : decode cX1_layRule 54 = .ok (.iload_n 2, 1) := by decide +kernel
theorem dX1_layRule_55 : decode cX1_layRule 55 = .ok (.istore 4, 2) := by decide +kernel
theorem dX1_layRule_57 : decode cX1_layRule 57 = .ok (.iload 4, 2) := by decide +kernel
theorem dX1_layRule_59 : decode cX1_layRule 59 = .ok (.iload_n 3, 1) := by decide +kernel
theorem dX1_layRule_60 : decode cX1_layRule 60 = .ok (.if_icmp .gt 30, 3) := by decide +kernel
theorem dX1_layRule_63 : decode cX1_layRule 63 = .ok (.iload 4, 2) := by decide +kernel
theorem dX1_layRule_65 : decode cX1_layRule 65 = .ok (.aload_n 0, 1) := by decide +kernel
theorem dX1_layRule_66 : decode cX1_layRule 66 = .ok (.getfield 15, 3) := by decide +kernel
theorem dX1_layRule_69 : decode cX1_layRule 69 = .ok (.arraylength, 1) := by decide +kernel
theorem dX1_layRule_70 : decode cX1_layRule 70 = .ok (.if_icmp .ge 20, 3) := by decide +kernel
theorem dX1_layRule_73 : decode cX1_layRule 73 = .ok (.aload_n 0, 1) := by decide +kernel
theorem dX1_layRule_74 : decode cX1_layRule 74 = .ok (.getfield 15, 3) := by decide +kernel
theorem dX1_layRule_77 : decode cX1_layRule 77 = .ok (.iload 4, 2) := by decide +kernel
theorem dX1_layRule_79 : decode cX1_layRule 79 = .ok (.aload_n 1, 1) := by decide +kernel
theorem dX1_layRule_80 : decode cX1_layRule 80 = .ok (.getfield 97, 3) := by decide +kernel
theorem dX1_layRule_83 : decode cX1_layRule 83 = .ok (.iastore, 1) := by decide +kernel
theorem dX1_layRule_84 : decode cX1_layRule 84 = .ok (.iinc 4 1, 3) := by decide +kernel
theorem dX1_layRule_87 : decode cX1_layRule 87 = .ok (.goto (-30), 3) := by decide +kernel
theorem dX1_layRule_90 : decode cX1_layRule 90 = .ok (.return_, 1) := by decide +kernel
theorem dX1_pushParts_0 : decode cX1_pushParts 0 = .ok (.aload_n 1, 1) := by decide +kernel
theorem dX1_pushParts_1 : decode cX1_pushParts 1 = .ok (.aload_n 2, 1) := by decide +kernel
theorem dX1_pushParts_2 : decode cX1_pushParts 2 = .ok (.iload_n 3, 1) := by decide +kernel
theorem dX1_pushParts_3 : decode cX1_pushParts 3 = .ok (.iload 4, 2) := by decide +kernel
theorem dX1_pushParts_5 : decode cX1_pushParts 5 = .ok (.invokevirtual 100, 3) := by decide +kernel
theorem dX1_pushParts_8 : decode cX1_pushParts 8 = .ok (.istore 6, 2) := by decide +kernel
theorem dX1_pushParts_10 : decode cX1_pushParts 10 = .ok (.iload 6, 2) := by decide +kernel
theorem dX1_pushParts_12 : decode cX1_pushParts 12 = .ok (.iconst (-1), 1) := by decide +kernel
theorem dX1_pushParts_13 : decode cX1_pushParts 13 = .ok (.if_icmp .ne 4, 3) := by decide +kernel
theorem dX1_pushParts_16 : decode cX1_pushParts 16 = .ok (.return_, 1) := by decide +kernel
theorem dX1_pushParts_17 : decode cX1_pushParts 17 = .ok (.iload 6, 2) := by decide +kernel
theorem dX1_pushParts_19 : decode cX1_pushParts 19 = .ok (.bipush 10, 2) := by decide +kernel
theorem dX1_pushParts_21 : decode cX1_pushParts 21 = .ok (.idiv, 1) := by decide +kernel
theorem dX1_pushParts_22 : decode cX1_pushParts 22 = .ok (.istore 7, 2) := by decide +kernel
theorem dX1_pushParts_24 : decode cX1_pushParts 24 = .ok (.iload 6, 2) := by decide +kernel
theorem dX1_pushParts_26 : decode cX1_pushParts 26 = .ok (.bipush 10, 2) := by decide +kernel
theorem dX1_pushParts_28 : decode cX1_pushParts 28 = .ok (.irem, 1) := by decide +kernel
theorem dX1_pushParts_29 : decode cX1_pushParts 29 = .ok (.istore 8, 2) := by decide +kernel
theorem dX1_pushParts_31 : decode cX1_pushParts 31 = .ok (.aload_n 2, 1) := by decide +kernel
theorem dX1_pushParts_32 : decode cX1_pushParts 32 = .ok (.getfield 104, 3) := by decide +kernel
theorem dX1_pushParts_35 : decode cX1_pushParts 35 = .ok (.iconst (-1), 1) := by decide +kernel
theorem dX1_pushParts_36 : decode cX1_pushParts 36 = .ok (.if_icmp .eq 31, 3) := by decide +kernel
theorem dX1_pushParts_39 : decode cX1_pushParts 39 = .ok (.aload_n 0, 1) := by decide +kernel
theorem dX1_pushParts_40 : decode cX1_pushParts 40 = .ok (.iload 8, 2) := by decide +kernel
theorem dX1_pushParts_42 : decode cX1_pushParts 42 = .ok (.iconst 1, 1) := by decide +kernel
theorem dX1_pushParts_43 : decode cX1_pushParts 43 = .ok (.iadd, 1) := by decide +kernel
theorem dX1_pushParts_44 : decode cX1_pushParts 44 = .ok (.aload_n 2, 1) := by decide +kernel
theorem dX1_pushParts_45 : decode cX1_pushParts 45 = .ok (.getfield 107, 3) := by decide +kernel
theorem dX1_pushParts_48 : decode cX1_pushParts 48 = .ok (.invokevirtual 110, 3) := by decide +kernel
theorem dX1_pushParts_51 : decode cX1_pushParts 51 = .ok (.aload_n 0, 1) := by decide +kernel
theorem dX1_pushParts_52 : decode cX1_pushParts 52 = .ok (.aload_n 2, 1) := by decide +kernel
theorem dX1_pushParts_53 : decode cX1_pushParts 53 = .ok (.getfield 104, 3) := by decide +kernel
theorem dX1_pushParts_56 : decode cX1_pushParts 56 = .ok (.iload 8, 2) := by decide +kernel
theorem dX1_pushParts_58 : decode cX1_pushParts 58 = .ok (.iconst 1, 1) := by decide +kernel
theorem dX1_pushParts_59 : decode cX1_pushParts 59 = .ok (.iadd, 1) := by decide +kernel
theorem dX1_pushParts_60 : decode cX1_pushParts 60 = .ok (.iload 4, 2) := by decide +kernel
theorem dX1_pushParts_62 : decode cX1_pushParts 62 = .ok (.iload 5, 2) := by decide +kernel
theorem dX1_pushParts_64 : decode cX1_pushParts 64 = .ok (.invokevirtual 58, 3) := by decide +kernel
theorem dX1_pushParts_67 : decode cX1_pushParts 67 = .ok (.aload_n 2, 1) := by decide +kernel
theorem dX1_pushParts_68 : decode cX1_pushParts 68 = .ok (.getfield 114, 3) := by decide +kernel
theorem dX1_pushParts_71 : decode cX1_pushParts 71 = .ok (.iconst (-1), 1) := by decide +kernel
theorem dX1_pushParts_72 : decode cX1_pushParts 72 = .ok (.if_icmp .eq 31, 3) := by decide +kernel
theorem dX1_pushParts_75 : decode cX1_pushParts 75 = .ok (.aload_n 0, 1) := by decide +kernel
theorem dX1_pushParts_76 : decode cX1_pushParts 76 = .ok (.iload 7, 2) := by decide +kernel
theorem dX1_pushParts_78 : decode cX1_pushParts 78 = .ok (.iconst 1, 1) := by decide +kernel
theorem dX1_pushParts_79 : decode cX1_pushParts 79 = .ok (.iadd, 1) := by decide +kernel
theorem dX1_pushParts_80 : decode cX1_pushParts 80 = .ok (.aload_n 2, 1) := by decide +kernel
theorem dX1_pushParts_81 : decode cX1_pushParts 81 = .ok (.getfield 107, 3) := by decide +kernel
theorem dX1_pushParts_84 : decode cX1_pushParts 84 = .ok (.invokevirtual 110, 3) := by decide +kernel
theorem dX1_pushParts_87 : decode cX1_pushParts 87 = .ok (.aload_n 0, 1) := by decide +kernel
theorem dX1_pushParts_88 : decode cX1_pushParts 88 = .ok (.aload_n 2, 1) := by decide +kernel
theorem dX1_pushParts_89 : decode cX1_pushParts 89 = .ok (.getfield 114, 3) := by decide +kernel
theorem dX1_pushParts_92 : decode cX1_pushParts 92 = .ok (.iload 7, 2) := by decide +kernel
theorem dX1_pushParts_94 : decode cX1_pushParts 94 = .ok (.iconst 1, 1) := by decide +kernel
theorem dX1_pushParts_95 : decode cX1_pushParts 95 = .ok (.iadd, 1) := by decide +kernel
theorem dX1_pushParts_96 : decode cX1_pushParts 96 = .ok (.iload 8, 2) := by decide +kernel
theorem dX1_pushParts_98 : decode cX1_pushParts 98 = .ok (.iload 5, 2) := by decide +kernel
theorem dX1_pushParts_100 : decode cX1_pushParts 100 = .ok (.invokevirtual 58, 3) := by decide +kernel
theorem dX1_pushParts_103 : decode cX1_pushParts 103 = .ok (.aload_n 0, 1) := by decide +kernel
theorem dX1_pushParts_104 : decode cX1_pushParts 104 = .ok (.aload_n 2, 1) := by decide +kernel
theorem dX1_pushParts_105 : decode cX1_pushParts 105 = .ok (.getfield 117, 3) := by decide +kernel
theorem dX1_pushParts_108 : decode cX1_pushParts 108 = .ok (.iload_n 3, 1) := by decide +kernel
theorem dX1_pushParts_109 : decode cX1_pushParts 109 = .ok (.iload 7, 2) := by decide +kernel
theorem dX1_pushParts_111 : decode cX1_pushParts 111 = .ok (.iload 5, 2) := by decide +kernel
theorem dX1_pushParts_113 : decode cX1_pushParts 113 = .ok (.invokevirtual 58, 3) := by decide +kernel
theorem dX1_pushParts_116 : decode cX1_pushParts 116 = .ok (.return_, 1) := by decide +kernel
theorem dX1_setGap_0 : decode cX1_setGap 0 = .ok (.iload_n 1, 1) := by decide +kernel
theorem dX1_setGap_1 : decode cX1_setGap 1 = .ok (.ifCond .lt 19, 3) := by decide +kernel
theorem dX1_setGap_4 : decode cX1_setGap 4 = .ok (.iload_n 1, 1) := by decide +kernel
theorem dX1_setGap_5 : decode cX1_setGap 5 = .ok (.aload_n 0, 1) := by decide +kernel
theorem dX1_setGap_6 : decode cX1_setGap 6 = .ok (.getfield 18, 3) := by decide +kernel
theorem dX1_setGap_9 : decode cX1_setGap 9 = .ok (.arraylength, 1) := by decide +kernel
theorem dX1_setGap_10 : decode cX1_setGap 10 = .ok (.if_icmp .ge 10, 3) := by decide +kernel
theorem dX1_setGap_13 : decode cX1_setGap 13 = .ok (.aload_n 0, 1) := by decide +kernel
theorem dX1_setGap_14 : decode cX1_setGap 14 = .ok (.getfield 18, 3) := by decide +kernel
theorem dX1_setGap_17 : decode cX1_setGap 17 = .ok (.iload_n 1, 1) := by decide +kernel
theorem dX1_setGap_18 : decode cX1_setGap 18 = .ok (.iload_n 2, 1) := by decide +kernel
theorem dX1_setGap_19 : decode cX1_setGap 19 = .ok (.iastore, 1) := by decide +kernel
theorem dX1_setGap_20 : decode cX1_setGap 20 = .ok (.return_, 1) := by decide +kernel
theorem dX1_ruleNumber_0 : decode cX1_ruleNumber 0 = .ok (.iload_n 1, 1) := by decide +kernel
theorem dX1_ruleNumber_1 : decode cX1_ruleNumber 1 = .ok (.ifCond .lt 21, 3) := by decide +kernel
theorem dX1_ruleNumber_4 : decode cX1_ruleNumber 4 = .ok (.iload_n 1, 1) := by decide +kernel
theorem dX1_ruleNumber_5 : decode cX1_ruleNumber 5 = .ok (.aload_n 0, 1) := by decide +kernel
theorem dX1_ruleNumber_6 : decode cX1_ruleNumber 6 = .ok (.getfield 9, 3) := by decide +kernel
theorem dX1_ruleNumber_9 : decode cX1_ruleNumber 9 = .ok (.arraylength, 1) := by decide +kernel
theorem dX1_ruleNumber_10 : decode cX1_ruleNumber 10 = .ok (.if_icmp .ge 12, 3) := by decide +kernel
theorem dX1_ruleNumber_13 : decode cX1_ruleNumber 13 = .ok (.aload_n 0, 1) := by decide +kernel
theorem dX1_ruleNumber_14 : decode cX1_ruleNumber 14 = .ok (.getfield 9, 3) := by decide +kernel
theorem dX1_ruleNumber_17 : decode cX1_ruleNumber 17 = .ok (.iload_n 1, 1) := by decide +kernel
theorem dX1_ruleNumber_18 : decode cX1_ruleNumber 18 = .ok (.iaload, 1) := by decide +kernel
theorem dX1_ruleNumber_19 : decode cX1_ruleNumber 19 = .ok (.goto 4, 3) := by decide +kernel
theorem dX1_ruleNumber_22 : decode cX1_ruleNumber 22 = .ok (.iconst (-1), 1) := by decide +kernel
theorem dX1_ruleNumber_23 : decode cX1_ruleNumber 23 = .ok (.ireturn, 1) := by decide +kernel
theorem dX1_colourOf_0 : decode cX1_colourOf 0 = .ok (.iload_n 1, 1) := by decide +kernel
theorem dX1_colourOf_1 : decode cX1_colourOf 1 = .ok (.ifCond .lt 21, 3) := by decide +kernel
theorem dX1_colourOf_4 : decode cX1_colourOf 4 = .ok (.iload_n 1, 1) := by decide +kernel
theorem dX1_colourOf_5 : decode cX1_colourOf 5 = .ok (.aload_n 0, 1) := by decide +kernel
theorem dX1_colourOf_6 : decode cX1_colourOf 6 = .ok (.getfield 15, 3) := by decide +kernel
theorem dX1_colourOf_9 : decode cX1_colourOf 9 = .ok (.arraylength, 1) := by decide +kernel
theorem dX1_colourOf_10 : decode cX1_colourOf 10 = .ok (.if_icmp .ge 12, 3) := by decide +kernel
theorem dX1_colourOf_13 : decode cX1_colourOf 13 = .ok (.aload_n 0, 1) := by decide +kernel
theorem dX1_colourOf_14 : decode cX1_colourOf 14 = .ok (.getfield 15, 3) := by decide +kernel
theorem dX1_colourOf_17 : decode cX1_colourOf 17 = .ok (.iload_n 1, 1) := by decide +kernel
theorem dX1_colourOf_18 : decode cX1_colourOf 18 = .ok (.iaload, 1) := by decide +kernel
theorem dX1_colourOf_19 : decode cX1_colourOf 19 = .ok (.goto 4, 3) := by decide +kernel
theorem dX1_colourOf_22 : decode cX1_colourOf 22 = .ok (.iconst 0, 1) := by decide +kernel
theorem dX1_colourOf_23 : decode cX1_colourOf 23 = .ok (.ireturn, 1) := by decide +kernel
theorem dX1_countSigns_0 : decode cX1_countSigns 0 = .ok (.aload_n 0, 1) := by decide +kernel
theorem dX1_countSigns_1 : decode cX1_countSigns 1 = .ok (.getfield 43, 3) := by decide +kernel
theorem dX1_countSigns_4 : decode cX1_countSigns 4 = .ok (.istore_n 1, 1) := by decide +kernel
theorem dX1_countSigns_5 : decode cX1_countSigns 5 = .ok (.aload_n 0, 1) := by decide +kernel
theorem dX1_countSigns_6 : decode cX1_countSigns 6 = .ok (.getfield 18, 3) := by decide +kernel
theorem dX1_countSigns_9 : decode cX1_countSigns 9 = .ok (.astore_n 2, 1) := by decide +kernel
theorem dX1_countSigns_10 : decode cX1_countSigns 10 = .ok (.aload_n 2, 1) := by decide +kernel
theorem dX1_countSigns_11 : decode cX1_countSigns 11 = .ok (.arraylength, 1) := by decide +kernel
theorem dX1_countSigns_12 : decode cX1_countSigns 12 = .ok (.istore_n 3, 1) := by decide +kernel
theorem dX1_countSigns_13 : decode cX1_countSigns 13 = .ok (.iconst 0, 1) := by decide +kernel
theorem dX1_countSigns_14 : decode cX1_countSigns 14 = .ok (.istore 4, 2) := by decide +kernel
theorem dX1_countSigns_16 : decode cX1_countSigns 16 = .ok (.iload 4, 2) := by decide +kernel
theorem dX1_countSigns_18 : decode cX1_countSigns 18 = .ok (.iload_n 3, 1) := by decide +kernel
theorem dX1_countSigns_19 : decode cX1_countSigns 19 = .ok (.if_icmp .ge 20, 3) := by decide +kernel
theorem dX1_countSigns_22 : decode cX1_countSigns 22 = .ok (.aload_n 2, 1) := by decide +kernel
theorem dX1_countSigns_23 : decode cX1_countSigns 23 = .ok (.iload 4, 2) := by decide +kernel
theorem dX1_countSigns_25 : decode cX1_countSigns 25 = .ok (.iaload, 1) := by decide +kernel
theorem dX1_countSigns_26 : decode cX1_countSigns 26 = .ok (.istore 5, 2) := by decide +kernel
theorem dX1_countSigns_28 : decode cX1_countSigns 28 = .ok (.iload_n 1, 1) := by decide +kernel
theorem dX1_countSigns_29 : decode cX1_countSigns 29 = .ok (.iload 5, 2) := by decide +kernel
theorem dX1_countSigns_31 : decode cX1_countSigns 31 = .ok (.iadd, 1) := by decide +kernel
theorem dX1_countSigns_32 : decode cX1_countSigns 32 = .ok (.istore_n 1, 1) := by decide +kernel
theorem dX1_countSigns_33 : decode cX1_countSigns 33 = .ok (.iinc 4 1, 3) := by decide +kernel
theorem dX1_countSigns_36 : decode cX1_countSigns 36 = .ok (.goto (-20), 3) := by decide +kernel
theorem dX1_countSigns_39 : decode cX1_countSigns 39 = .ok (.iload_n 1, 1) := by decide +kernel
theorem dX1_countSigns_40 : decode cX1_countSigns 40 = .ok (.ireturn, 1) := by decide +kernel
theorem dX1_sign_0 : decode cX1_sign 0 = .ok (.iconst 0, 1) := by decide +kernel
theorem dX1_sign_1 : decode cX1_sign 1 = .ok (.istore_n 3, 1) := by decide +kernel
theorem dX1_sign_2 : decode cX1_sign 2 = .ok (.iconst 0, 1) := by decide +kernel
theorem dX1_sign_3 : decode cX1_sign 3 = .ok (.istore 4, 2) := by decide +kernel
theorem dX1_sign_5 : decode cX1_sign 5 = .ok (.iload 4, 2) := by decide +kernel
theorem dX1_sign_7 : decode cX1_sign 7 = .ok (.aload_n 0, 1) := by decide +kernel
theorem dX1_sign_8 : decode cX1_sign 8 = .ok (.getfield 18, 3) := by decide +kernel
theorem dX1_sign_11 : decode cX1_sign 11 = .ok (.arraylength, 1) := by decide +kernel
theorem dX1_sign_12 : decode cX1_sign 12 = .ok (.if_icmp .ge 46, 3) := by decide +kernel
theorem dX1_sign_15 : decode cX1_sign 15 = .ok (.iload_n 3, 1) := by decide +kernel
theorem dX1_sign_16 : decode cX1_sign 16 = .ok (.aload_n 0, 1) := by decide +kernel
theorem dX1_sign_17 : decode cX1_sign 17 = .ok (.getfield 18, 3) := by decide +kernel
theorem dX1_sign_20 : decode cX1_sign 20 = .ok (.iload 4, 2) := by decide +kernel
theorem dX1_sign_22 : decode cX1_sign 22 = .ok (.iaload, 1) := by decide +kernel
theorem dX1_sign_23 : decode cX1_sign 23 = .ok (.iadd, 1) := by decide +kernel
theorem dX1_sign_24 : decode cX1_sign 24 = .ok (.istore_n 3, 1) := by decide +kernel
theorem dX1_sign_25 : decode cX1_sign 25 = .ok (.iload_n 2, 1) := by decide +kernel
theorem dX1_sign_26 : decode cX1_sign 26 = .ok (.iload_n 3, 1) := by decide +kernel
theorem dX1_sign_27 : decode cX1_sign 27 = .ok (.if_icmp .ge 6, 3) := by decide +kernel
theorem dX1_sign_30 : decode cX1_sign 30 = .ok (.bipush 32, 2) := by decide +kernel
theorem dX1_sign_32 : decode cX1_sign 32 = .ok (.ireturn, 1) := by decide +kernel
theorem dX1_sign_33 : decode cX1_sign 33 = .ok (.iload_n 2, 1) := by decide +kernel
theorem dX1_sign_34 : decode cX1_sign 34 = .ok (.iload_n 3, 1) := by decide +kernel
theorem dX1_sign_35 : decode cX1_sign 35 = .ok (.if_icmp .ne 14, 3) := by decide +kernel
theorem dX1_sign_38 : decode cX1_sign 38 = .ok (.bipush 97, 2) := by decide +kernel
theorem dX1_sign_40 : decode cX1_sign 40 = .ok (.aload_n 1, 1) := by decide +kernel
theorem dX1_sign_41 : decode cX1_sign 41 = .ok (.iload 4, 2) := by decide +kernel
theorem dX1_sign_43 : decode cX1_sign 43 = .ok (.invokevirtual 120, 3) := by decide +kernel
theorem dX1_sign_46 : decode cX1_sign 46 = .ok (.iadd, 1) := by decide +kernel
theorem dX1_sign_47 : decode cX1_sign 47 = .ok (.i2c, 1) := by decide +kernel
theorem dX1_sign_48 : decode cX1_sign 48 = .ok (.ireturn, 1) := by decide +kernel
theorem dX1_sign_49 : decode cX1_sign 49 = .ok (.iinc 3 1, 3) := by decide +kernel
theorem dX1_sign_52 : decode cX1_sign 52 = .ok (.iinc 4 1, 3) := by decide +kernel
theorem dX1_sign_55 : decode cX1_sign 55 = .ok (.goto (-50), 3) := by decide +kernel
theorem dX1_sign_58 : decode cX1_sign 58 = .ok (.bipush 32, 2) := by decide +kernel
theorem dX1_sign_60 : decode cX1_sign 60 = .ok (.ireturn, 1) := by decide +kernel
theorem dX2_init_0 : decode cX2_init 0 = .ok (.aload_n 0, 1) := by decide +kernel
theorem dX2_init_1 : decode cX2_init 1 = .ok (.invokespecial 1, 3) := by decide +kernel
theorem dX2_init_4 : decode cX2_init 4 = .ok (.aload_n 0, 1) := by decide +kernel
theorem dX2_init_5 : decode cX2_init 5 = .ok (.iconst 0, 1) := by decide +kernel
theorem dX2_init_6 : decode cX2_init 6 = .ok (.putfield 7, 3) := by decide +kernel
theorem dX2_init_9 : decode cX2_init 9 = .ok (.aload_n 0, 1) := by decide +kernel
theorem dX2_init_10 : decode cX2_init 10 = .ok (.iconst 0, 1) := by decide +kernel
theorem dX2_init_11 : decode cX2_init 11 = .ok (.putfield 13, 3) := by decide +kernel
theorem dX2_init_14 : decode cX2_init 14 = .ok (.aload_n 0, 1) := by decide +kernel
theorem dX2_init_15 : decode cX2_init 15 = .ok (.iconst 0, 1) := by decide +kernel
theorem dX2_init_16 : decode cX2_init 16 = .ok (.putfield 16, 3) := by decide +kernel
theorem dX2_init_19 : decode cX2_init 19 = .ok (.aload_n 0, 1) := by decide +kernel
theorem dX2_init_20 : decode cX2_init 20 = .ok (.iconst 0, 1) := by decide +kernel
theorem dX2_init_21 : decode cX2_init 21 = .ok (.putfield 19, 3) := by decide +kernel
theorem dX2_init_24 : decode cX2_init 24 = .ok (.aload_n 0, 1) := by decide +kernel
theorem dX2_init_25 : decode cX2_init 25 = .ok (.iload_n 1, 1) := by decide +kernel
theorem dX2_init_26 : decode cX2_init 26 = .ok (.putfield 23, 3) := by decide +kernel
theorem dX2_init_29 : decode cX2_init 29 = .ok (.aload_n 0, 1) := by decide +kernel
theorem dX2_init_30 : decode cX2_init 30 = .ok (.iload_n 2, 1) := by decide +kernel
theorem dX2_init_31 : decode cX2_init 31 = .ok (.putfield 26, 3) := by decide +kernel
theorem dX2_init_34 : decode cX2_init 34 = .ok (.aload_n 0, 1) := by decide +kernel
theorem dX2_init_35 : decode cX2_init 35 = .ok (.iload_n 3, 1) := by decide +kernel
theorem dX2_init_36 : decode cX2_init 36 = .ok (.putfield 29, 3) := by decide +kernel
theorem dX2_init_39 : decode cX2_init 39 = .ok (.aload_n 0, 1) := by decide +kernel
theorem dX2_init_40 : decode cX2_init 40 = .ok (.iload 4, 2) := by decide +kernel
theorem dX2_init_42 : decode cX2_init 42 = .ok (.putfield 32, 3) := by decide +kernel
theorem dX2_init_45 : decode cX2_init 45 = .ok (.aload_n 0, 1) := by decide +kernel
theorem dX2_init_46 : decode cX2_init 46 = .ok (.iload 5, 2) := by decide +kernel
theorem dX2_init_48 : decode cX2_init 48 = .ok (.putfield 35, 3) := by decide +kernel
theorem dX2_init_51 : decode cX2_init 51 = .ok (.return_, 1) := by decide +kernel
theorem dX3_init_0 : decode cX3_init 0 = .ok (.aload_n 0, 1) := by decide +kernel
theorem dX3_init_1 : decode cX3_init 1 = .ok (.invokespecial 3, 3) := by decide +kernel
theorem dX3_init_4 : decode cX3_init 4 = .ok (.aload_n 0, 1) := by decide +kernel
theorem dX3_init_5 : decode cX3_init 5 = .ok (.bipush 10, 2) := by decide +kernel
theorem dX3_init_7 : decode cX3_init 7 = .ok (.newarray .int, 2) := by decide +kernel
theorem dX3_init_9 : decode cX3_init 9 = .ok (.putfield 9, 3) := by decide +kernel
theorem dX3_init_12 : decode cX3_init 12 = .ok (.aload_n 0, 1) := by decide +kernel
theorem dX3_init_13 : decode cX3_init 13 = .ok (.sipush 500, 3) := by decide +kernel
theorem dX3_init_16 : decode cX3_init 16 = .ok (.newarray .int, 2) := by decide +kernel
theorem dX3_init_18 : decode cX3_init 18 = .ok (.putfield 15, 3) := by decide +kernel
theorem dX3_init_21 : decode cX3_init 21 = .ok (.aload_n 0, 1) := by decide +kernel
theorem dX3_init_22 : decode cX3_init 22 = .ok (.iconst 0, 1) := by decide +kernel
theorem dX3_init_23 : decode cX3_init 23 = .ok (.putfield 18, 3) := by decide +kernel
theorem dX3_init_26 : decode cX3_init 26 = .ok (.return_, 1) := by decide +kernel
theorem dX3_letterOf_0 : decode cX3_letterOf 0 = .ok (.iload_n 1, 1) := by decide +kernel
theorem dX3_letterOf_1 : decode cX3_letterOf 1 = .ok (.ifCond .lt 21, 3) := by decide +kernel
theorem dX3_letterOf_4 : decode cX3_letterOf 4 = .ok (.iload_n 1, 1) := by decide +kernel
theorem dX3_letterOf_5 : decode cX3_letterOf 5 = .ok (.aload_n 0, 1) := by decide +kernel
theorem dX3_letterOf_6 : decode cX3_letterOf 6 = .ok (.getfield 9, 3) := by decide +kernel
theorem dX3_letterOf_9 : decode cX3_letterOf 9 = .ok (.arraylength, 1) := by decide +kernel
theorem dX3_letterOf_10 : decode cX3_letterOf 10 = .ok (.if_icmp .ge 12, 3) := by decide +kernel
theorem dX3_letterOf_13 : decode cX3_letterOf 13 = .ok (.aload_n 0, 1) := by decide +kernel
theorem dX3_letterOf_14 : decode cX3_letterOf 14 = .ok (.getfield 9, 3) := by decide +kernel
theorem dX3_letterOf_17 : decode cX3_letterOf 17 = .ok (.iload_n 1, 1) := by decide +kernel
theorem dX3_letterOf_18 : decode cX3_letterOf 18 = .ok (.iaload, 1) := by decide +kernel
theorem dX3_letterOf_19 : decode cX3_letterOf 19 = .ok (.goto 4, 3) := by decide +kernel
theorem dX3_letterOf_22 : decode cX3_letterOf 22 = .ok (.iconst (-1), 1) := by decide +kernel
theorem dX3_letterOf_23 : decode cX3_letterOf 23 = .ok (.ireturn, 1) := by decide +kernel
theorem dX3_put_0 : decode cX3_put 0 = .ok (.iload_n 1, 1) := by decide +kernel
theorem dX3_put_1 : decode cX3_put 1 = .ok (.ifCond .lt 19, 3) := by decide +kernel
theorem dX3_put_4 : decode cX3_put 4 = .ok (.iload_n 1, 1) := by decide +kernel
theorem dX3_put_5 : decode cX3_put 5 = .ok (.aload_n 0, 1) := by decide +kernel
theorem dX3_put_6 : decode cX3_put 6 = .ok (.getfield 9, 3) := by decide +kernel
theorem dX3_put_9 : decode cX3_put 9 = .ok (.arraylength, 1) := by decide +kernel
theorem dX3_put_10 : decode cX3_put 10 = .ok (.if_icmp .ge 10, 3) := by decide +kernel
theorem dX3_put_13 : decode cX3_put 13 = .ok (.aload_n 0, 1) := by decide +kernel
theorem dX3_put_14 : decode cX3_put 14 = .ok (.getfield 9, 3) := by decide +kernel
theorem dX3_put_17 : decode cX3_put 17 = .ok (.iload_n 1, 1) := by decide +kernel
theorem dX3_put_18 : decode cX3_put 18 = .ok (.iload_n 2, 1) := by decide +kernel
theorem dX3_put_19 : decode cX3_put 19 = .ok (.iastore, 1) := by decide +kernel
theorem dX3_put_20 : decode cX3_put 20 = .ok (.return_, 1) := by decide +kernel
theorem dX3_append_0 : decode cX3_append 0 = .ok (.aload_n 0, 1) := by decide +kernel
theorem dX3_append_1 : decode cX3_append 1 = .ok (.getfield 18, 3) := by decide +kernel
theorem dX3_append_4 : decode cX3_append 4 = .ok (.bipush 10, 2) := by decide +kernel
theorem dX3_append_6 : decode cX3_append 6 = .ok (.if_icmp .ge 22, 3) := by decide +kernel
theorem dX3_append_9 : decode cX3_append 9 = .ok (.aload_n 0, 1) := by decide +kernel
theorem dX3_append_10 : decode cX3_append 10 = .ok (.aload_n 0, 1) := by decide +kernel
theorem dX3_append_11 : decode cX3_append 11 = .ok (.getfield 18, 3) := by decide +kernel
theorem dX3_append_14 : decode cX3_append 14 = .ok (.iload_n 1, 1) := by decide +kernel
theorem dX3_append_15 : decode cX3_append 15 = .ok (.invokevirtual 22, 3) := by decide +kernel
theorem dX3_append_18 : decode cX3_append 18 = .ok (.aload_n 0, 1) := by decide +kernel
theorem dX3_append_19 : decode cX3_append 19 = .ok (.dup, 1) := by decide +kernel
theorem dX3_append_20 : decode cX3_append 20 = .ok (.getfield 18, 3) := by decide +kernel
theorem dX3_append_23 : decode cX3_append 23 = .ok (.iconst 1, 1) := by decide +kernel
theorem dX3_append_24 : decode cX3_append 24 = .ok (.iadd, 1) := by decide +kernel
theorem dX3_append_25 : decode cX3_append 25 = .ok (.putfield 18, 3) := by decide +kernel
theorem dX3_append_28 : decode cX3_append 28 = .ok (.return_, 1) := by decide +kernel
theorem dX3_copyLetters_0 : decode cX3_copyLetters 0 = .ok (.aload_n 0, 1) := by decide +kernel
theorem dX3_copyLetters_1 : decode cX3_copyLetters 1 = .ok (.aload_n 1, 1) := by decide +kernel
theorem dX3_copyLetters_2 : decode cX3_copyLetters 2 = .ok (.getfield 18, 3) := by decide +kernel
theorem dX3_copyLetters_5 : decode cX3_copyLetters 5 = .ok (.putfield 18, 3) := by decide +kernel
theorem dX3_copyLetters_8 : decode cX3_copyLetters 8 = .ok (.iconst 0, 1) := by decide +kernel
theorem dX3_copyLetters_9 : decode cX3_copyLetters 9 = .ok (.istore_n 2, 1) := by decide +kernel
theorem dX3_copyLetters_10 : decode cX3_copyLetters 10 = .ok (.iload_n 2, 1) := by decide +kernel
theorem dX3_copyLetters_11 : decode cX3_copyLetters 11 = .ok (.aload_n 0, 1) := by decide +kernel
theorem dX3_copyLetters_12 : decode cX3_copyLetters 12 = .ok (.getfield 18, 3) := by decide +kernel
theorem dX3_copyLetters_15 : decode cX3_copyLetters 15 = .ok (.if_icmp .ge 19, 3) := by decide +kernel
theorem dX3_copyLetters_18 : decode cX3_copyLetters 18 = .ok (.aload_n 0, 1) := by decide +kernel
theorem dX3_copyLetters_19 : decode cX3_copyLetters 19 = .ok (.iload_n 2, 1) := by decide +kernel
theorem dX3_copyLetters_20 : decode cX3_copyLetters 20 = .ok (.aload_n 1, 1) := by decide +kernel
theorem dX3_copyLetters_21 : decode cX3_copyLetters 21 = .ok (.iload_n 2, 1) := by decide +kernel
theorem dX3_copyLetters_22 : decode cX3_copyLetters 22 = .ok (.invokevirtual 26, 3) := by decide +kernel
theorem dX3_copyLetters_25 : decode cX3_copyLetters 25 = .ok (.invokevirtual 22, 3) := by decide +kernel
theorem dX3_copyLetters_28 : decode cX3_copyLetters 28 = .ok (.iinc 2 1, 3) := by decide +kernel
theorem dX3_copyLetters_31 : decode cX3_copyLetters 31 = .ok (.goto (-21), 3) := by decide +kernel
theorem dX3_copyLetters_34 : decode cX3_copyLetters 34 = .ok (.return_, 1) := by decide +kernel
theorem dX3_startRow_0 : decode cX3_startRow 0 = .ok (.aload_n 0, 1) := by decide +kernel
theorem dX3_startRow_1 : decode cX3_startRow 1 = .ok (.iload_n 1, 1) := by decide +kernel
theorem dX3_startRow_2 : decode cX3_startRow 2 = .ok (.bipush 10, 2) := by decide +kernel
theorem dX3_startRow_4 : decode cX3_startRow 4 = .ok (.invokestatic 30, 3) := by decide +kernel
theorem dX3_startRow_7 : decode cX3_startRow 7 = .ok (.putfield 18, 3) := by decide +kernel
theorem dX3_startRow_10 : decode cX3_startRow 10 = .ok (.aload_n 0, 1) := by decide +kernel
theorem dX3_startRow_11 : decode cX3_startRow 11 = .ok (.getfield 9, 3) := by decide +kernel
theorem dX3_startRow_14 : decode cX3_startRow 14 = .ok (.iconst 0, 1) := by decide +kernel
theorem dX3_startRow_15 : decode cX3_startRow 15 = .ok (.invokestatic 36, 3) := by decide +kernel
theorem dX3_startRow_18 : decode cX3_startRow 18 = .ok (.return_, 1) := by decide +kernel
theorem dX3_nextRow_0 : decode cX3_nextRow 0 = .ok (.aload_n 0, 1) := by decide +kernel
theorem dX3_nextRow_1 : decode cX3_nextRow 1 = .ok (.getfield 18, 3) := by decide +kernel
theorem dX3_nextRow_4 : decode cX3_nextRow 4 = .ok (.iconst 1, 1) := by decide +kernel
theorem dX3_nextRow_5 : decode cX3_nextRow 5 = .ok (.isub, 1) := by decide +kernel
theorem dX3_nextRow_6 : decode cX3_nextRow 6 = .ok (.istore_n 2, 1) := by decide +kernel
theorem dX3_nextRow_7 : decode cX3_nextRow 7 = .ok (.iload_n 2, 1) := by decide +kernel
theorem dX3_nextRow_8 : decode cX3_nextRow 8 = .ok (.ifCond .lt 36, 3) := by decide +kernel
theorem dX3_nextRow_11 : decode cX3_nextRow 11 = .ok (.aload_n 0, 1) := by decide +kernel
theorem dX3_nextRow_12 : decode cX3_nextRow 12 = .ok (.iload_n 2, 1) := by decide +kernel
theorem dX3_nextRow_13 : decode cX3_nextRow 13 = .ok (.invokevirtual 26, 3) := by decide +kernel
theorem dX3_nextRow_16 : decode cX3_nextRow 16 = .ok (.iconst 1, 1) := by decide +kernel
theorem dX3_nextRow_17 : decode cX3_nextRow 17 = .ok (.iadd, 1) := by decide +kernel
theorem dX3_nextRow_18 : decode cX3_nextRow 18 = .ok (.istore_n 3, 1) := by decide +kernel
theorem dX3_nextRow_19 : decode cX3_nextRow 19 = .ok (.iload_n 3, 1) := by decide +kernel
theorem dX3_nextRow_20 : decode cX3_nextRow 20 = .ok (.iload_n 1, 1) := by decide +kernel
theorem dX3_nextRow_21 : decode cX3_nextRow 21 = .ok (.if_icmp .ge 11, 3) := by decide +kernel
theorem dX3_nextRow_24 : decode cX3_nextRow 24 = .ok (.aload_n 0, 1) := by decide +kernel
theorem dX3_nextRow_25 : decode cX3_nextRow 25 = .ok (.iload_n 2, 1) := by decide +kernel
theorem dX3_nextRow_26 : decode cX3_nextRow 26 = .ok (.iload_n 3, 1) := by decide +kernel
theorem dX3_nextRow_27 : decode cX3_nextRow 27 = .ok (.invokevirtual 22, 3) := by decide +kernel
theorem dX3_nextRow_30 : decode cX3_nextRow 30 = .ok (.iconst 1, 1) := by decide +kernel
theorem dX3_nextRow_31 : decode cX3_nextRow 31 = .ok (.ireturn, 1) := by decide +kernel
theorem dX3_nextRow_32 : decode cX3_nextRow 32 = .ok (.aload_n 0, 1) := by decide +kernel
theorem dX3_nextRow_33 : decode cX3_nextRow 33 = .ok (.iload_n 2, 1) := by decide +kernel
theorem dX3_nextRow_34 : decode cX3_nextRow 34 = .ok (.iconst 0, 1) := by decide +kernel
theorem dX3_nextRow_35 : decode cX3_nextRow 35 = .ok (.invokevirtual 22, 3) := by decide +kernel
theorem dX3_nextRow_38 : decode cX3_nextRow 38 = .ok (.iinc 2 (-1), 3) := by decide +kernel
theorem dX3_nextRow_41 : decode cX3_nextRow 41 = .ok (.goto (-34), 3) := by decide +kernel
theorem dX3_nextRow_44 : decode cX3_nextRow 44 = .ok (.iconst 0, 1) := by decide +kernel
theorem dX3_nextRow_45 : decode cX3_nextRow 45 = .ok (.ireturn, 1) := by decide +kernel
theorem dX3_hasLettersOf_0 : decode cX3_hasLettersOf 0 = .ok (.aload_n 0, 1) := by decide +kernel
theorem dX3_hasLettersOf_1 : decode cX3_hasLettersOf 1 = .ok (.aload_n 1, 1) := by decide +kernel
theorem dX3_hasLettersOf_2 : decode cX3_hasLettersOf 2 = .ok (.getfield 42, 3) := by decide +kernel
theorem dX3_hasLettersOf_5 : decode cX3_hasLettersOf 5 = .ok (.invokevirtual 47, 3) := by decide +kernel
theorem dX3_hasLettersOf_8 : decode cX3_hasLettersOf 8 = .ok (.ifCond .eq 29, 3) := by decide +kernel
theorem dX3_hasLettersOf_11 : decode cX3_hasLettersOf 11 = .ok (.aload_n 0, 1) := by decide +kernel
theorem dX3_hasLettersOf_12 : decode cX3_hasLettersOf 12 = .ok (.aload_n 1, 1) := by decide +kernel
theorem dX3_hasLettersOf_13 : decode cX3_hasLettersOf 13 = .ok (.getfield 51, 3) := by decide +kernel
theorem dX3_hasLettersOf_16 : decode cX3_hasLettersOf 16 = .ok (.invokevirtual 47, 3) := by decide +kernel
theorem dX3_hasLettersOf_19 : decode cX3_hasLettersOf 19 = .ok (.ifCond .eq 18, 3) := by decide +kernel
theorem dX3_hasLettersOf_22 : decode cX3_hasLettersOf 22 = .ok (.aload_n 0, 1) := by decide +kernel
theorem dX3_hasLettersOf_23 : decode cX3_hasLettersOf 23 = .ok (.aload_n 1, 1) := by decide +kernel
theorem dX3_hasLettersOf_24 : decode cX3_hasLettersOf 24 = .ok (.getfield 54, 3) := by decide +kernel
theorem dX3_hasLettersOf_27 : decode cX3_hasLettersOf 27 = .ok (.invokevirtual 47, 3) := by decide +kernel
theorem dX3_hasLettersOf_30 : decode cX3_hasLettersOf 30 = .ok (.ifCond .eq 7, 3) := by decide +kernel
theorem dX3_hasLettersOf_33 : decode cX3_hasLettersOf 33 = .ok (.iconst 1, 1) := by decide +kernel
theorem dX3_hasLettersOf_34 : decode cX3_hasLettersOf 34 = .ok (.goto 4, 3) := by decide +kernel
theorem dX3_hasLettersOf_37 : decode cX3_hasLettersOf 37 = .ok (.iconst 0, 1) := by decide +kernel
theorem dX3_hasLettersOf_38 : decode cX3_hasLettersOf 38 = .ok (.ireturn, 1) := by decide +kernel
theorem dX3_hasIfLetter_0 : decode cX3_hasIfLetter 0 = .ok (.iload_n 1, 1) := by decide +kernel
theorem dX3_hasIfLetter_1 : decode cX3_hasIfLetter 1 = .ok (.invokestatic 57, 3) := by decide +kernel
theorem dX3_hasIfLetter_4 : decode cX3_hasIfLetter 4 = .ok (.ifCond .ne 5, 3) := by decide +kernel
theorem dX3_hasIfLetter_7 : decode cX3_hasIfLetter 7 = .ok (.iconst 1, 1) := by decide +kernel
theorem dX3_hasIfLetter_8 : decode cX3_hasIfLetter 8 = .ok (.ireturn, 1) := by decide +kernel
theorem dX3_hasIfLetter_9 : decode cX3_hasIfLetter 9 = .ok (.iconst 0, 1) := by decide +kernel
theorem dX3_hasIfLetter_10 : decode cX3_hasIfLetter 10 = .ok (.istore_n 2, 1) := by decide +kernel
theorem dX3_hasIfLetter_11 : decode cX3_hasIfLetter 11 = .ok (.iload_n 2, 1) := by decide +kernel
theorem dX3_hasIfLetter_12 : decode cX3_hasIfLetter 12 = .ok (.aload_n 0, 1) := by decide +kernel
theorem dX3_hasIfLetter_13 : decode cX3_hasIfLetter 13 = .ok (.getfield 18, 3) := by decide +kernel
theorem dX3_hasIfLetter_16 : decode cX3_hasIfLetter 16 = .ok (.if_icmp .ge 20, 3) := by decide +kernel
theorem dX3_hasIfLetter_19 : decode cX3_hasIfLetter 19 = .ok (.aload_n 0, 1) := by decide +kernel
theorem dX3_hasIfLetter_20 : decode cX3_hasIfLetter 20 = .ok (.iload_n 2, 1) := by decide +kernel
theorem dX3_hasIfLetter_21 : decode cX3_hasIfLetter 21 = .ok (.invokevirtual 26, 3) := by decide +kernel
theorem dX3_hasIfLetter_24 : decode cX3_hasIfLetter 24 = .ok (.iload_n 1, 1) := by decide +kernel
theorem dX3_hasIfLetter_25 : decode cX3_hasIfLetter 25 = .ok (.if_icmp .ne 5, 3) := by decide +kernel
theorem dX3_hasIfLetter_28 : decode cX3_hasIfLetter 28 = .ok (.iconst 1, 1) := by decide +kernel
theorem dX3_hasIfLetter_29 : decode cX3_hasIfLetter 29 = .ok (.ireturn, 1) := by decide +kernel
theorem dX3_hasIfLetter_30 : decode cX3_hasIfLetter 30 = .ok (.iinc 2 1, 3) := by decide +kernel
theorem dX3_hasIfLetter_33 : decode cX3_hasIfLetter 33 = .ok (.goto (-22), 3) := by decide +kernel
theorem dX3_hasIfLetter_36 : decode cX3_hasIfLetter 36 = .ok (.iconst 0, 1) := by decide +kernel
theorem dX3_hasIfLetter_37 : decode cX3_hasIfLetter 37 = .ok (.ireturn, 1) := by decide +kernel
theorem dX3_findAll_0 : decode cX3_findAll 0 = .ok (.iconst 0, 1) := by decide +kernel
theorem dX3_findAll_1 : decode cX3_findAll 1 = .ok (.istore_n 2, 1) := by decide +kernel
theorem dX3_findAll_2 : decode cX3_findAll 2 = .ok (.iconst 1, 1) := by decide +kernel
theorem dX3_findAll_3 : decode cX3_findAll 3 = .ok (.istore_n 3, 1) := by decide +kernel
theorem dX3_findAll_4 : decode cX3_findAll 4 = .ok (.iload_n 3, 1) := by decide +kernel
theorem dX3_findAll_5 : decode cX3_findAll 5 = .ok (.aload_n 0, 1) := by decide +kernel
theorem dX3_findAll_6 : decode cX3_findAll 6 = .ok (.getfield 18, 3) := by decide +kernel
theorem dX3_findAll_9 : decode cX3_findAll 9 = .ok (.if_icmp .gt 45, 3) := by decide +kernel
theorem dX3_findAll_12 : decode cX3_findAll 12 = .ok (.iconst 0, 1) := by decide +kernel
theorem dX3_findAll_13 : decode cX3_findAll 13 = .ok (.istore 4, 2) := by decide +kernel
theorem dX3_findAll_15 : decode cX3_findAll 15 = .ok (.iload 4, 2) := by decide +kernel
theorem dX3_findAll_17 : decode cX3_findAll 17 = .ok (.iload_n 3, 1) := by decide +kernel
theorem dX3_findAll_18 : decode cX3_findAll 18 = .ok (.iadd, 1) := by decide +kernel
theorem dX3_findAll_19 : decode cX3_findAll 19 = .ok (.aload_n 0, 1) := by decide +kernel
theorem dX3_findAll_20 : decode cX3_findAll 20 = .ok (.getfield 18, 3) := by decide +kernel
theorem dX3_findAll_23 : decode cX3_findAll 23 = .ok (.if_icmp .gt 25, 3) := by decide +kernel
theorem dX3_findAll_26 : decode cX3_findAll 26 = .ok (.aload_n 0, 1) := by decide +kernel
theorem dX3_findAll_27 : decode cX3_findAll 27 = .ok (.aload_n 1, 1) := by decide +kernel
theorem dX3_findAll_28 : decode cX3_findAll 28 = .ok (.iload 4, 2) := by decide +kernel
theorem dX3_findAll_30 : decode cX3_findAll 30 = .ok (.iload 4, 2) := by decide +kernel
theorem dX3_findAll_32 : decode cX3_findAll 32 = .ok (.iload_n 3, 1) := by decide +kernel
theorem dX3_findAll_33 : decode cX3_findAll 33 = .ok (.iadd, 1) := by decide +kernel
theorem dX3_findAll_34 : decode cX3_findAll 34 = .ok (.iconst 1, 1) := by decide +kernel
theorem dX3_findAll_35 : decode cX3_findAll 35 = .ok (.isub, 1) := by decide +kernel
theorem dX3_findAll_36 : decode cX3_findAll 36 = .ok (.invokevirtual 60, 3) := by decide +kernel
theorem dX3_findAll_39 : decode cX3_findAll 39 = .ok (.iinc 2 1, 3) := by decide +kernel
theorem dX3_findAll_42 : decode cX3_findAll 42 = .ok (.iinc 4 1, 3) := by decide +kernel
theorem dX3_findAll_45 : decode cX3_findAll 45 = .ok (.goto (-30), 3) := by decide +kernel
theorem dX3_findAll_48 : decode cX3_findAll 48 = .ok (.iinc 3 1, 3) := by decide +kernel
theorem dX3_findAll_51 : decode cX3_findAll 51 = .ok (.goto (-47), 3) := by decide +kernel
theorem dX3_findAll_54 : decode cX3_findAll 54 = .ok (.iload_n 2, 1) := by decide +kernel
theorem dX3_findAll_55 : decode cX3_findAll 55 = .ok (.ireturn, 1) := by decide +kernel
theorem dX3_findHaving_0 : decode cX3_findHaving 0 = .ok (.iconst 0, 1) := by decide +kernel
theorem dX3_findHaving_1 : decode cX3_findHaving 1 = .ok (.istore_n 3, 1) := by decide +kernel
theorem dX3_findHaving_2 : decode cX3_findHaving 2 = .ok (.iconst 1, 1) := by decide +kernel
theorem dX3_findHaving_3 : decode cX3_findHaving 3 = .ok (.istore 4, 2) := by decide +kernel
theorem dX3_findHaving_5 : decode cX3_findHaving 5 = .ok (.iload 4, 2) := by decide +kernel
theorem dX3_findHaving_7 : decode cX3_findHaving 7 = .ok (.aload_n 0, 1) := by decide +kernel
theorem dX3_findHaving_8 : decode cX3_findHaving 8 = .ok (.getfield 18, 3) := by decide +kernel
theorem dX3_findHaving_11 : decode cX3_findHaving 11 = .ok (.if_icmp .gt 64, 3) := by decide +kernel
theorem dX3_findHaving_14 : decode cX3_findHaving 14 = .ok (.iload_n 2, 1) := by decide +kernel
theorem dX3_findHaving_15 : decode cX3_findHaving 15 = .ok (.aload_n 0, 1) := by decide +kernel
theorem dX3_findHaving_16 : decode cX3_findHaving 16 = .ok (.getfield 18, 3) := by decide +kernel
theorem dX3_findHaving_19 : decode cX3_findHaving 19 = .ok (.iload 4, 2) := by decide +kernel
theorem dX3_findHaving_21 : decode cX3_findHaving 21 = .ok (.isub, 1) := by decide +kernel
theorem dX3_findHaving_22 : decode cX3_findHaving 22 = .ok (.invokestatic 30, 3) := by decide +kernel
theorem dX3_findHaving_25 : decode cX3_findHaving 25 = .ok (.istore 5, 2) := by decide +kernel
theorem dX3_findHaving_27 : decode cX3_findHaving 27 = .ok (.iconst 0, 1) := by decide +kernel
theorem dX3_findHaving_28 : decode cX3_findHaving 28 = .ok (.iload_n 2, 1) := by decide +kernel
theorem dX3_findHaving_29 : decode cX3_findHaving 29 = .ok (.iload 4, 2) := by decide +kernel
theorem dX3_findHaving_31 : decode cX3_findHaving 31 = .ok (.isub, 1) := by decide +kernel
theorem dX3_findHaving_32 : decode cX3_findHaving 32 = .ok (.iconst 1, 1) := by decide +kernel
theorem dX3_findHaving_33 : decode cX3_findHaving 33 = .ok (.iadd, 1) := by decide +kernel
theorem dX3_findHaving_34 : decode cX3_findHaving 34 = .ok (.invokestatic 64, 3) := by decide +kernel
theorem dX3_findHaving_37 : decode cX3_findHaving 37 = .ok (.istore 6, 2) := by decide +kernel
theorem dX3_findHaving_39 : decode cX3_findHaving 39 = .ok (.iload 6, 2) := by decide +kernel
theorem dX3_findHaving_41 : decode cX3_findHaving 41 = .ok (.iload 5, 2) := by decide +kernel
theorem dX3_findHaving_43 : decode cX3_findHaving 43 = .ok (.if_icmp .gt 26, 3) := by decide +kernel
theorem dX3_findHaving_46 : decode cX3_findHaving 46 = .ok (.aload_n 0, 1) := by decide +kernel
theorem dX3_findHaving_47 : decode cX3_findHaving 47 = .ok (.aload_n 1, 1) := by decide +kernel
theorem dX3_findHaving_48 : decode cX3_findHaving 48 = .ok (.iload 6, 2) := by decide +kernel
theorem dX3_findHaving_50 : decode cX3_findHaving 50 = .ok (.iload 6, 2) := by decide +kernel
theorem dX3_findHaving_52 : decode cX3_findHaving 52 = .ok (.iload 4, 2) := by decide +kernel
theorem dX3_findHaving_54 : decode cX3_findHaving 54 = .ok (.iadd, 1) := by decide +kernel
theorem dX3_findHaving_55 : decode cX3_findHaving 55 = .ok (.iconst 1, 1) := by decide +kernel
theorem dX3_findHaving_56 : decode cX3_findHaving 56 = .ok (.isub, 1) := by decide +kernel
theorem dX3_findHaving_57 : decode cX3_findHaving 57 = .ok (.invokevirtual 60, 3) := by decide +kernel
theorem dX3_findHaving_60 : decode cX3_findHaving 60 = .ok (.iinc 3 1, 3) := by decide +kernel
theorem dX3_findHaving_63 : decode cX3_findHaving 63 = .ok (.iinc 6 1, 3) := by decide +kernel
theorem dX3_findHaving_66 : decode cX3_findHaving 66 = .ok (.goto (-27), 3) := by decide +kernel
theorem dX3_findHaving_69 : decode cX3_findHaving 69 = .ok (.iinc 4 1, 3) := by decide +kernel
theorem dX3_findHaving_72 : decode cX3_findHaving 72 = .ok (.goto (-67), 3) := by decide +kernel
theorem dX3_findHaving_75 : decode cX3_findHaving 75 = .ok (.iload_n 3, 1) := by decide +kernel
theorem dX3_findHaving_76 : decode cX3_findHaving 76 = .ok (.ireturn, 1) := by decide +kernel
theorem dX3_findSpan_0 : decode cX3_findSpan 0 = .ok (.bipush 14, 2) := by decide +kernel
theorem dX3_findSpan_2 : decode cX3_findSpan 2 = .ok (.istore 4, 2) := by decide +kernel
theorem dX3_findSpan_4 : decode cX3_findSpan 4 = .ok (.iload 4, 2) := by decide +kernel
theorem dX3_findSpan_6 : decode cX3_findSpan 6 = .ok (.bipush 10, 2) := by decide +kernel
theorem dX3_findSpan_8 : decode cX3_findSpan 8 = .ok (.if_icmp .lt 102, 3) := by decide +kernel
theorem dX3_findSpan_11 : decode cX3_findSpan 11 = .ok (.iconst 0, 1) := by decide +kernel
theorem dX3_findSpan_12 : decode cX3_findSpan 12 = .ok (.istore 5, 2) := by decide +kernel
theorem dX3_findSpan_14 : decode cX3_findSpan 14 = .ok (.iconst 0, 1) := by decide +kernel
theorem dX3_findSpan_15 : decode cX3_findSpan 15 = .ok (.istore 6, 2) := by decide +kernel
theorem dX3_findSpan_17 : decode cX3_findSpan 17 = .ok (.iload 6, 2) := by decide +kernel
theorem dX3_findSpan_19 : decode cX3_findSpan 19 = .ok (.aload_n 1, 1) := by decide +kernel
theorem dX3_findSpan_20 : decode cX3_findSpan 20 = .ok (.getfield 67, 3) := by decide +kernel
theorem dX3_findSpan_23 : decode cX3_findSpan 23 = .ok (.if_icmp .ge 48, 3) := by decide +kernel
theorem dX3_findSpan_26 : decode cX3_findSpan 26 = .ok (.aload_n 1, 1) := by decide +kernel
theorem dX3_findSpan_27 : decode cX3_findSpan 27 = .ok (.iload 6, 2) := by decide +kernel
theorem dX3_findSpan_29 : decode cX3_findSpan 29 = .ok (.invokevirtual 72, 3) := by decide +kernel
theorem dX3_findSpan_32 : decode cX3_findSpan 32 = .ok (.astore 7, 2) := by decide +kernel
theorem dX3_findSpan_34 : decode cX3_findSpan 34 = .ok (.aload 7, 2) := by decide +kernel
theorem dX3_findSpan_36 : decode cX3_findSpan 36 = .ok (.ifnull 29, 3) := by decide +kernel
theorem dX3_findSpan_39 : decode cX3_findSpan 39 = .ok (.aload 7, 2) := by decide +kernel
theorem dX3_findSpan_41 : decode cX3_findSpan 41 = .ok (.getfield 76, 3) := by decide +kernel
theorem dX3_findSpan_44 : decode cX3_findSpan 44 = .ok (.iload 4, 2) := by decide +kernel
theorem dX3_findSpan_46 : decode cX3_findSpan 46 = .ok (.if_icmp .ne 19, 3) := by decide +kernel
theorem dX3_findSpan_49 : decode cX3_findSpan 49 = .ok (.iload 5, 2) := by decide +kernel
theorem dX3_findSpan_51 : decode cX3_findSpan 51 = .ok (.aload_n 0, 1) := by decide +kernel
theorem dX3_findSpan_52 : decode cX3_findSpan 52 = .ok (.aload 7, 2) := by decide +kernel
theorem dX3_findSpan_54 : decode cX3_findSpan 54 = .ok (.iload_n 2, 1) := by decide +kernel
theorem dX3_findSpan_55 : decode cX3_findSpan 55 = .ok (.iload_n 3, 1) := by decide +kernel
theorem dX3_findSpan_56 : decode cX3_findSpan 56 = .ok (.invokevirtual 79, 3) := by decide +kernel
theorem dX3_findSpan_59 : decode cX3_findSpan 59 = .ok (.iadd, 1) := by decide +kernel
theorem dX3_findSpan_60 : decode cX3_findSpan 60 = .ok (.invokestatic 83, 3) := by decide +kernel
theorem dX3_findSpan_63 : decode cX3_findSpan 63 = .ok (.istore 5, 2) := by decide +kernel
theorem dX3_findSpan_65 : decode cX3_findSpan 65 = .ok (.iinc 6 1, 3) := by decide +kernel
theorem dX3_findSpan_68 : decode cX3_findSpan 68 = .ok (.goto (-51), 3) := by decide +kernel
theorem dX3_findSpan_71 : decode cX3_findSpan 71 = .ok (.iload 4, 2) := by decide +kernel
theorem dX3_findSpan_73 : decode cX3_findSpan 73 = .ok (.iload_n 2, 1) := by decide +kernel
theorem dX3_findSpan_74 : decode cX3_findSpan 74 = .ok (.iload_n 3, 1) := by decide +kernel
theorem dX3_findSpan_75 : decode cX3_findSpan 75 = .ok (.invokestatic 86, 3) := by decide +kernel
theorem dX3_findSpan_78 : decode cX3_findSpan 78 = .ok (.istore 6, 2) := by decide +kernel
theorem dX3_findSpan_80 : decode cX3_findSpan 80 = .ok (.iload 6, 2) := by decide +kernel
theorem dX3_findSpan_82 : decode cX3_findSpan 82 = .ok (.ifCond .lt 22, 3) := by decide +kernel
theorem dX3_findSpan_85 : decode cX3_findSpan 85 = .ok (.iload 6, 2) := by decide +kernel
theorem dX3_findSpan_87 : decode cX3_findSpan 87 = .ok (.aload_n 0, 1) := by decide +kernel
theorem dX3_findSpan_88 : decode cX3_findSpan 88 = .ok (.getfield 15, 3) := by decide +kernel
theorem dX3_findSpan_91 : decode cX3_findSpan 91 = .ok (.arraylength, 1) := by decide +kernel
theorem dX3_findSpan_92 : decode cX3_findSpan 92 = .ok (.if_icmp .ge 12, 3) := by decide +kernel
theorem dX3_findSpan_95 : decode cX3_findSpan 95 = .ok (.aload_n 0, 1) := by decide +kernel
theorem dX3_findSpan_96 : decode cX3_findSpan 96 = .ok (.getfield 15, 3) := by decide +kernel
theorem dX3_findSpan_99 : decode cX3_findSpan 99 = .ok (.iload 6, 2) := by decide +kernel
theorem dX3_findSpan_101 : decode cX3_findSpan 101 = .ok (.iload 5, 2) := by decide +kernel
theorem dX3_findSpan_103 : decode cX3_findSpan 103 = .ok (.iastore, 1) := by decide +kernel
theorem dX3_findSpan_104 : decode cX3_findSpan 104 = .ok (.iinc 4 (-1), 3) := by decide +kernel
theorem dX3_findSpan_107 : decode cX3_findSpan 107 = .ok (.goto (-103), 3) := by decide +kernel
theorem dX3_findSpan_110 : decode cX3_findSpan 110 = .ok (.return_, 1) := by decide +kernel
theorem dX3_treesOfAll_0 : decode cX3_treesOfAll 0 = .ok (.aload_n 0, 1) := by decide +kernel
theorem dX3_treesOfAll_1 : decode cX3_treesOfAll 1 = .ok (.bipush 10, 2) := by decide +kernel
theorem dX3_treesOfAll_3 : decode cX3_treesOfAll 3 = .ok (.iconst 0, 1) := by decide +kernel
theorem dX3_treesOfAll_4 : decode cX3_treesOfAll 4 = .ok (.aload_n 0, 1) := by decide +kernel
theorem dX3_treesOfAll_5 : decode cX3_treesOfAll 5 = .ok (.getfield 18, 3) := by decide +kernel
theorem dX3_treesOfAll_8 : decode cX3_treesOfAll 8 = .ok (.iconst 1, 1) := by decide +kernel
theorem dX3_treesOfAll_9 : decode cX3_treesOfAll 9 = .ok (.isub, 1) := by decide +kernel
theorem dX3_treesOfAll_10 : decode cX3_treesOfAll 10 = .ok (.invokevirtual 90, 3) := by decide +kernel
theorem dX3_treesOfAll_13 : decode cX3_treesOfAll 13 = .ok (.ireturn, 1) := by decide +kernel
theorem dX3_treesOf_0 : decode cX3_treesOf 0 = .ok (.iload_n 1, 1) := by decide +kernel
theorem dX3_treesOf_1 : decode cX3_treesOf 1 = .ok (.iconst (-1), 1) := by decide +kernel
theorem dX3_treesOf_2 : decode cX3_treesOf 2 = .ok (.if_icmp .ne 14, 3) := by decide +kernel
theorem dX3_treesOf_5 : decode cX3_treesOf 5 = .ok (.iload_n 2, 1) := by decide +kernel
theorem dX3_treesOf_6 : decode cX3_treesOf 6 = .ok (.iload_n 3, 1) := by decide +kernel
theorem dX3_treesOf_7 : decode cX3_treesOf 7 = .ok (.if_icmp .le 7, 3) := by decide +kernel
theorem dX3_treesOf_10 : decode cX3_treesOf 10 = .ok (.iconst 1, 1) := by decide +kernel
theorem dX3_treesOf_11 : decode cX3_treesOf 11 = .ok (.goto 4, 3) := by decide +kernel
theorem dX3_treesOf_14 : decode cX3_treesOf 14 = .ok (.iconst 0, 1) := by decide +kernel
theorem dX3_treesOf_15 : decode cX3_treesOf 15 = .ok (.ireturn, 1) := by decide +kernel
theorem dX3_treesOf_16 : decode cX3_treesOf 16 = .ok (.iload_n 2, 1) := by decide +kernel
theorem dX3_treesOf_17 : decode cX3_treesOf 17 = .ok (.ifCond .lt 24, 3) := by decide +kernel
theorem dX3_treesOf_20 : decode cX3_treesOf 20 = .ok (.iload_n 3, 1) := by decide +kernel
theorem dX3_treesOf_21 : decode cX3_treesOf 21 = .ok (.iload_n 2, 1) := by decide +kernel
theorem dX3_treesOf_22 : decode cX3_treesOf 22 = .ok (.if_icmp .lt 19, 3) := by decide +kernel
theorem dX3_treesOf_25 : decode cX3_treesOf 25 = .ok (.iload_n 3, 1) := by decide +kernel
theorem dX3_treesOf_26 : decode cX3_treesOf 26 = .ok (.bipush 10, 2) := by decide +kernel
theorem dX3_treesOf_28 : decode cX3_treesOf 28 = .ok (.if_icmp .ge 13, 3) := by decide +kernel
theorem dX3_treesOf_31 : decode cX3_treesOf 31 = .ok (.iload_n 1, 1) := by decide +kernel
theorem dX3_treesOf_32 : decode cX3_treesOf 32 = .ok (.ifCond .lt 9, 3) := by decide +kernel
theorem dX3_treesOf_35 : decode cX3_treesOf 35 = .ok (.iload_n 1, 1) := by decide +kernel
theorem dX3_treesOf_36 : decode cX3_treesOf 36 = .ok (.bipush 15, 2) := by decide +kernel
theorem dX3_treesOf_38 : decode cX3_treesOf 38 = .ok (.if_icmp .lt 5, 3) := by decide +kernel
theorem dX3_treesOf_41 : decode cX3_treesOf 41 = .ok (.iconst 0, 1) := by decide +kernel
theorem dX3_treesOf_42 : decode cX3_treesOf 42 = .ok (.ireturn, 1) := by decide +kernel
theorem dX3_treesOf_43 : decode cX3_treesOf 43 = .ok (.iload_n 1, 1) := by decide +kernel
theorem dX3_treesOf_44 : decode cX3_treesOf 44 = .ok (.bipush 10, 2) := by decide +kernel
theorem dX3_treesOf_46 : decode cX3_treesOf 46 = .ok (.if_icmp .ge 24, 3) := by decide +kernel
theorem dX3_treesOf_49 : decode cX3_treesOf 49 = .ok (.iload_n 2, 1) := by decide +kernel
theorem dX3_treesOf_50 : decode cX3_treesOf 50 = .ok (.iload_n 3, 1) := by decide +kernel
theorem dX3_treesOf_51 : decode cX3_treesOf 51 = .ok (.if_icmp .ne 17, 3) := by decide +kernel
theorem dX3_treesOf_54 : decode cX3_treesOf 54 = .ok (.aload_n 0, 1) := by decide +kernel
theorem dX3_treesOf_55 : decode cX3_treesOf 55 = .ok (.getfield 9, 3) := by decide +kernel
theorem dX3_treesOf_58 : decode cX3_treesOf 58 = .ok (.iload_n 2, 1) := by decide +kernel
theorem dX3_treesOf_59 : decode cX3_treesOf 59 = .ok (.iaload, 1) := by decide +kernel
theorem dX3_treesOf_60 : decode cX3_treesOf 60 = .ok (.iload_n 1, 1) := by decide +kernel
theorem dX3_treesOf_61 : decode cX3_treesOf 61 = .ok (.if_icmp .ne 7, 3) := by decide +kernel
theorem dX3_treesOf_64 : decode cX3_treesOf 64 = .ok (.iconst 1, 1) := by decide +kernel
theorem dX3_treesOf_65 : decode cX3_treesOf 65 = .ok (.goto 4, 3) := by decide +kernel
theorem dX3_treesOf_68 : decode cX3_treesOf 68 = .ok (.iconst 0, 1) := by decide +kernel
theorem dX3_treesOf_69 : decode cX3_treesOf 69 = .ok (.ireturn, 1) := by decide +kernel
theorem dX3_treesOf_70 : decode cX3_treesOf 70 = .ok (.aload_n 0, 1) := by decide +kernel
theorem dX3_treesOf_71 : decode cX3_treesOf 71 = .ok (.getfield 15, 3) := by decide +kernel
theorem dX3_treesOf_74 : decode cX3_treesOf 74 = .ok (.iload_n 1, 1) := by decide +kernel
theorem dX3_treesOf_75 : decode cX3_treesOf 75 = .ok (.bipush 10, 2) := by decide +kernel
theorem dX3_treesOf_77 : decode cX3_treesOf 77 = .ok (.isub, 1) := by decide +kernel
theorem dX3_treesOf_78 : decode cX3_treesOf 78 = .ok (.bipush 10, 2) := by decide +kernel
theorem dX3_treesOf_80 : decode cX3_treesOf 80 = .ok (.imul, 1) := by decide +kernel
theorem dX3_treesOf_81 : decode cX3_treesOf 81 = .ok (.iload_n 2, 1) := by decide +kernel
theorem dX3_treesOf_82 : decode cX3_treesOf 82 = .ok (.iadd, 1) := by decide +kernel
theorem dX3_treesOf_83 : decode cX3_treesOf 83 = .ok (.bipush 10, 2) := by decide +kernel
theorem dX3_treesOf_85 : decode cX3_treesOf 85 = .ok (.imul, 1) := by decide +kernel
theorem dX3_treesOf_86 : decode cX3_treesOf 86 = .ok (.iload_n 3, 1) := by decide +kernel
theorem dX3_treesOf_87 : decode cX3_treesOf 87 = .ok (.iadd, 1) := by decide +kernel
theorem dX3_treesOf_88 : decode cX3_treesOf 88 = .ok (.iaload, 1) := by decide +kernel
theorem dX3_treesOf_89 : decode cX3_treesOf 89 = .ok (.ireturn, 1) := by decide +kernel
theorem dX3_treesByRule_0 : decode cX3_treesByRule 0 = .ok (.iconst 0, 1) := by decide +kernel
theorem dX3_treesByRule_1 : decode cX3_treesByRule 1 = .ok (.istore 4, 2) := by decide +kernel
theorem dX3_treesByRule_3 : decode cX3_treesByRule 3 = .ok (.aload_n 1, 1) := by decide +kernel
theorem dX3_treesByRule_4 : decode cX3_treesByRule 4 = .ok (.getfield 51, 3) := by decide +kernel
theorem dX3_treesByRule_7 : decode cX3_treesByRule 7 = .ok (.iconst (-1), 1) := by decide +kernel
theorem dX3_treesByRule_8 : decode cX3_treesByRule 8 = .ok (.if_icmp .ne 7, 3) := by decide +kernel
theorem dX3_treesByRule_11 : decode cX3_treesByRule 11 = .ok (.iload_n 3, 1) := by decide +kernel
theorem dX3_treesByRule_12 : decode cX3_treesByRule 12 = .ok (.goto 4, 3) := by decide +kernel
theorem dX3_treesByRule_15 : decode cX3_treesByRule 15 = .ok (.iload_n 2, 1) := by decide +kernel
theorem dX3_treesByRule_16 : decode cX3_treesByRule 16 = .ok (.istore 5, 2) := by decide +kernel
theorem dX3_treesByRule_18 : decode cX3_treesByRule 18 = .ok (.iload 5, 2) := by decide +kernel
theorem dX3_treesByRule_20 : decode cX3_treesByRule 20 = .ok (.iload_n 3, 1) := by decide +kernel
theorem dX3_treesByRule_21 : decode cX3_treesByRule 21 = .ok (.if_icmp .gt 104, 3) := by decide +kernel
theorem dX3_treesByRule_24 : decode cX3_treesByRule 24 = .ok (.aload_n 0, 1) := by decide +kernel
theorem dX3_treesByRule_25 : decode cX3_treesByRule 25 = .ok (.aload_n 1, 1) := by decide +kernel
theorem dX3_treesByRule_26 : decode cX3_treesByRule 26 = .ok (.getfield 42, 3) := by decide +kernel
theorem dX3_treesByRule_29 : decode cX3_treesByRule 29 = .ok (.iload_n 2, 1) := by decide +kernel
theorem dX3_treesByRule_30 : decode cX3_treesByRule 30 = .ok (.iload 5, 2) := by decide +kernel
theorem dX3_treesByRule_32 : decode cX3_treesByRule 32 = .ok (.invokevirtual 90, 3) := by decide +kernel
theorem dX3_treesByRule_35 : decode cX3_treesByRule 35 = .ok (.istore 6, 2) := by decide +kernel
theorem dX3_treesByRule_37 : decode cX3_treesByRule 37 = .ok (.aload_n 1, 1) := by decide +kernel
theorem dX3_treesByRule_38 : decode cX3_treesByRule 38 = .ok (.getfield 54, 3) := by decide +kernel
theorem dX3_treesByRule_41 : decode cX3_treesByRule 41 = .ok (.iconst (-1), 1) := by decide +kernel
theorem dX3_treesByRule_42 : decode cX3_treesByRule 42 = .ok (.if_icmp .ne 7, 3) := by decide +kernel
theorem dX3_treesByRule_45 : decode cX3_treesByRule 45 = .ok (.iload_n 3, 1) := by decide +kernel
theorem dX3_treesByRule_46 : decode cX3_treesByRule 46 = .ok (.goto 5, 3) := by decide +kernel
theorem dX3_treesByRule_49 : decode cX3_treesByRule 49 = .ok (.iload 5, 2) := by decide +kernel
theorem dX3_treesByRule_51 : decode cX3_treesByRule 51 = .ok (.istore 7, 2) := by decide +kernel
theorem dX3_treesByRule_53 : decode cX3_treesByRule 53 = .ok (.iload 6, 2) := by decide +kernel
theorem dX3_treesByRule_55 : decode cX3_treesByRule 55 = .ok (.ifCond .le 64, 3) := by decide +kernel
theorem dX3_treesByRule_58 : decode cX3_treesByRule 58 = .ok (.iload 7, 2) := by decide +kernel
theorem dX3_treesByRule_60 : decode cX3_treesByRule 60 = .ok (.iload_n 3, 1) := by decide +kernel
theorem dX3_treesByRule_61 : decode cX3_treesByRule 61 = .ok (.if_icmp .gt 58, 3) := by decide +kernel
theorem dX3_treesByRule_64 : decode cX3_treesByRule 64 = .ok (.iload 6, 2) := by decide +kernel
theorem dX3_treesByRule_66 : decode cX3_treesByRule 66 = .ok (.aload_n 0, 1) := by decide +kernel
theorem dX3_treesByRule_67 : decode cX3_treesByRule 67 = .ok (.aload_n 1, 1) := by decide +kernel
theorem dX3_treesByRule_68 : decode cX3_treesByRule 68 = .ok (.getfield 51, 3) := by decide +kernel
theorem dX3_treesByRule_71 : decode cX3_treesByRule 71 = .ok (.iload 5, 2) := by decide +kernel
theorem dX3_treesByRule_73 : decode cX3_treesByRule 73 = .ok (.iconst 1, 1) := by decide +kernel
theorem dX3_treesByRule_74 : decode cX3_treesByRule 74 = .ok (.iadd, 1) := by decide +kernel
theorem dX3_treesByRule_75 : decode cX3_treesByRule 75 = .ok (.iload 7, 2) := by decide +kernel
theorem dX3_treesByRule_77 : decode cX3_treesByRule 77 = .ok (.invokevirtual 90, 3) := by decide +kernel
theorem dX3_treesByRule_80 : decode cX3_treesByRule 80 = .ok (.imul, 1) := by decide +kernel
theorem dX3_treesByRule_81 : decode cX3_treesByRule 81 = .ok (.invokestatic 83, 3) := by decide +kernel
theorem dX3_treesByRule_84 : decode cX3_treesByRule 84 = .ok (.istore 8, 2) := by decide +kernel
theorem dX3_treesByRule_86 : decode cX3_treesByRule 86 = .ok (.iload 4, 2) := by decide +kernel
theorem dX3_treesByRule_88 : decode cX3_treesByRule 88 = .ok (.iload 8, 2) := by decide +kernel
theorem dX3_treesByRule_90 : decode cX3_treesByRule 90 = .ok (.aload_n 0, 1) := by decide +kernel
theorem dX3_treesByRule_91 : decode cX3_treesByRule 91 = .ok (.aload_n 1, 1) := by decide +kernel
theorem dX3_treesByRule_92 : decode cX3_treesByRule 92 = .ok (.getfield 54, 3) := by decide +kernel
theorem dX3_treesByRule_95 : decode cX3_treesByRule 95 = .ok (.iload 7, 2) := by decide +kernel
theorem dX3_treesByRule_97 : decode cX3_treesByRule 97 = .ok (.iconst 1, 1) := by decide +kernel
theorem dX3_treesByRule_98 : decode cX3_treesByRule 98 = .ok (.iadd, 1) := by decide +kernel
theorem dX3_treesByRule_99 : decode cX3_treesByRule 99 = .ok (.iload_n 3, 1) := by decide +kernel
theorem dX3_treesByRule_100 : decode cX3_treesByRule 100 = .ok (.invokevirtual 90, 3) := by decide +kernel
theorem dX3_treesByRule_103 : decode cX3_treesByRule 103 = .ok (.imul, 1) := by decide +kernel
theorem dX3_treesByRule_104 : decode cX3_treesByRule 104 = .ok (.invokestatic 83, 3) := by decide +kernel
theorem dX3_treesByRule_107 : decode cX3_treesByRule 107 = .ok (.iadd, 1) := by decide +kernel
theorem dX3_treesByRule_108 : decode cX3_treesByRule 108 = .ok (.invokestatic 83, 3) := by decide +kernel
theorem dX3_treesByRule_111 : decode cX3_treesByRule 111 = .ok (.istore 4, 2) := by decide +kernel
theorem dX3_treesByRule_113 : decode cX3_treesByRule 113 = .ok (.iinc 7 1, 3) := by decide +kernel
theorem dX3_treesByRule_116 : decode cX3_treesByRule 116 = .ok (.goto (-63), 3) := by decide +kernel
theorem dX3_treesByRule_119 : decode cX3_treesByRule 119 = .ok (.iinc 5 1, 3) := by decide +kernel
theorem dX3_treesByRule_122 : decode cX3_treesByRule 122 = .ok (.goto (-104), 3) := by decide +kernel
theorem dX3_treesByRule_125 : decode cX3_treesByRule 125 = .ok (.iload 4, 2) := by decide +kernel
theorem dX3_treesByRule_127 : decode cX3_treesByRule 127 = .ok (.ireturn, 1) := by decide +kernel
theorem dX3_splitOf_0 : decode cX3_splitOf 0 = .ok (.aload_n 1, 1) := by decide +kernel
theorem dX3_splitOf_1 : decode cX3_splitOf 1 = .ok (.getfield 51, 3) := by decide +kernel
theorem dX3_splitOf_4 : decode cX3_splitOf 4 = .ok (.iconst (-1), 1) := by decide +kernel
theorem dX3_splitOf_5 : decode cX3_splitOf 5 = .ok (.if_icmp .ne 7, 3) := by decide +kernel
theorem dX3_splitOf_8 : decode cX3_splitOf 8 = .ok (.iload_n 3, 1) := by decide +kernel
theorem dX3_splitOf_9 : decode cX3_splitOf 9 = .ok (.goto 4, 3) := by decide +kernel
theorem dX3_splitOf_12 : decode cX3_splitOf 12 = .ok (.iload_n 2, 1) := by decide +kernel
theorem dX3_splitOf_13 : decode cX3_splitOf 13 = .ok (.istore 4, 2) := by decide +kernel
theorem dX3_splitOf_15 : decode cX3_splitOf 15 = .ok (.iload 4, 2) := by decide +kernel
theorem dX3_splitOf_17 : decode cX3_splitOf 17 = .ok (.iload_n 3, 1) := by decide +kernel
theorem dX3_splitOf_18 : decode cX3_splitOf 18 = .ok (.if_icmp .gt 105, 3) := by decide +kernel
theorem dX3_splitOf_21 : decode cX3_splitOf 21 = .ok (.aload_n 0, 1) := by decide +kernel
theorem dX3_splitOf_22 : decode cX3_splitOf 22 = .ok (.aload_n 1, 1) := by decide +kernel
theorem dX3_splitOf_23 : decode cX3_splitOf 23 = .ok (.getfield 42, 3) := by decide +kernel
theorem dX3_splitOf_26 : decode cX3_splitOf 26 = .ok (.iload_n 2, 1) := by decide +kernel
theorem dX3_splitOf_27 : decode cX3_splitOf 27 = .ok (.iload 4, 2) := by decide +kernel
theorem dX3_splitOf_29 : decode cX3_splitOf 29 = .ok (.invokevirtual 90, 3) := by decide +kernel
theorem dX3_splitOf_32 : decode cX3_splitOf 32 = .ok (.ifCond .le 7, 3) := by decide +kernel
theorem dX3_splitOf_35 : decode cX3_splitOf 35 = .ok (.iconst 1, 1) := by decide +kernel
theorem dX3_splitOf_36 : decode cX3_splitOf 36 = .ok (.goto 4, 3) := by decide +kernel
theorem dX3_splitOf_39 : decode cX3_splitOf 39 = .ok (.iconst 0, 1) := by decide +kernel
theorem dX3_splitOf_40 : decode cX3_splitOf 40 = .ok (.istore 5, 2) := by decide +kernel
theorem dX3_splitOf_42 : decode cX3_splitOf 42 = .ok (.aload_n 1, 1) := by decide +kernel
theorem dX3_splitOf_43 : decode cX3_splitOf 43 = .ok (.getfield 54, 3) := by decide +kernel
theorem dX3_splitOf_46 : decode cX3_splitOf 46 = .ok (.iconst (-1), 1) := by decide +kernel
theorem dX3_splitOf_47 : decode cX3_splitOf 47 = .ok (.if_icmp .ne 7, 3) := by decide +kernel
theorem dX3_splitOf_50 : decode cX3_splitOf 50 = .ok (.iload_n 3, 1) := by decide +kernel
theorem dX3_splitOf_51 : decode cX3_splitOf 51 = .ok (.goto 5, 3) := by decide +kernel
theorem dX3_splitOf_54 : decode cX3_splitOf 54 = .ok (.iload 4, 2) := by decide +kernel
theorem dX3_splitOf_56 : decode cX3_splitOf 56 = .ok (.istore 6, 2) := by decide +kernel
theorem dX3_splitOf_58 : decode cX3_splitOf 58 = .ok (.iload 5, 2) := by decide +kernel
theorem dX3_splitOf_60 : decode cX3_splitOf 60 = .ok (.ifCond .eq 57, 3) := by decide +kernel
theorem dX3_splitOf_63 : decode cX3_splitOf 63 = .ok (.iload 6, 2) := by decide +kernel
theorem dX3_splitOf_65 : decode cX3_splitOf 65 = .ok (.iload_n 3, 1) := by decide +kernel
theorem dX3_splitOf_66 : decode cX3_splitOf 66 = .ok (.if_icmp .gt 51, 3) := by decide +kernel
theorem dX3_splitOf_69 : decode cX3_splitOf 69 = .ok (.aload_n 0, 1) := by decide +kernel
theorem dX3_splitOf_70 : decode cX3_splitOf 70 = .ok (.aload_n 1, 1) := by decide +kernel
theorem dX3_splitOf_71 : decode cX3_splitOf 71 = .ok (.getfield 51, 3) := by decide +kernel
theorem dX3_splitOf_74 : decode cX3_splitOf 74 = .ok (.iload 4, 2) := by decide +kernel
theorem dX3_splitOf_76 : decode cX3_splitOf 76 = .ok (.iconst 1, 1) := by decide +kernel
theorem dX3_splitOf_77 : decode cX3_splitOf 77 = .ok (.iadd, 1) := by decide +kernel
theorem dX3_splitOf_78 : decode cX3_splitOf 78 = .ok (.iload 6, 2) := by decide +kernel
theorem dX3_splitOf_80 : decode cX3_splitOf 80 = .ok (.invokevirtual 90, 3) := by decide +kernel
theorem dX3_splitOf_83 : decode cX3_splitOf 83 = .ok (.ifCond .le 28, 3) := by decide +kernel
theorem dX3_splitOf_86 : decode cX3_splitOf 86 = .ok (.aload_n 0, 1) := by decide +kernel
theorem dX3_splitOf_87 : decode cX3_splitOf 87 = .ok (.aload_n 1, 1) := by decide +kernel
theorem dX3_splitOf_88 : decode cX3_splitOf 88 = .ok (.getfield 54, 3) := by decide +kernel
theorem dX3_splitOf_91 : decode cX3_splitOf 91 = .ok (.iload 6, 2) := by decide +kernel
theorem dX3_splitOf_93 : decode cX3_splitOf 93 = .ok (.iconst 1, 1) := by decide +kernel
theorem dX3_splitOf_94 : decode cX3_splitOf 94 = .ok (.iadd, 1) := by decide +kernel
theorem dX3_splitOf_95 : decode cX3_splitOf 95 = .ok (.iload_n 3, 1) := by decide +kernel
theorem dX3_splitOf_96 : decode cX3_splitOf 96 = .ok (.invokevirtual 90, 3) := by decide +kernel
theorem dX3_splitOf_99 : decode cX3_splitOf 99 = .ok (.ifCond .le 12, 3) := by decide +kernel
theorem dX3_splitOf_102 : decode cX3_splitOf 102 = .ok (.iload 4, 2) := by decide +kernel
theorem dX3_splitOf_104 : decode cX3_splitOf 104 = .ok (.bipush 10, 2) := by decide +kernel
theorem dX3_splitOf_106 : decode cX3_splitOf 106 = .ok (.imul, 1) := by decide +kernel
theorem dX3_splitOf_107 : decode cX3_splitOf 107 = .ok (.iload 6, 2) := by decide +kernel
theorem dX3_splitOf_109 : decode cX3_splitOf 109 = .ok (.iadd, 1) := by decide +kernel
theorem dX3_splitOf_110 : decode cX3_splitOf 110 = .ok (.ireturn, 1) := by decide +kernel
theorem dX3_splitOf_111 : decode cX3_splitOf 111 = .ok (.iinc 6 1, 3) := by decide +kernel
theorem dX3_splitOf_114 : decode cX3_splitOf 114 = .ok (.goto (-56), 3) := by decide +kernel
theorem dX3_splitOf_117 : decode cX3_splitOf 117 = .ok (.iinc 4 1, 3) := by decide +kernel
theorem dX3_splitOf_120 : decode cX3_splitOf 120 = .ok (.goto (-105), 3) := by decide +kernel
theorem dX3_splitOf_123 : decode cX3_splitOf 123 = .ok (.iconst (-1), 1) := by decide +kernel
theorem dX3_splitOf_124 : decode cX3_splitOf 124 = .ok (.ireturn, 1) := by decide +kernel
theorem dX3_hasNumbersOf_0 : decode cX3_hasNumbersOf 0 = .ok (.bipush 10, 2) := by decide +kernel
theorem dX3_hasNumbersOf_2 : decode cX3_hasNumbersOf 2 = .ok (.istore_n 2, 1) := by decide +kernel
theorem dX3_hasNumbersOf_3 : decode cX3_hasNumbersOf 3 = .ok (.iload_n 2, 1) := by decide +kernel
theorem dX3_hasNumbersOf_4 : decode cX3_hasNumbersOf 4 = .ok (.bipush 15, 2) := by decide +kernel
theorem dX3_hasNumbersOf_6 : decode cX3_hasNumbersOf 6 = .ok (.if_icmp .ge 64, 3) := by decide +kernel
theorem dX3_hasNumbersOf_9 : decode cX3_hasNumbersOf 9 = .ok (.iconst 0, 1) := by decide +kernel
theorem dX3_hasNumbersOf_10 : decode cX3_hasNumbersOf 10 = .ok (.istore_n 3, 1) := by decide +kernel
theorem dX3_hasNumbersOf_11 : decode cX3_hasNumbersOf 11 = .ok (.iload_n 3, 1) := by decide +kernel
theorem dX3_hasNumbersOf_12 : decode cX3_hasNumbersOf 12 = .ok (.aload_n 0, 1) := by decide +kernel
theorem dX3_hasNumbersOf_13 : decode cX3_hasNumbersOf 13 = .ok (.getfield 18, 3) := by decide +kernel
theorem dX3_hasNumbersOf_16 : decode cX3_hasNumbersOf 16 = .ok (.if_icmp .ge 48, 3) := by decide +kernel
theorem dX3_hasNumbersOf_19 : decode cX3_hasNumbersOf 19 = .ok (.iload_n 3, 1) := by decide +kernel
theorem dX3_hasNumbersOf_20 : decode cX3_hasNumbersOf 20 = .ok (.istore 4, 2) := by decide +kernel
theorem dX3_hasNumbersOf_22 : decode cX3_hasNumbersOf 22 = .ok (.iload 4, 2) := by decide +kernel
theorem dX3_hasNumbersOf_24 : decode cX3_hasNumbersOf 24 = .ok (.aload_n 0, 1) := by decide +kernel
theorem dX3_hasNumbersOf_25 : decode cX3_hasNumbersOf 25 = .ok (.getfield 18, 3) := by decide +kernel
theorem dX3_hasNumbersOf_28 : decode cX3_hasNumbersOf 28 = .ok (.if_icmp .ge 30, 3) := by decide +kernel
theorem dX3_hasNumbersOf_31 : decode cX3_hasNumbersOf 31 = .ok (.aload_n 0, 1) := by decide +kernel
theorem dX3_hasNumbersOf_32 : decode cX3_hasNumbersOf 32 = .ok (.iload_n 2, 1) := by decide +kernel
theorem dX3_hasNumbersOf_33 : decode cX3_hasNumbersOf 33 = .ok (.iload_n 3, 1) := by decide +kernel
theorem dX3_hasNumbersOf_34 : decode cX3_hasNumbersOf 34 = .ok (.iload 4, 2) := by decide +kernel
theorem dX3_hasNumbersOf_36 : decode cX3_hasNumbersOf 36 = .ok (.invokevirtual 90, 3) := by decide +kernel
theorem dX3_hasNumbersOf_39 : decode cX3_hasNumbersOf 39 = .ok (.aload_n 1, 1) := by decide +kernel
theorem dX3_hasNumbersOf_40 : decode cX3_hasNumbersOf 40 = .ok (.iload_n 2, 1) := by decide +kernel
theorem dX3_hasNumbersOf_41 : decode cX3_hasNumbersOf 41 = .ok (.iload_n 3, 1) := by decide +kernel
theorem dX3_hasNumbersOf_42 : decode cX3_hasNumbersOf 42 = .ok (.iload 4, 2) := by decide +kernel
theorem dX3_hasNumbersOf_44 : decode cX3_hasNumbersOf 44 = .ok (.invokevirtual 90, 3) := by decide +kernel
theorem dX3_hasNumbersOf_47 : decode cX3_hasNumbersOf 47 = .ok (.if_icmp .eq 5, 3) := by decide +kernel
theorem dX3_hasNumbersOf_50 : decode cX3_hasNumbersOf 50 = .ok (.iconst 0, 1) := by decide +kernel
theorem dX3_hasNumbersOf_51 : decode cX3_hasNumbersOf 51 = .ok (.ireturn, 1) := by decide +kernel
theorem dX3_hasNumbersOf_52 : decode cX3_hasNumbersOf 52 = .ok (.iinc 4 1, 3) := by decide +kernel
theorem dX3_hasNumbersOf_55 : decode cX3_hasNumbersOf 55 = .ok (.goto (-33), 3) := by decide +kernel
theorem dX3_hasNumbersOf_58 : decode cX3_hasNumbersOf 58 = .ok (.iinc 3 1, 3) := by decide +kernel
theorem dX3_hasNumbersOf_61 : decode cX3_hasNumbersOf 61 = .ok (.goto (-50), 3) := by decide +kernel
theorem dX3_hasNumbersOf_64 : decode cX3_hasNumbersOf 64 = .ok (.iinc 2 1, 3) := by decide +kernel
theorem dX3_hasNumbersOf_67 : decode cX3_hasNumbersOf 67 = .ok (.goto (-64), 3) := by decide +kernel
theorem dX3_hasNumbersOf_70 : decode cX3_hasNumbersOf 70 = .ok (.iconst 1, 1) := by decide +kernel
theorem dX3_hasNumbersOf_71 : decode cX3_hasNumbersOf 71 = .ok (.ireturn, 1) := by decide +kernel
theorem dX4_init_0 : decode cX4_init 0 = .ok (.aload_n 0, 1) := by decide +kernel
theorem dX4_init_1 : decode cX4_init 1 = .ok (.invokespecial 3, 3) := by decide +kernel
theorem dX4_init_4 : decode cX4_init 4 = .ok (.aload_n 0, 1) := by decide +kernel
theorem dX4_init_5 : decode cX4_init 5 = .ok (.new 9, 3) := by decide +kernel
theorem dX4_init_8 : decode cX4_init 8 = .ok (.dup, 1) := by decide +kernel
theorem dX4_init_9 : decode cX4_init 9 = .ok (.invokespecial 11, 3) := by decide +kernel
theorem dX4_init_12 : decode cX4_init 12 = .ok (.putfield 12, 3) := by decide +kernel
theorem dX4_init_15 : decode cX4_init 15 = .ok (.aload_n 0, 1) := by decide +kernel
theorem dX4_init_16 : decode cX4_init 16 = .ok (.bipush 95, 2) := by decide +kernel
theorem dX4_init_18 : decode cX4_init 18 = .ok (.newarray .int, 2) := by decide +kernel
theorem dX4_init_20 : decode cX4_init 20 = .ok (.putfield 18, 3) := by decide +kernel
theorem dX4_init_23 : decode cX4_init 23 = .ok (.aload_n 0, 1) := by decide +kernel
theorem dX4_init_24 : decode cX4_init 24 = .ok (.iconst 0, 1) := by decide +kernel
theorem dX4_init_25 : decode cX4_init 25 = .ok (.putfield 22, 3) := by decide +kernel
theorem dX4_init_28 : decode cX4_init 28 = .ok (.return_, 1) := by decide +kernel
theorem dX4_keep_0 : decode cX4_keep 0 = .ok (.aload_n 0, 1) := by decide +kernel
theorem dX4_keep_1 : decode cX4_keep 1 = .ok (.aload_n 1, 1) := by decide +kernel
theorem dX4_keep_2 : decode cX4_keep 2 = .ok (.getfield 26, 3) := by decide +kernel
theorem dX4_keep_5 : decode cX4_keep 5 = .ok (.aload_n 0, 1) := by decide +kernel
theorem dX4_keep_6 : decode cX4_keep 6 = .ok (.getfield 18, 3) := by decide +kernel
theorem dX4_keep_9 : decode cX4_keep 9 = .ok (.arraylength, 1) := by decide +kernel
theorem dX4_keep_10 : decode cX4_keep 10 = .ok (.invokestatic 31, 3) := by decide +kernel
theorem dX4_keep_13 : decode cX4_keep 13 = .ok (.putfield 22, 3) := by decide +kernel
theorem dX4_keep_16 : decode cX4_keep 16 = .ok (.iconst 0, 1) := by decide +kernel
theorem dX4_keep_17 : decode cX4_keep 17 = .ok (.istore_n 2, 1) := by decide +kernel
theorem dX4_keep_18 : decode cX4_keep 18 = .ok (.iload_n 2, 1) := by decide +kernel
theorem dX4_keep_19 : decode cX4_keep 19 = .ok (.aload_n 0, 1) := by decide +kernel
theorem dX4_keep_20 : decode cX4_keep 20 = .ok (.getfield 22, 3) := by decide +kernel
theorem dX4_keep_23 : decode cX4_keep 23 = .ok (.if_icmp .ge 20, 3) := by decide +kernel
theorem dX4_keep_26 : decode cX4_keep 26 = .ok (.aload_n 0, 1) := by decide +kernel
theorem dX4_keep_27 : decode cX4_keep 27 = .ok (.getfield 18, 3) := by decide +kernel
theorem dX4_keep_30 : decode cX4_keep 30 = .ok (.iload_n 2, 1) := by decide +kernel
theorem dX4_keep_31 : decode cX4_keep 31 = .ok (.aload_n 1, 1) := by decide +kernel
theorem dX4_keep_32 : decode cX4_keep 32 = .ok (.iload_n 2, 1) := by decide +kernel
theorem dX4_keep_33 : decode cX4_keep 33 = .ok (.invokevirtual 37, 3) := by decide +kernel
theorem dX4_keep_36 : decode cX4_keep 36 = .ok (.iastore, 1) := by decide +kernel
theorem dX4_keep_37 : decode cX4_keep 37 = .ok (.iinc 2 1, 3) := by decide +kernel
theorem dX4_keep_40 : decode cX4_keep 40 = .ok (.goto (-22), 3) := by decide +kernel
theorem dX4_keep_43 : decode cX4_keep 43 = .ok (.return_, 1) := by decide +kernel
theorem dX4_hasAccepted_0 : decode cX4_hasAccepted 0 = .ok (.aload_n 1, 1) := by decide +kernel
theorem dX4_hasAccepted_1 : decode cX4_hasAccepted 1 = .ok (.getfield 26, 3) := by decide +kernel
theorem dX4_hasAccepted_4 : decode cX4_hasAccepted 4 = .ok (.aload_n 0, 1) := by decide +kernel
theorem dX4_hasAccepted_5 : decode cX4_hasAccepted 5 = .ok (.getfield 22, 3) := by decide +kernel
theorem dX4_hasAccepted_8 : decode cX4_hasAccepted 8 = .ok (.if_icmp .ne 15, 3) := by decide +kernel
theorem dX4_hasAccepted_11 : decode cX4_hasAccepted 11 = .ok (.aload_n 0, 1) := by decide +kernel
theorem dX4_hasAccepted_12 : decode cX4_hasAccepted 12 = .ok (.getfield 22, 3) := by decide +kernel
theorem dX4_hasAccepted_15 : decode cX4_hasAccepted 15 = .ok (.aload_n 0, 1) := by decide +kernel
theorem dX4_hasAccepted_16 : decode cX4_hasAccepted 16 = .ok (.getfield 18, 3) := by decide +kernel
theorem dX4_hasAccepted_19 : decode cX4_hasAccepted 19 = .ok (.arraylength, 1) := by decide +kernel
theorem dX4_hasAccepted_20 : decode cX4_hasAccepted 20 = .ok (.if_icmp .le 5, 3) := by decide +kernel
theorem dX4_hasAccepted_23 : decode cX4_hasAccepted 23 = .ok (.iconst 0, 1) := by decide +kernel
theorem dX4_hasAccepted_24 : decode cX4_hasAccepted 24 = .ok (.ireturn, 1) := by decide +kernel
theorem dX4_hasAccepted_25 : decode cX4_hasAccepted 25 = .ok (.iconst 0, 1) := by decide +kernel
theorem dX4_hasAccepted_26 : decode cX4_hasAccepted 26 = .ok (.istore_n 2, 1) := by decide +kernel
theorem dX4_hasAccepted_27 : decode cX4_hasAccepted 27 = .ok (.iload_n 2, 1) := by decide +kernel
theorem dX4_hasAccepted_28 : decode cX4_hasAccepted 28 = .ok (.aload_n 0, 1) := by decide +kernel
theorem dX4_hasAccepted_29 : decode cX4_hasAccepted 29 = .ok (.getfield 22, 3) := by decide +kernel
theorem dX4_hasAccepted_32 : decode cX4_hasAccepted 32 = .ok (.if_icmp .ge 25, 3) := by decide +kernel
theorem dX4_hasAccepted_35 : decode cX4_hasAccepted 35 = .ok (.aload_n 0, 1) := by decide +kernel
theorem dX4_hasAccepted_36 : decode cX4_hasAccepted 36 = .ok (.getfield 18, 3) := by decide +kernel
theorem dX4_hasAccepted_39 : decode cX4_hasAccepted 39 = .ok (.iload_n 2, 1) := by decide +kernel
theorem dX4_hasAccepted_40 : decode cX4_hasAccepted 40 = .ok (.iaload, 1) := by decide +kernel
theorem dX4_hasAccepted_41 : decode cX4_hasAccepted 41 = .ok (.aload_n 1, 1) := by decide +kernel
theorem dX4_hasAccepted_42 : decode cX4_hasAccepted 42 = .ok (.iload_n 2, 1) := by decide +kernel
theorem dX4_hasAccepted_43 : decode cX4_hasAccepted 43 = .ok (.invokevirtual 37, 3) := by decide +kernel
theorem dX4_hasAccepted_46 : decode cX4_hasAccepted 46 = .ok (.if_icmp .eq 5, 3) := by decide +kernel
theorem dX4_hasAccepted_49 : decode cX4_hasAccepted 49 = .ok (.iconst 0, 1) := by decide +kernel
theorem dX4_hasAccepted_50 : decode cX4_hasAccepted 50 = .ok (.ireturn, 1) := by decide +kernel
theorem dX4_hasAccepted_51 : decode cX4_hasAccepted 51 = .ok (.iinc 2 1, 3) := by decide +kernel
theorem dX4_hasAccepted_54 : decode cX4_hasAccepted 54 = .ok (.goto (-27), 3) := by decide +kernel
theorem dX4_hasAccepted_57 : decode cX4_hasAccepted 57 = .ok (.iconst 1, 1) := by decide +kernel
theorem dX4_hasAccepted_58 : decode cX4_hasAccepted 58 = .ok (.ireturn, 1) := by decide +kernel
theorem dX5_init_0 : decode cX5_init 0 = .ok (.aload_n 0, 1) := by decide +kernel
theorem dX5_init_1 : decode cX5_init 1 = .ok (.invokespecial 3, 3) := by decide +kernel
theorem dX5_init_4 : decode cX5_init 4 = .ok (.aload_n 0, 1) := by decide +kernel
theorem dX5_init_5 : decode cX5_init 5 = .ok (.sipush 500, 3) := by decide +kernel
theorem dX5_init_8 : decode cX5_init 8 = .ok (.newarray .int, 2) := by decide +kernel
theorem dX5_init_10 : decode cX5_init 10 = .ok (.putfield 9, 3) := by decide +kernel
theorem dX5_init_13 : decode cX5_init 13 = .ok (.return_, 1) := by decide +kernel
theorem dX5_treesOfAll_0 : decode cX5_treesOfAll 0 = .ok (.aload_n 0, 1) := by decide +kernel
theorem dX5_treesOfAll_1 : decode cX5_treesOfAll 1 = .ok (.getfield 9, 3) := by decide +kernel
theorem dX5_treesOfAll_4 : decode cX5_treesOfAll 4 = .ok (.iconst (-1), 1) := by decide +kernel
theorem dX5_treesOfAll_5 : decode cX5_treesOfAll 5 = .ok (.invokestatic 15, 3) := by decide +kernel
theorem dX5_treesOfAll_8 : decode cX5_treesOfAll 8 = .ok (.aload_n 0, 1) := by decide +kernel
theorem dX5_treesOfAll_9 : decode cX5_treesOfAll 9 = .ok (.aload_n 1, 1) := by decide +kernel
theorem dX5_treesOfAll_10 : decode cX5_treesOfAll 10 = .ok (.aload_n 2, 1) := by decide +kernel
theorem dX5_treesOfAll_11 : decode cX5_treesOfAll 11 = .ok (.bipush 10, 2) := by decide +kernel
theorem dX5_treesOfAll_13 : decode cX5_treesOfAll 13 = .ok (.iconst 0, 1) := by decide +kernel
theorem dX5_treesOfAll_14 : decode cX5_treesOfAll 14 = .ok (.aload_n 2, 1) := by decide +kernel
theorem dX5_treesOfAll_15 : decode cX5_treesOfAll 15 = .ok (.getfield 21, 3) := by decide +kernel
theorem dX5_treesOfAll_18 : decode cX5_treesOfAll 18 = .ok (.iconst 1, 1) := by decide +kernel
theorem dX5_treesOfAll_19 : decode cX5_treesOfAll 19 = .ok (.isub, 1) := by decide +kernel
theorem dX5_treesOfAll_20 : decode cX5_treesOfAll 20 = .ok (.iconst 1, 1) := by decide +kernel
theorem dX5_treesOfAll_21 : decode cX5_treesOfAll 21 = .ok (.invokevirtual 27, 3) := by decide +kernel
theorem dX5_treesOfAll_24 : decode cX5_treesOfAll 24 = .ok (.ireturn, 1) := by decide +kernel
theorem dX5_tryName_0 : decode cX5_tryName 0 = .ok (.iload_n 3, 1) := by decide +kernel
theorem dX5_tryName_1 : decode cX5_tryName 1 = .ok (.iload 4, 2) := by decide +kernel
theorem dX5_tryName_3 : decode cX5_tryName 3 = .ok (.iload 5, 2) := by decide +kernel
theorem dX5_tryName_5 : decode cX5_tryName 5 = .ok (.invokestatic 31, 3) := by decide +kernel
theorem dX5_tryName_8 : decode cX5_tryName 8 = .ok (.istore 7, 2) := by decide +kernel
theorem dX5_tryName_10 : decode cX5_tryName 10 = .ok (.iload 7, 2) := by decide +kernel
theorem dX5_tryName_12 : decode cX5_tryName 12 = .ok (.ifCond .lt 20, 3) := by decide +kernel
theorem dX5_tryName_15 : decode cX5_tryName 15 = .ok (.iload 7, 2) := by decide +kernel
theorem dX5_tryName_17 : decode cX5_tryName 17 = .ok (.aload_n 0, 1) := by decide +kernel
theorem dX5_tryName_18 : decode cX5_tryName 18 = .ok (.getfield 9, 3) := by decide +kernel
theorem dX5_tryName_21 : decode cX5_tryName 21 = .ok (.arraylength, 1) := by decide +kernel
theorem dX5_tryName_22 : decode cX5_tryName 22 = .ok (.if_icmp .ge 10, 3) := by decide +kernel
theorem dX5_tryName_25 : decode cX5_tryName 25 = .ok (.iload 6, 2) := by decide +kernel
theorem dX5_tryName_27 : decode cX5_tryName 27 = .ok (.bipush 25, 2) := by decide +kernel
theorem dX5_tryName_29 : decode cX5_tryName 29 = .ok (.if_icmp .le 5, 3) := by decide +kernel
theorem dX5_tryName_32 : decode cX5_tryName 32 = .ok (.iconst 0, 1) := by decide +kernel
theorem dX5_tryName_33 : decode cX5_tryName 33 = .ok (.ireturn, 1) := by decide +kernel
theorem dX5_tryName_34 : decode cX5_tryName 34 = .ok (.aload_n 0, 1) := by decide +kernel
theorem dX5_tryName_35 : decode cX5_tryName 35 = .ok (.getfield 9, 3) := by decide +kernel
theorem dX5_tryName_38 : decode cX5_tryName 38 = .ok (.iload 7, 2) := by decide +kernel
theorem dX5_tryName_40 : decode cX5_tryName 40 = .ok (.iaload, 1) := by decide +kernel
theorem dX5_tryName_41 : decode cX5_tryName 41 = .ok (.iconst (-1), 1) := by decide +kernel
theorem dX5_tryName_42 : decode cX5_tryName 42 = .ok (.if_icmp .eq 11, 3) := by decide +kernel
theorem dX5_tryName_45 : decode cX5_tryName 45 = .ok (.aload_n 0, 1) := by decide +kernel
theorem dX5_tryName_46 : decode cX5_tryName 46 = .ok (.getfield 9, 3) := by decide +kernel
theorem dX5_tryName_49 : decode cX5_tryName 49 = .ok (.iload 7, 2) := by decide +kernel
theorem dX5_tryName_51 : decode cX5_tryName 51 = .ok (.iaload, 1) := by decide +kernel
theorem dX5_tryName_52 : decode cX5_tryName 52 = .ok (.ireturn, 1) := by decide +kernel
theorem dX5_tryName_53 : decode cX5_tryName 53 = .ok (.iconst 0, 1) := by decide +kernel
theorem dX5_tryName_54 : decode cX5_tryName 54 = .ok (.istore 8, 2) := by decide +kernel
theorem dX5_tryName_56 : decode cX5_tryName 56 = .ok (.iconst 0, 1) := by decide +kernel
theorem dX5_tryName_57 : decode cX5_tryName 57 = .ok (.istore 9, 2) := by decide +kernel
theorem dX5_tryName_59 : decode cX5_tryName 59 = .ok (.iload 9, 2) := by decide +kernel
theorem dX5_tryName_61 : decode cX5_tryName 61 = .ok (.aload_n 1, 1) := by decide +kernel
theorem dX5_tryName_62 : decode cX5_tryName 62 = .ok (.getfield 35, 3) := by decide +kernel
theorem dX5_tryName_65 : decode cX5_tryName 65 = .ok (.if_icmp .ge 53, 3) := by decide +kernel
theorem dX5_tryName_68 : decode cX5_tryName 68 = .ok (.aload_n 1, 1) := by decide +kernel
theorem dX5_tryName_69 : decode cX5_tryName 69 = .ok (.iload 9, 2) := by decide +kernel
theorem dX5_tryName_71 : decode cX5_tryName 71 = .ok (.invokevirtual 40, 3) := by decide +kernel
theorem dX5_tryName_74 : decode cX5_tryName 74 = .ok (.astore 10, 2) := by decide +kernel
theorem dX5_tryName_76 : decode cX5_tryName 76 = .ok (.aload 10, 2) := by decide +kernel
theorem dX5_tryName_78 : decode cX5_tryName 78 = .ok (.ifnull 34, 3) := by decide +kernel
theorem dX5_tryName_81 : decode cX5_tryName 81 = .ok (.aload 10, 2) := by decide +kernel
theorem dX5_tryName_83 : decode cX5_tryName 83 = .ok (.getfield 44, 3) := by decide +kernel
theorem dX5_tryName_86 : decode cX5_tryName 86 = .ok (.iload_n 3, 1) := by decide +kernel
theorem dX5_tryName_87 : decode cX5_tryName 87 = .ok (.if_icmp .ne 25, 3) := by decide +kernel
theorem dX5_tryName_90 : decode cX5_tryName 90 = .ok (.iload 8, 2) := by decide +kernel
theorem dX5_tryName_92 : decode cX5_tryName 92 = .ok (.aload_n 0, 1) := by decide +kernel
theorem dX5_tryName_93 : decode cX5_tryName 93 = .ok (.aload_n 1, 1) := by decide +kernel
theorem dX5_tryName_94 : decode cX5_tryName 94 = .ok (.aload_n 2, 1) := by decide +kernel
theorem dX5_tryName_95 : decode cX5_tryName 95 = .ok (.aload 10, 2) := by decide +kernel
theorem dX5_tryName_97 : decode cX5_tryName 97 = .ok (.iload 4, 2) := by decide +kernel
theorem dX5_tryName_99 : decode cX5_tryName 99 = .ok (.iload 5, 2) := by decide +kernel
theorem dX5_tryName_101 : decode cX5_tryName 101 = .ok (.iload 6, 2) := by decide +kernel
theorem dX5_tryName_103 : decode cX5_tryName 103 = .ok (.invokevirtual 49, 3) := by decide +kernel
theorem dX5_tryName_106 : decode cX5_tryName 106 = .ok (.iadd, 1) := by decide +kernel
theorem dX5_tryName_107 : decode cX5_tryName 107 = .ok (.invokestatic 53, 3) := by decide +kernel
theorem dX5_tryName_110 : decode cX5_tryName 110 = .ok (.istore 8, 2) := by decide +kernel
theorem dX5_tryName_112 : decode cX5_tryName 112 = .ok (.iinc 9 1, 3) := by decide +kernel
theorem dX5_tryName_115 : decode cX5_tryName 115 = .ok (.goto (-56), 3) := by decide +kernel
theorem dX5_tryName_118 : decode cX5_tryName 118 = .ok (.aload_n 0, 1) := by decide +kernel
theorem dX5_tryName_119 : decode cX5_tryName 119 = .ok (.getfield 9, 3) := by decide +kernel
theorem dX5_tryName_122 : decode cX5_tryName 122 = .ok (.iload 7, 2) := by decide +kernel
theorem dX5_tryName_124 : decode cX5_tryName 124 = .ok (.iload 8, 2) := by decide +kernel
theorem dX5_tryName_126 : decode cX5_tryName 126 = .ok (.iastore, 1) := by decide +kernel
theorem dX5_tryName_127 : decode cX5_tryName 127 = .ok (.iload 8, 2) := by decide +kernel
theorem dX5_tryName_129 : decode cX5_tryName 129 = .ok (.ireturn, 1) := by decide +kernel
theorem dX5_tryRule_0 : decode cX5_tryRule 0 = .ok (.aload_n 3, 1) := by decide +kernel
theorem dX5_tryRule_1 : decode cX5_tryRule 1 = .ok (.getfield 57, 3) := by decide +kernel
theorem dX5_tryRule_4 : decode cX5_tryRule 4 = .ok (.iconst (-1), 1) := by decide +kernel
theorem dX5_tryRule_5 : decode cX5_tryRule 5 = .ok (.if_icmp .ne 20, 3) := by decide +kernel
theorem dX5_tryRule_8 : decode cX5_tryRule 8 = .ok (.aload_n 0, 1) := by decide +kernel
theorem dX5_tryRule_9 : decode cX5_tryRule 9 = .ok (.aload_n 1, 1) := by decide +kernel
theorem dX5_tryRule_10 : decode cX5_tryRule 10 = .ok (.aload_n 2, 1) := by decide +kernel
theorem dX5_tryRule_11 : decode cX5_tryRule 11 = .ok (.aload_n 3, 1) := by decide +kernel
theorem dX5_tryRule_12 : decode cX5_tryRule 12 = .ok (.getfield 60, 3) := by decide +kernel
theorem dX5_tryRule_15 : decode cX5_tryRule 15 = .ok (.iload 4, 2) := by decide +kernel
theorem dX5_tryRule_17 : decode cX5_tryRule 17 = .ok (.iload 5, 2) := by decide +kernel
theorem dX5_tryRule_19 : decode cX5_tryRule 19 = .ok (.iload 6, 2) := by decide +kernel
theorem dX5_tryRule_21 : decode cX5_tryRule 21 = .ok (.invokevirtual 63, 3) := by decide +kernel
theorem dX5_tryRule_24 : decode cX5_tryRule 24 = .ok (.ireturn, 1) := by decide +kernel
theorem dX5_tryRule_25 : decode cX5_tryRule 25 = .ok (.iconst 0, 1) := by decide +kernel
theorem dX5_tryRule_26 : decode cX5_tryRule 26 = .ok (.istore 7, 2) := by decide +kernel
theorem dX5_tryRule_28 : decode cX5_tryRule 28 = .ok (.iload 4, 2) := by decide +kernel
theorem dX5_tryRule_30 : decode cX5_tryRule 30 = .ok (.istore 8, 2) := by decide +kernel
theorem dX5_tryRule_32 : decode cX5_tryRule 32 = .ok (.iload 8, 2) := by decide +kernel
theorem dX5_tryRule_34 : decode cX5_tryRule 34 = .ok (.iload 5, 2) := by decide +kernel
theorem dX5_tryRule_36 : decode cX5_tryRule 36 = .ok (.if_icmp .ge 61, 3) := by decide +kernel
theorem dX5_tryRule_39 : decode cX5_tryRule 39 = .ok (.aload_n 0, 1) := by decide +kernel
theorem dX5_tryRule_40 : decode cX5_tryRule 40 = .ok (.aload_n 1, 1) := by decide +kernel
theorem dX5_tryRule_41 : decode cX5_tryRule 41 = .ok (.aload_n 2, 1) := by decide +kernel
theorem dX5_tryRule_42 : decode cX5_tryRule 42 = .ok (.aload_n 3, 1) := by decide +kernel
theorem dX5_tryRule_43 : decode cX5_tryRule 43 = .ok (.getfield 60, 3) := by decide +kernel
theorem dX5_tryRule_46 : decode cX5_tryRule 46 = .ok (.iload 4, 2) := by decide +kernel
theorem dX5_tryRule_48 : decode cX5_tryRule 48 = .ok (.iload 8, 2) := by decide +kernel
theorem dX5_tryRule_50 : decode cX5_tryRule 50 = .ok (.iload 6, 2) := by decide +kernel
theorem dX5_tryRule_52 : decode cX5_tryRule 52 = .ok (.invokevirtual 63, 3) := by decide +kernel
theorem dX5_tryRule_55 : decode cX5_tryRule 55 = .ok (.istore 9, 2) := by decide +kernel
theorem dX5_tryRule_57 : decode cX5_tryRule 57 = .ok (.iload 9, 2) := by decide +kernel
theorem dX5_tryRule_59 : decode cX5_tryRule 59 = .ok (.ifCond .le 32, 3) := by decide +kernel
theorem dX5_tryRule_62 : decode cX5_tryRule 62 = .ok (.iload 7, 2) := by decide +kernel
theorem dX5_tryRule_64 : decode cX5_tryRule 64 = .ok (.iload 9, 2) := by decide +kernel
theorem dX5_tryRule_66 : decode cX5_tryRule 66 = .ok (.aload_n 0, 1) := by decide +kernel
theorem dX5_tryRule_67 : decode cX5_tryRule 67 = .ok (.aload_n 1, 1) := by decide +kernel
theorem dX5_tryRule_68 : decode cX5_tryRule 68 = .ok (.aload_n 2, 1) := by decide +kernel
theorem dX5_tryRule_69 : decode cX5_tryRule 69 = .ok (.aload_n 3, 1) := by decide +kernel
theorem dX5_tryRule_70 : decode cX5_tryRule 70 = .ok (.iload 8, 2) := by decide +kernel
theorem dX5_tryRule_72 : decode cX5_tryRule 72 = .ok (.iconst 1, 1) := by decide +kernel
theorem dX5_tryRule_73 : decode cX5_tryRule 73 = .ok (.iadd, 1) := by decide +kernel
theorem dX5_tryRule_74 : decode cX5_tryRule 74 = .ok (.iload 5, 2) := by decide +kernel
theorem dX5_tryRule_76 : decode cX5_tryRule 76 = .ok (.iload 6, 2) := by decide +kernel
theorem dX5_tryRule_78 : decode cX5_tryRule 78 = .ok (.invokevirtual 66, 3) := by decide +kernel
theorem dX5_tryRule_81 : decode cX5_tryRule 81 = .ok (.imul, 1) := by decide +kernel
theorem dX5_tryRule_82 : decode cX5_tryRule 82 = .ok (.invokestatic 53, 3) := by decide +kernel
theorem dX5_tryRule_85 : decode cX5_tryRule 85 = .ok (.iadd, 1) := by decide +kernel
theorem dX5_tryRule_86 : decode cX5_tryRule 86 = .ok (.invokestatic 53, 3) := by decide +kernel
theorem dX5_tryRule_89 : decode cX5_tryRule 89 = .ok (.istore 7, 2) := by decide +kernel
theorem dX5_tryRule_91 : decode cX5_tryRule 91 = .ok (.iinc 8 1, 3) := by decide +kernel
theorem dX5_tryRule_94 : decode cX5_tryRule 94 = .ok (.goto (-62), 3) := by decide +kernel
theorem dX5_tryRule_97 : decode cX5_tryRule 97 = .ok (.iload 7, 2) := by decide +kernel
theorem dX5_tryRule_99 : decode cX5_tryRule 99 = .ok (.ireturn, 1) := by decide +kernel
theorem dX5_tryBehindFirst_0 : decode cX5_tryBehindFirst 0 = .ok (.aload_n 3, 1) := by decide +kernel
theorem dX5_tryBehindFirst_1 : decode cX5_tryBehindFirst 1 = .ok (.getfield 69, 3) := by decide +kernel
theorem dX5_tryBehindFirst_4 : decode cX5_tryBehindFirst 4 = .ok (.iconst (-1), 1) := by decide +kernel
theorem dX5_tryBehindFirst_5 : decode cX5_tryBehindFirst 5 = .ok (.if_icmp .ne 20, 3) := by decide +kernel
theorem dX5_tryBehindFirst_8 : decode cX5_tryBehindFirst 8 = .ok (.aload_n 0, 1) := by decide +kernel
theorem dX5_tryBehindFirst_9 : decode cX5_tryBehindFirst 9 = .ok (.aload_n 1, 1) := by decide +kernel
theorem dX5_tryBehindFirst_10 : decode cX5_tryBehindFirst 10 = .ok (.aload_n 2, 1) := by decide +kernel
theorem dX5_tryBehindFirst_11 : decode cX5_tryBehindFirst 11 = .ok (.aload_n 3, 1) := by decide +kernel
theorem dX5_tryBehindFirst_12 : decode cX5_tryBehindFirst 12 = .ok (.getfield 57, 3) := by decide +kernel
theorem dX5_tryBehindFirst_15 : decode cX5_tryBehindFirst 15 = .ok (.iload 4, 2) := by decide +kernel
theorem dX5_tryBehindFirst_17 : decode cX5_tryBehindFirst 17 = .ok (.iload 5, 2) := by decide +kernel
theorem dX5_tryBehindFirst_19 : decode cX5_tryBehindFirst 19 = .ok (.iload 6, 2) := by decide +kernel
theorem dX5_tryBehindFirst_21 : decode cX5_tryBehindFirst 21 = .ok (.invokevirtual 63, 3) := by decide +kernel
theorem dX5_tryBehindFirst_24 : decode cX5_tryBehindFirst 24 = .ok (.ireturn, 1) := by decide +kernel
theorem dX5_tryBehindFirst_25 : decode cX5_tryBehindFirst 25 = .ok (.iconst 0, 1) := by decide +kernel
theorem dX5_tryBehindFirst_26 : decode cX5_tryBehindFirst 26 = .ok (.istore 7, 2) := by decide +kernel
theorem dX5_tryBehindFirst_28 : decode cX5_tryBehindFirst 28 = .ok (.iload 4, 2) := by decide +kernel
theorem dX5_tryBehindFirst_30 : decode cX5_tryBehindFirst 30 = .ok (.istore 8, 2) := by decide +kernel
theorem dX5_tryBehindFirst_32 : decode cX5_tryBehindFirst 32 = .ok (.iload 8, 2) := by decide +kernel
theorem dX5_tryBehindFirst_34 : decode cX5_tryBehindFirst 34 = .ok (.iload 5, 2) := by decide +kernel
theorem dX5_tryBehindFirst_36 : decode cX5_tryBehindFirst 36 = .ok (.if_icmp .ge 64, 3) := by decide +kernel
theorem dX5_tryBehindFirst_39 : decode cX5_tryBehindFirst 39 = .ok (.aload_n 0, 1) := by decide +kernel
theorem dX5_tryBehindFirst_40 : decode cX5_tryBehindFirst 40 = .ok (.aload_n 1, 1) := by decide +kernel
theorem dX5_tryBehindFirst_41 : decode cX5_tryBehindFirst 41 = .ok (.aload_n 2, 1) := by decide +kernel
theorem dX5_tryBehindFirst_42 : decode cX5_tryBehindFirst 42 = .ok (.aload_n 3, 1) := by decide +kernel
theorem dX5_tryBehindFirst_43 : decode cX5_tryBehindFirst 43 = .ok (.getfield 57, 3) := by decide +kernel
theorem dX5_tryBehindFirst_46 : decode cX5_tryBehindFirst 46 = .ok (.iload 4, 2) := by decide +kernel
theorem dX5_tryBehindFirst_48 : decode cX5_tryBehindFirst 48 = .ok (.iload 8, 2) := by decide +kernel
theorem dX5_tryBehindFirst_50 : decode cX5_tryBehindFirst 50 = .ok (.iload 6, 2) := by decide +kernel
theorem dX5_tryBehindFirst_52 : decode cX5_tryBehindFirst 52 = .ok (.invokevirtual 63, 3) := by decide +kernel
theorem dX5_tryBehindFirst_55 : decode cX5_tryBehindFirst 55 = .ok (.istore 9, 2) := by decide +kernel
theorem dX5_tryBehindFirst_57 : decode cX5_tryBehindFirst 57 = .ok (.iload 9, 2) := by decide +kernel
theorem dX5_tryBehindFirst_59 : decode cX5_tryBehindFirst 59 = .ok (.ifCond .le 35, 3) := by decide +kernel
theorem dX5_tryBehindFirst_62 : decode cX5_tryBehindFirst 62 = .ok (.iload 7, 2) := by decide +kernel
theorem dX5_tryBehindFirst_64 : decode cX5_tryBehindFirst 64 = .ok (.iload 9, 2) := by decide +kernel
theorem dX5_tryBehindFirst_66 : decode cX5_tryBehindFirst 66 = .ok (.aload_n 0, 1) := by decide +kernel
theorem dX5_tryBehindFirst_67 : decode cX5_tryBehindFirst 67 = .ok (.aload_n 1, 1) := by decide +kernel
theorem dX5_tryBehindFirst_68 : decode cX5_tryBehindFirst 68 = .ok (.aload_n 2, 1) := by decide +kernel
theorem dX5_tryBehindFirst_69 : decode cX5_tryBehindFirst 69 = .ok (.aload_n 3, 1) := by decide +kernel
theorem dX5_tryBehindFirst_70 : decode cX5_tryBehindFirst 70 = .ok (.getfield 69, 3) := by decide +kernel
theorem dX5_tryBehindFirst_73 : decode cX5_tryBehindFirst 73 = .ok (.iload 8, 2) := by decide +kernel
theorem dX5_tryBehindFirst_75 : decode cX5_tryBehindFirst 75 = .ok (.iconst 1, 1) := by decide +kernel
theorem dX5_tryBehindFirst_76 : decode cX5_tryBehindFirst 76 = .ok (.iadd, 1) := by decide +kernel
theorem dX5_tryBehindFirst_77 : decode cX5_tryBehindFirst 77 = .ok (.iload 5, 2) := by decide +kernel
theorem dX5_tryBehindFirst_79 : decode cX5_tryBehindFirst 79 = .ok (.iload 6, 2) := by decide +kernel
theorem dX5_tryBehindFirst_81 : decode cX5_tryBehindFirst 81 = .ok (.invokevirtual 63, 3) := by decide +kernel
theorem dX5_tryBehindFirst_84 : decode cX5_tryBehindFirst 84 = .ok (.imul, 1) := by decide +kernel
theorem dX5_tryBehindFirst_85 : decode cX5_tryBehindFirst 85 = .ok (.invokestatic 53, 3) := by decide +kernel
theorem dX5_tryBehindFirst_88 : decode cX5_tryBehindFirst 88 = .ok (.iadd, 1) := by decide +kernel
theorem dX5_tryBehindFirst_89 : decode cX5_tryBehindFirst 89 = .ok (.invokestatic 53, 3) := by decide +kernel
theorem dX5_tryBehindFirst_92 : decode cX5_tryBehindFirst 92 = .ok (.istore 7, 2) := by decide +kernel
theorem dX5_tryBehindFirst_94 : decode cX5_tryBehindFirst 94 = .ok (.iinc 8 1, 3) := by decide +kernel
theorem dX5_tryBehindFirst_97 : decode cX5_tryBehindFirst 97 = .ok (.goto (-65), 3) := by decide +kernel
theorem dX5_tryBehindFirst_100 : decode cX5_tryBehindFirst 100 = .ok (.iload 7, 2) := by decide +kernel
theorem dX5_tryBehindFirst_102 : decode cX5_tryBehindFirst 102 = .ok (.ireturn, 1) := by decide +kernel
theorem dX5_tryPart_0 : decode cX5_tryPart 0 = .ok (.iload_n 3, 1) := by decide +kernel
theorem dX5_tryPart_1 : decode cX5_tryPart 1 = .ok (.invokestatic 72, 3) := by decide +kernel
theorem dX5_tryPart_4 : decode cX5_tryPart 4 = .ok (.ifCond .eq 13, 3) := by decide +kernel
theorem dX5_tryPart_7 : decode cX5_tryPart 7 = .ok (.aload_n 2, 1) := by decide +kernel
theorem dX5_tryPart_8 : decode cX5_tryPart 8 = .ok (.iload_n 3, 1) := by decide +kernel
theorem dX5_tryPart_9 : decode cX5_tryPart 9 = .ok (.iload 4, 2) := by decide +kernel
theorem dX5_tryPart_11 : decode cX5_tryPart 11 = .ok (.iload 5, 2) := by decide +kernel
theorem dX5_tryPart_13 : decode cX5_tryPart 13 = .ok (.invokevirtual 76, 3) := by decide +kernel
theorem dX5_tryPart_16 : decode cX5_tryPart 16 = .ok (.ireturn, 1) := by decide +kernel
theorem dX5_tryPart_17 : decode cX5_tryPart 17 = .ok (.aload_n 0, 1) := by decide +kernel
theorem dX5_tryPart_18 : decode cX5_tryPart 18 = .ok (.aload_n 1, 1) := by decide +kernel
theorem dX5_tryPart_19 : decode cX5_tryPart 19 = .ok (.aload_n 2, 1) := by decide +kernel
theorem dX5_tryPart_20 : decode cX5_tryPart 20 = .ok (.iload_n 3, 1) := by decide +kernel
theorem dX5_tryPart_21 : decode cX5_tryPart 21 = .ok (.iload 4, 2) := by decide +kernel
theorem dX5_tryPart_23 : decode cX5_tryPart 23 = .ok (.iload 5, 2) := by decide +kernel
theorem dX5_tryPart_25 : decode cX5_tryPart 25 = .ok (.iload 6, 2) := by decide +kernel
theorem dX5_tryPart_27 : decode cX5_tryPart 27 = .ok (.iconst 1, 1) := by decide +kernel
theorem dX5_tryPart_28 : decode cX5_tryPart 28 = .ok (.iadd, 1) := by decide +kernel
theorem dX5_tryPart_29 : decode cX5_tryPart 29 = .ok (.invokevirtual 27, 3) := by decide +kernel
theorem dX5_tryPart_32 : decode cX5_tryPart 32 = .ok (.ireturn, 1) := by decide +kernel
theorem dX6_init_0 : decode cX6_init 0 = .ok (.aload_n 0, 1) := by decide +kernel
theorem dX6_init_1 : decode cX6_init 1 = .ok (.invokespecial 3, 3) := by decide +kernel
theorem dX6_init_4 : decode cX6_init 4 = .ok (.aload_n 0, 1) := by decide +kernel
theorem dX6_init_5 : decode cX6_init 5 = .ok (.new 9, 3) := by decide +kernel
theorem dX6_init_8 : decode cX6_init 8 = .ok (.dup, 1) := by decide +kernel
theorem dX6_init_9 : decode cX6_init 9 = .ok (.invokespecial 11, 3) := by decide +kernel
theorem dX6_init_12 : decode cX6_init 12 = .ok (.putfield 12, 3) := by decide +kernel
theorem dX6_init_15 : decode cX6_init 15 = .ok (.aload_n 0, 1) := by decide +kernel
theorem dX6_init_16 : decode cX6_init 16 = .ok (.bipush 6, 2) := by decide +kernel
theorem dX6_init_18 : decode cX6_init 18 = .ok (.anewarray 16, 3) := by decide +kernel
theorem dX6_init_21 : decode cX6_init 21 = .ok (.putfield 18, 3) := by decide +kernel
theorem dX6_init_24 : decode cX6_init 24 = .ok (.aload_n 0, 1) := by decide +kernel
theorem dX6_init_25 : decode cX6_init 25 = .ok (.new 22, 3) := by decide +kernel
theorem dX6_init_28 : decode cX6_init 28 = .ok (.dup, 1) := by decide +kernel
theorem dX6_init_29 : decode cX6_init 29 = .ok (.invokespecial 24, 3) := by decide +kernel
theorem dX6_init_32 : decode cX6_init 32 = .ok (.putfield 25, 3) := by decide +kernel
theorem dX6_init_35 : decode cX6_init 35 = .ok (.aload_n 0, 1) := by decide +kernel
theorem dX6_init_36 : decode cX6_init 36 = .ok (.new 29, 3) := by decide +kernel
theorem dX6_init_39 : decode cX6_init 39 = .ok (.dup, 1) := by decide +kernel
theorem dX6_init_40 : decode cX6_init 40 = .ok (.invokespecial 31, 3) := by decide +kernel
theorem dX6_init_43 : decode cX6_init 43 = .ok (.putfield 32, 3) := by decide +kernel
theorem dX6_init_46 : decode cX6_init 46 = .ok (.aload_n 0, 1) := by decide +kernel
theorem dX6_init_47 : decode cX6_init 47 = .ok (.new 36, 3) := by decide +kernel
theorem dX6_init_50 : decode cX6_init 50 = .ok (.dup, 1) := by decide +kernel
theorem dX6_init_51 : decode cX6_init 51 = .ok (.invokespecial 38, 3) := by decide +kernel
theorem dX6_init_54 : decode cX6_init 54 = .ok (.putfield 39, 3) := by decide +kernel
theorem dX6_init_57 : decode cX6_init 57 = .ok (.aload_n 0, 1) := by decide +kernel
theorem dX6_init_58 : decode cX6_init 58 = .ok (.iconst 0, 1) := by decide +kernel
theorem dX6_init_59 : decode cX6_init 59 = .ok (.putfield 43, 3) := by decide +kernel
theorem dX6_init_62 : decode cX6_init 62 = .ok (.aload_n 0, 1) := by decide +kernel
theorem dX6_init_63 : decode cX6_init 63 = .ok (.iconst 0, 1) := by decide +kernel
theorem dX6_init_64 : decode cX6_init 64 = .ok (.putfield 47, 3) := by decide +kernel
theorem dX6_init_67 : decode cX6_init 67 = .ok (.aload_n 0, 1) := by decide +kernel
theorem dX6_init_68 : decode cX6_init 68 = .ok (.lconst 0, 1) := by decide +kernel
theorem dX6_init_69 : decode cX6_init 69 = .ok (.putfield 50, 3) := by decide +kernel
theorem dX6_init_72 : decode cX6_init 72 = .ok (.return_, 1) := by decide +kernel
theorem dX6_addRule_0 : decode cX6_addRule 0 = .ok (.iload_n 1, 1) := by decide +kernel
theorem dX6_addRule_1 : decode cX6_addRule 1 = .ok (.iload_n 2, 1) := by decide +kernel
theorem dX6_addRule_2 : decode cX6_addRule 2 = .ok (.iload_n 3, 1) := by decide +kernel
theorem dX6_addRule_3 : decode cX6_addRule 3 = .ok (.iload 4, 2) := by decide +kernel
theorem dX6_addRule_5 : decode cX6_addRule 5 = .ok (.invokestatic 54, 3) := by decide +kernel
theorem dX6_addRule_8 : decode cX6_addRule 8 = .ok (.ifCond .ne 11, 3) := by decide +kernel
theorem dX6_addRule_11 : decode cX6_addRule 11 = .ok (.new 58, 3) := by decide +kernel
theorem dX6_addRule_14 : decode cX6_addRule 14 = .ok (.dup, 1) := by decide +kernel
theorem dX6_addRule_15 : decode cX6_addRule 15 = .ok (.invokespecial 60, 3) := by decide +kernel
theorem dX6_addRule_18 : decode cX6_addRule 18 = .ok (.athrow, 1) := by decide +kernel
theorem dX6_addRule_19 : decode cX6_addRule 19 = .ok (.aload_n 0, 1) := by decide +kernel
theorem dX6_addRule_20 : decode cX6_addRule 20 = .ok (.getfield 12, 3) := by decide +kernel
theorem dX6_addRule_23 : decode cX6_addRule 23 = .ok (.invokevirtual 61, 3) := by decide +kernel
theorem dX6_addRule_26 : decode cX6_addRule 26 = .ok (.ifCond .ne 11, 3) := by decide +kernel
theorem dX6_addRule_29 : decode cX6_addRule 29 = .ok (.new 65, 3) := by decide +kernel
theorem dX6_addRule_32 : decode cX6_addRule 32 = .ok (.dup, 1) := by decide +kernel
theorem dX6_addRule_33 : decode cX6_addRule 33 = .ok (.invokespecial 67, 3) := by decide +kernel
theorem dX6_addRule_36 : decode cX6_addRule 36 = .ok (.athrow, 1) := by decide +kernel
theorem dX6_addRule_37 : decode cX6_addRule 37 = .ok (.new 68, 3) := by decide +kernel
theorem dX6_addRule_40 : decode cX6_addRule 40 = .ok (.dup, 1) := by decide +kernel
theorem dX6_addRule_41 : decode cX6_addRule 41 = .ok (.aload_n 0, 1) := by decide +kernel
theorem dX6_addRule_42 : decode cX6_addRule 42 = .ok (.getfield 12, 3) := by decide +kernel
theorem dX6_addRule_45 : decode cX6_addRule 45 = .ok (.getfield 70, 3) := by decide +kernel
theorem dX6_addRule_48 : decode cX6_addRule 48 = .ok (.iload_n 1, 1) := by decide +kernel
theorem dX6_addRule_49 : decode cX6_addRule 49 = .ok (.iload_n 2, 1) := by decide +kernel
theorem dX6_addRule_50 : decode cX6_addRule 50 = .ok (.iload_n 3, 1) := by decide +kernel
theorem dX6_addRule_51 : decode cX6_addRule 51 = .ok (.iload 4, 2) := by decide +kernel
theorem dX6_addRule_53 : decode cX6_addRule 53 = .ok (.invokespecial 73, 3) := by decide +kernel
theorem dX6_addRule_56 : decode cX6_addRule 56 = .ok (.astore 5, 2) := by decide +kernel
theorem dX6_addRule_58 : decode cX6_addRule 58 = .ok (.aload_n 0, 1) := by decide +kernel
theorem dX6_addRule_59 : decode cX6_addRule 59 = .ok (.getfield 12, 3) := by decide +kernel
theorem dX6_addRule_62 : decode cX6_addRule 62 = .ok (.aload 5, 2) := by decide +kernel
theorem dX6_addRule_64 : decode cX6_addRule 64 = .ok (.invokevirtual 76, 3) := by decide +kernel
theorem dX6_addRule_67 : decode cX6_addRule 67 = .ok (.aload_n 0, 1) := by decide +kernel
theorem dX6_addRule_68 : decode cX6_addRule 68 = .ok (.aload 5, 2) := by decide +kernel
theorem dX6_addRule_70 : decode cX6_addRule 70 = .ok (.invokevirtual 80, 3) := by decide +kernel
theorem dX6_addRule_73 : decode cX6_addRule 73 = .ok (.pop, 1) := by decide +kernel
theorem dX6_addRule_74 : decode cX6_addRule 74 = .ok (.aload 5, 2) := by decide +kernel
theorem dX6_addRule_76 : decode cX6_addRule 76 = .ok (.getfield 84, 3) := by decide +kernel
theorem dX6_addRule_79 : decode cX6_addRule 79 = .ok (.ireturn, 1) := by decide +kernel
theorem dX6_dropRule_0 : decode cX6_dropRule 0 = .ok (.aload_n 0, 1) := by decide +kernel
theorem dX6_dropRule_1 : decode cX6_dropRule 1 = .ok (.iload_n 1, 1) := by decide +kernel
theorem dX6_dropRule_2 : decode cX6_dropRule 2 = .ok (.invokevirtual 87, 3) := by decide +kernel
theorem dX6_dropRule_5 : decode cX6_dropRule 5 = .ok (.astore_n 2, 1) := by decide +kernel
theorem dX6_dropRule_6 : decode cX6_dropRule 6 = .ok (.aload_n 2, 1) := by decide +kernel
theorem dX6_dropRule_7 : decode cX6_dropRule 7 = .ok (.iconst 1, 1) := by decide +kernel
theorem dX6_dropRule_8 : decode cX6_dropRule 8 = .ok (.putfield 91, 3) := by decide +kernel
theorem dX6_dropRule_11 : decode cX6_dropRule 11 = .ok (.aload_n 0, 1) := by decide +kernel
theorem dX6_dropRule_12 : decode cX6_dropRule 12 = .ok (.aload_n 2, 1) := by decide +kernel
theorem dX6_dropRule_13 : decode cX6_dropRule 13 = .ok (.invokevirtual 80, 3) := by decide +kernel
theorem dX6_dropRule_16 : decode cX6_dropRule 16 = .ok (.ireturn, 1) := by decide +kernel
theorem dX6_setRank_0 : decode cX6_setRank 0 = .ok (.aload_n 0, 1) := by decide +kernel
theorem dX6_setRank_1 : decode cX6_setRank 1 = .ok (.iload_n 1, 1) := by decide +kernel
theorem dX6_setRank_2 : decode cX6_setRank 2 = .ok (.invokevirtual 87, 3) := by decide +kernel
theorem dX6_setRank_5 : decode cX6_setRank 5 = .ok (.astore_n 3, 1) := by decide +kernel
theorem dX6_setRank_6 : decode cX6_setRank 6 = .ok (.iload_n 2, 1) := by decide +kernel
theorem dX6_setRank_7 : decode cX6_setRank 7 = .ok (.iconst 0, 1) := by decide +kernel
theorem dX6_setRank_8 : decode cX6_setRank 8 = .ok (.bipush 9, 2) := by decide +kernel
theorem dX6_setRank_10 : decode cX6_setRank 10 = .ok (.invokestatic 95, 3) := by decide +kernel
theorem dX6_setRank_13 : decode cX6_setRank 13 = .ok (.ifCond .ne 11, 3) := by decide +kernel
theorem dX6_setRank_16 : decode cX6_setRank 16 = .ok (.new 58, 3) := by decide +kernel
theorem dX6_setRank_19 : decode cX6_setRank 19 = .ok (.dup, 1) := by decide +kernel
theorem dX6_setRank_20 : decode cX6_setRank 20 = .ok (.invokespecial 60, 3) := by decide +kernel
theorem dX6_setRank_23 : decode cX6_setRank 23 = .ok (.athrow, 1) := by decide +kernel
theorem dX6_setRank_24 : decode cX6_setRank 24 = .ok (.aload_n 3, 1) := by decide +kernel
theorem dX6_setRank_25 : decode cX6_setRank 25 = .ok (.getfield 99, 3) := by decide +kernel
theorem dX6_setRank_28 : decode cX6_setRank 28 = .ok (.istore 4, 2) := by decide +kernel
theorem dX6_setRank_30 : decode cX6_setRank 30 = .ok (.aload_n 3, 1) := by decide +kernel
theorem dX6_setRank_31 : decode cX6_setRank 31 = .ok (.iload_n 2, 1) := by decide +kernel
theorem dX6_setRank_32 : decode cX6_setRank 32 = .ok (.putfield 99, 3) := by decide +kernel
theorem dX6_setRank_35 : decode cX6_setRank 35 = .ok (.iload 4, 2) := by decide +kernel
theorem dX6_setRank_37 : decode cX6_setRank 37 = .ok (.ireturn, 1) := by decide +kernel
theorem dX6_setStyle_0 : decode cX6_setStyle 0 = .ok (.aload_n 0, 1) := by decide +kernel
theorem dX6_setStyle_1 : decode cX6_setStyle 1 = .ok (.iload_n 1, 1) := by decide +kernel
theorem dX6_setStyle_2 : decode cX6_setStyle 2 = .ok (.invokevirtual 87, 3) := by decide +kernel
theorem dX6_setStyle_5 : decode cX6_setStyle 5 = .ok (.astore 4, 2) := by decide +kernel
theorem dX6_setStyle_7 : decode cX6_setStyle 7 = .ok (.iload_n 2, 1) := by decide +kernel
theorem dX6_setStyle_8 : decode cX6_setStyle 8 = .ok (.iconst 0, 1) := by decide +kernel
theorem dX6_setStyle_9 : decode cX6_setStyle 9 = .ok (.bipush 9, 2) := by decide +kernel
theorem dX6_setStyle_11 : decode cX6_setStyle 11 = .ok (.invokestatic 95, 3) := by decide +kernel
theorem dX6_setStyle_14 : decode cX6_setStyle 14 = .ok (.ifCond .eq 12, 3) := by decide +kernel
theorem dX6_setStyle_17 : decode cX6_setStyle 17 = .ok (.iload_n 3, 1) := by decide +kernel
theorem dX6_setStyle_18 : decode cX6_setStyle 18 = .ok (.iconst 0, 1) := by decide +kernel
theorem dX6_setStyle_19 : decode cX6_setStyle 19 = .ok (.iconst 3, 1) := by decide +kernel
theorem dX6_setStyle_20 : decode cX6_setStyle 20 = .ok (.invokestatic 95, 3) := by decide +kernel
theorem dX6_setStyle_23 : decode cX6_setStyle 23 = .ok (.ifCond .ne 11, 3) := by decide +kernel
theorem dX6_setStyle_26 : decode cX6_setStyle 26 = .ok (.new 58, 3) := by decide +kernel
theorem dX6_setStyle_29 : decode cX6_setStyle 29 = .ok (.dup, 1) := by decide +kernel
theorem dX6_setStyle_30 : decode cX6_setStyle 30 = .ok (.invokespecial 60, 3) := by decide +kernel
theorem dX6_setStyle_33 : decode cX6_setStyle 33 = .ok (.athrow, 1) := by decide +kernel
theorem dX6_setStyle_34 : decode cX6_setStyle 34 = .ok (.bipush 10, 2) := by decide +kernel
theorem dX6_setStyle_36 : decode cX6_setStyle 36 = .ok (.aload 4, 2) := by decide +kernel
theorem dX6_setStyle_38 : decode cX6_setStyle 38 = .ok (.getfield 102, 3) := by decide +kernel
theorem dX6_setStyle_41 : decode cX6_setStyle 41 = .ok (.imul, 1) := by decide +kernel
theorem dX6_setStyle_42 : decode cX6_setStyle 42 = .ok (.aload 4, 2) := by decide +kernel
theorem dX6_setStyle_44 : decode cX6_setStyle 44 = .ok (.getfield 105, 3) := by decide +kernel
theorem dX6_setStyle_47 : decode cX6_setStyle 47 = .ok (.iadd, 1) := by decide +kernel
theorem dX6_setStyle_48 : decode cX6_setStyle 48 = .ok (.istore 5, 2) := by decide +kernel
theorem dX6_setStyle_50 : decode cX6_setStyle 50 = .ok (.aload 4, 2) := by decide +kernel
theorem dX6_setStyle_52 : decode cX6_setStyle 52 = .ok (.iload_n 2, 1) := by decide +kernel
theorem dX6_setStyle_53 : decode cX6_setStyle 53 = .ok (.putfield 102, 3) := by decide +kernel
theorem dX6_setStyle_56 : decode cX6_setStyle 56 = .ok (.aload 4, 2) := by decide +kernel
theorem dX6_setStyle_58 : decode cX6_setStyle 58 = .ok (.iload_n 3, 1) := by decide +kernel
theorem dX6_setStyle_59 : decode cX6_setStyle 59 = .ok (.putfield 105, 3) := by decide +kernel
theorem dX6_setStyle_62 : decode cX6_setStyle 62 = .ok (.iload 5, 2) := by decide +kernel
theorem dX6_setStyle_64 : decode cX6_setStyle 64 = .ok (.ireturn, 1) := by decide +kernel
theorem dX6_rules_0 : decode cX6_rules 0 = .ok (.aload_n 0, 1) := by decide +kernel
theorem dX6_rules_1 : decode cX6_rules 1 = .ok (.getfield 12, 3) := by decide +kernel
theorem dX6_rules_4 : decode cX6_rules 4 = .ok (.invokevirtual 108, 3) := by decide +kernel
theorem dX6_rules_7 : decode cX6_rules 7 = .ok (.ireturn, 1) := by decide +kernel
theorem dX6_addText_0 : decode cX6_addText 0 = .ok (.iload_n 1, 1) := by decide +kernel
theorem dX6_addText_1 : decode cX6_addText 1 = .ok (.invokestatic 112, 3) := by decide +kernel
theorem dX6_addText_4 : decode cX6_addText 4 = .ok (.aload_n 0, 1) := by decide +kernel
theorem dX6_addText_5 : decode cX6_addText 5 = .ok (.getfield 43, 3) := by decide +kernel
theorem dX6_addText_8 : decode cX6_addText 8 = .ok (.ifCond .lt 15, 3) := by decide +kernel
theorem dX6_addText_11 : decode cX6_addText 11 = .ok (.aload_n 0, 1) := by decide +kernel
theorem dX6_addText_12 : decode cX6_addText 12 = .ok (.getfield 43, 3) := by decide +kernel
theorem dX6_addText_15 : decode cX6_addText 15 = .ok (.aload_n 0, 1) := by decide +kernel
theorem dX6_addText_16 : decode cX6_addText 16 = .ok (.getfield 18, 3) := by decide +kernel
theorem dX6_addText_19 : decode cX6_addText 19 = .ok (.arraylength, 1) := by decide +kernel
theorem dX6_addText_20 : decode cX6_addText 20 = .ok (.if_icmp .lt 11, 3) := by decide +kernel
theorem dX6_addText_23 : decode cX6_addText 23 = .ok (.new 65, 3) := by decide +kernel
theorem dX6_addText_26 : decode cX6_addText 26 = .ok (.dup, 1) := by decide +kernel
theorem dX6_addText_27 : decode cX6_addText 27 = .ok (.invokespecial 67, 3) := by decide +kernel
theorem dX6_addText_30 : decode cX6_addText 30 = .ok (.athrow, 1) := by decide +kernel
theorem dX6_addText_31 : decode cX6_addText 31 = .ok (.new 16, 3) := by decide +kernel
theorem dX6_addText_34 : decode cX6_addText 34 = .ok (.dup, 1) := by decide +kernel
theorem dX6_addText_35 : decode cX6_addText 35 = .ok (.invokespecial 116, 3) := by decide +kernel
theorem dX6_addText_38 : decode cX6_addText 38 = .ok (.astore_n 2, 1) := by decide +kernel
theorem dX6_addText_39 : decode cX6_addText 39 = .ok (.aload_n 2, 1) := by decide +kernel
theorem dX6_addText_40 : decode cX6_addText 40 = .ok (.getfield 117, 3) := by decide +kernel
theorem dX6_addText_43 : decode cX6_addText 43 = .ok (.iload_n 1, 1) := by decide +kernel
theorem dX6_addText_44 : decode cX6_addText 44 = .ok (.invokevirtual 120, 3) := by decide +kernel
theorem dX6_addText_47 : decode cX6_addText 47 = .ok (.aload_n 0, 1) := by decide +kernel
theorem dX6_addText_48 : decode cX6_addText 48 = .ok (.getfield 43, 3) := by decide +kernel
theorem dX6_addText_51 : decode cX6_addText 51 = .ok (.istore_n 3, 1) := by decide +kernel
theorem dX6_addText_52 : decode cX6_addText 52 = .ok (.aload_n 0, 1) := by decide +kernel
theorem dX6_addText_53 : decode cX6_addText 53 = .ok (.getfield 18, 3) := by decide +kernel
theorem dX6_addText_56 : decode cX6_addText 56 = .ok (.iload_n 3, 1) := by decide +kernel
theorem dX6_addText_57 : decode cX6_addText 57 = .ok (.aload_n 2, 1) := by decide +kernel
theorem dX6_addText_58 : decode cX6_addText 58 = .ok (.aastore, 1) := by decide +kernel
theorem dX6_addText_59 : decode cX6_addText 59 = .ok (.aload_n 0, 1) := by decide +kernel
theorem dX6_addText_60 : decode cX6_addText 60 = .ok (.dup, 1) := by decide +kernel
theorem dX6_addText_61 : decode cX6_addText 61 = .ok (.getfield 43, 3) := by decide +kernel
theorem dX6_addText_64 : decode cX6_addText 64 = .ok (.iconst 1, 1) := by decide +kernel
theorem dX6_addText_65 : decode cX6_addText 65 = .ok (.iadd, 1) := by decide +kernel
theorem dX6_addText_66 : decode cX6_addText 66 = .ok (.putfield 43, 3) := by decide +kernel
theorem dX6_addText_69 : decode cX6_addText 69 = .ok (.aload_n 0, 1) := by decide +kernel
theorem dX6_addText_70 : decode cX6_addText 70 = .ok (.dup, 1) := by decide +kernel
theorem dX6_addText_71 : decode cX6_addText 71 = .ok (.getfield 50, 3) := by decide +kernel
theorem dX6_addText_74 : decode cX6_addText 74 = .ok (.aload_n 2, 1) := by decide +kernel
theorem dX6_addText_75 : decode cX6_addText 75 = .ok (.getfield 117, 3) := by decide +kernel
theorem dX6_addText_78 : decode cX6_addText 78 = .ok (.aload_n 0, 1) := by decide +kernel
theorem dX6_addText_79 : decode cX6_addText 79 = .ok (.getfield 12, 3) := by decide +kernel
theorem dX6_addText_82 : decode cX6_addText 82 = .ok (.iconst 0, 1) := by decide +kernel
theorem dX6_addText_83 : decode cX6_addText 83 = .ok (.invokevirtual 123, 3) := by decide +kernel
theorem dX6_addText_86 : decode cX6_addText 86 = .ok (.i2l, 1) := by decide +kernel
theorem dX6_addText_87 : decode cX6_addText 87 = .ok (.ladd, 1) := by decide +kernel
theorem dX6_addText_88 : decode cX6_addText 88 = .ok (.putfield 50, 3) := by decide +kernel
theorem dX6_addText_91 : decode cX6_addText 91 = .ok (.iload_n 3, 1) := by decide +kernel
theorem dX6_addText_92 : decode cX6_addText 92 = .ok (.ireturn, 1) := by decide +kernel
theorem dX6_addLetter_0 : decode cX6_addLetter 0 = .ok (.aload_n 0, 1) := by decide +kernel
theorem dX6_addLetter_1 : decode cX6_addLetter 1 = .ok (.iload_n 1, 1) := by decide +kernel
theorem dX6_addLetter_2 : decode cX6_addLetter 2 = .ok (.invokevirtual 127, 3) := by decide +kernel
theorem dX6_addLetter_5 : decode cX6_addLetter 5 = .ok (.getfield 117, 3) := by decide +kernel
theorem dX6_addLetter_8 : decode cX6_addLetter 8 = .ok (.astore_n 3, 1) := by decide +kernel
theorem dX6_addLetter_9 : decode cX6_addLetter 9 = .ok (.iload_n 2, 1) := by decide +kernel
theorem dX6_addLetter_10 : decode cX6_addLetter 10 = .ok (.invokestatic 112, 3) := by decide +kernel
theorem dX6_addLetter_13 : decode cX6_addLetter 13 = .ok (.aload_n 3, 1) := by decide +kernel
theorem dX6_addLetter_14 : decode cX6_addLetter 14 = .ok (.getfield 131, 3) := by decide +kernel
theorem dX6_addLetter_17 : decode cX6_addLetter 17 = .ok (.bipush 10, 2) := by decide +kernel
theorem dX6_addLetter_19 : decode cX6_addLetter 19 = .ok (.if_icmp .lt 11, 3) := by decide +kernel
theorem dX6_addLetter_22 : decode cX6_addLetter 22 = .ok (.new 65, 3) := by decide +kernel
theorem dX6_addLetter_25 : decode cX6_addLetter 25 = .ok (.dup, 1) := by decide +kernel
theorem dX6_addLetter_26 : decode cX6_addLetter 26 = .ok (.invokespecial 67, 3) := by decide +kernel
theorem dX6_addLetter_29 : decode cX6_addLetter 29 = .ok (.athrow, 1) := by decide +kernel
theorem dX6_addLetter_30 : decode cX6_addLetter 30 = .ok (.aload_n 3, 1) := by decide +kernel
theorem dX6_addLetter_31 : decode cX6_addLetter 31 = .ok (.iload_n 2, 1) := by decide +kernel
theorem dX6_addLetter_32 : decode cX6_addLetter 32 = .ok (.invokevirtual 120, 3) := by decide +kernel
theorem dX6_addLetter_35 : decode cX6_addLetter 35 = .ok (.aload_n 0, 1) := by decide +kernel
theorem dX6_addLetter_36 : decode cX6_addLetter 36 = .ok (.dup, 1) := by decide +kernel
theorem dX6_addLetter_37 : decode cX6_addLetter 37 = .ok (.getfield 50, 3) := by decide +kernel
theorem dX6_addLetter_40 : decode cX6_addLetter 40 = .ok (.aload_n 3, 1) := by decide +kernel
theorem dX6_addLetter_41 : decode cX6_addLetter 41 = .ok (.aload_n 0, 1) := by decide +kernel
theorem dX6_addLetter_42 : decode cX6_addLetter 42 = .ok (.getfield 12, 3) := by decide +kernel
theorem dX6_addLetter_45 : decode cX6_addLetter 45 = .ok (.aload_n 3, 1) := by decide +kernel
theorem dX6_addLetter_46 : decode cX6_addLetter 46 = .ok (.getfield 131, 3) := by decide +kernel
theorem dX6_addLetter_49 : decode cX6_addLetter 49 = .ok (.iconst 1, 1) := by decide +kernel
theorem dX6_addLetter_50 : decode cX6_addLetter 50 = .ok (.isub, 1) := by decide +kernel
theorem dX6_addLetter_51 : decode cX6_addLetter 51 = .ok (.invokevirtual 123, 3) := by decide +kernel
theorem dX6_addLetter_54 : decode cX6_addLetter 54 = .ok (.i2l, 1) := by decide +kernel
theorem dX6_addLetter_55 : decode cX6_addLetter 55 = .ok (.ladd, 1) := by decide +kernel
theorem dX6_addLetter_56 : decode cX6_addLetter 56 = .ok (.putfield 50, 3) := by decide +kernel
theorem dX6_addLetter_59 : decode cX6_addLetter 59 = .ok (.aload_n 3, 1) := by decide +kernel
theorem dX6_addLetter_60 : decode cX6_addLetter 60 = .ok (.invokevirtual 134, 3) := by decide +kernel
theorem dX6_addLetter_63 : decode cX6_addLetter 63 = .ok (.ireturn, 1) := by decide +kernel
theorem dX6_replace_0 : decode cX6_replace 0 = .ok (.aload_n 0, 1) := by decide +kernel
theorem dX6_replace_1 : decode cX6_replace 1 = .ok (.iload_n 1, 1) := by decide +kernel
theorem dX6_replace_2 : decode cX6_replace 2 = .ok (.invokevirtual 127, 3) := by decide +kernel
theorem dX6_replace_5 : decode cX6_replace 5 = .ok (.getfield 117, 3) := by decide +kernel
theorem dX6_replace_8 : decode cX6_replace 8 = .ok (.astore 4, 2) := by decide +kernel
theorem dX6_replace_10 : decode cX6_replace 10 = .ok (.aload 4, 2) := by decide +kernel
theorem dX6_replace_12 : decode cX6_replace 12 = .ok (.iload_n 2, 1) := by decide +kernel
theorem dX6_replace_13 : decode cX6_replace 13 = .ok (.invokestatic 137, 3) := by decide +kernel
theorem dX6_replace_16 : decode cX6_replace 16 = .ok (.iload_n 3, 1) := by decide +kernel
theorem dX6_replace_17 : decode cX6_replace 17 = .ok (.invokestatic 112, 3) := by decide +kernel
theorem dX6_replace_20 : decode cX6_replace 20 = .ok (.aload 4, 2) := by decide +kernel
theorem dX6_replace_22 : decode cX6_replace 22 = .ok (.iload_n 2, 1) := by decide +kernel
theorem dX6_replace_23 : decode cX6_replace 23 = .ok (.iload_n 3, 1) := by decide +kernel
theorem dX6_replace_24 : decode cX6_replace 24 = .ok (.invokevirtual 141, 3) := by decide +kernel
theorem dX6_replace_27 : decode cX6_replace 27 = .ok (.aload_n 0, 1) := by decide +kernel
theorem dX6_replace_28 : decode cX6_replace 28 = .ok (.dup, 1) := by decide +kernel
theorem dX6_replace_29 : decode cX6_replace 29 = .ok (.getfield 50, 3) := by decide +kernel
theorem dX6_replace_32 : decode cX6_replace 32 = .ok (.aload 4, 2) := by decide +kernel
theorem dX6_replace_34 : decode cX6_replace 34 = .ok (.aload_n 0, 1) := by decide +kernel
theorem dX6_replace_35 : decode cX6_replace 35 = .ok (.getfield 12, 3) := by decide +kernel
theorem dX6_replace_38 : decode cX6_replace 38 = .ok (.iload_n 2, 1) := by decide +kernel
theorem dX6_replace_39 : decode cX6_replace 39 = .ok (.invokevirtual 123, 3) := by decide +kernel
theorem dX6_replace_42 : decode cX6_replace 42 = .ok (.i2l, 1) := by decide +kernel
theorem dX6_replace_43 : decode cX6_replace 43 = .ok (.ladd, 1) := by decide +kernel
theorem dX6_replace_44 : decode cX6_replace 44 = .ok (.putfield 50, 3) := by decide +kernel
theorem dX6_replace_47 : decode cX6_replace 47 = .ok (.aload 4, 2) := by decide +kernel
theorem dX6_replace_49 : decode cX6_replace 49 = .ok (.invokevirtual 134, 3) := by decide +kernel
theorem dX6_replace_52 : decode cX6_replace 52 = .ok (.ireturn, 1) := by decide +kernel
theorem dX6_length_0 : decode cX6_length 0 = .ok (.aload_n 0, 1) := by decide +kernel
theorem dX6_length_1 : decode cX6_length 1 = .ok (.iload_n 1, 1) := by decide +kernel
theorem dX6_length_2 : decode cX6_length 2 = .ok (.invokevirtual 127, 3) := by decide +kernel
theorem dX6_length_5 : decode cX6_length 5 = .ok (.getfield 117, 3) := by decide +kernel
theorem dX6_length_8 : decode cX6_length 8 = .ok (.getfield 131, 3) := by decide +kernel
theorem dX6_length_11 : decode cX6_length 11 = .ok (.ireturn, 1) := by decide +kernel
theorem dX6_letterAt_0 : decode cX6_letterAt 0 = .ok (.aload_n 0, 1) := by decide +kernel
theorem dX6_letterAt_1 : decode cX6_letterAt 1 = .ok (.iload_n 1, 1) := by decide +kernel
theorem dX6_letterAt_2 : decode cX6_letterAt 2 = .ok (.invokevirtual 127, 3) := by decide +kernel
theorem dX6_letterAt_5 : decode cX6_letterAt 5 = .ok (.getfield 117, 3) := by decide +kernel
theorem dX6_letterAt_8 : decode cX6_letterAt 8 = .ok (.astore_n 3, 1) := by decide +kernel
theorem dX6_letterAt_9 : decode cX6_letterAt 9 = .ok (.aload_n 3, 1) := by decide +kernel
theorem dX6_letterAt_10 : decode cX6_letterAt 10 = .ok (.iload_n 2, 1) := by decide +kernel
theorem dX6_letterAt_11 : decode cX6_letterAt 11 = .ok (.invokestatic 137, 3) := by decide +kernel
theorem dX6_letterAt_14 : decode cX6_letterAt 14 = .ok (.aload_n 3, 1) := by decide +kernel
theorem dX6_letterAt_15 : decode cX6_letterAt 15 = .ok (.iload_n 2, 1) := by decide +kernel
theorem dX6_letterAt_16 : decode cX6_letterAt 16 = .ok (.invokevirtual 144, 3) := by decide +kernel
theorem dX6_letterAt_19 : decode cX6_letterAt 19 = .ok (.ireturn, 1) := by decide +kernel
theorem dX6_trees_0 : decode cX6_trees 0 = .ok (.aload_n 0, 1) := by decide +kernel
theorem dX6_trees_1 : decode cX6_trees 1 = .ok (.iload_n 1, 1) := by decide +kernel
theorem dX6_trees_2 : decode cX6_trees 2 = .ok (.invokevirtual 127, 3) := by decide +kernel
theorem dX6_trees_5 : decode cX6_trees 5 = .ok (.getfield 117, 3) := by decide +kernel
theorem dX6_trees_8 : decode cX6_trees 8 = .ok (.invokevirtual 134, 3) := by decide +kernel
theorem dX6_trees_11 : decode cX6_trees 11 = .ok (.ireturn, 1) := by decide +kernel
theorem dX6_treesByTrying_0 : decode cX6_treesByTrying 0 = .ok (.aload_n 0, 1) := by decide +kernel
theorem dX6_treesByTrying_1 : decode cX6_treesByTrying 1 = .ok (.iload_n 1, 1) := by decide +kernel
theorem dX6_treesByTrying_2 : decode cX6_treesByTrying 2 = .ok (.invokevirtual 127, 3) := by decide +kernel
theorem dX6_treesByTrying_5 : decode cX6_treesByTrying 5 = .ok (.getfield 117, 3) := by decide +kernel
theorem dX6_treesByTrying_8 : decode cX6_treesByTrying 8 = .ok (.astore_n 2, 1) := by decide +kernel
theorem dX6_treesByTrying_9 : decode cX6_treesByTrying 9 = .ok (.aload_n 2, 1) := by decide +kernel
theorem dX6_treesByTrying_10 : decode cX6_treesByTrying 10 = .ok (.getfield 131, 3) := by decide +kernel
theorem dX6_treesByTrying_13 : decode cX6_treesByTrying 13 = .ok (.iconst 5, 1) := by decide +kernel
theorem dX6_treesByTrying_14 : decode cX6_treesByTrying 14 = .ok (.if_icmp .le 11, 3) := by decide +kernel
theorem dX6_treesByTrying_17 : decode cX6_treesByTrying 17 = .ok (.new 148, 3) := by decide +kernel
theorem dX6_treesByTrying_20 : decode cX6_treesByTrying 20 = .ok (.dup, 1) := by decide +kernel
theorem dX6_treesByTrying_21 : decode cX6_treesByTrying 21 = .ok (.invokespecial 150, 3) := by decide +kernel
theorem dX6_treesByTrying_24 : decode cX6_treesByTrying 24 = .ok (.athrow, 1) := by decide +kernel
theorem dX6_treesByTrying_25 : decode cX6_treesByTrying 25 = .ok (.aload_n 0, 1) := by decide +kernel
theorem dX6_treesByTrying_26 : decode cX6_treesByTrying 26 = .ok (.getfield 39, 3) := by decide +kernel
theorem dX6_treesByTrying_29 : decode cX6_treesByTrying 29 = .ok (.aload_n 0, 1) := by decide +kernel
theorem dX6_treesByTrying_30 : decode cX6_treesByTrying 30 = .ok (.getfield 12, 3) := by decide +kernel
theorem dX6_treesByTrying_33 : decode cX6_treesByTrying 33 = .ok (.aload_n 2, 1) := by decide +kernel
theorem dX6_treesByTrying_34 : decode cX6_treesByTrying 34 = .ok (.invokevirtual 151, 3) := by decide +kernel
theorem dX6_treesByTrying_37 : decode cX6_treesByTrying 37 = .ok (.ireturn, 1) := by decide +kernel
theorem dX6_treesOver_0 : decode cX6_treesOver 0 = .ok (.aload_n 0, 1) := by decide +kernel
theorem dX6_treesOver_1 : decode cX6_treesOver 1 = .ok (.iload_n 1, 1) := by decide +kernel
theorem dX6_treesOver_2 : decode cX6_treesOver 2 = .ok (.invokevirtual 127, 3) := by decide +kernel
theorem dX6_treesOver_5 : decode cX6_treesOver 5 = .ok (.getfield 117, 3) := by decide +kernel
theorem dX6_treesOver_8 : decode cX6_treesOver 8 = .ok (.astore 5, 2) := by decide +kernel
theorem dX6_treesOver_10 : decode cX6_treesOver 10 = .ok (.aload 5, 2) := by decide +kernel
theorem dX6_treesOver_12 : decode cX6_treesOver 12 = .ok (.iload_n 3, 1) := by decide +kernel
theorem dX6_treesOver_13 : decode cX6_treesOver 13 = .ok (.invokestatic 137, 3) := by decide +kernel
theorem dX6_treesOver_16 : decode cX6_treesOver 16 = .ok (.aload 5, 2) := by decide +kernel
theorem dX6_treesOver_18 : decode cX6_treesOver 18 = .ok (.iload 4, 2) := by decide +kernel
theorem dX6_treesOver_20 : decode cX6_treesOver 20 = .ok (.invokestatic 137, 3) := by decide +kernel
theorem dX6_treesOver_23 : decode cX6_treesOver 23 = .ok (.iload_n 2, 1) := by decide +kernel
theorem dX6_treesOver_24 : decode cX6_treesOver 24 = .ok (.invokestatic 154, 3) := by decide +kernel
theorem dX6_treesOver_27 : decode cX6_treesOver 27 = .ok (.ifCond .eq 9, 3) := by decide +kernel
theorem dX6_treesOver_30 : decode cX6_treesOver 30 = .ok (.iload 4, 2) := by decide +kernel
theorem dX6_treesOver_32 : decode cX6_treesOver 32 = .ok (.iload_n 3, 1) := by decide +kernel
theorem dX6_treesOver_33 : decode cX6_treesOver 33 = .ok (.if_icmp .ge 11, 3) := by decide +kernel
theorem dX6_treesOver_36 : decode cX6_treesOver 36 = .ok (.new 58, 3) := by decide +kernel
theorem dX6_treesOver_39 : decode cX6_treesOver 39 = .ok (.dup, 1) := by decide +kernel
theorem dX6_treesOver_40 : decode cX6_treesOver 40 = .ok (.invokespecial 60, 3) := by decide +kernel
theorem dX6_treesOver_43 : decode cX6_treesOver 43 = .ok (.athrow, 1) := by decide +kernel
theorem dX6_treesOver_44 : decode cX6_treesOver 44 = .ok (.aload 5, 2) := by decide +kernel
theorem dX6_treesOver_46 : decode cX6_treesOver 46 = .ok (.iload_n 2, 1) := by decide +kernel
theorem dX6_treesOver_47 : decode cX6_treesOver 47 = .ok (.iload_n 3, 1) := by decide +kernel
theorem dX6_treesOver_48 : decode cX6_treesOver 48 = .ok (.iload 4, 2) := by decide +kernel
theorem dX6_treesOver_50 : decode cX6_treesOver 50 = .ok (.invokevirtual 158, 3) := by decide +kernel
theorem dX6_treesOver_53 : decode cX6_treesOver 53 = .ok (.ireturn, 1) := by decide +kernel
theorem dX6_size_0 : decode cX6_size 0 = .ok (.aload_n 0, 1) := by decide +kernel
theorem dX6_size_1 : decode cX6_size 1 = .ok (.iload_n 1, 1) := by decide +kernel
theorem dX6_size_2 : decode cX6_size 2 = .ok (.invokevirtual 162, 3) := by decide +kernel
theorem dX6_size_5 : decode cX6_size 5 = .ok (.aload_n 0, 1) := by decide +kernel
theorem dX6_size_6 : decode cX6_size 6 = .ok (.getfield 32, 3) := by decide +kernel
theorem dX6_size_9 : decode cX6_size 9 = .ok (.getfield 165, 3) := by decide +kernel
theorem dX6_size_12 : decode cX6_size 12 = .ok (.ireturn, 1) := by decide +kernel
theorem dX6_ruleAt_0 : decode cX6_ruleAt 0 = .ok (.aload_n 0, 1) := by decide +kernel
theorem dX6_ruleAt_1 : decode cX6_ruleAt 1 = .ok (.iload_n 1, 1) := by decide +kernel
theorem dX6_ruleAt_2 : decode cX6_ruleAt 2 = .ok (.invokevirtual 162, 3) := by decide +kernel
theorem dX6_ruleAt_5 : decode cX6_ruleAt 5 = .ok (.iload_n 2, 1) := by decide +kernel
theorem dX6_ruleAt_6 : decode cX6_ruleAt 6 = .ok (.ifCond .lt 14, 3) := by decide +kernel
theorem dX6_ruleAt_9 : decode cX6_ruleAt 9 = .ok (.iload_n 2, 1) := by decide +kernel
theorem dX6_ruleAt_10 : decode cX6_ruleAt 10 = .ok (.aload_n 0, 1) := by decide +kernel
theorem dX6_ruleAt_11 : decode cX6_ruleAt 11 = .ok (.getfield 32, 3) := by decide +kernel
theorem dX6_ruleAt_14 : decode cX6_ruleAt 14 = .ok (.getfield 165, 3) := by decide +kernel
theorem dX6_ruleAt_17 : decode cX6_ruleAt 17 = .ok (.if_icmp .lt 11, 3) := by decide +kernel
theorem dX6_ruleAt_20 : decode cX6_ruleAt 20 = .ok (.new 168, 3) := by decide +kernel
theorem dX6_ruleAt_23 : decode cX6_ruleAt 23 = .ok (.dup, 1) := by decide +kernel
theorem dX6_ruleAt_24 : decode cX6_ruleAt 24 = .ok (.invokespecial 170, 3) := by decide +kernel
theorem dX6_ruleAt_27 : decode cX6_ruleAt 27 = .ok (.athrow, 1) := by decide +kernel
theorem dX6_ruleAt_28 : decode cX6_ruleAt 28 = .ok (.aload_n 0, 1) := by decide +kernel
theorem dX6_ruleAt_29 : decode cX6_ruleAt 29 = .ok (.getfield 32, 3) := by decide +kernel
theorem dX6_ruleAt_32 : decode cX6_ruleAt 32 = .ok (.iload_n 2, 1) := by decide +kernel
theorem dX6_ruleAt_33 : decode cX6_ruleAt 33 = .ok (.invokevirtual 171, 3) := by decide +kernel
theorem dX6_ruleAt_36 : decode cX6_ruleAt 36 = .ok (.ireturn, 1) := by decide +kernel
theorem dX6_depth_0 : decode cX6_depth 0 = .ok (.aload_n 0, 1) := by decide +kernel
theorem dX6_depth_1 : decode cX6_depth 1 = .ok (.iload_n 1, 1) := by decide +kernel
theorem dX6_depth_2 : decode cX6_depth 2 = .ok (.invokevirtual 162, 3) := by decide +kernel
theorem dX6_depth_5 : decode cX6_depth 5 = .ok (.aload_n 0, 1) := by decide +kernel
theorem dX6_depth_6 : decode cX6_depth 6 = .ok (.getfield 32, 3) := by decide +kernel
theorem dX6_depth_9 : decode cX6_depth 9 = .ok (.getfield 174, 3) := by decide +kernel
theorem dX6_depth_12 : decode cX6_depth 12 = .ok (.ireturn, 1) := by decide +kernel
theorem dX6_colourAt_0 : decode cX6_colourAt 0 = .ok (.aload_n 0, 1) := by decide +kernel
theorem dX6_colourAt_1 : decode cX6_colourAt 1 = .ok (.iload_n 1, 1) := by decide +kernel
theorem dX6_colourAt_2 : decode cX6_colourAt 2 = .ok (.invokevirtual 127, 3) := by decide +kernel
theorem dX6_colourAt_5 : decode cX6_colourAt 5 = .ok (.getfield 117, 3) := by decide +kernel
theorem dX6_colourAt_8 : decode cX6_colourAt 8 = .ok (.astore_n 3, 1) := by decide +kernel
theorem dX6_colourAt_9 : decode cX6_colourAt 9 = .ok (.aload_n 3, 1) := by decide +kernel
theorem dX6_colourAt_10 : decode cX6_colourAt 10 = .ok (.iload_n 2, 1) := by decide +kernel
theorem dX6_colourAt_11 : decode cX6_colourAt 11 = .ok (.invokestatic 137, 3) := by decide +kernel
theorem dX6_colourAt_14 : decode cX6_colourAt 14 = .ok (.aload_n 0, 1) := by decide +kernel
theorem dX6_colourAt_15 : decode cX6_colourAt 15 = .ok (.getfield 32, 3) := by decide +kernel
theorem dX6_colourAt_18 : decode cX6_colourAt 18 = .ok (.aload_n 0, 1) := by decide +kernel
theorem dX6_colourAt_19 : decode cX6_colourAt 19 = .ok (.getfield 12, 3) := by decide +kernel
theorem dX6_colourAt_22 : decode cX6_colourAt 22 = .ok (.aload_n 3, 1) := by decide +kernel
theorem dX6_colourAt_23 : decode cX6_colourAt 23 = .ok (.invokevirtual 177, 3) := by decide +kernel
theorem dX6_colourAt_26 : decode cX6_colourAt 26 = .ok (.aload_n 0, 1) := by decide +kernel
theorem dX6_colourAt_27 : decode cX6_colourAt 27 = .ok (.getfield 32, 3) := by decide +kernel
theorem dX6_colourAt_30 : decode cX6_colourAt 30 = .ok (.iload_n 2, 1) := by decide +kernel
theorem dX6_colourAt_31 : decode cX6_colourAt 31 = .ok (.invokevirtual 181, 3) := by decide +kernel
theorem dX6_colourAt_34 : decode cX6_colourAt 34 = .ok (.ireturn, 1) := by decide +kernel
theorem dX6_formatted_0 : decode cX6_formatted 0 = .ok (.aload_n 0, 1) := by decide +kernel
theorem dX6_formatted_1 : decode cX6_formatted 1 = .ok (.iload_n 1, 1) := by decide +kernel
theorem dX6_formatted_2 : decode cX6_formatted 2 = .ok (.invokevirtual 162, 3) := by decide +kernel
theorem dX6_formatted_5 : decode cX6_formatted 5 = .ok (.aload_n 0, 1) := by decide +kernel
theorem dX6_formatted_6 : decode cX6_formatted 6 = .ok (.getfield 32, 3) := by decide +kernel
theorem dX6_formatted_9 : decode cX6_formatted 9 = .ok (.invokevirtual 184, 3) := by decide +kernel
theorem dX6_formatted_12 : decode cX6_formatted 12 = .ok (.ireturn, 1) := by decide +kernel
theorem dX6_formattedAt_0 : decode cX6_formattedAt 0 = .ok (.aload_n 0, 1) := by decide +kernel
theorem dX6_formattedAt_1 : decode cX6_formattedAt 1 = .ok (.iload_n 1, 1) := by decide +kernel
theorem dX6_formattedAt_2 : decode cX6_formattedAt 2 = .ok (.invokevirtual 127, 3) := by decide +kernel
theorem dX6_formattedAt_5 : decode cX6_formattedAt 5 = .ok (.getfield 117, 3) := by decide +kernel
theorem dX6_formattedAt_8 : decode cX6_formattedAt 8 = .ok (.astore_n 3, 1) := by decide +kernel
theorem dX6_formattedAt_9 : decode cX6_formattedAt 9 = .ok (.aload_n 0, 1) := by decide +kernel
theorem dX6_formattedAt_10 : decode cX6_formattedAt 10 = .ok (.getfield 32, 3) := by decide +kernel
theorem dX6_formattedAt_13 : decode cX6_formattedAt 13 = .ok (.aload_n 0, 1) := by decide +kernel
theorem dX6_formattedAt_14 : decode cX6_formattedAt 14 = .ok (.getfield 12, 3) := by decide +kernel
theorem dX6_formattedAt_17 : decode cX6_formattedAt 17 = .ok (.aload_n 3, 1) := by decide +kernel
theorem dX6_formattedAt_18 : decode cX6_formattedAt 18 = .ok (.invokevirtual 177, 3) := by decide +kernel
theorem dX6_formattedAt_21 : decode cX6_formattedAt 21 = .ok (.iload_n 2, 1) := by decide +kernel
theorem dX6_formattedAt_22 : decode cX6_formattedAt 22 = .ok (.ifCond .lt 14, 3) := by decide +kernel
theorem dX6_formattedAt_25 : decode cX6_formattedAt 25 = .ok (.iload_n 2, 1) := by decide +kernel
theorem dX6_formattedAt_26 : decode cX6_formattedAt 26 = .ok (.aload_n 0, 1) := by decide +kernel
theorem dX6_formattedAt_27 : decode cX6_formattedAt 27 = .ok (.getfield 32, 3) := by decide +kernel
theorem dX6_formattedAt_30 : decode cX6_formattedAt 30 = .ok (.invokevirtual 184, 3) := by decide +kernel
theorem dX6_formattedAt_33 : decode cX6_formattedAt 33 = .ok (.if_icmp .lt 11, 3) := by decide +kernel
theorem dX6_formattedAt_36 : decode cX6_formattedAt 36 = .ok (.new 168, 3) := by decide +kernel
theorem dX6_formattedAt_39 : decode cX6_formattedAt 39 = .ok (.dup, 1) := by decide +kernel
theorem dX6_formattedAt_40 : decode cX6_formattedAt 40 = .ok (.invokespecial 170, 3) := by decide +kernel
theorem dX6_formattedAt_43 : decode cX6_formattedAt 43 = .ok (.athrow, 1) := by decide +kernel
theorem dX6_formattedAt_44 : decode cX6_formattedAt 44 = .ok (.aload_n 0, 1) := by decide +kernel
theorem dX6_formattedAt_45 : decode cX6_formattedAt 45 = .ok (.getfield 32, 3) := by decide +kernel
theorem dX6_formattedAt_48 : decode cX6_formattedAt 48 = .ok (.aload_n 3, 1) := by decide +kernel
theorem dX6_formattedAt_49 : decode cX6_formattedAt 49 = .ok (.iload_n 2, 1) := by decide +kernel
theorem dX6_formattedAt_50 : decode cX6_formattedAt 50 = .ok (.invokevirtual 187, 3) := by decide +kernel
theorem dX6_formattedAt_53 : decode cX6_formattedAt 53 = .ok (.ireturn, 1) := by decide +kernel
theorem dX6_accept_0 : decode cX6_accept 0 = .ok (.aload_n 0, 1) := by decide +kernel
theorem dX6_accept_1 : decode cX6_accept 1 = .ok (.iload_n 1, 1) := by decide +kernel
theorem dX6_accept_2 : decode cX6_accept 2 = .ok (.invokevirtual 127, 3) := by decide +kernel
theorem dX6_accept_5 : decode cX6_accept 5 = .ok (.astore_n 2, 1) := by decide +kernel
theorem dX6_accept_6 : decode cX6_accept 6 = .ok (.aload_n 0, 1) := by decide +kernel
theorem dX6_accept_7 : decode cX6_accept 7 = .ok (.getfield 32, 3) := by decide +kernel
theorem dX6_accept_10 : decode cX6_accept 10 = .ok (.aload_n 0, 1) := by decide +kernel
theorem dX6_accept_11 : decode cX6_accept 11 = .ok (.getfield 12, 3) := by decide +kernel
theorem dX6_accept_14 : decode cX6_accept 14 = .ok (.aload_n 2, 1) := by decide +kernel
theorem dX6_accept_15 : decode cX6_accept 15 = .ok (.getfield 117, 3) := by decide +kernel
theorem dX6_accept_18 : decode cX6_accept 18 = .ok (.invokevirtual 177, 3) := by decide +kernel
theorem dX6_accept_21 : decode cX6_accept 21 = .ok (.aload_n 0, 1) := by decide +kernel
theorem dX6_accept_22 : decode cX6_accept 22 = .ok (.getfield 32, 3) := by decide +kernel
theorem dX6_accept_25 : decode cX6_accept 25 = .ok (.getfield 165, 3) := by decide +kernel
theorem dX6_accept_28 : decode cX6_accept 28 = .ok (.ifCond .ne 11, 3) := by decide +kernel
theorem dX6_accept_31 : decode cX6_accept 31 = .ok (.new 65, 3) := by decide +kernel
theorem dX6_accept_34 : decode cX6_accept 34 = .ok (.dup, 1) := by decide +kernel
theorem dX6_accept_35 : decode cX6_accept 35 = .ok (.invokespecial 67, 3) := by decide +kernel
theorem dX6_accept_38 : decode cX6_accept 38 = .ok (.athrow, 1) := by decide +kernel
theorem dX6_accept_39 : decode cX6_accept 39 = .ok (.aload_n 2, 1) := by decide +kernel
theorem dX6_accept_40 : decode cX6_accept 40 = .ok (.aload_n 0, 1) := by decide +kernel
theorem dX6_accept_41 : decode cX6_accept 41 = .ok (.getfield 32, 3) := by decide +kernel
theorem dX6_accept_44 : decode cX6_accept 44 = .ok (.invokevirtual 191, 3) := by decide +kernel
theorem dX6_accept_47 : decode cX6_accept 47 = .ok (.aload_n 0, 1) := by decide +kernel
theorem dX6_accept_48 : decode cX6_accept 48 = .ok (.getfield 32, 3) := by decide +kernel
theorem dX6_accept_51 : decode cX6_accept 51 = .ok (.getfield 165, 3) := by decide +kernel
theorem dX6_accept_54 : decode cX6_accept 54 = .ok (.ireturn, 1) := by decide +kernel
theorem dX6_fault_0 : decode cX6_fault 0 = .ok (.aload_n 0, 1) := by decide +kernel
theorem dX6_fault_1 : decode cX6_fault 1 = .ok (.aload_n 0, 1) := by decide +kernel
theorem dX6_fault_2 : decode cX6_fault 2 = .ok (.iload_n 1, 1) := by decide +kernel
theorem dX6_fault_3 : decode cX6_fault 3 = .ok (.invokevirtual 127, 3) := by decide +kernel
theorem dX6_fault_6 : decode cX6_fault 6 = .ok (.invokevirtual 195, 3) := by decide +kernel
theorem dX6_fault_9 : decode cX6_fault 9 = .ok (.ireturn, 1) := by decide +kernel
theorem dX6_release_0 : decode cX6_release 0 = .ok (.aload_n 0, 1) := by decide +kernel
theorem dX6_release_1 : decode cX6_release 1 = .ok (.getfield 43, 3) := by decide +kernel
theorem dX6_release_4 : decode cX6_release 4 = .ok (.ifCond .ne 11, 3) := by decide +kernel
theorem dX6_release_7 : decode cX6_release 7 = .ok (.new 65, 3) := by decide +kernel
theorem dX6_release_10 : decode cX6_release 10 = .ok (.dup, 1) := by decide +kernel
theorem dX6_release_11 : decode cX6_release 11 = .ok (.invokespecial 67, 3) := by decide +kernel
theorem dX6_release_14 : decode cX6_release 14 = .ok (.athrow, 1) := by decide +kernel
theorem dX6_release_15 : decode cX6_release 15 = .ok (.aload_n 0, 1) := by decide +kernel
theorem dX6_release_16 : decode cX6_release 16 = .ok (.invokevirtual 199, 3) := by decide +kernel
theorem dX6_release_19 : decode cX6_release 19 = .ok (.aload_n 0, 1) := by decide +kernel
theorem dX6_release_20 : decode cX6_release 20 = .ok (.getfield 43, 3) := by decide +kernel
theorem dX6_release_23 : decode cX6_release 23 = .ok (.if_icmp .eq 11, 3) := by decide +kernel
theorem dX6_release_26 : decode cX6_release 26 = .ok (.new 148, 3) := by decide +kernel
theorem dX6_release_29 : decode cX6_release 29 = .ok (.dup, 1) := by decide +kernel
theorem dX6_release_30 : decode cX6_release 30 = .ok (.invokespecial 150, 3) := by decide +kernel
theorem dX6_release_33 : decode cX6_release 33 = .ok (.athrow, 1) := by decide +kernel
theorem dX6_release_34 : decode cX6_release 34 = .ok (.aload_n 0, 1) := by decide +kernel
theorem dX6_release_35 : decode cX6_release 35 = .ok (.dup, 1) := by decide +kernel
theorem dX6_release_36 : decode cX6_release 36 = .ok (.getfield 47, 3) := by decide +kernel
theorem dX6_release_39 : decode cX6_release 39 = .ok (.iconst 1, 1) := by decide +kernel
theorem dX6_release_40 : decode cX6_release 40 = .ok (.iadd, 1) := by decide +kernel
theorem dX6_release_41 : decode cX6_release 41 = .ok (.putfield 47, 3) := by decide +kernel
theorem dX6_release_44 : decode cX6_release 44 = .ok (.aload_n 0, 1) := by decide +kernel
theorem dX6_release_45 : decode cX6_release 45 = .ok (.getfield 47, 3) := by decide +kernel
theorem dX6_release_48 : decode cX6_release 48 = .ok (.ireturn, 1) := by decide +kernel
theorem dX6_ambiguous_0 : decode cX6_ambiguous 0 = .ok (.aload_n 0, 1) := by decide +kernel
theorem dX6_ambiguous_1 : decode cX6_ambiguous 1 = .ok (.iload_n 1, 1) := by decide +kernel
theorem dX6_ambiguous_2 : decode cX6_ambiguous 2 = .ok (.iload_n 2, 1) := by decide +kernel
theorem dX6_ambiguous_3 : decode cX6_ambiguous 3 = .ok (.invokevirtual 202, 3) := by decide +kernel
theorem dX6_ambiguous_6 : decode cX6_ambiguous 6 = .ok (.ireturn, 1) := by decide +kernel
theorem dX6_ambiguousAt_0 : decode cX6_ambiguousAt 0 = .ok (.aload_n 0, 1) := by decide +kernel
theorem dX6_ambiguousAt_1 : decode cX6_ambiguousAt 1 = .ok (.iload_n 1, 1) := by decide +kernel
theorem dX6_ambiguousAt_2 : decode cX6_ambiguousAt 2 = .ok (.iload_n 2, 1) := by decide +kernel
theorem dX6_ambiguousAt_3 : decode cX6_ambiguousAt 3 = .ok (.invokevirtual 202, 3) := by decide +kernel
theorem dX6_ambiguousAt_6 : decode cX6_ambiguousAt 6 = .ok (.istore 4, 2) := by decide +kernel
theorem dX6_ambiguousAt_8 : decode cX6_ambiguousAt 8 = .ok (.iload_n 3, 1) := by decide +kernel
theorem dX6_ambiguousAt_9 : decode cX6_ambiguousAt 9 = .ok (.ifCond .lt 9, 3) := by decide +kernel
theorem dX6_ambiguousAt_12 : decode cX6_ambiguousAt 12 = .ok (.iload_n 3, 1) := by decide +kernel
theorem dX6_ambiguousAt_13 : decode cX6_ambiguousAt 13 = .ok (.iload 4, 2) := by decide +kernel
theorem dX6_ambiguousAt_15 : decode cX6_ambiguousAt 15 = .ok (.if_icmp .lt 11, 3) := by decide +kernel
theorem dX6_ambiguousAt_18 : decode cX6_ambiguousAt 18 = .ok (.new 168, 3) := by decide +kernel
theorem dX6_ambiguousAt_21 : decode cX6_ambiguousAt 21 = .ok (.dup, 1) := by decide +kernel
theorem dX6_ambiguousAt_22 : decode cX6_ambiguousAt 22 = .ok (.invokespecial 170, 3) := by decide +kernel
theorem dX6_ambiguousAt_25 : decode cX6_ambiguousAt 25 = .ok (.athrow, 1) := by decide +kernel
theorem dX6_ambiguousAt_26 : decode cX6_ambiguousAt 26 = .ok (.aload_n 0, 1) := by decide +kernel
theorem dX6_ambiguousAt_27 : decode cX6_ambiguousAt 27 = .ok (.getfield 25, 3) := by decide +kernel
theorem dX6_ambiguousAt_30 : decode cX6_ambiguousAt 30 = .ok (.iload_n 3, 1) := by decide +kernel
theorem dX6_ambiguousAt_31 : decode cX6_ambiguousAt 31 = .ok (.invokevirtual 144, 3) := by decide +kernel
theorem dX6_ambiguousAt_34 : decode cX6_ambiguousAt 34 = .ok (.ireturn, 1) := by decide +kernel
theorem dX6_work_0 : decode cX6_work 0 = .ok (.aload_n 0, 1) := by decide +kernel
theorem dX6_work_1 : decode cX6_work 1 = .ok (.getfield 50, 3) := by decide +kernel
theorem dX6_work_4 : decode cX6_work 4 = .ok (.lreturn, 1) := by decide +kernel
theorem dX6_cleanShare_0 : decode cX6_cleanShare 0 = .ok (.aload_n 0, 1) := by decide +kernel
theorem dX6_cleanShare_1 : decode cX6_cleanShare 1 = .ok (.getfield 43, 3) := by decide +kernel
theorem dX6_cleanShare_4 : decode cX6_cleanShare 4 = .ok (.ifCond .ne 11, 3) := by decide +kernel
theorem dX6_cleanShare_7 : decode cX6_cleanShare 7 = .ok (.new 206, 3) := by decide +kernel
theorem dX6_cleanShare_10 : decode cX6_cleanShare 10 = .ok (.dup, 1) := by decide +kernel
theorem dX6_cleanShare_11 : decode cX6_cleanShare 11 = .ok (.invokespecial 208, 3) := by decide +kernel
theorem dX6_cleanShare_14 : decode cX6_cleanShare 14 = .ok (.athrow, 1) := by decide +kernel
theorem dX6_cleanShare_15 : decode cX6_cleanShare 15 = .ok (.aload_n 0, 1) := by decide +kernel
theorem dX6_cleanShare_16 : decode cX6_cleanShare 16 = .ok (.invokevirtual 199, 3) := by decide +kernel
theorem dX6_cleanShare_19 : decode cX6_cleanShare 19 = .ok (.i2f, 1) := by decide +kernel
theorem dX6_cleanShare_20 : decode cX6_cleanShare 20 = .ok (.aload_n 0, 1) := by decide +kernel
theorem dX6_cleanShare_21 : decode cX6_cleanShare 21 = .ok (.getfield 43, 3) := by decide +kernel
theorem dX6_cleanShare_24 : decode cX6_cleanShare 24 = .ok (.i2f, 1) := by decide +kernel
theorem dX6_cleanShare_25 : decode cX6_cleanShare 25 = .ok (.fdiv, 1) := by decide +kernel
theorem dX6_cleanShare_26 : decode cX6_cleanShare 26 = .ok (.freturn, 1) := by decide +kernel
theorem dX6_meanTrees_0 : decode cX6_meanTrees 0 = .ok (.aload_n 0, 1) := by decide +kernel
theorem dX6_meanTrees_1 : decode cX6_meanTrees 1 = .ok (.getfield 43, 3) := by decide +kernel
theorem dX6_meanTrees_4 : decode cX6_meanTrees 4 = .ok (.ifCond .ne 11, 3) := by decide +kernel
theorem dX6_meanTrees_7 : decode cX6_meanTrees 7 = .ok (.new 206, 3) := by decide +kernel
theorem dX6_meanTrees_10 : decode cX6_meanTrees 10 = .ok (.dup, 1) := by decide +kernel
theorem dX6_meanTrees_11 : decode cX6_meanTrees 11 = .ok (.invokespecial 208, 3) := by decide +kernel
theorem dX6_meanTrees_14 : decode cX6_meanTrees 14 = .ok (.athrow, 1) := by decide +kernel
theorem dX6_meanTrees_15 : decode cX6_meanTrees 15 = .ok (.iconst 0, 1) := by decide +kernel
theorem dX6_meanTrees_16 : decode cX6_meanTrees 16 = .ok (.istore_n 1, 1) := by decide +kernel
theorem dX6_meanTrees_17 : decode cX6_meanTrees 17 = .ok (.aload_n 0, 1) := by decide +kernel
theorem dX6_meanTrees_18 : decode cX6_meanTrees 18 = .ok (.getfield 18, 3) := by decide +kernel
theorem dX6_meanTrees_21 : decode cX6_meanTrees 21 = .ok (.astore_n 2, 1) := by decide +kernel
theorem dX6_meanTrees_22 : decode cX6_meanTrees 22 = .ok (.aload_n 2, 1) := by decide +kernel
theorem dX6_meanTrees_23 : decode cX6_meanTrees 23 = .ok (.arraylength, 1) := by decide +kernel
theorem dX6_meanTrees_24 : decode cX6_meanTrees 24 = .ok (.istore_n 3, 1) := by decide +kernel
theorem dX6_meanTrees_25 : decode cX6_meanTrees 25 = .ok (.iconst 0, 1) := by decide +kernel
theorem dX6_meanTrees_26 : decode cX6_meanTrees 26 = .ok (.istore 4, 2) := by decide +kernel
theorem dX6_meanTrees_28 : decode cX6_meanTrees 28 = .ok (.iload 4, 2) := by decide +kernel
theorem dX6_meanTrees_30 : decode cX6_meanTrees 30 = .ok (.iload_n 3, 1) := by decide +kernel
theorem dX6_meanTrees_31 : decode cX6_meanTrees 31 = .ok (.if_icmp .ge 31, 3) := by decide +kernel
theorem dX6_meanTrees_34 : decode cX6_meanTrees 34 = .ok (.aload_n 2, 1) := by decide +kernel
theorem dX6_meanTrees_35 : decode cX6_meanTrees 35 = .ok (.iload 4, 2) := by decide +kernel
theorem dX6_meanTrees_37 : decode cX6_meanTrees 37 = .ok (.aaload, 1) := by decide +kernel
theorem dX6_meanTrees_38 : decode cX6_meanTrees 38 = .ok (.astore 5, 2) := by decide +kernel
theorem dX6_meanTrees_40 : decode cX6_meanTrees 40 = .ok (.aload 5, 2) := by decide +kernel
theorem dX6_meanTrees_42 : decode cX6_meanTrees 42 = .ok (.ifnull 14, 3) := by decide +kernel
theorem dX6_meanTrees_45 : decode cX6_meanTrees 45 = .ok (.iload_n 1, 1) := by decide +kernel
theorem dX6_meanTrees_46 : decode cX6_meanTrees 46 = .ok (.aload 5, 2) := by decide +kernel
theorem dX6_meanTrees_48 : decode cX6_meanTrees 48 = .ok (.getfield 117, 3) := by decide +kernel
theorem dX6_meanTrees_51 : decode cX6_meanTrees 51 = .ok (.invokevirtual 134, 3) := by decide +kernel
theorem dX6_meanTrees_54 : decode cX6_meanTrees 54 = .ok (.iadd, 1) := by decide +kernel
theorem dX6_meanTrees_55 : decode cX6_meanTrees 55 = .ok (.istore_n 1, 1) := by decide +kernel
theorem dX6_meanTrees_56 : decode cX6_meanTrees 56 = .ok (.iinc 4 1, 3) := by decide +kernel
theorem dX6_meanTrees_59 : decode cX6_meanTrees 59 = .ok (.goto (-31), 3) := by decide +kernel
theorem dX6_meanTrees_62 : decode cX6_meanTrees 62 = .ok (.iload_n 1, 1) := by decide +kernel
theorem dX6_meanTrees_63 : decode cX6_meanTrees 63 = .ok (.i2d, 1) := by decide +kernel
theorem dX6_meanTrees_64 : decode cX6_meanTrees 64 = .ok (.aload_n 0, 1) := by decide +kernel
theorem dX6_meanTrees_65 : decode cX6_meanTrees 65 = .ok (.getfield 43, 3) := by decide +kernel
theorem dX6_meanTrees_68 : decode cX6_meanTrees 68 = .ok (.i2d, 1) := by decide +kernel
theorem dX6_meanTrees_69 : decode cX6_meanTrees 69 = .ok (.ddiv, 1) := by decide +kernel
theorem dX6_meanTrees_70 : decode cX6_meanTrees 70 = .ok (.dreturn, 1) := by decide +kernel
theorem dX6_isSound_0 : decode cX6_isSound 0 = .ok (.aload_n 0, 1) := by decide +kernel
theorem dX6_isSound_1 : decode cX6_isSound 1 = .ok (.getfield 18, 3) := by decide +kernel
theorem dX6_isSound_4 : decode cX6_isSound 4 = .ok (.astore_n 1, 1) := by decide +kernel
theorem dX6_isSound_5 : decode cX6_isSound 5 = .ok (.aload_n 1, 1) := by decide +kernel
theorem dX6_isSound_6 : decode cX6_isSound 6 = .ok (.arraylength, 1) := by decide +kernel
theorem dX6_isSound_7 : decode cX6_isSound 7 = .ok (.istore_n 2, 1) := by decide +kernel
theorem dX6_isSound_8 : decode cX6_isSound 8 = .ok (.iconst 0, 1) := by decide +kernel
theorem dX6_isSound_9 : decode cX6_isSound 9 = .ok (.istore_n 3, 1) := by decide +kernel
theorem dX6_isSound_10 : decode cX6_isSound 10 = .ok (.iload_n 3, 1) := by decide +kernel
theorem dX6_isSound_11 : decode cX6_isSound 11 = .ok (.iload_n 2, 1) := by decide +kernel
theorem dX6_isSound_12 : decode cX6_isSound 12 = .ok (.if_icmp .ge 33, 3) := by decide +kernel
theorem dX6_isSound_15 : decode cX6_isSound 15 = .ok (.aload_n 1, 1) := by decide +kernel
theorem dX6_isSound_16 : decode cX6_isSound 16 = .ok (.iload_n 3, 1) := by decide +kernel
theorem dX6_isSound_17 : decode cX6_isSound 17 = .ok (.aaload, 1) := by decide +kernel
theorem dX6_isSound_18 : decode cX6_isSound 18 = .ok (.astore 4, 2) := by decide +kernel
theorem dX6_isSound_20 : decode cX6_isSound 20 = .ok (.aload 4, 2) := by decide +kernel
theorem dX6_isSound_22 : decode cX6_isSound 22 = .ok (.ifnull 17, 3) := by decide +kernel
theorem dX6_isSound_25 : decode cX6_isSound 25 = .ok (.aload_n 0, 1) := by decide +kernel
theorem dX6_isSound_26 : decode cX6_isSound 26 = .ok (.aload 4, 2) := by decide +kernel
theorem dX6_isSound_28 : decode cX6_isSound 28 = .ok (.getfield 117, 3) := by decide +kernel
theorem dX6_isSound_31 : decode cX6_isSound 31 = .ok (.invokevirtual 209, 3) := by decide +kernel
theorem dX6_isSound_34 : decode cX6_isSound 34 = .ok (.ifCond .ne 5, 3) := by decide +kernel
theorem dX6_isSound_37 : decode cX6_isSound 37 = .ok (.iconst 0, 1) := by decide +kernel
theorem dX6_isSound_38 : decode cX6_isSound 38 = .ok (.ireturn, 1) := by decide +kernel
theorem dX6_isSound_39 : decode cX6_isSound 39 = .ok (.iinc 3 1, 3) := by decide +kernel
theorem dX6_isSound_42 : decode cX6_isSound 42 = .ok (.goto (-32), 3) := by decide +kernel
theorem dX6_isSound_45 : decode cX6_isSound 45 = .ok (.iconst 1, 1) := by decide +kernel
theorem dX6_isSound_46 : decode cX6_isSound 46 = .ok (.ireturn, 1) := by decide +kernel
theorem dX6_isWithin_0 : decode cX6_isWithin 0 = .ok (.iload_n 0, 1) := by decide +kernel
theorem dX6_isWithin_1 : decode cX6_isWithin 1 = .ok (.iload_n 1, 1) := by decide +kernel
theorem dX6_isWithin_2 : decode cX6_isWithin 2 = .ok (.if_icmp .lt 12, 3) := by decide +kernel
theorem dX6_isWithin_5 : decode cX6_isWithin 5 = .ok (.iload_n 0, 1) := by decide +kernel
theorem dX6_isWithin_6 : decode cX6_isWithin 6 = .ok (.iload_n 2, 1) := by decide +kernel
theorem dX6_isWithin_7 : decode cX6_isWithin 7 = .ok (.if_icmp .gt 7, 3) := by decide +kernel
theorem dX6_isWithin_10 : decode cX6_isWithin 10 = .ok (.iconst 1, 1) := by decide +kernel
theorem dX6_isWithin_11 : decode cX6_isWithin 11 = .ok (.goto 4, 3) := by decide +kernel
theorem dX6_isWithin_14 : decode cX6_isWithin 14 = .ok (.iconst 0, 1) := by decide +kernel
theorem dX6_isWithin_15 : decode cX6_isWithin 15 = .ok (.ireturn, 1) := by decide +kernel
theorem dX6_isLetter_0 : decode cX6_isLetter 0 = .ok (.iload_n 0, 1) := by decide +kernel
theorem dX6_isLetter_1 : decode cX6_isLetter 1 = .ok (.ifCond .lt 13, 3) := by decide +kernel
theorem dX6_isLetter_4 : decode cX6_isLetter 4 = .ok (.iload_n 0, 1) := by decide +kernel
theorem dX6_isLetter_5 : decode cX6_isLetter 5 = .ok (.bipush 8, 2) := by decide +kernel
theorem dX6_isLetter_7 : decode cX6_isLetter 7 = .ok (.if_icmp .ge 7, 3) := by decide +kernel
theorem dX6_isLetter_10 : decode cX6_isLetter 10 = .ok (.iconst 1, 1) := by decide +kernel
theorem dX6_isLetter_11 : decode cX6_isLetter 11 = .ok (.goto 4, 3) := by decide +kernel
theorem dX6_isLetter_14 : decode cX6_isLetter 14 = .ok (.iconst 0, 1) := by decide +kernel
theorem dX6_isLetter_15 : decode cX6_isLetter 15 = .ok (.ireturn, 1) := by decide +kernel
theorem dX6_isName_0 : decode cX6_isName 0 = .ok (.iload_n 0, 1) := by decide +kernel
theorem dX6_isName_1 : decode cX6_isName 1 = .ok (.bipush 10, 2) := by decide +kernel
theorem dX6_isName_3 : decode cX6_isName 3 = .ok (.if_icmp .lt 13, 3) := by decide +kernel
theorem dX6_isName_6 : decode cX6_isName 6 = .ok (.iload_n 0, 1) := by decide +kernel
theorem dX6_isName_7 : decode cX6_isName 7 = .ok (.bipush 15, 2) := by decide +kernel
theorem dX6_isName_9 : decode cX6_isName 9 = .ok (.if_icmp .ge 7, 3) := by decide +kernel
theorem dX6_isName_12 : decode cX6_isName 12 = .ok (.iconst 1, 1) := by decide +kernel
theorem dX6_isName_13 : decode cX6_isName 13 = .ok (.goto 4, 3) := by decide +kernel
theorem dX6_isName_16 : decode cX6_isName 16 = .ok (.iconst 0, 1) := by decide +kernel
theorem dX6_isName_17 : decode cX6_isName 17 = .ok (.ireturn, 1) := by decide +kernel
theorem dX6_isSymbol_0 : decode cX6_isSymbol 0 = .ok (.iload_n 0, 1) := by decide +kernel
theorem dX6_isSymbol_1 : decode cX6_isSymbol 1 = .ok (.invokestatic 213, 3) := by decide +kernel
theorem dX6_isSymbol_4 : decode cX6_isSymbol 4 = .ok (.ifCond .ne 10, 3) := by decide +kernel
theorem dX6_isSymbol_7 : decode cX6_isSymbol 7 = .ok (.iload_n 0, 1) := by decide +kernel
theorem dX6_isSymbol_8 : decode cX6_isSymbol 8 = .ok (.invokestatic 154, 3) := by decide +kernel
theorem dX6_isSymbol_11 : decode cX6_isSymbol 11 = .ok (.ifCond .eq 7, 3) := by decide +kernel
theorem dX6_isSymbol_14 : decode cX6_isSymbol 14 = .ok (.iconst 1, 1) := by decide +kernel
theorem dX6_isSymbol_15 : decode cX6_isSymbol 15 = .ok (.goto 4, 3) := by decide +kernel
theorem dX6_isSymbol_18 : decode cX6_isSymbol 18 = .ok (.iconst 0, 1) := by decide +kernel
theorem dX6_isSymbol_19 : decode cX6_isSymbol 19 = .ok (.ireturn, 1) := by decide +kernel
theorem dX6_isRuleForm_0 : decode cX6_isRuleForm 0 = .ok (.iload_n 0, 1) := by decide +kernel
theorem dX6_isRuleForm_1 : decode cX6_isRuleForm 1 = .ok (.invokestatic 154, 3) := by decide +kernel
theorem dX6_isRuleForm_4 : decode cX6_isRuleForm 4 = .ok (.ifCond .eq 10, 3) := by decide +kernel
theorem dX6_isRuleForm_7 : decode cX6_isRuleForm 7 = .ok (.iload_n 1, 1) := by decide +kernel
theorem dX6_isRuleForm_8 : decode cX6_isRuleForm 8 = .ok (.invokestatic 216, 3) := by decide +kernel
theorem dX6_isRuleForm_11 : decode cX6_isRuleForm 11 = .ok (.ifCond .ne 5, 3) := by decide +kernel
theorem dX6_isRuleForm_14 : decode cX6_isRuleForm 14 = .ok (.iconst 0, 1) := by decide +kernel
theorem dX6_isRuleForm_15 : decode cX6_isRuleForm 15 = .ok (.ireturn, 1) := by decide +kernel
theorem dX6_isRuleForm_16 : decode cX6_isRuleForm 16 = .ok (.iload_n 2, 1) := by decide +kernel
theorem dX6_isRuleForm_17 : decode cX6_isRuleForm 17 = .ok (.iconst (-1), 1) := by decide +kernel
theorem dX6_isRuleForm_18 : decode cX6_isRuleForm 18 = .ok (.if_icmp .ne 26, 3) := by decide +kernel
theorem dX6_isRuleForm_21 : decode cX6_isRuleForm 21 = .ok (.iload_n 3, 1) := by decide +kernel
theorem dX6_isRuleForm_22 : decode cX6_isRuleForm 22 = .ok (.iconst (-1), 1) := by decide +kernel
theorem dX6_isRuleForm_23 : decode cX6_isRuleForm 23 = .ok (.if_icmp .ne 19, 3) := by decide +kernel
theorem dX6_isRuleForm_26 : decode cX6_isRuleForm 26 = .ok (.iload_n 1, 1) := by decide +kernel
theorem dX6_isRuleForm_27 : decode cX6_isRuleForm 27 = .ok (.invokestatic 213, 3) := by decide +kernel
theorem dX6_isRuleForm_30 : decode cX6_isRuleForm 30 = .ok (.ifCond .ne 8, 3) := by decide +kernel
theorem dX6_isRuleForm_33 : decode cX6_isRuleForm 33 = .ok (.iload_n 1, 1) := by decide +kernel
theorem dX6_isRuleForm_34 : decode cX6_isRuleForm 34 = .ok (.iload_n 0, 1) := by decide +kernel
theorem dX6_isRuleForm_35 : decode cX6_isRuleForm 35 = .ok (.if_icmp .le 7, 3) := by decide +kernel
theorem dX6_isRuleForm_38 : decode cX6_isRuleForm 38 = .ok (.iconst 1, 1) := by decide +kernel
theorem dX6_isRuleForm_39 : decode cX6_isRuleForm 39 = .ok (.goto 4, 3) := by decide +kernel
theorem dX6_isRuleForm_42 : decode cX6_isRuleForm 42 = .ok (.iconst 0, 1) := by decide +kernel
theorem dX6_isRuleForm_43 : decode cX6_isRuleForm 43 = .ok (.ireturn, 1) := by decide +kernel
theorem dX6_isRuleForm_44 : decode cX6_isRuleForm 44 = .ok (.iload_n 2, 1) := by decide +kernel
theorem dX6_isRuleForm_45 : decode cX6_isRuleForm 45 = .ok (.invokestatic 216, 3) := by decide +kernel
theorem dX6_isRuleForm_48 : decode cX6_isRuleForm 48 = .ok (.ifCond .eq 19, 3) := by decide +kernel
theorem dX6_isRuleForm_51 : decode cX6_isRuleForm 51 = .ok (.iload_n 3, 1) := by decide +kernel
theorem dX6_isRuleForm_52 : decode cX6_isRuleForm 52 = .ok (.iconst (-1), 1) := by decide +kernel
theorem dX6_isRuleForm_53 : decode cX6_isRuleForm 53 = .ok (.if_icmp .eq 10, 3) := by decide +kernel
theorem dX6_isRuleForm_56 : decode cX6_isRuleForm 56 = .ok (.iload_n 3, 1) := by decide +kernel
theorem dX6_isRuleForm_57 : decode cX6_isRuleForm 57 = .ok (.invokestatic 216, 3) := by decide +kernel
theorem dX6_isRuleForm_60 : decode cX6_isRuleForm 60 = .ok (.ifCond .eq 7, 3) := by decide +kernel
theorem dX6_isRuleForm_63 : decode cX6_isRuleForm 63 = .ok (.iconst 1, 1) := by decide +kernel
theorem dX6_isRuleForm_64 : decode cX6_isRuleForm 64 = .ok (.goto 4, 3) := by decide +kernel
theorem dX6_isRuleForm_67 : decode cX6_isRuleForm 67 = .ok (.iconst 0, 1) := by decide +kernel
theorem dX6_isRuleForm_68 : decode cX6_isRuleForm 68 = .ok (.ireturn, 1) := by decide +kernel
theorem dX6_limited_0 : decode cX6_limited 0 = .ok (.iload_n 0, 1) := by decide +kernel
theorem dX6_limited_1 : decode cX6_limited 1 = .ok (.sipush 1000, 3) := by decide +kernel
theorem dX6_limited_4 : decode cX6_limited 4 = .ok (.if_icmp .le 9, 3) := by decide +kernel
theorem dX6_limited_7 : decode cX6_limited 7 = .ok (.sipush 1000, 3) := by decide +kernel
theorem dX6_limited_10 : decode cX6_limited 10 = .ok (.goto 4, 3) := by decide +kernel
theorem dX6_limited_13 : decode cX6_limited 13 = .ok (.iload_n 0, 1) := by decide +kernel
theorem dX6_limited_14 : decode cX6_limited 14 = .ok (.ireturn, 1) := by decide +kernel
theorem dX6_spot_0 : decode cX6_spot 0 = .ok (.iload_n 0, 1) := by decide +kernel
theorem dX6_spot_1 : decode cX6_spot 1 = .ok (.bipush 10, 2) := by decide +kernel
theorem dX6_spot_3 : decode cX6_spot 3 = .ok (.if_icmp .lt 24, 3) := by decide +kernel
theorem dX6_spot_6 : decode cX6_spot 6 = .ok (.iload_n 0, 1) := by decide +kernel
theorem dX6_spot_7 : decode cX6_spot 7 = .ok (.bipush 15, 2) := by decide +kernel
theorem dX6_spot_9 : decode cX6_spot 9 = .ok (.if_icmp .ge 18, 3) := by decide +kernel
theorem dX6_spot_12 : decode cX6_spot 12 = .ok (.iload_n 1, 1) := by decide +kernel
theorem dX6_spot_13 : decode cX6_spot 13 = .ok (.ifCond .lt 14, 3) := by decide +kernel
theorem dX6_spot_16 : decode cX6_spot 16 = .ok (.iload_n 2, 1) := by decide +kernel
theorem dX6_spot_17 : decode cX6_spot 17 = .ok (.iload_n 1, 1) := by decide +kernel
theorem dX6_spot_18 : decode cX6_spot 18 = .ok (.if_icmp .lt 9, 3) := by decide +kernel
theorem dX6_spot_21 : decode cX6_spot 21 = .ok (.iload_n 2, 1) := by decide +kernel
theorem dX6_spot_22 : decode cX6_spot 22 = .ok (.bipush 10, 2) := by decide +kernel
theorem dX6_spot_24 : decode cX6_spot 24 = .ok (.if_icmp .lt 5, 3) := by decide +kernel
theorem dX6_spot_27 : decode cX6_spot 27 = .ok (.iconst (-1), 1) := by decide +kernel
theorem dX6_spot_28 : decode cX6_spot 28 = .ok (.ireturn, 1) := by decide +kernel
theorem dX6_spot_29 : decode cX6_spot 29 = .ok (.iload_n 0, 1) := by decide +kernel
theorem dX6_spot_30 : decode cX6_spot 30 = .ok (.bipush 10, 2) := by decide +kernel
theorem dX6_spot_32 : decode cX6_spot 32 = .ok (.isub, 1) := by decide +kernel
theorem dX6_spot_33 : decode cX6_spot 33 = .ok (.bipush 10, 2) := by decide +kernel
theorem dX6_spot_35 : decode cX6_spot 35 = .ok (.imul, 1) := by decide +kernel
theorem dX6_spot_36 : decode cX6_spot 36 = .ok (.iload_n 1, 1) := by decide +kernel
theorem dX6_spot_37 : decode cX6_spot 37 = .ok (.iadd, 1) := by decide +kernel
theorem dX6_spot_38 : decode cX6_spot 38 = .ok (.bipush 10, 2) := by decide +kernel
theorem dX6_spot_40 : decode cX6_spot 40 = .ok (.imul, 1) := by decide +kernel
theorem dX6_spot_41 : decode cX6_spot 41 = .ok (.iload_n 2, 1) := by decide +kernel
theorem dX6_spot_42 : decode cX6_spot 42 = .ok (.iadd, 1) := by decide +kernel
theorem dX6_spot_43 : decode cX6_spot 43 = .ok (.ireturn, 1) := by decide +kernel
theorem dX6_requireLetter_0 : decode cX6_requireLetter 0 = .ok (.iload_n 0, 1) := by decide +kernel
theorem dX6_requireLetter_1 : decode cX6_requireLetter 1 = .ok (.invokestatic 213, 3) := by decide +kernel
theorem dX6_requireLetter_4 : decode cX6_requireLetter 4 = .ok (.ifCond .ne 11, 3) := by decide +kernel
theorem dX6_requireLetter_7 : decode cX6_requireLetter 7 = .ok (.new 58, 3) := by decide +kernel
theorem dX6_requireLetter_10 : decode cX6_requireLetter 10 = .ok (.dup, 1) := by decide +kernel
theorem dX6_requireLetter_11 : decode cX6_requireLetter 11 = .ok (.invokespecial 60, 3) := by decide +kernel
theorem dX6_requireLetter_14 : decode cX6_requireLetter 14 = .ok (.athrow, 1) := by decide +kernel
theorem dX6_requireLetter_15 : decode cX6_requireLetter 15 = .ok (.return_, 1) := by decide +kernel
theorem dX6_requirePlace_0 : decode cX6_requirePlace 0 = .ok (.iload_n 1, 1) := by decide +kernel
theorem dX6_requirePlace_1 : decode cX6_requirePlace 1 = .ok (.ifCond .lt 11, 3) := by decide +kernel
theorem dX6_requirePlace_4 : decode cX6_requirePlace 4 = .ok (.iload_n 1, 1) := by decide +kernel
theorem dX6_requirePlace_5 : decode cX6_requirePlace 5 = .ok (.aload_n 0, 1) := by decide +kernel
theorem dX6_requirePlace_6 : decode cX6_requirePlace 6 = .ok (.getfield 131, 3) := by decide +kernel
theorem dX6_requirePlace_9 : decode cX6_requirePlace 9 = .ok (.if_icmp .lt 11, 3) := by decide +kernel
theorem dX6_requirePlace_12 : decode cX6_requirePlace 12 = .ok (.new 219, 3) := by decide +kernel
theorem dX6_requirePlace_15 : decode cX6_requirePlace 15 = .ok (.dup, 1) := by decide +kernel
theorem dX6_requirePlace_16 : decode cX6_requirePlace 16 = .ok (.invokespecial 221, 3) := by decide +kernel
theorem dX6_requirePlace_19 : decode cX6_requirePlace 19 = .ok (.athrow, 1) := by decide +kernel
theorem dX6_requirePlace_20 : decode cX6_requirePlace 20 = .ok (.return_, 1) := by decide +kernel
theorem dX6_existingRule_0 : decode cX6_existingRule 0 = .ok (.aload_n 0, 1) := by decide +kernel
theorem dX6_existingRule_1 : decode cX6_existingRule 1 = .ok (.getfield 12, 3) := by decide +kernel
theorem dX6_existingRule_4 : decode cX6_existingRule 4 = .ok (.iload_n 1, 1) := by decide +kernel
theorem dX6_existingRule_5 : decode cX6_existingRule 5 = .ok (.invokevirtual 222, 3) := by decide +kernel
theorem dX6_existingRule_8 : decode cX6_existingRule 8 = .ok (.astore_n 2, 1) := by decide +kernel
theorem dX6_existingRule_9 : decode cX6_existingRule 9 = .ok (.aload_n 2, 1) := by decide +kernel
theorem dX6_existingRule_10 : decode cX6_existingRule 10 = .ok (.ifnonnull 11, 3) := by decide +kernel
theorem dX6_existingRule_13 : decode cX6_existingRule 13 = .ok (.new 168, 3) := by decide +kernel
theorem dX6_existingRule_16 : decode cX6_existingRule 16 = .ok (.dup, 1) := by decide +kernel
theorem dX6_existingRule_17 : decode cX6_existingRule 17 = .ok (.invokespecial 170, 3) := by decide +kernel
theorem dX6_existingRule_20 : decode cX6_existingRule 20 = .ok (.athrow, 1) := by decide +kernel
theorem dX6_existingRule_21 : decode cX6_existingRule 21 = .ok (.aload_n 2, 1) := by decide +kernel
theorem dX6_existingRule_22 : decode cX6_existingRule 22 = .ok (.areturn, 1) := by decide +kernel
theorem dX6_existingText_0 : decode cX6_existingText 0 = .ok (.iload_n 1, 1) := by decide +kernel
theorem dX6_existingText_1 : decode cX6_existingText 1 = .ok (.ifCond .lt 21, 3) := by decide +kernel
theorem dX6_existingText_4 : decode cX6_existingText 4 = .ok (.iload_n 1, 1) := by decide +kernel
theorem dX6_existingText_5 : decode cX6_existingText 5 = .ok (.aload_n 0, 1) := by decide +kernel
theorem dX6_existingText_6 : decode cX6_existingText 6 = .ok (.getfield 18, 3) := by decide +kernel
theorem dX6_existingText_9 : decode cX6_existingText 9 = .ok (.arraylength, 1) := by decide +kernel
theorem dX6_existingText_10 : decode cX6_existingText 10 = .ok (.if_icmp .ge 12, 3) := by decide +kernel
theorem dX6_existingText_13 : decode cX6_existingText 13 = .ok (.aload_n 0, 1) := by decide +kernel
theorem dX6_existingText_14 : decode cX6_existingText 14 = .ok (.getfield 18, 3) := by decide +kernel
theorem dX6_existingText_17 : decode cX6_existingText 17 = .ok (.iload_n 1, 1) := by decide +kernel
theorem dX6_existingText_18 : decode cX6_existingText 18 = .ok (.aaload, 1) := by decide +kernel
theorem dX6_existingText_19 : decode cX6_existingText 19 = .ok (.goto 4, 3) := by decide +kernel
theorem dX6_existingText_22 : decode cX6_existingText 22 = .ok (.aconst_null, 1) := by decide +kernel
theorem dX6_existingText_23 : decode cX6_existingText 23 = .ok (.astore_n 2, 1) := by decide +kernel
theorem dX6_existingText_24 : decode cX6_existingText 24 = .ok (.aload_n 2, 1) := by decide +kernel
theorem dX6_existingText_25 : decode cX6_existingText 25 = .ok (.ifnonnull 11, 3) := by decide +kernel
theorem dX6_existingText_28 : decode cX6_existingText 28 = .ok (.new 219, 3) := by decide +kernel
theorem dX6_existingText_31 : decode cX6_existingText 31 = .ok (.dup, 1) := by decide +kernel
theorem dX6_existingText_32 : decode cX6_existingText 32 = .ok (.invokespecial 221, 3) := by decide +kernel
theorem dX6_existingText_35 : decode cX6_existingText 35 = .ok (.athrow, 1) := by decide +kernel
theorem dX6_existingText_36 : decode cX6_existingText 36 = .ok (.aload_n 2, 1) := by decide +kernel
theorem dX6_existingText_37 : decode cX6_existingText 37 = .ok (.areturn, 1) := by decide +kernel
theorem dX6_layOut_0 : decode cX6_layOut 0 = .ok (.aload_n 0, 1) := by decide +kernel
theorem dX6_layOut_1 : decode cX6_layOut 1 = .ok (.getfield 32, 3) := by decide +kernel
theorem dX6_layOut_4 : decode cX6_layOut 4 = .ok (.aload_n 0, 1) := by decide +kernel
theorem dX6_layOut_5 : decode cX6_layOut 5 = .ok (.getfield 12, 3) := by decide +kernel
theorem dX6_layOut_8 : decode cX6_layOut 8 = .ok (.aload_n 0, 1) := by decide +kernel
theorem dX6_layOut_9 : decode cX6_layOut 9 = .ok (.iload_n 1, 1) := by decide +kernel
theorem dX6_layOut_10 : decode cX6_layOut 10 = .ok (.invokevirtual 127, 3) := by decide +kernel
theorem dX6_layOut_13 : decode cX6_layOut 13 = .ok (.getfield 117, 3) := by decide +kernel
theorem dX6_layOut_16 : decode cX6_layOut 16 = .ok (.invokevirtual 177, 3) := by decide +kernel
theorem dX6_layOut_19 : decode cX6_layOut 19 = .ok (.return_, 1) := by decide +kernel
theorem dX6_findTouchedBy_0 : decode cX6_findTouchedBy 0 = .ok (.iconst 0, 1) := by decide +kernel
theorem dX6_findTouchedBy_1 : decode cX6_findTouchedBy 1 = .ok (.istore_n 2, 1) := by decide +kernel
theorem dX6_findTouchedBy_2 : decode cX6_findTouchedBy 2 = .ok (.aload_n 0, 1) := by decide +kernel
theorem dX6_findTouchedBy_3 : decode cX6_findTouchedBy 3 = .ok (.getfield 18, 3) := by decide +kernel
theorem dX6_findTouchedBy_6 : decode cX6_findTouchedBy 6 = .ok (.astore_n 3, 1) := by decide +kernel
theorem dX6_findTouchedBy_7 : decode cX6_findTouchedBy 7 = .ok (.aload_n 3, 1) := by decide +kernel
theorem dX6_findTouchedBy_8 : decode cX6_findTouchedBy 8 = .ok (.arraylength, 1) := by decide +kernel
theorem dX6_findTouchedBy_9 : decode cX6_findTouchedBy 9 = .ok (.istore 4, 2) := by decide +kernel
theorem dX6_findTouchedBy_11 : decode cX6_findTouchedBy 11 = .ok (.iconst 0, 1) := by decide +kernel
theorem dX6_findTouchedBy_12 : decode cX6_findTouchedBy 12 = .ok (.istore 5, 2) := by decide +kernel
theorem dX6_findTouchedBy_14 : decode cX6_findTouchedBy 14 = .ok (.iload 5, 2) := by decide +kernel
theorem dX6_findTouchedBy_16 : decode cX6_findTouchedBy 16 = .ok (.iload 4, 2) := by decide +kernel
theorem dX6_findTouchedBy_18 : decode cX6_findTouchedBy 18 = .ok (.if_icmp .ge 57, 3) := by decide +kernel
theorem dX6_findTouchedBy_21 : decode cX6_findTouchedBy 21 = .ok (.aload_n 3, 1) := by decide +kernel
theorem dX6_findTouchedBy_22 : decode cX6_findTouchedBy 22 = .ok (.iload 5, 2) := by decide +kernel
theorem dX6_findTouchedBy_24 : decode cX6_findTouchedBy 24 = .ok (.aaload, 1) := by decide +kernel
theorem dX6_findTouchedBy_25 : decode cX6_findTouchedBy 25 = .ok (.astore 6, 2) := by decide +kernel
theorem dX6_findTouchedBy_27 : decode cX6_findTouchedBy 27 = .ok (.aload 6, 2) := by decide +kernel
theorem dX6_findTouchedBy_29 : decode cX6_findTouchedBy 29 = .ok (.ifnull 40, 3) := by decide +kernel
theorem dX6_findTouchedBy_32 : decode cX6_findTouchedBy 32 = .ok (.aload 6, 2) := by decide +kernel
theorem dX6_findTouchedBy_34 : decode cX6_findTouchedBy 34 = .ok (.getfield 117, 3) := by decide +kernel
theorem dX6_findTouchedBy_37 : decode cX6_findTouchedBy 37 = .ok (.aload_n 1, 1) := by decide +kernel
theorem dX6_findTouchedBy_38 : decode cX6_findTouchedBy 38 = .ok (.invokevirtual 225, 3) := by decide +kernel
theorem dX6_findTouchedBy_41 : decode cX6_findTouchedBy 41 = .ok (.ifCond .eq 28, 3) := by decide +kernel
theorem dX6_findTouchedBy_44 : decode cX6_findTouchedBy 44 = .ok (.aload_n 0, 1) := by decide +kernel
theorem dX6_findTouchedBy_45 : decode cX6_findTouchedBy 45 = .ok (.dup, 1) := by decide +kernel
theorem dX6_findTouchedBy_46 : decode cX6_findTouchedBy 46 = .ok (.getfield 50, 3) := by decide +kernel
theorem dX6_findTouchedBy_49 : decode cX6_findTouchedBy 49 = .ok (.aload 6, 2) := by decide +kernel
theorem dX6_findTouchedBy_51 : decode cX6_findTouchedBy 51 = .ok (.getfield 117, 3) := by decide +kernel
theorem dX6_findTouchedBy_54 : decode cX6_findTouchedBy 54 = .ok (.aload_n 0, 1) := by decide +kernel
theorem dX6_findTouchedBy_55 : decode cX6_findTouchedBy 55 = .ok (.getfield 12, 3) := by decide +kernel
theorem dX6_findTouchedBy_58 : decode cX6_findTouchedBy 58 = .ok (.invokevirtual 229, 3) := by decide +kernel
theorem dX6_findTouchedBy_61 : decode cX6_findTouchedBy 61 = .ok (.i2l, 1) := by decide +kernel
theorem dX6_findTouchedBy_62 : decode cX6_findTouchedBy 62 = .ok (.ladd, 1) := by decide +kernel
theorem dX6_findTouchedBy_63 : decode cX6_findTouchedBy 63 = .ok (.putfield 50, 3) := by decide +kernel
theorem dX6_findTouchedBy_66 : decode cX6_findTouchedBy 66 = .ok (.iinc 2 1, 3) := by decide +kernel
theorem dX6_findTouchedBy_69 : decode cX6_findTouchedBy 69 = .ok (.iinc 5 1, 3) := by decide +kernel
theorem dX6_findTouchedBy_72 : decode cX6_findTouchedBy 72 = .ok (.goto (-58), 3) := by decide +kernel
theorem dX6_findTouchedBy_75 : decode cX6_findTouchedBy 75 = .ok (.iload_n 2, 1) := by decide +kernel
theorem dX6_findTouchedBy_76 : decode cX6_findTouchedBy 76 = .ok (.ireturn, 1) := by decide +kernel
theorem dX6_faultOf_0 : decode cX6_faultOf 0 = .ok (.aload_n 1, 1) := by decide +kernel
theorem dX6_faultOf_1 : decode cX6_faultOf 1 = .ok (.getfield 117, 3) := by decide +kernel
theorem dX6_faultOf_4 : decode cX6_faultOf 4 = .ok (.invokevirtual 134, 3) := by decide +kernel
theorem dX6_faultOf_7 : decode cX6_faultOf 7 = .ok (.istore_n 2, 1) := by decide +kernel
theorem dX6_faultOf_8 : decode cX6_faultOf 8 = .ok (.iload_n 2, 1) := by decide +kernel
theorem dX6_faultOf_9 : decode cX6_faultOf 9 = .ok (.ifCond .ne 6, 3) := by decide +kernel
theorem dX6_faultOf_12 : decode cX6_faultOf 12 = .ok (.bipush 110, 2) := by decide +kernel
theorem dX6_faultOf_14 : decode cX6_faultOf 14 = .ok (.ireturn, 1) := by decide +kernel
theorem dX6_faultOf_15 : decode cX6_faultOf 15 = .ok (.iload_n 2, 1) := by decide +kernel
theorem dX6_faultOf_16 : decode cX6_faultOf 16 = .ok (.iconst 1, 1) := by decide +kernel
theorem dX6_faultOf_17 : decode cX6_faultOf 17 = .ok (.if_icmp .le 6, 3) := by decide +kernel
theorem dX6_faultOf_20 : decode cX6_faultOf 20 = .ok (.bipush 97, 2) := by decide +kernel
theorem dX6_faultOf_22 : decode cX6_faultOf 22 = .ok (.ireturn, 1) := by decide +kernel
theorem dX6_faultOf_23 : decode cX6_faultOf 23 = .ok (.aload_n 1, 1) := by decide +kernel
theorem dX6_faultOf_24 : decode cX6_faultOf 24 = .ok (.getfield 233, 3) := by decide +kernel
theorem dX6_faultOf_27 : decode cX6_faultOf 27 = .ok (.ifCond .ne 6, 3) := by decide +kernel
theorem dX6_faultOf_30 : decode cX6_faultOf 30 = .ok (.bipush 117, 2) := by decide +kernel
theorem dX6_faultOf_32 : decode cX6_faultOf 32 = .ok (.ireturn, 1) := by decide +kernel
theorem dX6_faultOf_33 : decode cX6_faultOf 33 = .ok (.aload_n 0, 1) := by decide +kernel
theorem dX6_faultOf_34 : decode cX6_faultOf 34 = .ok (.getfield 32, 3) := by decide +kernel
theorem dX6_faultOf_37 : decode cX6_faultOf 37 = .ok (.aload_n 0, 1) := by decide +kernel
theorem dX6_faultOf_38 : decode cX6_faultOf 38 = .ok (.getfield 12, 3) := by decide +kernel
theorem dX6_faultOf_41 : decode cX6_faultOf 41 = .ok (.aload_n 1, 1) := by decide +kernel
theorem dX6_faultOf_42 : decode cX6_faultOf 42 = .ok (.getfield 117, 3) := by decide +kernel
theorem dX6_faultOf_45 : decode cX6_faultOf 45 = .ok (.invokevirtual 177, 3) := by decide +kernel
theorem dX6_faultOf_48 : decode cX6_faultOf 48 = .ok (.aload_n 1, 1) := by decide +kernel
theorem dX6_faultOf_49 : decode cX6_faultOf 49 = .ok (.aload_n 0, 1) := by decide +kernel
theorem dX6_faultOf_50 : decode cX6_faultOf 50 = .ok (.getfield 32, 3) := by decide +kernel
theorem dX6_faultOf_53 : decode cX6_faultOf 53 = .ok (.invokevirtual 236, 3) := by decide +kernel
theorem dX6_faultOf_56 : decode cX6_faultOf 56 = .ok (.ifCond .eq 8, 3) := by decide +kernel
theorem dX6_faultOf_59 : decode cX6_faultOf 59 = .ok (.bipush 45, 2) := by decide +kernel
theorem dX6_faultOf_61 : decode cX6_faultOf 61 = .ok (.goto 5, 3) := by decide +kernel
theorem dX6_faultOf_64 : decode cX6_faultOf 64 = .ok (.bipush 120, 2) := by decide +kernel
theorem dX6_faultOf_66 : decode cX6_faultOf 66 = .ok (.ireturn, 1) := by decide +kernel
theorem dX6_countClean_0 : decode cX6_countClean 0 = .ok (.iconst 0, 1) := by decide +kernel
theorem dX6_countClean_1 : decode cX6_countClean 1 = .ok (.istore_n 1, 1) := by decide +kernel
theorem dX6_countClean_2 : decode cX6_countClean 2 = .ok (.aload_n 0, 1) := by decide +kernel
theorem dX6_countClean_3 : decode cX6_countClean 3 = .ok (.getfield 18, 3) := by decide +kernel
theorem dX6_countClean_6 : decode cX6_countClean 6 = .ok (.astore_n 2, 1) := by decide +kernel
theorem dX6_countClean_7 : decode cX6_countClean 7 = .ok (.aload_n 2, 1) := by decide +kernel
theorem dX6_countClean_8 : decode cX6_countClean 8 = .ok (.arraylength, 1) := by decide +kernel
theorem dX6_countClean_9 : decode cX6_countClean 9 = .ok (.istore_n 3, 1) := by decide +kernel
theorem dX6_countClean_10 : decode cX6_countClean 10 = .ok (.iconst 0, 1) := by decide +kernel
theorem dX6_countClean_11 : decode cX6_countClean 11 = .ok (.istore 4, 2) := by decide +kernel
theorem dX6_countClean_13 : decode cX6_countClean 13 = .ok (.iload 4, 2) := by decide +kernel
theorem dX6_countClean_15 : decode cX6_countClean 15 = .ok (.iload_n 3, 1) := by decide +kernel
theorem dX6_countClean_16 : decode cX6_countClean 16 = .ok (.if_icmp .ge 34, 3) := by decide +kernel
theorem dX6_countClean_19 : decode cX6_countClean 19 = .ok (.aload_n 2, 1) := by decide +kernel
theorem dX6_countClean_20 : decode cX6_countClean 20 = .ok (.iload 4, 2) := by decide +kernel
theorem dX6_countClean_22 : decode cX6_countClean 22 = .ok (.aaload, 1) := by decide +kernel
theorem dX6_countClean_23 : decode cX6_countClean 23 = .ok (.astore 5, 2) := by decide +kernel
theorem dX6_countClean_25 : decode cX6_countClean 25 = .ok (.aload 5, 2) := by decide +kernel
theorem dX6_countClean_27 : decode cX6_countClean 27 = .ok (.ifnull 17, 3) := by decide +kernel
theorem dX6_countClean_30 : decode cX6_countClean 30 = .ok (.aload_n 0, 1) := by decide +kernel
theorem dX6_countClean_31 : decode cX6_countClean 31 = .ok (.aload 5, 2) := by decide +kernel
theorem dX6_countClean_33 : decode cX6_countClean 33 = .ok (.invokevirtual 195, 3) := by decide +kernel
theorem dX6_countClean_36 : decode cX6_countClean 36 = .ok (.bipush 45, 2) := by decide +kernel
theorem dX6_countClean_38 : decode cX6_countClean 38 = .ok (.if_icmp .ne 6, 3) := by decide +kernel
theorem dX6_countClean_41 : decode cX6_countClean 41 = .ok (.iinc 1 1, 3) := by decide +kernel
theorem dX6_countClean_44 : decode cX6_countClean 44 = .ok (.iinc 4 1, 3) := by decide +kernel
theorem dX6_countClean_47 : decode cX6_countClean 47 = .ok (.goto (-34), 3) := by decide +kernel
theorem dX6_countClean_50 : decode cX6_countClean 50 = .ok (.iload_n 1, 1) := by decide +kernel
theorem dX6_countClean_51 : decode cX6_countClean 51 = .ok (.ireturn, 1) := by decide +kernel
theorem dX6_lengthOfAmbiguousRow_0 : decode cX6_lengthOfAmbiguousRow 0 = .ok (.iload_n 1, 1) := by decide +kernel
theorem dX6_lengthOfAmbiguousRow_1 : decode cX6_lengthOfAmbiguousRow 1 = .ok (.iconst 1, 1) := by decide +kernel
theorem dX6_lengthOfAmbiguousRow_2 : decode cX6_lengthOfAmbiguousRow 2 = .ok (.iconst 3, 1) := by decide +kernel
theorem dX6_lengthOfAmbiguousRow_3 : decode cX6_lengthOfAmbiguousRow 3 = .ok (.invokestatic 95, 3) := by decide +kernel
theorem dX6_lengthOfAmbiguousRow_6 : decode cX6_lengthOfAmbiguousRow 6 = .ok (.ifCond .eq 12, 3) := by decide +kernel
theorem dX6_lengthOfAmbiguousRow_9 : decode cX6_lengthOfAmbiguousRow 9 = .ok (.iload_n 2, 1) := by decide +kernel
theorem dX6_lengthOfAmbiguousRow_10 : decode cX6_lengthOfAmbiguousRow 10 = .ok (.iconst 1, 1) := by decide +kernel
theorem dX6_lengthOfAmbiguousRow_11 : decode cX6_lengthOfAmbiguousRow 11 = .ok (.iconst 4, 1) := by decide +kernel
theorem dX6_lengthOfAmbiguousRow_12 : decode cX6_lengthOfAmbiguousRow 12 = .ok (.invokestatic 95, 3) := by decide +kernel
theorem dX6_lengthOfAmbiguousRow_15 : decode cX6_lengthOfAmbiguousRow 15 = .ok (.ifCond .ne 11, 3) := by decide +kernel
theorem dX6_lengthOfAmbiguousRow_18 : decode cX6_lengthOfAmbiguousRow 18 = .ok (.new 58, 3) := by decide +kernel
theorem dX6_lengthOfAmbiguousRow_21 : decode cX6_lengthOfAmbiguousRow 21 = .ok (.dup, 1) := by decide +kernel
theorem dX6_lengthOfAmbiguousRow_22 : decode cX6_lengthOfAmbiguousRow 22 = .ok (.invokespecial 60, 3) := by decide +kernel
theorem dX6_lengthOfAmbiguousRow_25 : decode cX6_lengthOfAmbiguousRow 25 = .ok (.athrow, 1) := by decide +kernel
theorem dX6_lengthOfAmbiguousRow_26 : decode cX6_lengthOfAmbiguousRow 26 = .ok (.iconst 1, 1) := by decide +kernel
theorem dX6_lengthOfAmbiguousRow_27 : decode cX6_lengthOfAmbiguousRow 27 = .ok (.istore_n 3, 1) := by decide +kernel
theorem dX6_lengthOfAmbiguousRow_28 : decode cX6_lengthOfAmbiguousRow 28 = .ok (.iload_n 3, 1) := by decide +kernel
theorem dX6_lengthOfAmbiguousRow_29 : decode cX6_lengthOfAmbiguousRow 29 = .ok (.iload_n 2, 1) := by decide +kernel
theorem dX6_lengthOfAmbiguousRow_30 : decode cX6_lengthOfAmbiguousRow 30 = .ok (.if_icmp .gt 20, 3) := by decide +kernel
theorem dX6_lengthOfAmbiguousRow_33 : decode cX6_lengthOfAmbiguousRow 33 = .ok (.aload_n 0, 1) := by decide +kernel
theorem dX6_lengthOfAmbiguousRow_34 : decode cX6_lengthOfAmbiguousRow 34 = .ok (.iload_n 1, 1) := by decide +kernel
theorem dX6_lengthOfAmbiguousRow_35 : decode cX6_lengthOfAmbiguousRow 35 = .ok (.iload_n 3, 1) := by decide +kernel
theorem dX6_lengthOfAmbiguousRow_36 : decode cX6_lengthOfAmbiguousRow 36 = .ok (.invokevirtual 240, 3) := by decide +kernel
theorem dX6_lengthOfAmbiguousRow_39 : decode cX6_lengthOfAmbiguousRow 39 = .ok (.ifCond .eq 5, 3) := by decide +kernel
theorem dX6_lengthOfAmbiguousRow_42 : decode cX6_lengthOfAmbiguousRow 42 = .ok (.iload_n 3, 1) := by decide +kernel
theorem dX6_lengthOfAmbiguousRow_43 : decode cX6_lengthOfAmbiguousRow 43 = .ok (.ireturn, 1) := by decide +kernel
theorem dX6_lengthOfAmbiguousRow_44 : decode cX6_lengthOfAmbiguousRow 44 = .ok (.iinc 3 1, 3) := by decide +kernel
theorem dX6_lengthOfAmbiguousRow_47 : decode cX6_lengthOfAmbiguousRow 47 = .ok (.goto (-19), 3) := by decide +kernel
theorem dX6_lengthOfAmbiguousRow_50 : decode cX6_lengthOfAmbiguousRow 50 = .ok (.new 168, 3) := by decide +kernel
theorem dX6_lengthOfAmbiguousRow_53 : decode cX6_lengthOfAmbiguousRow 53 = .ok (.dup, 1) := by decide +kernel
theorem dX6_lengthOfAmbiguousRow_54 : decode cX6_lengthOfAmbiguousRow 54 = .ok (.invokespecial 170, 3) := by decide +kernel
theorem dX6_lengthOfAmbiguousRow_57 : decode cX6_lengthOfAmbiguousRow 57 = .ok (.athrow, 1) := by decide +kernel
theorem dX6_findAmbiguousRow_0 : decode cX6_findAmbiguousRow 0 = .ok (.aload_n 0, 1) := by decide +kernel
theorem dX6_findAmbiguousRow_1 : decode cX6_findAmbiguousRow 1 = .ok (.getfield 25, 3) := by decide +kernel
theorem dX6_findAmbiguousRow_4 : decode cX6_findAmbiguousRow 4 = .ok (.iload_n 2, 1) := by decide +kernel
theorem dX6_findAmbiguousRow_5 : decode cX6_findAmbiguousRow 5 = .ok (.invokevirtual 244, 3) := by decide +kernel
theorem dX6_findAmbiguousRow_8 : decode cX6_findAmbiguousRow 8 = .ok (.iconst 0, 1) := by decide +kernel
theorem dX6_findAmbiguousRow_9 : decode cX6_findAmbiguousRow 9 = .ok (.istore_n 3, 1) := by decide +kernel
theorem dX6_findAmbiguousRow_10 : decode cX6_findAmbiguousRow 10 = .ok (.iload_n 3, 1) := by decide +kernel
theorem dX6_findAmbiguousRow_11 : decode cX6_findAmbiguousRow 11 = .ok (.bipush 81, 2) := by decide +kernel
theorem dX6_findAmbiguousRow_13 : decode cX6_findAmbiguousRow 13 = .ok (.if_icmp .ge 47, 3) := by decide +kernel
theorem dX6_findAmbiguousRow_16 : decode cX6_findAmbiguousRow 16 = .ok (.aload_n 0, 1) := by decide +kernel
theorem dX6_findAmbiguousRow_17 : decode cX6_findAmbiguousRow 17 = .ok (.getfield 25, 3) := by decide +kernel
theorem dX6_findAmbiguousRow_20 : decode cX6_findAmbiguousRow 20 = .ok (.aload_n 0, 1) := by decide +kernel
theorem dX6_findAmbiguousRow_21 : decode cX6_findAmbiguousRow 21 = .ok (.getfield 12, 3) := by decide +kernel
theorem dX6_findAmbiguousRow_24 : decode cX6_findAmbiguousRow 24 = .ok (.invokevirtual 229, 3) := by decide +kernel
theorem dX6_findAmbiguousRow_27 : decode cX6_findAmbiguousRow 27 = .ok (.pop, 1) := by decide +kernel
theorem dX6_findAmbiguousRow_28 : decode cX6_findAmbiguousRow 28 = .ok (.aload_n 0, 1) := by decide +kernel
theorem dX6_findAmbiguousRow_29 : decode cX6_findAmbiguousRow 29 = .ok (.getfield 25, 3) := by decide +kernel
theorem dX6_findAmbiguousRow_32 : decode cX6_findAmbiguousRow 32 = .ok (.invokevirtual 134, 3) := by decide +kernel
theorem dX6_findAmbiguousRow_35 : decode cX6_findAmbiguousRow 35 = .ok (.iconst 1, 1) := by decide +kernel
theorem dX6_findAmbiguousRow_36 : decode cX6_findAmbiguousRow 36 = .ok (.if_icmp .le 5, 3) := by decide +kernel
theorem dX6_findAmbiguousRow_39 : decode cX6_findAmbiguousRow 39 = .ok (.iconst 1, 1) := by decide +kernel
theorem dX6_findAmbiguousRow_40 : decode cX6_findAmbiguousRow 40 = .ok (.ireturn, 1) := by decide +kernel
theorem dX6_findAmbiguousRow_41 : decode cX6_findAmbiguousRow 41 = .ok (.aload_n 0, 1) := by decide +kernel
theorem dX6_findAmbiguousRow_42 : decode cX6_findAmbiguousRow 42 = .ok (.getfield 25, 3) := by decide +kernel
theorem dX6_findAmbiguousRow_45 : decode cX6_findAmbiguousRow 45 = .ok (.iload_n 1, 1) := by decide +kernel
theorem dX6_findAmbiguousRow_46 : decode cX6_findAmbiguousRow 46 = .ok (.invokevirtual 247, 3) := by decide +kernel
theorem dX6_findAmbiguousRow_49 : decode cX6_findAmbiguousRow 49 = .ok (.ifCond .ne 5, 3) := by decide +kernel
theorem dX6_findAmbiguousRow_52 : decode cX6_findAmbiguousRow 52 = .ok (.iconst 0, 1) := by decide +kernel
theorem dX6_findAmbiguousRow_53 : decode cX6_findAmbiguousRow 53 = .ok (.ireturn, 1) := by decide +kernel
theorem dX6_findAmbiguousRow_54 : decode cX6_findAmbiguousRow 54 = .ok (.iinc 3 1, 3) := by decide +kernel
theorem dX6_findAmbiguousRow_57 : decode cX6_findAmbiguousRow 57 = .ok (.goto (-47), 3) := by decide +kernel
theorem dX6_findAmbiguousRow_60 : decode cX6_findAmbiguousRow 60 = .ok (.iconst 0, 1) := by decide +kernel
theorem dX6_findAmbiguousRow_61 : decode cX6_findAmbiguousRow 61 = .ok (.ireturn, 1) := by decide +kernel
theorem dX6_isSoundText_0 : decode cX6_isSoundText 0 = .ok (.aload_n 1, 1) := by decide +kernel
theorem dX6_isSoundText_1 : decode cX6_isSoundText 1 = .ok (.invokevirtual 134, 3) := by decide +kernel
theorem dX6_isSoundText_4 : decode cX6_isSoundText 4 = .ok (.istore_n 2, 1) := by decide +kernel
theorem dX6_isSoundText_5 : decode cX6_isSoundText 5 = .ok (.aload_n 1, 1) := by decide +kernel
theorem dX6_isSoundText_6 : decode cX6_isSoundText 6 = .ok (.getfield 131, 3) := by decide +kernel
theorem dX6_isSoundText_9 : decode cX6_isSoundText 9 = .ok (.iconst 5, 1) := by decide +kernel
theorem dX6_isSoundText_10 : decode cX6_isSoundText 10 = .ok (.if_icmp .gt 21, 3) := by decide +kernel
theorem dX6_isSoundText_13 : decode cX6_isSoundText 13 = .ok (.aload_n 0, 1) := by decide +kernel
theorem dX6_isSoundText_14 : decode cX6_isSoundText 14 = .ok (.getfield 39, 3) := by decide +kernel
theorem dX6_isSoundText_17 : decode cX6_isSoundText 17 = .ok (.aload_n 0, 1) := by decide +kernel
theorem dX6_isSoundText_18 : decode cX6_isSoundText 18 = .ok (.getfield 12, 3) := by decide +kernel
theorem dX6_isSoundText_21 : decode cX6_isSoundText 21 = .ok (.aload_n 1, 1) := by decide +kernel
theorem dX6_isSoundText_22 : decode cX6_isSoundText 22 = .ok (.invokevirtual 151, 3) := by decide +kernel
theorem dX6_isSoundText_25 : decode cX6_isSoundText 25 = .ok (.iload_n 2, 1) := by decide +kernel
theorem dX6_isSoundText_26 : decode cX6_isSoundText 26 = .ok (.if_icmp .eq 5, 3) := by decide +kernel
theorem dX6_isSoundText_29 : decode cX6_isSoundText 29 = .ok (.iconst 0, 1) := by decide +kernel
theorem dX6_isSoundText_30 : decode cX6_isSoundText 30 = .ok (.ireturn, 1) := by decide +kernel
theorem dX6_isSoundText_31 : decode cX6_isSoundText 31 = .ok (.aload_n 0, 1) := by decide +kernel
theorem dX6_isSoundText_32 : decode cX6_isSoundText 32 = .ok (.getfield 25, 3) := by decide +kernel
theorem dX6_isSoundText_35 : decode cX6_isSoundText 35 = .ok (.aload_n 1, 1) := by decide +kernel
theorem dX6_isSoundText_36 : decode cX6_isSoundText 36 = .ok (.invokevirtual 250, 3) := by decide +kernel
theorem dX6_isSoundText_39 : decode cX6_isSoundText 39 = .ok (.aload_n 0, 1) := by decide +kernel
theorem dX6_isSoundText_40 : decode cX6_isSoundText 40 = .ok (.getfield 25, 3) := by decide +kernel
theorem dX6_isSoundText_43 : decode cX6_isSoundText 43 = .ok (.aload_n 0, 1) := by decide +kernel
theorem dX6_isSoundText_44 : decode cX6_isSoundText 44 = .ok (.getfield 12, 3) := by decide +kernel
theorem dX6_isSoundText_47 : decode cX6_isSoundText 47 = .ok (.invokevirtual 229, 3) := by decide +kernel
theorem dX6_isSoundText_50 : decode cX6_isSoundText 50 = .ok (.pop, 1) := by decide +kernel
theorem dX6_isSoundText_51 : decode cX6_isSoundText 51 = .ok (.aload_n 0, 1) := by decide +kernel
theorem dX6_isSoundText_52 : decode cX6_isSoundText 52 = .ok (.getfield 25, 3) := by decide +kernel
theorem dX6_isSoundText_55 : decode cX6_isSoundText 55 = .ok (.aload_n 1, 1) := by decide +kernel
theorem dX6_isSoundText_56 : decode cX6_isSoundText 56 = .ok (.invokevirtual 254, 3) := by decide +kernel
theorem dX6_isSoundText_59 : decode cX6_isSoundText 59 = .ok (.ifCond .ne 5, 3) := by decide +kernel
theorem dX6_isSoundText_62 : decode cX6_isSoundText 62 = .ok (.iconst 0, 1) := by decide +kernel
theorem dX6_isSoundText_63 : decode cX6_isSoundText 63 = .ok (.ireturn, 1) := by decide +kernel
theorem dX6_isSoundText_64 : decode cX6_isSoundText 64 = .ok (.aload_n 0, 1) := by decide +kernel
theorem dX6_isSoundText_65 : decode cX6_isSoundText 65 = .ok (.getfield 32, 3) := by decide +kernel
theorem dX6_isSoundText_68 : decode cX6_isSoundText 68 = .ok (.aload_n 0, 1) := by decide +kernel
theorem dX6_isSoundText_69 : decode cX6_isSoundText 69 = .ok (.getfield 12, 3) := by decide +kernel
theorem dX6_isSoundText_72 : decode cX6_isSoundText 72 = .ok (.aload_n 1, 1) := by decide +kernel
theorem dX6_isSoundText_73 : decode cX6_isSoundText 73 = .ok (.invokevirtual 177, 3) := by decide +kernel
theorem dX6_isSoundText_76 : decode cX6_isSoundText 76 = .ok (.iload_n 2, 1) := by decide +kernel
theorem dX6_isSoundText_77 : decode cX6_isSoundText 77 = .ok (.ifCond .eq 17, 3) := by decide +kernel
theorem dX6_isSoundText_80 : decode cX6_isSoundText 80 = .ok (.aload_n 0, 1) := by decide +kernel
theorem dX6_isSoundText_81 : decode cX6_isSoundText 81 = .ok (.getfield 32, 3) := by decide +kernel
theorem dX6_isSoundText_84 : decode cX6_isSoundText 84 = .ok (.getfield 257, 3) := by decide +kernel
theorem dX6_isSoundText_87 : decode cX6_isSoundText 87 = .ok (.aload_n 1, 1) := by decide +kernel
theorem dX6_isSoundText_88 : decode cX6_isSoundText 88 = .ok (.getfield 131, 3) := by decide +kernel
theorem dX6_isSoundText_91 : decode cX6_isSoundText 91 = .ok (.if_icmp .ne 7, 3) := by decide +kernel
theorem dX6_isSoundText_94 : decode cX6_isSoundText 94 = .ok (.iconst 1, 1) := by decide +kernel
theorem dX6_isSoundText_95 : decode cX6_isSoundText 95 = .ok (.goto 4, 3) := by decide +kernel
theorem dX6_isSoundText_98 : decode cX6_isSoundText 98 = .ok (.iconst 0, 1) := by decide +kernel
theorem dX6_isSoundText_99 : decode cX6_isSoundText 99 = .ok (.ireturn, 1) := by decide +kernel
theorem dJx00060_init_a7421_0 : decode cJx00060_init_a7421 0 = .ok (.aload_n 0, 1) := by decide +kernel
theorem dJx00060_init_a7421_1 : decode cJx00060_init_a7421 1 = .ok (.aload_n 1, 1) := by decide +kernel
theorem dJx00060_init_a7421_2 : decode cJx00060_init_a7421 2 = .ok (.invokespecial 7, 3) := by decide +kernel
theorem dJx00060_init_a7421_5 : decode cJx00060_init_a7421 5 = .ok (.return_, 1) := by decide +kernel
theorem dJ9_max_7cf53_0 : decode cJ9_max_7cf53 0 = .ok (.iload_n 0, 1) := by decide +kernel
theorem dJ9_max_7cf53_1 : decode cJ9_max_7cf53 1 = .ok (.iload_n 1, 1) := by decide +kernel
theorem dJ9_max_7cf53_2 : decode cJ9_max_7cf53 2 = .ok (.if_icmp .lt 7, 3) := by decide +kernel
theorem dJ9_max_7cf53_5 : decode cJ9_max_7cf53 5 = .ok (.iload_n 0, 1) := by decide +kernel
theorem dJ9_max_7cf53_6 : decode cJ9_max_7cf53 6 = .ok (.goto 4, 3) := by decide +kernel
theorem dJ9_max_7cf53_9 : decode cJ9_max_7cf53 9 = .ok (.iload_n 1, 1) := by decide +kernel
theorem dJ9_max_7cf53_10 : decode cJ9_max_7cf53 10 = .ok (.ireturn, 1) := by decide +kernel
theorem dJ9_min_7cf53_0 : decode cJ9_min_7cf53 0 = .ok (.iload_n 0, 1) := by decide +kernel
theorem dJ9_min_7cf53_1 : decode cJ9_min_7cf53 1 = .ok (.iload_n 1, 1) := by decide +kernel
theorem dJ9_min_7cf53_2 : decode cJ9_min_7cf53 2 = .ok (.if_icmp .gt 7, 3) := by decide +kernel
theorem dJ9_min_7cf53_5 : decode cJ9_min_7cf53 5 = .ok (.iload_n 0, 1) := by decide +kernel
theorem dJ9_min_7cf53_6 : decode cJ9_min_7cf53 6 = .ok (.goto 4, 3) := by decide +kernel
theorem dJ9_min_7cf53_9 : decode cJ9_min_7cf53 9 = .ok (.iload_n 1, 1) := by decide +kernel
theorem dJ9_min_7cf53_10 : decode cJ9_min_7cf53 10 = .ok (.ireturn, 1) := by decide +kernel
theorem dJ7_fill_53178_0 : decode cJ7_fill_53178 0 = .ok (.iconst 0, 1) := by decide +kernel
theorem dJ7_fill_53178_1 : decode cJ7_fill_53178 1 = .ok (.istore_n 2, 1) := by decide +kernel
theorem dJ7_fill_53178_2 : decode cJ7_fill_53178 2 = .ok (.aload_n 0, 1) := by decide +kernel
theorem dJ7_fill_53178_3 : decode cJ7_fill_53178 3 = .ok (.arraylength, 1) := by decide +kernel
theorem dJ7_fill_53178_4 : decode cJ7_fill_53178 4 = .ok (.istore_n 3, 1) := by decide +kernel
theorem dJ7_fill_53178_5 : decode cJ7_fill_53178 5 = .ok (.iload_n 2, 1) := by decide +kernel
theorem dJ7_fill_53178_6 : decode cJ7_fill_53178 6 = .ok (.iload_n 3, 1) := by decide +kernel
theorem dJ7_fill_53178_7 : decode cJ7_fill_53178 7 = .ok (.if_icmp .ge 13, 3) := by decide +kernel
theorem dJ7_fill_53178_10 : decode cJ7_fill_53178 10 = .ok (.aload_n 0, 1) := by decide +kernel
theorem dJ7_fill_53178_11 : decode cJ7_fill_53178 11 = .ok (.iload_n 2, 1) := by decide +kernel
theorem dJ7_fill_53178_12 : decode cJ7_fill_53178 12 = .ok (.iload_n 1, 1) := by decide +kernel
theorem dJ7_fill_53178_13 : decode cJ7_fill_53178 13 = .ok (.iastore, 1) := by decide +kernel
theorem dJ7_fill_53178_14 : decode cJ7_fill_53178 14 = .ok (.iinc 2 1, 3) := by decide +kernel
theorem dJ7_fill_53178_17 : decode cJ7_fill_53178 17 = .ok (.goto (-12), 3) := by decide +kernel
theorem dJ7_fill_53178_20 : decode cJ7_fill_53178 20 = .ok (.return_, 1) := by decide +kernel
