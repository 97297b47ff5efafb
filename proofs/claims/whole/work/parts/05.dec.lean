theorem dX0_init_0 : decode cX0_init 0 = .ok (.aload_n 0, 1) := by decide +kernel
theorem dX0_init_1 : decode cX0_init 1 = .ok (.invokespecial 3, 3) := by decide +kernel
theorem dX0_init_4 : decode cX0_init 4 = .ok (.aload_n 0, 1) := by decide +kernel
theorem dX0_init_5 : decode cX0_init 5 = .ok (.bipush 14, 2) := by decide +kernel
theorem dX0_init_7 : decode cX0_init 7 = .ok (.anewarray 9, 3) := by decide +kernel
theorem dX0_init_10 : decode cX0_init 10 = .ok (.putfield 11, 3) := by decide +kernel
theorem dX0_init_13 : decode cX0_init 13 = .ok (.iconst 0, 1) := by decide +kernel
theorem dX0_init_14 : decode cX0_init 14 = .ok (.istore_n 1, 1) := by decide +kernel
theorem dX0_init_15 : decode cX0_init 15 = .ok (.iload_n 1, 1) := by decide +kernel
theorem dX0_init_16 : decode cX0_init 16 = .ok (.bipush 14, 2) := by decide +kernel
theorem dX0_init_18 : decode cX0_init 18 = .ok (.if_icmp .ge 22, 3) := by decide +kernel
theorem dX0_init_21 : decode cX0_init 21 = .ok (.aload_n 0, 1) := by decide +kernel
theorem dX0_init_22 : decode cX0_init 22 = .ok (.getfield 11, 3) := by decide +kernel
theorem dX0_init_25 : decode cX0_init 25 = .ok (.iload_n 1, 1) := by decide +kernel
theorem dX0_init_26 : decode cX0_init 26 = .ok (.new 9, 3) := by decide +kernel
theorem dX0_init_29 : decode cX0_init 29 = .ok (.dup, 1) := by decide +kernel
theorem dX0_init_30 : decode cX0_init 30 = .ok (.invokespecial 17, 3) := by decide +kernel
theorem dX0_init_33 : decode cX0_init 33 = .ok (.aastore, 1) := by decide +kernel
theorem dX0_init_34 : decode cX0_init 34 = .ok (.iinc 1 1, 3) := by decide +kernel
theorem dX0_init_37 : decode cX0_init 37 = .ok (.goto (-22), 3) := by decide +kernel
theorem dX0_init_40 : decode cX0_init 40 = .ok (.return_, 1) := by decide +kernel
theorem dX0_forget_0 : decode cX0_forget 0 = .ok (.aload_n 0, 1) := by decide +kernel
theorem dX0_forget_1 : decode cX0_forget 1 = .ok (.iconst 0, 1) := by decide +kernel
theorem dX0_forget_2 : decode cX0_forget 2 = .ok (.putfield 18, 3) := by decide +kernel
theorem dX0_forget_5 : decode cX0_forget 5 = .ok (.aload_n 0, 1) := by decide +kernel
theorem dX0_forget_6 : decode cX0_forget 6 = .ok (.iconst 0, 1) := by decide +kernel
theorem dX0_forget_7 : decode cX0_forget 7 = .ok (.putfield 22, 3) := by decide +kernel
theorem dX0_forget_10 : decode cX0_forget 10 = .ok (.return_, 1) := by decide +kernel
theorem dX0_remember_0 : decode cX0_remember 0 = .ok (.aload_n 0, 1) := by decide +kernel
theorem dX0_remember_1 : decode cX0_remember 1 = .ok (.aload_n 0, 1) := by decide +kernel
theorem dX0_remember_2 : decode cX0_remember 2 = .ok (.getfield 18, 3) := by decide +kernel
theorem dX0_remember_5 : decode cX0_remember 5 = .ok (.invokevirtual 25, 3) := by decide +kernel
theorem dX0_remember_8 : decode cX0_remember 8 = .ok (.astore_n 2, 1) := by decide +kernel
theorem dX0_remember_9 : decode cX0_remember 9 = .ok (.aload_n 2, 1) := by decide +kernel
theorem dX0_remember_10 : decode cX0_remember 10 = .ok (.ifnull 8, 3) := by decide +kernel
theorem dX0_remember_13 : decode cX0_remember 13 = .ok (.aload_n 2, 1) := by decide +kernel
theorem dX0_remember_14 : decode cX0_remember 14 = .ok (.aload_n 1, 1) := by decide +kernel
theorem dX0_remember_15 : decode cX0_remember 15 = .ok (.invokevirtual 29, 3) := by decide +kernel
theorem dX0_remember_18 : decode cX0_remember 18 = .ok (.aload_n 0, 1) := by decide +kernel
theorem dX0_remember_19 : decode cX0_remember 19 = .ok (.aload_n 0, 1) := by decide +kernel
theorem dX0_remember_20 : decode cX0_remember 20 = .ok (.getfield 18, 3) := by decide +kernel
theorem dX0_remember_23 : decode cX0_remember 23 = .ok (.iconst 1, 1) := by decide +kernel
theorem dX0_remember_24 : decode cX0_remember 24 = .ok (.iadd, 1) := by decide +kernel
theorem dX0_remember_25 : decode cX0_remember 25 = .ok (.bipush 14, 2) := by decide +kernel
theorem dX0_remember_27 : decode cX0_remember 27 = .ok (.irem, 1) := by decide +kernel
theorem dX0_remember_28 : decode cX0_remember 28 = .ok (.putfield 18, 3) := by decide +kernel
theorem dX0_remember_31 : decode cX0_remember 31 = .ok (.aload_n 0, 1) := by decide +kernel
theorem dX0_remember_32 : decode cX0_remember 32 = .ok (.aload_n 0, 1) := by decide +kernel
theorem dX0_remember_33 : decode cX0_remember 33 = .ok (.getfield 22, 3) := by decide +kernel
theorem dX0_remember_36 : decode cX0_remember 36 = .ok (.iconst 1, 1) := by decide +kernel
theorem dX0_remember_37 : decode cX0_remember 37 = .ok (.iadd, 1) := by decide +kernel
theorem dX0_remember_38 : decode cX0_remember 38 = .ok (.bipush 14, 2) := by decide +kernel
theorem dX0_remember_40 : decode cX0_remember 40 = .ok (.invokestatic 33, 3) := by decide +kernel
theorem dX0_remember_43 : decode cX0_remember 43 = .ok (.putfield 22, 3) := by decide +kernel
theorem dX0_remember_46 : decode cX0_remember 46 = .ok (.return_, 1) := by decide +kernel
theorem dX0_takeBack_0 : decode cX0_takeBack 0 = .ok (.aload_n 0, 1) := by decide +kernel
theorem dX0_takeBack_1 : decode cX0_takeBack 1 = .ok (.aload_n 0, 1) := by decide +kernel
theorem dX0_takeBack_2 : decode cX0_takeBack 2 = .ok (.getfield 18, 3) := by decide +kernel
theorem dX0_takeBack_5 : decode cX0_takeBack 5 = .ok (.bipush 14, 2) := by decide +kernel
theorem dX0_takeBack_7 : decode cX0_takeBack 7 = .ok (.iadd, 1) := by decide +kernel
theorem dX0_takeBack_8 : decode cX0_takeBack 8 = .ok (.iconst 1, 1) := by decide +kernel
theorem dX0_takeBack_9 : decode cX0_takeBack 9 = .ok (.isub, 1) := by decide +kernel
theorem dX0_takeBack_10 : decode cX0_takeBack 10 = .ok (.bipush 14, 2) := by decide +kernel
theorem dX0_takeBack_12 : decode cX0_takeBack 12 = .ok (.irem, 1) := by decide +kernel
theorem dX0_takeBack_13 : decode cX0_takeBack 13 = .ok (.putfield 18, 3) := by decide +kernel
theorem dX0_takeBack_16 : decode cX0_takeBack 16 = .ok (.aload_n 1, 1) := by decide +kernel
theorem dX0_takeBack_17 : decode cX0_takeBack 17 = .ok (.aload_n 0, 1) := by decide +kernel
theorem dX0_takeBack_18 : decode cX0_takeBack 18 = .ok (.aload_n 0, 1) := by decide +kernel
theorem dX0_takeBack_19 : decode cX0_takeBack 19 = .ok (.getfield 18, 3) := by decide +kernel
theorem dX0_takeBack_22 : decode cX0_takeBack 22 = .ok (.invokevirtual 25, 3) := by decide +kernel
theorem dX0_takeBack_25 : decode cX0_takeBack 25 = .ok (.invokevirtual 29, 3) := by decide +kernel
theorem dX0_takeBack_28 : decode cX0_takeBack 28 = .ok (.aload_n 0, 1) := by decide +kernel
theorem dX0_takeBack_29 : decode cX0_takeBack 29 = .ok (.dup, 1) := by decide +kernel
theorem dX0_takeBack_30 : decode cX0_takeBack 30 = .ok (.getfield 22, 3) := by decide +kernel
theorem dX0_takeBack_33 : decode cX0_takeBack 33 = .ok (.iconst 1, 1) := by decide +kernel
theorem dX0_takeBack_34 : decode cX0_takeBack 34 = .ok (.isub, 1) := by decide +kernel
theorem dX0_takeBack_35 : decode cX0_takeBack 35 = .ok (.putfield 22, 3) := by decide +kernel
theorem dX0_takeBack_38 : decode cX0_takeBack 38 = .ok (.aload_n 0, 1) := by decide +kernel
theorem dX0_takeBack_39 : decode cX0_takeBack 39 = .ok (.getfield 22, 3) := by decide +kernel
theorem dX0_takeBack_42 : decode cX0_takeBack 42 = .ok (.ireturn, 1) := by decide +kernel
theorem dX0_stateAt_0 : decode cX0_stateAt 0 = .ok (.iload_n 1, 1) := by decide +kernel
theorem dX0_stateAt_1 : decode cX0_stateAt 1 = .ok (.ifCond .lt 18, 3) := by decide +kernel
theorem dX0_stateAt_4 : decode cX0_stateAt 4 = .ok (.iload_n 1, 1) := by decide +kernel
theorem dX0_stateAt_5 : decode cX0_stateAt 5 = .ok (.bipush 14, 2) := by decide +kernel
theorem dX0_stateAt_7 : decode cX0_stateAt 7 = .ok (.if_icmp .ge 12, 3) := by decide +kernel
theorem dX0_stateAt_10 : decode cX0_stateAt 10 = .ok (.aload_n 0, 1) := by decide +kernel
theorem dX0_stateAt_11 : decode cX0_stateAt 11 = .ok (.getfield 11, 3) := by decide +kernel
theorem dX0_stateAt_14 : decode cX0_stateAt 14 = .ok (.iload_n 1, 1) := by decide +kernel
theorem dX0_stateAt_15 : decode cX0_stateAt 15 = .ok (.aaload, 1) := by decide +kernel
theorem dX0_stateAt_16 : decode cX0_stateAt 16 = .ok (.goto 4, 3) := by decide +kernel
theorem dX0_stateAt_19 : decode cX0_stateAt 19 = .ok (.aconst_null, 1) := by decide +kernel
theorem dX0_stateAt_20 : decode cX0_stateAt 20 = .ok (.areturn, 1) := by decide +kernel
theorem dX1_init_0 : decode cX1_init 0 = .ok (.aload_n 0, 1) := by decide +kernel
theorem dX1_init_1 : decode cX1_init 1 = .ok (.invokespecial 3, 3) := by decide +kernel
theorem dX1_init_4 : decode cX1_init 4 = .ok (.aload_n 0, 1) := by decide +kernel
theorem dX1_init_5 : decode cX1_init 5 = .ok (.sipush 200, 3) := by decide +kernel
theorem dX1_init_8 : decode cX1_init 8 = .ok (.newarray .int, 2) := by decide +kernel
theorem dX1_init_10 : decode cX1_init 10 = .ok (.putfield 9, 3) := by decide +kernel
theorem dX1_init_13 : decode cX1_init 13 = .ok (.aload_n 0, 1) := by decide +kernel
theorem dX1_init_14 : decode cX1_init 14 = .ok (.sipush 200, 3) := by decide +kernel
theorem dX1_init_17 : decode cX1_init 17 = .ok (.newarray .int, 2) := by decide +kernel
theorem dX1_init_19 : decode cX1_init 19 = .ok (.putfield 15, 3) := by decide +kernel
theorem dX1_init_22 : decode cX1_init 22 = .ok (.aload_n 0, 1) := by decide +kernel
theorem dX1_init_23 : decode cX1_init 23 = .ok (.sipush 200, 3) := by decide +kernel
theorem dX1_init_26 : decode cX1_init 26 = .ok (.newarray .int, 2) := by decide +kernel
theorem dX1_init_28 : decode cX1_init 28 = .ok (.putfield 18, 3) := by decide +kernel
theorem dX1_init_31 : decode cX1_init 31 = .ok (.aload_n 0, 1) := by decide +kernel
theorem dX1_init_32 : decode cX1_init 32 = .ok (.sipush 201, 3) := by decide +kernel
theorem dX1_init_35 : decode cX1_init 35 = .ok (.newarray .int, 2) := by decide +kernel
theorem dX1_init_37 : decode cX1_init 37 = .ok (.putfield 21, 3) := by decide +kernel
theorem dX1_init_40 : decode cX1_init 40 = .ok (.aload_n 0, 1) := by decide +kernel
theorem dX1_init_41 : decode cX1_init 41 = .ok (.sipush 200, 3) := by decide +kernel
theorem dX1_init_44 : decode cX1_init 44 = .ok (.newarray .int, 2) := by decide +kernel
theorem dX1_init_46 : decode cX1_init 46 = .ok (.putfield 24, 3) := by decide +kernel
theorem dX1_init_49 : decode cX1_init 49 = .ok (.aload_n 0, 1) := by decide +kernel
theorem dX1_init_50 : decode cX1_init 50 = .ok (.bipush 8, 2) := by decide +kernel
theorem dX1_init_52 : decode cX1_init 52 = .ok (.newarray .int, 2) := by decide +kernel
theorem dX1_init_54 : decode cX1_init 54 = .ok (.putfield 27, 3) := by decide +kernel
theorem dX1_init_57 : decode cX1_init 57 = .ok (.return_, 1) := by decide +kernel
theorem dX1_renew_0 : decode cX1_renew 0 = .ok (.aload_n 0, 1) := by decide +kernel
theorem dX1_renew_1 : decode cX1_renew 1 = .ok (.iconst 0, 1) := by decide +kernel
theorem dX1_renew_2 : decode cX1_renew 2 = .ok (.putfield 30, 3) := by decide +kernel
theorem dX1_renew_5 : decode cX1_renew 5 = .ok (.aload_n 0, 1) := by decide +kernel
theorem dX1_renew_6 : decode cX1_renew 6 = .ok (.iconst 0, 1) := by decide +kernel
theorem dX1_renew_7 : decode cX1_renew 7 = .ok (.putfield 34, 3) := by decide +kernel
theorem dX1_renew_10 : decode cX1_renew 10 = .ok (.aload_n 0, 1) := by decide +kernel
theorem dX1_renew_11 : decode cX1_renew 11 = .ok (.iconst 0, 1) := by decide +kernel
theorem dX1_renew_12 : decode cX1_renew 12 = .ok (.putfield 37, 3) := by decide +kernel
theorem dX1_renew_15 : decode cX1_renew 15 = .ok (.aload_n 0, 1) := by decide +kernel
theorem dX1_renew_16 : decode cX1_renew 16 = .ok (.iconst 0, 1) := by decide +kernel
theorem dX1_renew_17 : decode cX1_renew 17 = .ok (.putfield 40, 3) := by decide +kernel
theorem dX1_renew_20 : decode cX1_renew 20 = .ok (.aload_n 0, 1) := by decide +kernel
theorem dX1_renew_21 : decode cX1_renew 21 = .ok (.iconst 0, 1) := by decide +kernel
theorem dX1_renew_22 : decode cX1_renew 22 = .ok (.putfield 43, 3) := by decide +kernel
theorem dX1_renew_25 : decode cX1_renew 25 = .ok (.iconst 0, 1) := by decide +kernel
theorem dX1_renew_26 : decode cX1_renew 26 = .ok (.istore_n 1, 1) := by decide +kernel
theorem dX1_renew_27 : decode cX1_renew 27 = .ok (.iload_n 1, 1) := by decide +kernel
theorem dX1_renew_28 : decode cX1_renew 28 = .ok (.bipush 8, 2) := by decide +kernel
theorem dX1_renew_30 : decode cX1_renew 30 = .ok (.if_icmp .ge 16, 3) := by decide +kernel
theorem dX1_renew_33 : decode cX1_renew 33 = .ok (.aload_n 0, 1) := by decide +kernel
theorem dX1_renew_34 : decode cX1_renew 34 = .ok (.getfield 27, 3) := by decide +kernel
theorem dX1_renew_37 : decode cX1_renew 37 = .ok (.iload_n 1, 1) := by decide +kernel
theorem dX1_renew_38 : decode cX1_renew 38 = .ok (.iconst (-1), 1) := by decide +kernel
theorem dX1_renew_39 : decode cX1_renew 39 = .ok (.iastore, 1) := by decide +kernel
theorem dX1_renew_40 : decode cX1_renew 40 = .ok (.iinc 1 1, 3) := by decide +kernel
theorem dX1_renew_43 : decode cX1_renew 43 = .ok (.goto (-16), 3) := by decide +kernel
theorem dX1_renew_46 : decode cX1_renew 46 = .ok (.return_, 1) := by decide +kernel
theorem dX1_takeOver_0 : decode cX1_takeOver 0 = .ok (.aload_n 1, 1) := by decide +kernel
theorem dX1_takeOver_1 : decode cX1_takeOver 1 = .ok (.getfield 9, 3) := by decide +kernel
theorem dX1_takeOver_4 : decode cX1_takeOver 4 = .ok (.aload_n 0, 1) := by decide +kernel
theorem dX1_takeOver_5 : decode cX1_takeOver 5 = .ok (.getfield 9, 3) := by decide +kernel
theorem dX1_takeOver_8 : decode cX1_takeOver 8 = .ok (.invokestatic 46, 3) := by decide +kernel
theorem dX1_takeOver_11 : decode cX1_takeOver 11 = .ok (.aload_n 1, 1) := by decide +kernel
theorem dX1_takeOver_12 : decode cX1_takeOver 12 = .ok (.getfield 15, 3) := by decide +kernel
theorem dX1_takeOver_15 : decode cX1_takeOver 15 = .ok (.aload_n 0, 1) := by decide +kernel
theorem dX1_takeOver_16 : decode cX1_takeOver 16 = .ok (.getfield 15, 3) := by decide +kernel
theorem dX1_takeOver_19 : decode cX1_takeOver 19 = .ok (.invokestatic 46, 3) := by decide +kernel
theorem dX1_takeOver_22 : decode cX1_takeOver 22 = .ok (.aload_n 1, 1) := by decide +kernel
theorem dX1_takeOver_23 : decode cX1_takeOver 23 = .ok (.getfield 18, 3) := by decide +kernel
theorem dX1_takeOver_26 : decode cX1_takeOver 26 = .ok (.aload_n 0, 1) := by decide +kernel
theorem dX1_takeOver_27 : decode cX1_takeOver 27 = .ok (.getfield 18, 3) := by decide +kernel
theorem dX1_takeOver_30 : decode cX1_takeOver 30 = .ok (.invokestatic 46, 3) := by decide +kernel
theorem dX1_takeOver_33 : decode cX1_takeOver 33 = .ok (.aload_n 1, 1) := by decide +kernel
theorem dX1_takeOver_34 : decode cX1_takeOver 34 = .ok (.getfield 21, 3) := by decide +kernel
theorem dX1_takeOver_37 : decode cX1_takeOver 37 = .ok (.aload_n 0, 1) := by decide +kernel
theorem dX1_takeOver_38 : decode cX1_takeOver 38 = .ok (.getfield 21, 3) := by decide +kernel
theorem dX1_takeOver_41 : decode cX1_takeOver 41 = .ok (.invokestatic 46, 3) := by decide +kernel
theorem dX1_takeOver_44 : decode cX1_takeOver 44 = .ok (.aload_n 1, 1) := by decide +kernel
theorem dX1_takeOver_45 : decode cX1_takeOver 45 = .ok (.getfield 24, 3) := by decide +kernel
theorem dX1_takeOver_48 : decode cX1_takeOver 48 = .ok (.aload_n 0, 1) := by decide +kernel
theorem dX1_takeOver_49 : decode cX1_takeOver 49 = .ok (.getfield 24, 3) := by decide +kernel
theorem dX1_takeOver_52 : decode cX1_takeOver 52 = .ok (.invokestatic 46, 3) := by decide +kernel
theorem dX1_takeOver_55 : decode cX1_takeOver 55 = .ok (.aload_n 1, 1) := by decide +kernel
theorem dX1_takeOver_56 : decode cX1_takeOver 56 = .ok (.getfield 27, 3) := by decide +kernel
theorem dX1_takeOver_59 : decode cX1_takeOver 59 = .ok (.aload_n 0, 1) := by decide +kernel
theorem dX1_takeOver_60 : decode cX1_takeOver 60 = .ok (.getfield 27, 3) := by decide +kernel
theorem dX1_takeOver_63 : decode cX1_takeOver 63 = .ok (.invokestatic 46, 3) := by decide +kernel
theorem dX1_takeOver_66 : decode cX1_takeOver 66 = .ok (.aload_n 0, 1) := by decide +kernel
theorem dX1_takeOver_67 : decode cX1_takeOver 67 = .ok (.aload_n 1, 1) := by decide +kernel
theorem dX1_takeOver_68 : decode cX1_takeOver 68 = .ok (.getfield 30, 3) := by decide +kernel
theorem dX1_takeOver_71 : decode cX1_takeOver 71 = .ok (.putfield 30, 3) := by decide +kernel
theorem dX1_takeOver_74 : decode cX1_takeOver 74 = .ok (.aload_n 0, 1) := by decide +kernel
theorem dX1_takeOver_75 : decode cX1_takeOver 75 = .ok (.aload_n 1, 1) := by decide +kernel
theorem dX1_takeOver_76 : decode cX1_takeOver 76 = .ok (.getfield 34, 3) := by decide +kernel
theorem dX1_takeOver_79 : decode cX1_takeOver 79 = .ok (.putfield 34, 3) := by decide +kernel
theorem dX1_takeOver_82 : decode cX1_takeOver 82 = .ok (.aload_n 0, 1) := by decide +kernel
theorem dX1_takeOver_83 : decode cX1_takeOver 83 = .ok (.aload_n 1, 1) := by decide +kernel
theorem dX1_takeOver_84 : decode cX1_takeOver 84 = .ok (.getfield 37, 3) := by decide +kernel
theorem dX1_takeOver_87 : decode cX1_takeOver 87 = .ok (.putfield 37, 3) := by decide +kernel
theorem dX1_takeOver_90 : decode cX1_takeOver 90 = .ok (.aload_n 0, 1) := by decide +kernel
theorem dX1_takeOver_91 : decode cX1_takeOver 91 = .ok (.aload_n 1, 1) := by decide +kernel
theorem dX1_takeOver_92 : decode cX1_takeOver 92 = .ok (.getfield 40, 3) := by decide +kernel
theorem dX1_takeOver_95 : decode cX1_takeOver 95 = .ok (.putfield 40, 3) := by decide +kernel
theorem dX1_takeOver_98 : decode cX1_takeOver 98 = .ok (.aload_n 0, 1) := by decide +kernel
theorem dX1_takeOver_99 : decode cX1_takeOver 99 = .ok (.aload_n 1, 1) := by decide +kernel
theorem dX1_takeOver_100 : decode cX1_takeOver 100 = .ok (.getfield 43, 3) := by decide +kernel
theorem dX1_takeOver_103 : decode cX1_takeOver 103 = .ok (.putfield 43, 3) := by decide +kernel
theorem dX1_takeOver_106 : decode cX1_takeOver 106 = .ok (.return_, 1) := by decide +kernel
theorem dX1_segments_0 : decode cX1_segments 0 = .ok (.aload_n 0, 1) := by decide +kernel
theorem dX1_segments_1 : decode cX1_segments 1 = .ok (.getfield 40, 3) := by decide +kernel
theorem dX1_segments_4 : decode cX1_segments 4 = .ok (.aload_n 0, 1) := by decide +kernel
theorem dX1_segments_5 : decode cX1_segments 5 = .ok (.getfield 43, 3) := by decide +kernel
theorem dX1_segments_8 : decode cX1_segments 8 = .ok (.isub, 1) := by decide +kernel
theorem dX1_segments_9 : decode cX1_segments 9 = .ok (.ireturn, 1) := by decide +kernel
theorem dX1_hasRow_0 : decode cX1_hasRow 0 = .ok (.iload_n 1, 1) := by decide +kernel
theorem dX1_hasRow_1 : decode cX1_hasRow 1 = .ok (.aload_n 0, 1) := by decide +kernel
theorem dX1_hasRow_2 : decode cX1_hasRow 2 = .ok (.getfield 30, 3) := by decide +kernel
theorem dX1_hasRow_5 : decode cX1_hasRow 5 = .ok (.if_icmp .lt 15, 3) := by decide +kernel
theorem dX1_hasRow_8 : decode cX1_hasRow 8 = .ok (.iload_n 1, 1) := by decide +kernel
theorem dX1_hasRow_9 : decode cX1_hasRow 9 = .ok (.aload_n 0, 1) := by decide +kernel
theorem dX1_hasRow_10 : decode cX1_hasRow 10 = .ok (.getfield 34, 3) := by decide +kernel
theorem dX1_hasRow_13 : decode cX1_hasRow 13 = .ok (.if_icmp .ge 7, 3) := by decide +kernel
theorem dX1_hasRow_16 : decode cX1_hasRow 16 = .ok (.iconst 1, 1) := by decide +kernel
theorem dX1_hasRow_17 : decode cX1_hasRow 17 = .ok (.goto 4, 3) := by decide +kernel
theorem dX1_hasRow_20 : decode cX1_hasRow 20 = .ok (.iconst 0, 1) := by decide +kernel
theorem dX1_hasRow_21 : decode cX1_hasRow 21 = .ok (.ireturn, 1) := by decide +kernel
theorem dX1_startOf_0 : decode cX1_startOf 0 = .ok (.aload_n 0, 1) := by decide +kernel
theorem dX1_startOf_1 : decode cX1_startOf 1 = .ok (.getfield 43, 3) := by decide +kernel
theorem dX1_startOf_4 : decode cX1_startOf 4 = .ok (.iload_n 1, 1) := by decide +kernel
theorem dX1_startOf_5 : decode cX1_startOf 5 = .ok (.iadd, 1) := by decide +kernel
theorem dX1_startOf_6 : decode cX1_startOf 6 = .ok (.istore_n 2, 1) := by decide +kernel
theorem dX1_startOf_7 : decode cX1_startOf 7 = .ok (.iload_n 2, 1) := by decide +kernel
theorem dX1_startOf_8 : decode cX1_startOf 8 = .ok (.ifCond .lt 27, 3) := by decide +kernel
theorem dX1_startOf_11 : decode cX1_startOf 11 = .ok (.iload_n 2, 1) := by decide +kernel
theorem dX1_startOf_12 : decode cX1_startOf 12 = .ok (.aload_n 0, 1) := by decide +kernel
theorem dX1_startOf_13 : decode cX1_startOf 13 = .ok (.getfield 40, 3) := by decide +kernel
theorem dX1_startOf_16 : decode cX1_startOf 16 = .ok (.if_icmp .ge 19, 3) := by decide +kernel
theorem dX1_startOf_19 : decode cX1_startOf 19 = .ok (.iload_n 2, 1) := by decide +kernel
theorem dX1_startOf_20 : decode cX1_startOf 20 = .ok (.sipush 200, 3) := by decide +kernel
theorem dX1_startOf_23 : decode cX1_startOf 23 = .ok (.if_icmp .ge 12, 3) := by decide +kernel
theorem dX1_startOf_26 : decode cX1_startOf 26 = .ok (.aload_n 0, 1) := by decide +kernel
theorem dX1_startOf_27 : decode cX1_startOf 27 = .ok (.getfield 24, 3) := by decide +kernel
theorem dX1_startOf_30 : decode cX1_startOf 30 = .ok (.iload_n 2, 1) := by decide +kernel
theorem dX1_startOf_31 : decode cX1_startOf 31 = .ok (.iaload, 1) := by decide +kernel
theorem dX1_startOf_32 : decode cX1_startOf 32 = .ok (.goto 7, 3) := by decide +kernel
theorem dX1_startOf_35 : decode cX1_startOf 35 = .ok (.aload_n 0, 1) := by decide +kernel
theorem dX1_startOf_36 : decode cX1_startOf 36 = .ok (.getfield 34, 3) := by decide +kernel
theorem dX1_startOf_39 : decode cX1_startOf 39 = .ok (.ireturn, 1) := by decide +kernel
theorem dX1_endOf_0 : decode cX1_endOf 0 = .ok (.aload_n 0, 1) := by decide +kernel
theorem dX1_endOf_1 : decode cX1_endOf 1 = .ok (.iload_n 1, 1) := by decide +kernel
theorem dX1_endOf_2 : decode cX1_endOf 2 = .ok (.iconst 1, 1) := by decide +kernel
theorem dX1_endOf_3 : decode cX1_endOf 3 = .ok (.iadd, 1) := by decide +kernel
theorem dX1_endOf_4 : decode cX1_endOf 4 = .ok (.invokevirtual 50, 3) := by decide +kernel
theorem dX1_endOf_7 : decode cX1_endOf 7 = .ok (.ireturn, 1) := by decide +kernel
theorem dX1_lengthOf_0 : decode cX1_lengthOf 0 = .ok (.aload_n 0, 1) := by decide +kernel
theorem dX1_lengthOf_1 : decode cX1_lengthOf 1 = .ok (.getfield 21, 3) := by decide +kernel
theorem dX1_lengthOf_4 : decode cX1_lengthOf 4 = .ok (.iload_n 2, 1) := by decide +kernel
theorem dX1_lengthOf_5 : decode cX1_lengthOf 5 = .ok (.invokestatic 54, 3) := by decide +kernel
theorem dX1_lengthOf_8 : decode cX1_lengthOf 8 = .ok (.aload_n 0, 1) := by decide +kernel
theorem dX1_lengthOf_9 : decode cX1_lengthOf 9 = .ok (.getfield 21, 3) := by decide +kernel
theorem dX1_lengthOf_12 : decode cX1_lengthOf 12 = .ok (.iload_n 1, 1) := by decide +kernel
theorem dX1_lengthOf_13 : decode cX1_lengthOf 13 = .ok (.invokestatic 54, 3) := by decide +kernel
theorem dX1_lengthOf_16 : decode cX1_lengthOf 16 = .ok (.isub, 1) := by decide +kernel
theorem dX1_lengthOf_17 : decode cX1_lengthOf 17 = .ok (.ireturn, 1) := by decide +kernel
theorem dX1_lengthFrom_0 : decode cX1_lengthFrom 0 = .ok (.iload_n 1, 1) := by decide +kernel
theorem dX1_lengthFrom_1 : decode cX1_lengthFrom 1 = .ok (.aload_n 0, 1) := by decide +kernel
theorem dX1_lengthFrom_2 : decode cX1_lengthFrom 2 = .ok (.getfield 30, 3) := by decide +kernel
theorem dX1_lengthFrom_5 : decode cX1_lengthFrom 5 = .ok (.if_icmp .le 26, 3) := by decide +kernel
theorem dX1_lengthFrom_8 : decode cX1_lengthFrom 8 = .ok (.aload_n 0, 1) := by decide +kernel
theorem dX1_lengthFrom_9 : decode cX1_lengthFrom 9 = .ok (.getfield 21, 3) := by decide +kernel
theorem dX1_lengthFrom_12 : decode cX1_lengthFrom 12 = .ok (.aload_n 0, 1) := by decide +kernel
theorem dX1_lengthFrom_13 : decode cX1_lengthFrom 13 = .ok (.getfield 34, 3) := by decide +kernel
theorem dX1_lengthFrom_16 : decode cX1_lengthFrom 16 = .ok (.invokestatic 54, 3) := by decide +kernel
theorem dX1_lengthFrom_19 : decode cX1_lengthFrom 19 = .ok (.aload_n 0, 1) := by decide +kernel
theorem dX1_lengthFrom_20 : decode cX1_lengthFrom 20 = .ok (.getfield 21, 3) := by decide +kernel
theorem dX1_lengthFrom_23 : decode cX1_lengthFrom 23 = .ok (.iload_n 1, 1) := by decide +kernel
theorem dX1_lengthFrom_24 : decode cX1_lengthFrom 24 = .ok (.invokestatic 54, 3) := by decide +kernel
theorem dX1_lengthFrom_27 : decode cX1_lengthFrom 27 = .ok (.isub, 1) := by decide +kernel
theorem dX1_lengthFrom_28 : decode cX1_lengthFrom 28 = .ok (.goto 7, 3) := by decide +kernel
theorem dX1_lengthFrom_31 : decode cX1_lengthFrom 31 = .ok (.aload_n 0, 1) := by decide +kernel
theorem dX1_lengthFrom_32 : decode cX1_lengthFrom 32 = .ok (.getfield 37, 3) := by decide +kernel
theorem dX1_lengthFrom_35 : decode cX1_lengthFrom 35 = .ok (.ireturn, 1) := by decide +kernel
theorem dX1_startAround_0 : decode cX1_startAround 0 = .ok (.aload_n 0, 1) := by decide +kernel
theorem dX1_startAround_1 : decode cX1_startAround 1 = .ok (.getfield 30, 3) := by decide +kernel
theorem dX1_startAround_4 : decode cX1_startAround 4 = .ok (.istore_n 2, 1) := by decide +kernel
theorem dX1_startAround_5 : decode cX1_startAround 5 = .ok (.iconst 0, 1) := by decide +kernel
theorem dX1_startAround_6 : decode cX1_startAround 6 = .ok (.istore_n 3, 1) := by decide +kernel
theorem dX1_startAround_7 : decode cX1_startAround 7 = .ok (.iload_n 3, 1) := by decide +kernel
theorem dX1_startAround_8 : decode cX1_startAround 8 = .ok (.aload_n 0, 1) := by decide +kernel
theorem dX1_startAround_9 : decode cX1_startAround 9 = .ok (.invokevirtual 58, 3) := by decide +kernel
theorem dX1_startAround_12 : decode cX1_startAround 12 = .ok (.if_icmp .ge 24, 3) := by decide +kernel
theorem dX1_startAround_15 : decode cX1_startAround 15 = .ok (.aload_n 0, 1) := by decide +kernel
theorem dX1_startAround_16 : decode cX1_startAround 16 = .ok (.iload_n 3, 1) := by decide +kernel
theorem dX1_startAround_17 : decode cX1_startAround 17 = .ok (.invokevirtual 50, 3) := by decide +kernel
theorem dX1_startAround_20 : decode cX1_startAround 20 = .ok (.iload_n 1, 1) := by decide +kernel
theorem dX1_startAround_21 : decode cX1_startAround 21 = .ok (.if_icmp .gt 15, 3) := by decide +kernel
theorem dX1_startAround_24 : decode cX1_startAround 24 = .ok (.aload_n 0, 1) := by decide +kernel
theorem dX1_startAround_25 : decode cX1_startAround 25 = .ok (.iload_n 3, 1) := by decide +kernel
theorem dX1_startAround_26 : decode cX1_startAround 26 = .ok (.invokevirtual 50, 3) := by decide +kernel
theorem dX1_startAround_29 : decode cX1_startAround 29 = .ok (.istore_n 2, 1) := by decide +kernel
theorem dX1_startAround_30 : decode cX1_startAround 30 = .ok (.iinc 3 1, 3) := by decide +kernel
theorem dX1_startAround_33 : decode cX1_startAround 33 = .ok (.goto (-26), 3) := by decide +kernel
theorem dX1_startAround_36 : decode cX1_startAround 36 = .ok (.iload_n 2, 1) := by decide +kernel
theorem dX1_startAround_37 : decode cX1_startAround 37 = .ok (.ireturn, 1) := by decide +kernel
theorem dX1_rowNumber_0 : decode cX1_rowNumber 0 = .ok (.iload_n 2, 1) := by decide +kernel
theorem dX1_rowNumber_1 : decode cX1_rowNumber 1 = .ok (.tableswitch 67 0 3 #[31, 40, 49, 58], 31) := by decide +kernel
theorem dX1_rowNumber_32 : decode cX1_rowNumber 32 = .ok (.aload_n 0, 1) := by decide +kernel
theorem dX1_rowNumber_33 : decode cX1_rowNumber 33 = .ok (.getfield 9, 3) := by decide +kernel
theorem dX1_rowNumber_36 : decode cX1_rowNumber 36 = .ok (.iload_n 1, 1) := by decide +kernel
theorem dX1_rowNumber_37 : decode cX1_rowNumber 37 = .ok (.invokestatic 54, 3) := by decide +kernel
theorem dX1_rowNumber_40 : decode cX1_rowNumber 40 = .ok (.ireturn, 1) := by decide +kernel
theorem dX1_rowNumber_41 : decode cX1_rowNumber 41 = .ok (.aload_n 0, 1) := by decide +kernel
theorem dX1_rowNumber_42 : decode cX1_rowNumber 42 = .ok (.getfield 15, 3) := by decide +kernel
theorem dX1_rowNumber_45 : decode cX1_rowNumber 45 = .ok (.iload_n 1, 1) := by decide +kernel
theorem dX1_rowNumber_46 : decode cX1_rowNumber 46 = .ok (.invokestatic 54, 3) := by decide +kernel
theorem dX1_rowNumber_49 : decode cX1_rowNumber 49 = .ok (.ireturn, 1) := by decide +kernel
theorem dX1_rowNumber_50 : decode cX1_rowNumber 50 = .ok (.aload_n 0, 1) := by decide +kernel
theorem dX1_rowNumber_51 : decode cX1_rowNumber 51 = .ok (.iload_n 1, 1) := by decide +kernel
theorem dX1_rowNumber_52 : decode cX1_rowNumber 52 = .ok (.iload_n 1, 1) := by decide +kernel
theorem dX1_rowNumber_53 : decode cX1_rowNumber 53 = .ok (.iconst 1, 1) := by decide +kernel
theorem dX1_rowNumber_54 : decode cX1_rowNumber 54 = .ok (.iadd, 1) := by decide +kernel
theorem dX1_rowNumber_55 : decode cX1_rowNumber 55 = .ok (.invokevirtual 62, 3) := by decide +kernel
theorem dX1_rowNumber_58 : decode cX1_rowNumber 58 = .ok (.ireturn, 1) := by decide +kernel
theorem dX1_rowNumber_59 : decode cX1_rowNumber 59 = .ok (.aload_n 0, 1) := by decide +kernel
theorem dX1_rowNumber_60 : decode cX1_rowNumber 60 = .ok (.getfield 18, 3) := by decide +kernel
theorem dX1_rowNumber_63 : decode cX1_rowNumber 63 = .ok (.iload_n 1, 1) := by decide +kernel
theorem dX1_rowNumber_64 : decode cX1_rowNumber 64 = .ok (.invokestatic 54, 3) := by decide +kernel
theorem dX1_rowNumber_67 : decode cX1_rowNumber 67 = .ok (.ireturn, 1) := by decide +kernel
theorem dX1_rowNumber_68 : decode cX1_rowNumber 68 = .ok (.aload_n 0, 1) := by decide +kernel
theorem dX1_rowNumber_69 : decode cX1_rowNumber 69 = .ok (.iload_n 1, 1) := by decide +kernel
theorem dX1_rowNumber_70 : decode cX1_rowNumber 70 = .ok (.invokevirtual 66, 3) := by decide +kernel
theorem dX1_rowNumber_73 : decode cX1_rowNumber 73 = .ok (.ireturn, 1) := by decide +kernel
theorem dX1_add_0 : decode cX1_add 0 = .ok (.aload_n 0, 1) := by decide +kernel
theorem dX1_add_1 : decode cX1_add 1 = .ok (.getfield 34, 3) := by decide +kernel
theorem dX1_add_4 : decode cX1_add 4 = .ok (.istore 5, 2) := by decide +kernel
theorem dX1_add_6 : decode cX1_add 6 = .ok (.aload_n 0, 1) := by decide +kernel
theorem dX1_add_7 : decode cX1_add 7 = .ok (.getfield 9, 3) := by decide +kernel
theorem dX1_add_10 : decode cX1_add 10 = .ok (.iload 5, 2) := by decide +kernel
theorem dX1_add_12 : decode cX1_add 12 = .ok (.iload_n 1, 1) := by decide +kernel
theorem dX1_add_13 : decode cX1_add 13 = .ok (.invokestatic 69, 3) := by decide +kernel
theorem dX1_add_16 : decode cX1_add 16 = .ok (.aload_n 0, 1) := by decide +kernel
theorem dX1_add_17 : decode cX1_add 17 = .ok (.getfield 15, 3) := by decide +kernel
theorem dX1_add_20 : decode cX1_add 20 = .ok (.iload 5, 2) := by decide +kernel
theorem dX1_add_22 : decode cX1_add 22 = .ok (.iload_n 2, 1) := by decide +kernel
theorem dX1_add_23 : decode cX1_add 23 = .ok (.invokestatic 69, 3) := by decide +kernel
theorem dX1_add_26 : decode cX1_add 26 = .ok (.aload_n 0, 1) := by decide +kernel
theorem dX1_add_27 : decode cX1_add 27 = .ok (.getfield 18, 3) := by decide +kernel
theorem dX1_add_30 : decode cX1_add 30 = .ok (.iload 5, 2) := by decide +kernel
theorem dX1_add_32 : decode cX1_add 32 = .ok (.iload 4, 2) := by decide +kernel
theorem dX1_add_34 : decode cX1_add 34 = .ok (.invokestatic 69, 3) := by decide +kernel
theorem dX1_add_37 : decode cX1_add 37 = .ok (.aload_n 0, 1) := by decide +kernel
theorem dX1_add_38 : decode cX1_add 38 = .ok (.getfield 21, 3) := by decide +kernel
theorem dX1_add_41 : decode cX1_add 41 = .ok (.iload 5, 2) := by decide +kernel
theorem dX1_add_43 : decode cX1_add 43 = .ok (.iconst 1, 1) := by decide +kernel
theorem dX1_add_44 : decode cX1_add 44 = .ok (.iadd, 1) := by decide +kernel
theorem dX1_add_45 : decode cX1_add 45 = .ok (.aload_n 0, 1) := by decide +kernel
theorem dX1_add_46 : decode cX1_add 46 = .ok (.getfield 21, 3) := by decide +kernel
theorem dX1_add_49 : decode cX1_add 49 = .ok (.iload 5, 2) := by decide +kernel
theorem dX1_add_51 : decode cX1_add 51 = .ok (.invokestatic 54, 3) := by decide +kernel
theorem dX1_add_54 : decode cX1_add 54 = .ok (.iload_n 3, 1) := by decide +kernel
theorem dX1_add_55 : decode cX1_add 55 = .ok (.iadd, 1) := by decide +kernel
theorem dX1_add_56 : decode cX1_add 56 = .ok (.invokestatic 69, 3) := by decide +kernel
theorem dX1_add_59 : decode cX1_add 59 = .ok (.aload_n 0, 1) := by decide +kernel
theorem dX1_add_60 : decode cX1_add 60 = .ok (.iload 5, 2) := by decide +kernel
theorem dX1_add_62 : decode cX1_add 62 = .ok (.iconst 1, 1) := by decide +kernel
theorem dX1_add_63 : decode cX1_add 63 = .ok (.iadd, 1) := by decide +kernel
theorem dX1_add_64 : decode cX1_add 64 = .ok (.putfield 34, 3) := by decide +kernel
theorem dX1_add_67 : decode cX1_add 67 = .ok (.aload_n 0, 1) := by decide +kernel
theorem dX1_add_68 : decode cX1_add 68 = .ok (.dup, 1) := by decide +kernel
theorem dX1_add_69 : decode cX1_add 69 = .ok (.getfield 37, 3) := by decide +kernel
theorem dX1_add_72 : decode cX1_add 72 = .ok (.iload_n 3, 1) := by decide +kernel
theorem dX1_add_73 : decode cX1_add 73 = .ok (.iadd, 1) := by decide +kernel
theorem dX1_add_74 : decode cX1_add 74 = .ok (.putfield 37, 3) := by decide +kernel
theorem dX1_add_77 : decode cX1_add 77 = .ok (.iload 5, 2) := by decide +kernel
theorem dX1_add_79 : decode cX1_add 79 = .ok (.ireturn, 1) := by decide +kernel
theorem dX1_makeRoomFor_0 : decode cX1_makeRoomFor 0 = .ok (.aload_n 0, 1) := by decide +kernel
theorem dX1_makeRoomFor_1 : decode cX1_makeRoomFor 1 = .ok (.getfield 24, 3) := by decide +kernel
theorem dX1_makeRoomFor_4 : decode cX1_makeRoomFor 4 = .ok (.aload_n 0, 1) := by decide +kernel
theorem dX1_makeRoomFor_5 : decode cX1_makeRoomFor 5 = .ok (.getfield 40, 3) := by decide +kernel
theorem dX1_makeRoomFor_8 : decode cX1_makeRoomFor 8 = .ok (.iconst 1, 1) := by decide +kernel
theorem dX1_makeRoomFor_9 : decode cX1_makeRoomFor 9 = .ok (.isub, 1) := by decide +kernel
theorem dX1_makeRoomFor_10 : decode cX1_makeRoomFor 10 = .ok (.invokestatic 54, 3) := by decide +kernel
theorem dX1_makeRoomFor_13 : decode cX1_makeRoomFor 13 = .ok (.istore 4, 2) := by decide +kernel
theorem dX1_makeRoomFor_15 : decode cX1_makeRoomFor 15 = .ok (.aload_n 0, 1) := by decide +kernel
theorem dX1_makeRoomFor_16 : decode cX1_makeRoomFor 16 = .ok (.getfield 40, 3) := by decide +kernel
theorem dX1_makeRoomFor_19 : decode cX1_makeRoomFor 19 = .ok (.ifCond .eq 30, 3) := by decide +kernel
theorem dX1_makeRoomFor_22 : decode cX1_makeRoomFor 22 = .ok (.aload_n 0, 1) := by decide +kernel
theorem dX1_makeRoomFor_23 : decode cX1_makeRoomFor 23 = .ok (.getfield 34, 3) := by decide +kernel
theorem dX1_makeRoomFor_26 : decode cX1_makeRoomFor 26 = .ok (.iload 4, 2) := by decide +kernel
theorem dX1_makeRoomFor_28 : decode cX1_makeRoomFor 28 = .ok (.isub, 1) := by decide +kernel
theorem dX1_makeRoomFor_29 : decode cX1_makeRoomFor 29 = .ok (.iload_n 2, 1) := by decide +kernel
theorem dX1_makeRoomFor_30 : decode cX1_makeRoomFor 30 = .ok (.if_icmp .ge 19, 3) := by decide +kernel
theorem dX1_makeRoomFor_33 : decode cX1_makeRoomFor 33 = .ok (.aload_n 0, 1) := by decide +kernel
theorem dX1_makeRoomFor_34 : decode cX1_makeRoomFor 34 = .ok (.iload 4, 2) := by decide +kernel
theorem dX1_makeRoomFor_36 : decode cX1_makeRoomFor 36 = .ok (.aload_n 0, 1) := by decide +kernel
theorem dX1_makeRoomFor_37 : decode cX1_makeRoomFor 37 = .ok (.getfield 34, 3) := by decide +kernel
theorem dX1_makeRoomFor_40 : decode cX1_makeRoomFor 40 = .ok (.invokevirtual 62, 3) := by decide +kernel
theorem dX1_makeRoomFor_43 : decode cX1_makeRoomFor 43 = .ok (.iload_n 1, 1) := by decide +kernel
theorem dX1_makeRoomFor_44 : decode cX1_makeRoomFor 44 = .ok (.iadd, 1) := by decide +kernel
theorem dX1_makeRoomFor_45 : decode cX1_makeRoomFor 45 = .ok (.iload_n 3, 1) := by decide +kernel
theorem dX1_makeRoomFor_46 : decode cX1_makeRoomFor 46 = .ok (.if_icmp .le 28, 3) := by decide +kernel
theorem dX1_makeRoomFor_49 : decode cX1_makeRoomFor 49 = .ok (.aload_n 0, 1) := by decide +kernel
theorem dX1_makeRoomFor_50 : decode cX1_makeRoomFor 50 = .ok (.getfield 24, 3) := by decide +kernel
theorem dX1_makeRoomFor_53 : decode cX1_makeRoomFor 53 = .ok (.aload_n 0, 1) := by decide +kernel
theorem dX1_makeRoomFor_54 : decode cX1_makeRoomFor 54 = .ok (.getfield 40, 3) := by decide +kernel
theorem dX1_makeRoomFor_57 : decode cX1_makeRoomFor 57 = .ok (.aload_n 0, 1) := by decide +kernel
theorem dX1_makeRoomFor_58 : decode cX1_makeRoomFor 58 = .ok (.getfield 34, 3) := by decide +kernel
theorem dX1_makeRoomFor_61 : decode cX1_makeRoomFor 61 = .ok (.invokestatic 69, 3) := by decide +kernel
theorem dX1_makeRoomFor_64 : decode cX1_makeRoomFor 64 = .ok (.aload_n 0, 1) := by decide +kernel
theorem dX1_makeRoomFor_65 : decode cX1_makeRoomFor 65 = .ok (.dup, 1) := by decide +kernel
theorem dX1_makeRoomFor_66 : decode cX1_makeRoomFor 66 = .ok (.getfield 40, 3) := by decide +kernel
theorem dX1_makeRoomFor_69 : decode cX1_makeRoomFor 69 = .ok (.iconst 1, 1) := by decide +kernel
theorem dX1_makeRoomFor_70 : decode cX1_makeRoomFor 70 = .ok (.iadd, 1) := by decide +kernel
theorem dX1_makeRoomFor_71 : decode cX1_makeRoomFor 71 = .ok (.putfield 40, 3) := by decide +kernel
theorem dX1_makeRoomFor_74 : decode cX1_makeRoomFor 74 = .ok (.return_, 1) := by decide +kernel
theorem dX1_dropFirst_0 : decode cX1_dropFirst 0 = .ok (.aload_n 0, 1) := by decide +kernel
theorem dX1_dropFirst_1 : decode cX1_dropFirst 1 = .ok (.iconst 0, 1) := by decide +kernel
theorem dX1_dropFirst_2 : decode cX1_dropFirst 2 = .ok (.invokevirtual 73, 3) := by decide +kernel
theorem dX1_dropFirst_5 : decode cX1_dropFirst 5 = .ok (.istore_n 1, 1) := by decide +kernel
theorem dX1_dropFirst_6 : decode cX1_dropFirst 6 = .ok (.aload_n 0, 1) := by decide +kernel
theorem dX1_dropFirst_7 : decode cX1_dropFirst 7 = .ok (.getfield 30, 3) := by decide +kernel
theorem dX1_dropFirst_10 : decode cX1_dropFirst 10 = .ok (.istore_n 2, 1) := by decide +kernel
theorem dX1_dropFirst_11 : decode cX1_dropFirst 11 = .ok (.iload_n 2, 1) := by decide +kernel
theorem dX1_dropFirst_12 : decode cX1_dropFirst 12 = .ok (.iload_n 1, 1) := by decide +kernel
theorem dX1_dropFirst_13 : decode cX1_dropFirst 13 = .ok (.if_icmp .ge 32, 3) := by decide +kernel
theorem dX1_dropFirst_16 : decode cX1_dropFirst 16 = .ok (.aload_n 0, 1) := by decide +kernel
theorem dX1_dropFirst_17 : decode cX1_dropFirst 17 = .ok (.getfield 27, 3) := by decide +kernel
theorem dX1_dropFirst_20 : decode cX1_dropFirst 20 = .ok (.aload_n 0, 1) := by decide +kernel
theorem dX1_dropFirst_21 : decode cX1_dropFirst 21 = .ok (.getfield 9, 3) := by decide +kernel
theorem dX1_dropFirst_24 : decode cX1_dropFirst 24 = .ok (.iload_n 2, 1) := by decide +kernel
theorem dX1_dropFirst_25 : decode cX1_dropFirst 25 = .ok (.invokestatic 54, 3) := by decide +kernel
theorem dX1_dropFirst_28 : decode cX1_dropFirst 28 = .ok (.aload_n 0, 1) := by decide +kernel
theorem dX1_dropFirst_29 : decode cX1_dropFirst 29 = .ok (.getfield 15, 3) := by decide +kernel
theorem dX1_dropFirst_32 : decode cX1_dropFirst 32 = .ok (.iload_n 2, 1) := by decide +kernel
theorem dX1_dropFirst_33 : decode cX1_dropFirst 33 = .ok (.invokestatic 54, 3) := by decide +kernel
theorem dX1_dropFirst_36 : decode cX1_dropFirst 36 = .ok (.invokestatic 69, 3) := by decide +kernel
theorem dX1_dropFirst_39 : decode cX1_dropFirst 39 = .ok (.iinc 2 1, 3) := by decide +kernel
theorem dX1_dropFirst_42 : decode cX1_dropFirst 42 = .ok (.goto (-31), 3) := by decide +kernel
theorem dX1_dropFirst_45 : decode cX1_dropFirst 45 = .ok (.aload_n 0, 1) := by decide +kernel
theorem dX1_dropFirst_46 : decode cX1_dropFirst 46 = .ok (.dup, 1) := by decide +kernel
theorem dX1_dropFirst_47 : decode cX1_dropFirst 47 = .ok (.getfield 37, 3) := by decide +kernel
theorem dX1_dropFirst_50 : decode cX1_dropFirst 50 = .ok (.aload_n 0, 1) := by decide +kernel
theorem dX1_dropFirst_51 : decode cX1_dropFirst 51 = .ok (.aload_n 0, 1) := by decide +kernel
theorem dX1_dropFirst_52 : decode cX1_dropFirst 52 = .ok (.getfield 30, 3) := by decide +kernel
theorem dX1_dropFirst_55 : decode cX1_dropFirst 55 = .ok (.iload_n 1, 1) := by decide +kernel
theorem dX1_dropFirst_56 : decode cX1_dropFirst 56 = .ok (.invokevirtual 62, 3) := by decide +kernel
theorem dX1_dropFirst_59 : decode cX1_dropFirst 59 = .ok (.isub, 1) := by decide +kernel
theorem dX1_dropFirst_60 : decode cX1_dropFirst 60 = .ok (.putfield 37, 3) := by decide +kernel
theorem dX1_dropFirst_63 : decode cX1_dropFirst 63 = .ok (.aload_n 0, 1) := by decide +kernel
theorem dX1_dropFirst_64 : decode cX1_dropFirst 64 = .ok (.iload_n 1, 1) := by decide +kernel
theorem dX1_dropFirst_65 : decode cX1_dropFirst 65 = .ok (.putfield 30, 3) := by decide +kernel
theorem dX1_dropFirst_68 : decode cX1_dropFirst 68 = .ok (.aload_n 0, 1) := by decide +kernel
theorem dX1_dropFirst_69 : decode cX1_dropFirst 69 = .ok (.dup, 1) := by decide +kernel
theorem dX1_dropFirst_70 : decode cX1_dropFirst 70 = .ok (.getfield 43, 3) := by decide +kernel
theorem dX1_dropFirst_73 : decode cX1_dropFirst 73 = .ok (.iconst 1, 1) := by decide +kernel
theorem dX1_dropFirst_74 : decode cX1_dropFirst 74 = .ok (.iadd, 1) := by decide +kernel
theorem dX1_dropFirst_75 : decode cX1_dropFirst 75 = .ok (.putfield 43, 3) := by decide +kernel
theorem dX1_dropFirst_78 : decode cX1_dropFirst 78 = .ok (.return_, 1) := by decide +kernel
theorem dX1_toldForwards_0 : decode cX1_toldForwards 0 = .ok (.aload_n 0, 1) := by decide +kernel
theorem dX1_toldForwards_1 : decode cX1_toldForwards 1 = .ok (.getfield 27, 3) := by decide +kernel
theorem dX1_toldForwards_4 : decode cX1_toldForwards 4 = .ok (.iload_n 1, 1) := by decide +kernel
theorem dX1_toldForwards_5 : decode cX1_toldForwards 5 = .ok (.invokestatic 54, 3) := by decide +kernel
theorem dX1_toldForwards_8 : decode cX1_toldForwards 8 = .ok (.istore_n 3, 1) := by decide +kernel
theorem dX1_toldForwards_9 : decode cX1_toldForwards 9 = .ok (.aload_n 0, 1) := by decide +kernel
theorem dX1_toldForwards_10 : decode cX1_toldForwards 10 = .ok (.getfield 30, 3) := by decide +kernel
theorem dX1_toldForwards_13 : decode cX1_toldForwards 13 = .ok (.istore 4, 2) := by decide +kernel
theorem dX1_toldForwards_15 : decode cX1_toldForwards 15 = .ok (.iload 4, 2) := by decide +kernel
theorem dX1_toldForwards_17 : decode cX1_toldForwards 17 = .ok (.iload_n 2, 1) := by decide +kernel
theorem dX1_toldForwards_18 : decode cX1_toldForwards 18 = .ok (.if_icmp .ge 32, 3) := by decide +kernel
theorem dX1_toldForwards_21 : decode cX1_toldForwards 21 = .ok (.aload_n 0, 1) := by decide +kernel
theorem dX1_toldForwards_22 : decode cX1_toldForwards 22 = .ok (.getfield 9, 3) := by decide +kernel
theorem dX1_toldForwards_25 : decode cX1_toldForwards 25 = .ok (.iload 4, 2) := by decide +kernel
theorem dX1_toldForwards_27 : decode cX1_toldForwards 27 = .ok (.invokestatic 54, 3) := by decide +kernel
theorem dX1_toldForwards_30 : decode cX1_toldForwards 30 = .ok (.iload_n 1, 1) := by decide +kernel
theorem dX1_toldForwards_31 : decode cX1_toldForwards 31 = .ok (.if_icmp .ne 13, 3) := by decide +kernel
theorem dX1_toldForwards_34 : decode cX1_toldForwards 34 = .ok (.aload_n 0, 1) := by decide +kernel
theorem dX1_toldForwards_35 : decode cX1_toldForwards 35 = .ok (.getfield 15, 3) := by decide +kernel
theorem dX1_toldForwards_38 : decode cX1_toldForwards 38 = .ok (.iload 4, 2) := by decide +kernel
theorem dX1_toldForwards_40 : decode cX1_toldForwards 40 = .ok (.invokestatic 54, 3) := by decide +kernel
theorem dX1_toldForwards_43 : decode cX1_toldForwards 43 = .ok (.istore_n 3, 1) := by decide +kernel
theorem dX1_toldForwards_44 : decode cX1_toldForwards 44 = .ok (.iinc 4 1, 3) := by decide +kernel
theorem dX1_toldForwards_47 : decode cX1_toldForwards 47 = .ok (.goto (-32), 3) := by decide +kernel
theorem dX1_toldForwards_50 : decode cX1_toldForwards 50 = .ok (.iload_n 3, 1) := by decide +kernel
theorem dX1_toldForwards_51 : decode cX1_toldForwards 51 = .ok (.ireturn, 1) := by decide +kernel
theorem dX1_toldBackwards_0 : decode cX1_toldBackwards 0 = .ok (.iload_n 2, 1) := by decide +kernel
theorem dX1_toldBackwards_1 : decode cX1_toldBackwards 1 = .ok (.iconst 1, 1) := by decide +kernel
theorem dX1_toldBackwards_2 : decode cX1_toldBackwards 2 = .ok (.isub, 1) := by decide +kernel
theorem dX1_toldBackwards_3 : decode cX1_toldBackwards 3 = .ok (.istore_n 3, 1) := by decide +kernel
theorem dX1_toldBackwards_4 : decode cX1_toldBackwards 4 = .ok (.iload_n 3, 1) := by decide +kernel
theorem dX1_toldBackwards_5 : decode cX1_toldBackwards 5 = .ok (.aload_n 0, 1) := by decide +kernel
theorem dX1_toldBackwards_6 : decode cX1_toldBackwards 6 = .ok (.getfield 30, 3) := by decide +kernel
theorem dX1_toldBackwards_9 : decode cX1_toldBackwards 9 = .ok (.if_icmp .lt 30, 3) := by decide +kernel
theorem dX1_toldBackwards_12 : decode cX1_toldBackwards 12 = .ok (.aload_n 0, 1) := by decide +kernel
theorem dX1_toldBackwards_13 : decode cX1_toldBackwards 13 = .ok (.getfield 9, 3) := by decide +kernel
theorem dX1_toldBackwards_16 : decode cX1_toldBackwards 16 = .ok (.iload_n 3, 1) := by decide +kernel
theorem dX1_toldBackwards_17 : decode cX1_toldBackwards 17 = .ok (.invokestatic 54, 3) := by decide +kernel
theorem dX1_toldBackwards_20 : decode cX1_toldBackwards 20 = .ok (.iload_n 1, 1) := by decide +kernel
theorem dX1_toldBackwards_21 : decode cX1_toldBackwards 21 = .ok (.if_icmp .ne 12, 3) := by decide +kernel
theorem dX1_toldBackwards_24 : decode cX1_toldBackwards 24 = .ok (.aload_n 0, 1) := by decide +kernel
theorem dX1_toldBackwards_25 : decode cX1_toldBackwards 25 = .ok (.getfield 15, 3) := by decide +kernel
theorem dX1_toldBackwards_28 : decode cX1_toldBackwards 28 = .ok (.iload_n 3, 1) := by decide +kernel
theorem dX1_toldBackwards_29 : decode cX1_toldBackwards 29 = .ok (.invokestatic 54, 3) := by decide +kernel
theorem dX1_toldBackwards_32 : decode cX1_toldBackwards 32 = .ok (.ireturn, 1) := by decide +kernel
theorem dX1_toldBackwards_33 : decode cX1_toldBackwards 33 = .ok (.iinc 3 (-1), 3) := by decide +kernel
theorem dX1_toldBackwards_36 : decode cX1_toldBackwards 36 = .ok (.goto (-32), 3) := by decide +kernel
theorem dX1_toldBackwards_39 : decode cX1_toldBackwards 39 = .ok (.aload_n 0, 1) := by decide +kernel
theorem dX1_toldBackwards_40 : decode cX1_toldBackwards 40 = .ok (.getfield 27, 3) := by decide +kernel
theorem dX1_toldBackwards_43 : decode cX1_toldBackwards 43 = .ok (.iload_n 1, 1) := by decide +kernel
theorem dX1_toldBackwards_44 : decode cX1_toldBackwards 44 = .ok (.invokestatic 54, 3) := by decide +kernel
theorem dX1_toldBackwards_47 : decode cX1_toldBackwards 47 = .ok (.ireturn, 1) := by decide +kernel
theorem dX2_init_0 : decode cX2_init 0 = .ok (.aload_n 0, 1) := by decide +kernel
theorem dX2_init_1 : decode cX2_init 1 = .ok (.invokespecial 3, 3) := by decide +kernel
theorem dX2_init_4 : decode cX2_init 4 = .ok (.aload_n 0, 1) := by decide +kernel
theorem dX2_init_5 : decode cX2_init 5 = .ok (.bipush 8, 2) := by decide +kernel
theorem dX2_init_7 : decode cX2_init 7 = .ok (.newarray .int, 2) := by decide +kernel
theorem dX2_init_9 : decode cX2_init 9 = .ok (.putfield 9, 3) := by decide +kernel
theorem dX2_init_12 : decode cX2_init 12 = .ok (.return_, 1) := by decide +kernel
theorem dX2_renew_0 : decode cX2_renew 0 = .ok (.aload_n 0, 1) := by decide +kernel
theorem dX2_renew_1 : decode cX2_renew 1 = .ok (.iconst 0, 1) := by decide +kernel
theorem dX2_renew_2 : decode cX2_renew 2 = .ok (.putfield 15, 3) := by decide +kernel
theorem dX2_renew_5 : decode cX2_renew 5 = .ok (.aload_n 0, 1) := by decide +kernel
theorem dX2_renew_6 : decode cX2_renew 6 = .ok (.iconst 0, 1) := by decide +kernel
theorem dX2_renew_7 : decode cX2_renew 7 = .ok (.putfield 19, 3) := by decide +kernel
theorem dX2_renew_10 : decode cX2_renew 10 = .ok (.aload_n 0, 1) := by decide +kernel
theorem dX2_renew_11 : decode cX2_renew 11 = .ok (.iconst 0, 1) := by decide +kernel
theorem dX2_renew_12 : decode cX2_renew 12 = .ok (.putfield 22, 3) := by decide +kernel
theorem dX2_renew_15 : decode cX2_renew 15 = .ok (.return_, 1) := by decide +kernel
theorem dX2_takeOver_0 : decode cX2_takeOver 0 = .ok (.aload_n 1, 1) := by decide +kernel
theorem dX2_takeOver_1 : decode cX2_takeOver 1 = .ok (.getfield 9, 3) := by decide +kernel
theorem dX2_takeOver_4 : decode cX2_takeOver 4 = .ok (.aload_n 0, 1) := by decide +kernel
theorem dX2_takeOver_5 : decode cX2_takeOver 5 = .ok (.getfield 9, 3) := by decide +kernel
theorem dX2_takeOver_8 : decode cX2_takeOver 8 = .ok (.invokestatic 25, 3) := by decide +kernel
theorem dX2_takeOver_11 : decode cX2_takeOver 11 = .ok (.aload_n 0, 1) := by decide +kernel
theorem dX2_takeOver_12 : decode cX2_takeOver 12 = .ok (.aload_n 1, 1) := by decide +kernel
theorem dX2_takeOver_13 : decode cX2_takeOver 13 = .ok (.getfield 15, 3) := by decide +kernel
theorem dX2_takeOver_16 : decode cX2_takeOver 16 = .ok (.putfield 15, 3) := by decide +kernel
theorem dX2_takeOver_19 : decode cX2_takeOver 19 = .ok (.aload_n 0, 1) := by decide +kernel
theorem dX2_takeOver_20 : decode cX2_takeOver 20 = .ok (.aload_n 1, 1) := by decide +kernel
theorem dX2_takeOver_21 : decode cX2_takeOver 21 = .ok (.getfield 19, 3) := by decide +kernel
theorem dX2_takeOver_24 : decode cX2_takeOver 24 = .ok (.putfield 19, 3) := by decide +kernel
theorem dX2_takeOver_27 : decode cX2_takeOver 27 = .ok (.aload_n 0, 1) := by decide +kernel
theorem dX2_takeOver_28 : decode cX2_takeOver 28 = .ok (.aload_n 1, 1) := by decide +kernel
theorem dX2_takeOver_29 : decode cX2_takeOver 29 = .ok (.getfield 22, 3) := by decide +kernel
theorem dX2_takeOver_32 : decode cX2_takeOver 32 = .ok (.putfield 22, 3) := by decide +kernel
theorem dX2_takeOver_35 : decode cX2_takeOver 35 = .ok (.aload_n 0, 1) := by decide +kernel
theorem dX2_takeOver_36 : decode cX2_takeOver 36 = .ok (.aload_n 1, 1) := by decide +kernel
theorem dX2_takeOver_37 : decode cX2_takeOver 37 = .ok (.getfield 29, 3) := by decide +kernel
theorem dX2_takeOver_40 : decode cX2_takeOver 40 = .ok (.putfield 29, 3) := by decide +kernel
theorem dX2_takeOver_43 : decode cX2_takeOver 43 = .ok (.aload_n 0, 1) := by decide +kernel
theorem dX2_takeOver_44 : decode cX2_takeOver 44 = .ok (.aload_n 1, 1) := by decide +kernel
theorem dX2_takeOver_45 : decode cX2_takeOver 45 = .ok (.getfield 33, 3) := by decide +kernel
theorem dX2_takeOver_48 : decode cX2_takeOver 48 = .ok (.putfield 33, 3) := by decide +kernel
theorem dX2_takeOver_51 : decode cX2_takeOver 51 = .ok (.aload_n 0, 1) := by decide +kernel
theorem dX2_takeOver_52 : decode cX2_takeOver 52 = .ok (.aload_n 1, 1) := by decide +kernel
theorem dX2_takeOver_53 : decode cX2_takeOver 53 = .ok (.getfield 36, 3) := by decide +kernel
theorem dX2_takeOver_56 : decode cX2_takeOver 56 = .ok (.putfield 36, 3) := by decide +kernel
theorem dX2_takeOver_59 : decode cX2_takeOver 59 = .ok (.aload_n 0, 1) := by decide +kernel
theorem dX2_takeOver_60 : decode cX2_takeOver 60 = .ok (.aload_n 1, 1) := by decide +kernel
theorem dX2_takeOver_61 : decode cX2_takeOver 61 = .ok (.getfield 39, 3) := by decide +kernel
theorem dX2_takeOver_64 : decode cX2_takeOver 64 = .ok (.putfield 39, 3) := by decide +kernel
theorem dX2_takeOver_67 : decode cX2_takeOver 67 = .ok (.aload_n 0, 1) := by decide +kernel
theorem dX2_takeOver_68 : decode cX2_takeOver 68 = .ok (.aload_n 1, 1) := by decide +kernel
theorem dX2_takeOver_69 : decode cX2_takeOver 69 = .ok (.getfield 42, 3) := by decide +kernel
theorem dX2_takeOver_72 : decode cX2_takeOver 72 = .ok (.putfield 42, 3) := by decide +kernel
theorem dX2_takeOver_75 : decode cX2_takeOver 75 = .ok (.return_, 1) := by decide +kernel
theorem dX2_arrive_0 : decode cX2_arrive 0 = .ok (.aload_n 0, 1) := by decide +kernel
theorem dX2_arrive_1 : decode cX2_arrive 1 = .ok (.iconst 1, 1) := by decide +kernel
theorem dX2_arrive_2 : decode cX2_arrive 2 = .ok (.putfield 15, 3) := by decide +kernel
theorem dX2_arrive_5 : decode cX2_arrive 5 = .ok (.aload_n 0, 1) := by decide +kernel
theorem dX2_arrive_6 : decode cX2_arrive 6 = .ok (.iload_n 2, 1) := by decide +kernel
theorem dX2_arrive_7 : decode cX2_arrive 7 = .ok (.putfield 22, 3) := by decide +kernel
theorem dX2_arrive_10 : decode cX2_arrive 10 = .ok (.aload_n 0, 1) := by decide +kernel
theorem dX2_arrive_11 : decode cX2_arrive 11 = .ok (.iconst 0, 1) := by decide +kernel
theorem dX2_arrive_12 : decode cX2_arrive 12 = .ok (.putfield 33, 3) := by decide +kernel
theorem dX2_arrive_15 : decode cX2_arrive 15 = .ok (.aload_n 0, 1) := by decide +kernel
theorem dX2_arrive_16 : decode cX2_arrive 16 = .ok (.iconst 0, 1) := by decide +kernel
theorem dX2_arrive_17 : decode cX2_arrive 17 = .ok (.putfield 36, 3) := by decide +kernel
theorem dX2_arrive_20 : decode cX2_arrive 20 = .ok (.aload_n 0, 1) := by decide +kernel
theorem dX2_arrive_21 : decode cX2_arrive 21 = .ok (.iload_n 1, 1) := by decide +kernel
theorem dX2_arrive_22 : decode cX2_arrive 22 = .ok (.putfield 39, 3) := by decide +kernel
theorem dX2_arrive_25 : decode cX2_arrive 25 = .ok (.aload_n 0, 1) := by decide +kernel
theorem dX2_arrive_26 : decode cX2_arrive 26 = .ok (.iconst 0, 1) := by decide +kernel
theorem dX2_arrive_27 : decode cX2_arrive 27 = .ok (.putfield 42, 3) := by decide +kernel
theorem dX2_arrive_30 : decode cX2_arrive 30 = .ok (.return_, 1) := by decide +kernel
theorem dX2_depart_0 : decode cX2_depart 0 = .ok (.aload_n 0, 1) := by decide +kernel
theorem dX2_depart_1 : decode cX2_depart 1 = .ok (.iconst 0, 1) := by decide +kernel
theorem dX2_depart_2 : decode cX2_depart 2 = .ok (.putfield 15, 3) := by decide +kernel
theorem dX2_depart_5 : decode cX2_depart 5 = .ok (.aload_n 0, 1) := by decide +kernel
theorem dX2_depart_6 : decode cX2_depart 6 = .ok (.iconst 1, 1) := by decide +kernel
theorem dX2_depart_7 : decode cX2_depart 7 = .ok (.putfield 19, 3) := by decide +kernel
theorem dX2_depart_10 : decode cX2_depart 10 = .ok (.aload_n 0, 1) := by decide +kernel
theorem dX2_depart_11 : decode cX2_depart 11 = .ok (.iconst 0, 1) := by decide +kernel
theorem dX2_depart_12 : decode cX2_depart 12 = .ok (.putfield 22, 3) := by decide +kernel
theorem dX2_depart_15 : decode cX2_depart 15 = .ok (.return_, 1) := by decide +kernel
theorem dX3_init_0 : decode cX3_init 0 = .ok (.aload_n 0, 1) := by decide +kernel
theorem dX3_init_1 : decode cX3_init 1 = .ok (.invokespecial 3, 3) := by decide +kernel
theorem dX3_init_4 : decode cX3_init 4 = .ok (.aload_n 0, 1) := by decide +kernel
theorem dX3_init_5 : decode cX3_init 5 = .ok (.new 9, 3) := by decide +kernel
theorem dX3_init_8 : decode cX3_init 8 = .ok (.dup, 1) := by decide +kernel
theorem dX3_init_9 : decode cX3_init 9 = .ok (.invokespecial 11, 3) := by decide +kernel
theorem dX3_init_12 : decode cX3_init 12 = .ok (.putfield 12, 3) := by decide +kernel
theorem dX3_init_15 : decode cX3_init 15 = .ok (.aload_n 0, 1) := by decide +kernel
theorem dX3_init_16 : decode cX3_init 16 = .ok (.bipush 8, 2) := by decide +kernel
theorem dX3_init_18 : decode cX3_init 18 = .ok (.anewarray 18, 3) := by decide +kernel
theorem dX3_init_21 : decode cX3_init 21 = .ok (.putfield 20, 3) := by decide +kernel
theorem dX3_init_24 : decode cX3_init 24 = .ok (.aload_n 0, 1) := by decide +kernel
theorem dX3_init_25 : decode cX3_init 25 = .ok (.bipush 6, 2) := by decide +kernel
theorem dX3_init_27 : decode cX3_init 27 = .ok (.newarray .int, 2) := by decide +kernel
theorem dX3_init_29 : decode cX3_init 29 = .ok (.putfield 24, 3) := by decide +kernel
theorem dX3_init_32 : decode cX3_init 32 = .ok (.iconst 0, 1) := by decide +kernel
theorem dX3_init_33 : decode cX3_init 33 = .ok (.istore_n 1, 1) := by decide +kernel
theorem dX3_init_34 : decode cX3_init 34 = .ok (.iload_n 1, 1) := by decide +kernel
theorem dX3_init_35 : decode cX3_init 35 = .ok (.bipush 8, 2) := by decide +kernel
theorem dX3_init_37 : decode cX3_init 37 = .ok (.if_icmp .ge 22, 3) := by decide +kernel
theorem dX3_init_40 : decode cX3_init 40 = .ok (.aload_n 0, 1) := by decide +kernel
theorem dX3_init_41 : decode cX3_init 41 = .ok (.getfield 20, 3) := by decide +kernel
theorem dX3_init_44 : decode cX3_init 44 = .ok (.iload_n 1, 1) := by decide +kernel
theorem dX3_init_45 : decode cX3_init 45 = .ok (.new 18, 3) := by decide +kernel
theorem dX3_init_48 : decode cX3_init 48 = .ok (.dup, 1) := by decide +kernel
theorem dX3_init_49 : decode cX3_init 49 = .ok (.invokespecial 28, 3) := by decide +kernel
theorem dX3_init_52 : decode cX3_init 52 = .ok (.aastore, 1) := by decide +kernel
theorem dX3_init_53 : decode cX3_init 53 = .ok (.iinc 1 1, 3) := by decide +kernel
theorem dX3_init_56 : decode cX3_init 56 = .ok (.goto (-22), 3) := by decide +kernel
theorem dX3_init_59 : decode cX3_init 59 = .ok (.aload_n 0, 1) := by decide +kernel
theorem dX3_init_60 : decode cX3_init 60 = .ok (.invokevirtual 29, 3) := by decide +kernel
theorem dX3_init_63 : decode cX3_init 63 = .ok (.return_, 1) := by decide +kernel
theorem dX3_renew_0 : decode cX3_renew 0 = .ok (.aload_n 0, 1) := by decide +kernel
theorem dX3_renew_1 : decode cX3_renew 1 = .ok (.getfield 12, 3) := by decide +kernel
theorem dX3_renew_4 : decode cX3_renew 4 = .ok (.invokevirtual 32, 3) := by decide +kernel
theorem dX3_renew_7 : decode cX3_renew 7 = .ok (.iconst 0, 1) := by decide +kernel
theorem dX3_renew_8 : decode cX3_renew 8 = .ok (.istore_n 1, 1) := by decide +kernel
theorem dX3_renew_9 : decode cX3_renew 9 = .ok (.iload_n 1, 1) := by decide +kernel
theorem dX3_renew_10 : decode cX3_renew 10 = .ok (.bipush 8, 2) := by decide +kernel
theorem dX3_renew_12 : decode cX3_renew 12 = .ok (.if_icmp .ge 24, 3) := by decide +kernel
theorem dX3_renew_15 : decode cX3_renew 15 = .ok (.aload_n 0, 1) := by decide +kernel
theorem dX3_renew_16 : decode cX3_renew 16 = .ok (.getfield 20, 3) := by decide +kernel
theorem dX3_renew_19 : decode cX3_renew 19 = .ok (.iload_n 1, 1) := by decide +kernel
theorem dX3_renew_20 : decode cX3_renew 20 = .ok (.aaload, 1) := by decide +kernel
theorem dX3_renew_21 : decode cX3_renew 21 = .ok (.astore_n 2, 1) := by decide +kernel
theorem dX3_renew_22 : decode cX3_renew 22 = .ok (.aload_n 2, 1) := by decide +kernel
theorem dX3_renew_23 : decode cX3_renew 23 = .ok (.ifnull 7, 3) := by decide +kernel
theorem dX3_renew_26 : decode cX3_renew 26 = .ok (.aload_n 2, 1) := by decide +kernel
theorem dX3_renew_27 : decode cX3_renew 27 = .ok (.invokevirtual 33, 3) := by decide +kernel
theorem dX3_renew_30 : decode cX3_renew 30 = .ok (.iinc 1 1, 3) := by decide +kernel
theorem dX3_renew_33 : decode cX3_renew 33 = .ok (.goto (-24), 3) := by decide +kernel
theorem dX3_renew_36 : decode cX3_renew 36 = .ok (.getstatic 34, 3) := by decide +kernel
theorem dX3_renew_39 : decode cX3_renew 39 = .ok (.aload_n 0, 1) := by decide +kernel
theorem dX3_renew_40 : decode cX3_renew 40 = .ok (.getfield 24, 3) := by decide +kernel
theorem dX3_renew_43 : decode cX3_renew 43 = .ok (.invokestatic 37, 3) := by decide +kernel
theorem dX3_renew_46 : decode cX3_renew 46 = .ok (.aload_n 0, 1) := by decide +kernel
theorem dX3_renew_47 : decode cX3_renew 47 = .ok (.iconst 0, 1) := by decide +kernel
theorem dX3_renew_48 : decode cX3_renew 48 = .ok (.putfield 41, 3) := by decide +kernel
theorem dX3_renew_51 : decode cX3_renew 51 = .ok (.aload_n 0, 1) := by decide +kernel
theorem dX3_renew_52 : decode cX3_renew 52 = .ok (.iconst 0, 1) := by decide +kernel
theorem dX3_renew_53 : decode cX3_renew 53 = .ok (.putfield 45, 3) := by decide +kernel
theorem dX3_renew_56 : decode cX3_renew 56 = .ok (.aload_n 0, 1) := by decide +kernel
theorem dX3_renew_57 : decode cX3_renew 57 = .ok (.iconst 0, 1) := by decide +kernel
theorem dX3_renew_58 : decode cX3_renew 58 = .ok (.putfield 48, 3) := by decide +kernel
theorem dX3_renew_61 : decode cX3_renew 61 = .ok (.aload_n 0, 1) := by decide +kernel
theorem dX3_renew_62 : decode cX3_renew 62 = .ok (.iconst 0, 1) := by decide +kernel
theorem dX3_renew_63 : decode cX3_renew 63 = .ok (.putfield 51, 3) := by decide +kernel
theorem dX3_renew_66 : decode cX3_renew 66 = .ok (.return_, 1) := by decide +kernel
theorem dX3_takeOver_0 : decode cX3_takeOver 0 = .ok (.aload_n 1, 1) := by decide +kernel
theorem dX3_takeOver_1 : decode cX3_takeOver 1 = .ok (.ifnonnull 4, 3) := by decide +kernel
theorem dX3_takeOver_4 : decode cX3_takeOver 4 = .ok (.return_, 1) := by decide +kernel
theorem dX3_takeOver_5 : decode cX3_takeOver 5 = .ok (.aload_n 0, 1) := by decide +kernel
theorem dX3_takeOver_6 : decode cX3_takeOver 6 = .ok (.getfield 12, 3) := by decide +kernel
theorem dX3_takeOver_9 : decode cX3_takeOver 9 = .ok (.aload_n 1, 1) := by decide +kernel
theorem dX3_takeOver_10 : decode cX3_takeOver 10 = .ok (.getfield 12, 3) := by decide +kernel
theorem dX3_takeOver_13 : decode cX3_takeOver 13 = .ok (.invokevirtual 54, 3) := by decide +kernel
theorem dX3_takeOver_16 : decode cX3_takeOver 16 = .ok (.iconst 0, 1) := by decide +kernel
theorem dX3_takeOver_17 : decode cX3_takeOver 17 = .ok (.istore_n 2, 1) := by decide +kernel
theorem dX3_takeOver_18 : decode cX3_takeOver 18 = .ok (.iload_n 2, 1) := by decide +kernel
theorem dX3_takeOver_19 : decode cX3_takeOver 19 = .ok (.bipush 8, 2) := by decide +kernel
theorem dX3_takeOver_21 : decode cX3_takeOver 21 = .ok (.if_icmp .ge 39, 3) := by decide +kernel
theorem dX3_takeOver_24 : decode cX3_takeOver 24 = .ok (.aload_n 0, 1) := by decide +kernel
theorem dX3_takeOver_25 : decode cX3_takeOver 25 = .ok (.getfield 20, 3) := by decide +kernel
theorem dX3_takeOver_28 : decode cX3_takeOver 28 = .ok (.iload_n 2, 1) := by decide +kernel
theorem dX3_takeOver_29 : decode cX3_takeOver 29 = .ok (.aaload, 1) := by decide +kernel
theorem dX3_takeOver_30 : decode cX3_takeOver 30 = .ok (.astore_n 3, 1) := by decide +kernel
theorem dX3_takeOver_31 : decode cX3_takeOver 31 = .ok (.aload_n 1, 1) := by decide +kernel
theorem dX3_takeOver_32 : decode cX3_takeOver 32 = .ok (.getfield 20, 3) := by decide +kernel
theorem dX3_takeOver_35 : decode cX3_takeOver 35 = .ok (.iload_n 2, 1) := by decide +kernel
theorem dX3_takeOver_36 : decode cX3_takeOver 36 = .ok (.aaload, 1) := by decide +kernel
theorem dX3_takeOver_37 : decode cX3_takeOver 37 = .ok (.astore 4, 2) := by decide +kernel
theorem dX3_takeOver_39 : decode cX3_takeOver 39 = .ok (.aload_n 3, 1) := by decide +kernel
theorem dX3_takeOver_40 : decode cX3_takeOver 40 = .ok (.ifnull 14, 3) := by decide +kernel
theorem dX3_takeOver_43 : decode cX3_takeOver 43 = .ok (.aload 4, 2) := by decide +kernel
theorem dX3_takeOver_45 : decode cX3_takeOver 45 = .ok (.ifnull 9, 3) := by decide +kernel
theorem dX3_takeOver_48 : decode cX3_takeOver 48 = .ok (.aload_n 3, 1) := by decide +kernel
theorem dX3_takeOver_49 : decode cX3_takeOver 49 = .ok (.aload 4, 2) := by decide +kernel
theorem dX3_takeOver_51 : decode cX3_takeOver 51 = .ok (.invokevirtual 58, 3) := by decide +kernel
theorem dX3_takeOver_54 : decode cX3_takeOver 54 = .ok (.iinc 2 1, 3) := by decide +kernel
theorem dX3_takeOver_57 : decode cX3_takeOver 57 = .ok (.goto (-39), 3) := by decide +kernel
theorem dX3_takeOver_60 : decode cX3_takeOver 60 = .ok (.aload_n 1, 1) := by decide +kernel
theorem dX3_takeOver_61 : decode cX3_takeOver 61 = .ok (.getfield 24, 3) := by decide +kernel
theorem dX3_takeOver_64 : decode cX3_takeOver 64 = .ok (.aload_n 0, 1) := by decide +kernel
theorem dX3_takeOver_65 : decode cX3_takeOver 65 = .ok (.getfield 24, 3) := by decide +kernel
theorem dX3_takeOver_68 : decode cX3_takeOver 68 = .ok (.invokestatic 37, 3) := by decide +kernel
theorem dX3_takeOver_71 : decode cX3_takeOver 71 = .ok (.aload_n 0, 1) := by decide +kernel
theorem dX3_takeOver_72 : decode cX3_takeOver 72 = .ok (.aload_n 1, 1) := by decide +kernel
theorem dX3_takeOver_73 : decode cX3_takeOver 73 = .ok (.getfield 41, 3) := by decide +kernel
theorem dX3_takeOver_76 : decode cX3_takeOver 76 = .ok (.putfield 41, 3) := by decide +kernel
theorem dX3_takeOver_79 : decode cX3_takeOver 79 = .ok (.aload_n 0, 1) := by decide +kernel
theorem dX3_takeOver_80 : decode cX3_takeOver 80 = .ok (.aload_n 1, 1) := by decide +kernel
theorem dX3_takeOver_81 : decode cX3_takeOver 81 = .ok (.getfield 45, 3) := by decide +kernel
theorem dX3_takeOver_84 : decode cX3_takeOver 84 = .ok (.putfield 45, 3) := by decide +kernel
theorem dX3_takeOver_87 : decode cX3_takeOver 87 = .ok (.aload_n 0, 1) := by decide +kernel
theorem dX3_takeOver_88 : decode cX3_takeOver 88 = .ok (.aload_n 1, 1) := by decide +kernel
theorem dX3_takeOver_89 : decode cX3_takeOver 89 = .ok (.getfield 48, 3) := by decide +kernel
theorem dX3_takeOver_92 : decode cX3_takeOver 92 = .ok (.putfield 48, 3) := by decide +kernel
theorem dX3_takeOver_95 : decode cX3_takeOver 95 = .ok (.aload_n 0, 1) := by decide +kernel
theorem dX3_takeOver_96 : decode cX3_takeOver 96 = .ok (.aload_n 1, 1) := by decide +kernel
theorem dX3_takeOver_97 : decode cX3_takeOver 97 = .ok (.getfield 51, 3) := by decide +kernel
theorem dX3_takeOver_100 : decode cX3_takeOver 100 = .ok (.putfield 51, 3) := by decide +kernel
theorem dX3_takeOver_103 : decode cX3_takeOver 103 = .ok (.return_, 1) := by decide +kernel
theorem dX3_named_0 : decode cX3_named 0 = .ok (.iload_n 1, 1) := by decide +kernel
theorem dX3_named_1 : decode cX3_named 1 = .ok (.ifCond .lt 18, 3) := by decide +kernel
theorem dX3_named_4 : decode cX3_named 4 = .ok (.iload_n 1, 1) := by decide +kernel
theorem dX3_named_5 : decode cX3_named 5 = .ok (.bipush 8, 2) := by decide +kernel
theorem dX3_named_7 : decode cX3_named 7 = .ok (.if_icmp .ge 12, 3) := by decide +kernel
theorem dX3_named_10 : decode cX3_named 10 = .ok (.aload_n 0, 1) := by decide +kernel
theorem dX3_named_11 : decode cX3_named 11 = .ok (.getfield 20, 3) := by decide +kernel
theorem dX3_named_14 : decode cX3_named 14 = .ok (.iload_n 1, 1) := by decide +kernel
theorem dX3_named_15 : decode cX3_named 15 = .ok (.aaload, 1) := by decide +kernel
theorem dX3_named_16 : decode cX3_named 16 = .ok (.goto 4, 3) := by decide +kernel
theorem dX3_named_19 : decode cX3_named 19 = .ok (.aconst_null, 1) := by decide +kernel
theorem dX3_named_20 : decode cX3_named 20 = .ok (.areturn, 1) := by decide +kernel
theorem dX3_reader_0 : decode cX3_reader 0 = .ok (.aload_n 0, 1) := by decide +kernel
theorem dX3_reader_1 : decode cX3_reader 1 = .ok (.iload_n 1, 1) := by decide +kernel
theorem dX3_reader_2 : decode cX3_reader 2 = .ok (.invokevirtual 61, 3) := by decide +kernel
theorem dX3_reader_5 : decode cX3_reader 5 = .ok (.astore_n 2, 1) := by decide +kernel
theorem dX3_reader_6 : decode cX3_reader 6 = .ok (.aload_n 2, 1) := by decide +kernel
theorem dX3_reader_7 : decode cX3_reader 7 = .ok (.ifnull 14, 3) := by decide +kernel
theorem dX3_reader_10 : decode cX3_reader 10 = .ok (.aload_n 2, 1) := by decide +kernel
theorem dX3_reader_11 : decode cX3_reader 11 = .ok (.getfield 65, 3) := by decide +kernel
theorem dX3_reader_14 : decode cX3_reader 14 = .ok (.ifCond .eq 7, 3) := by decide +kernel
theorem dX3_reader_17 : decode cX3_reader 17 = .ok (.aload_n 2, 1) := by decide +kernel
theorem dX3_reader_18 : decode cX3_reader 18 = .ok (.goto 4, 3) := by decide +kernel
theorem dX3_reader_21 : decode cX3_reader 21 = .ok (.aconst_null, 1) := by decide +kernel
theorem dX3_reader_22 : decode cX3_reader 22 = .ok (.areturn, 1) := by decide +kernel
theorem dX3_hasHold_0 : decode cX3_hasHold 0 = .ok (.aload_n 0, 1) := by decide +kernel
theorem dX3_hasHold_1 : decode cX3_hasHold 1 = .ok (.iload_n 1, 1) := by decide +kernel
theorem dX3_hasHold_2 : decode cX3_hasHold 2 = .ok (.invokevirtual 69, 3) := by decide +kernel
theorem dX3_hasHold_5 : decode cX3_hasHold 5 = .ok (.astore_n 2, 1) := by decide +kernel
theorem dX3_hasHold_6 : decode cX3_hasHold 6 = .ok (.aload_n 2, 1) := by decide +kernel
theorem dX3_hasHold_7 : decode cX3_hasHold 7 = .ok (.ifnull 14, 3) := by decide +kernel
theorem dX3_hasHold_10 : decode cX3_hasHold 10 = .ok (.aload_n 2, 1) := by decide +kernel
theorem dX3_hasHold_11 : decode cX3_hasHold 11 = .ok (.getfield 72, 3) := by decide +kernel
theorem dX3_hasHold_14 : decode cX3_hasHold 14 = .ok (.ifCond .eq 7, 3) := by decide +kernel
theorem dX3_hasHold_17 : decode cX3_hasHold 17 = .ok (.iconst 1, 1) := by decide +kernel
theorem dX3_hasHold_18 : decode cX3_hasHold 18 = .ok (.goto 4, 3) := by decide +kernel
theorem dX3_hasHold_21 : decode cX3_hasHold 21 = .ok (.iconst 0, 1) := by decide +kernel
theorem dX3_hasHold_22 : decode cX3_hasHold 22 = .ok (.ireturn, 1) := by decide +kernel
theorem dX3_hasGap_0 : decode cX3_hasGap 0 = .ok (.aload_n 0, 1) := by decide +kernel
theorem dX3_hasGap_1 : decode cX3_hasGap 1 = .ok (.iload_n 1, 1) := by decide +kernel
theorem dX3_hasGap_2 : decode cX3_hasGap 2 = .ok (.invokevirtual 69, 3) := by decide +kernel
theorem dX3_hasGap_5 : decode cX3_hasGap 5 = .ok (.astore_n 2, 1) := by decide +kernel
theorem dX3_hasGap_6 : decode cX3_hasGap 6 = .ok (.aload_n 2, 1) := by decide +kernel
theorem dX3_hasGap_7 : decode cX3_hasGap 7 = .ok (.ifnull 21, 3) := by decide +kernel
theorem dX3_hasGap_10 : decode cX3_hasGap 10 = .ok (.aload_n 2, 1) := by decide +kernel
theorem dX3_hasGap_11 : decode cX3_hasGap 11 = .ok (.getfield 75, 3) := by decide +kernel
theorem dX3_hasGap_14 : decode cX3_hasGap 14 = .ok (.aload_n 0, 1) := by decide +kernel
theorem dX3_hasGap_15 : decode cX3_hasGap 15 = .ok (.getfield 12, 3) := by decide +kernel
theorem dX3_hasGap_18 : decode cX3_hasGap 18 = .ok (.getfield 78, 3) := by decide +kernel
theorem dX3_hasGap_21 : decode cX3_hasGap 21 = .ok (.if_icmp .ge 7, 3) := by decide +kernel
theorem dX3_hasGap_24 : decode cX3_hasGap 24 = .ok (.iconst 1, 1) := by decide +kernel
theorem dX3_hasGap_25 : decode cX3_hasGap 25 = .ok (.goto 4, 3) := by decide +kernel
theorem dX3_hasGap_28 : decode cX3_hasGap 28 = .ok (.iconst 0, 1) := by decide +kernel
theorem dX3_hasGap_29 : decode cX3_hasGap 29 = .ok (.ireturn, 1) := by decide +kernel
theorem dX3_isAtLeastAt_0 : decode cX3_isAtLeastAt 0 = .ok (.aload_n 0, 1) := by decide +kernel
theorem dX3_isAtLeastAt_1 : decode cX3_isAtLeastAt 1 = .ok (.iload_n 1, 1) := by decide +kernel
theorem dX3_isAtLeastAt_2 : decode cX3_isAtLeastAt 2 = .ok (.invokevirtual 69, 3) := by decide +kernel
theorem dX3_isAtLeastAt_5 : decode cX3_isAtLeastAt 5 = .ok (.astore_n 3, 1) := by decide +kernel
theorem dX3_isAtLeastAt_6 : decode cX3_isAtLeastAt 6 = .ok (.aload_n 3, 1) := by decide +kernel
theorem dX3_isAtLeastAt_7 : decode cX3_isAtLeastAt 7 = .ok (.ifnull 15, 3) := by decide +kernel
theorem dX3_isAtLeastAt_10 : decode cX3_isAtLeastAt 10 = .ok (.aload_n 3, 1) := by decide +kernel
theorem dX3_isAtLeastAt_11 : decode cX3_isAtLeastAt 11 = .ok (.getfield 75, 3) := by decide +kernel
theorem dX3_isAtLeastAt_14 : decode cX3_isAtLeastAt 14 = .ok (.iload_n 2, 1) := by decide +kernel
theorem dX3_isAtLeastAt_15 : decode cX3_isAtLeastAt 15 = .ok (.if_icmp .lt 7, 3) := by decide +kernel
theorem dX3_isAtLeastAt_18 : decode cX3_isAtLeastAt 18 = .ok (.iconst 1, 1) := by decide +kernel
theorem dX3_isAtLeastAt_19 : decode cX3_isAtLeastAt 19 = .ok (.goto 4, 3) := by decide +kernel
theorem dX3_isAtLeastAt_22 : decode cX3_isAtLeastAt 22 = .ok (.iconst 0, 1) := by decide +kernel
theorem dX3_isAtLeastAt_23 : decode cX3_isAtLeastAt 23 = .ok (.ireturn, 1) := by decide +kernel
theorem dX3_readerCount_0 : decode cX3_readerCount 0 = .ok (.iconst 0, 1) := by decide +kernel
theorem dX3_readerCount_1 : decode cX3_readerCount 1 = .ok (.istore_n 1, 1) := by decide +kernel
theorem dX3_readerCount_2 : decode cX3_readerCount 2 = .ok (.iconst 0, 1) := by decide +kernel
theorem dX3_readerCount_3 : decode cX3_readerCount 3 = .ok (.istore_n 2, 1) := by decide +kernel
theorem dX3_readerCount_4 : decode cX3_readerCount 4 = .ok (.iload_n 2, 1) := by decide +kernel
theorem dX3_readerCount_5 : decode cX3_readerCount 5 = .ok (.bipush 8, 2) := by decide +kernel
theorem dX3_readerCount_7 : decode cX3_readerCount 7 = .ok (.if_icmp .ge 28, 3) := by decide +kernel
theorem dX3_readerCount_10 : decode cX3_readerCount 10 = .ok (.iload_n 1, 1) := by decide +kernel
theorem dX3_readerCount_11 : decode cX3_readerCount 11 = .ok (.aload_n 0, 1) := by decide +kernel
theorem dX3_readerCount_12 : decode cX3_readerCount 12 = .ok (.iload_n 2, 1) := by decide +kernel
theorem dX3_readerCount_13 : decode cX3_readerCount 13 = .ok (.invokevirtual 69, 3) := by decide +kernel
theorem dX3_readerCount_16 : decode cX3_readerCount 16 = .ok (.ifnull 7, 3) := by decide +kernel
theorem dX3_readerCount_19 : decode cX3_readerCount 19 = .ok (.iconst 1, 1) := by decide +kernel
theorem dX3_readerCount_20 : decode cX3_readerCount 20 = .ok (.goto 4, 3) := by decide +kernel
theorem dX3_readerCount_23 : decode cX3_readerCount 23 = .ok (.iconst 0, 1) := by decide +kernel
theorem dX3_readerCount_24 : decode cX3_readerCount 24 = .ok (.invokestatic 81, 3) := by decide +kernel
theorem dX3_readerCount_27 : decode cX3_readerCount 27 = .ok (.iadd, 1) := by decide +kernel
theorem dX3_readerCount_28 : decode cX3_readerCount 28 = .ok (.istore_n 1, 1) := by decide +kernel
theorem dX3_readerCount_29 : decode cX3_readerCount 29 = .ok (.iinc 2 1, 3) := by decide +kernel
theorem dX3_readerCount_32 : decode cX3_readerCount 32 = .ok (.goto (-28), 3) := by decide +kernel
theorem dX3_readerCount_35 : decode cX3_readerCount 35 = .ok (.iload_n 1, 1) := by decide +kernel
theorem dX3_readerCount_36 : decode cX3_readerCount 36 = .ok (.ireturn, 1) := by decide +kernel
theorem dX3_gapCount_0 : decode cX3_gapCount 0 = .ok (.iconst 0, 1) := by decide +kernel
theorem dX3_gapCount_1 : decode cX3_gapCount 1 = .ok (.istore_n 1, 1) := by decide +kernel
theorem dX3_gapCount_2 : decode cX3_gapCount 2 = .ok (.iconst 0, 1) := by decide +kernel
theorem dX3_gapCount_3 : decode cX3_gapCount 3 = .ok (.istore_n 2, 1) := by decide +kernel
theorem dX3_gapCount_4 : decode cX3_gapCount 4 = .ok (.iload_n 2, 1) := by decide +kernel
theorem dX3_gapCount_5 : decode cX3_gapCount 5 = .ok (.bipush 8, 2) := by decide +kernel
theorem dX3_gapCount_7 : decode cX3_gapCount 7 = .ok (.if_icmp .ge 20, 3) := by decide +kernel
theorem dX3_gapCount_10 : decode cX3_gapCount 10 = .ok (.iload_n 1, 1) := by decide +kernel
theorem dX3_gapCount_11 : decode cX3_gapCount 11 = .ok (.aload_n 0, 1) := by decide +kernel
theorem dX3_gapCount_12 : decode cX3_gapCount 12 = .ok (.iload_n 2, 1) := by decide +kernel
theorem dX3_gapCount_13 : decode cX3_gapCount 13 = .ok (.invokevirtual 85, 3) := by decide +kernel
theorem dX3_gapCount_16 : decode cX3_gapCount 16 = .ok (.invokestatic 81, 3) := by decide +kernel
theorem dX3_gapCount_19 : decode cX3_gapCount 19 = .ok (.iadd, 1) := by decide +kernel
theorem dX3_gapCount_20 : decode cX3_gapCount 20 = .ok (.istore_n 1, 1) := by decide +kernel
theorem dX3_gapCount_21 : decode cX3_gapCount 21 = .ok (.iinc 2 1, 3) := by decide +kernel
theorem dX3_gapCount_24 : decode cX3_gapCount 24 = .ok (.goto (-20), 3) := by decide +kernel
theorem dX3_gapCount_27 : decode cX3_gapCount 27 = .ok (.iload_n 1, 1) := by decide +kernel
theorem dX3_gapCount_28 : decode cX3_gapCount 28 = .ok (.ireturn, 1) := by decide +kernel
theorem dX3_holdersUpTo_0 : decode cX3_holdersUpTo 0 = .ok (.iconst 0, 1) := by decide +kernel
theorem dX3_holdersUpTo_1 : decode cX3_holdersUpTo 1 = .ok (.istore_n 2, 1) := by decide +kernel
theorem dX3_holdersUpTo_2 : decode cX3_holdersUpTo 2 = .ok (.iconst 0, 1) := by decide +kernel
theorem dX3_holdersUpTo_3 : decode cX3_holdersUpTo 3 = .ok (.istore_n 3, 1) := by decide +kernel
theorem dX3_holdersUpTo_4 : decode cX3_holdersUpTo 4 = .ok (.iload_n 3, 1) := by decide +kernel
theorem dX3_holdersUpTo_5 : decode cX3_holdersUpTo 5 = .ok (.bipush 8, 2) := by decide +kernel
theorem dX3_holdersUpTo_7 : decode cX3_holdersUpTo 7 = .ok (.if_icmp .ge 50, 3) := by decide +kernel
theorem dX3_holdersUpTo_10 : decode cX3_holdersUpTo 10 = .ok (.aload_n 0, 1) := by decide +kernel
theorem dX3_holdersUpTo_11 : decode cX3_holdersUpTo 11 = .ok (.getfield 20, 3) := by decide +kernel
theorem dX3_holdersUpTo_14 : decode cX3_holdersUpTo 14 = .ok (.iload_n 3, 1) := by decide +kernel
theorem dX3_holdersUpTo_15 : decode cX3_holdersUpTo 15 = .ok (.aaload, 1) := by decide +kernel
theorem dX3_holdersUpTo_16 : decode cX3_holdersUpTo 16 = .ok (.astore 4, 2) := by decide +kernel
theorem dX3_holdersUpTo_18 : decode cX3_holdersUpTo 18 = .ok (.iload_n 2, 1) := by decide +kernel
theorem dX3_holdersUpTo_19 : decode cX3_holdersUpTo 19 = .ok (.aload 4, 2) := by decide +kernel
theorem dX3_holdersUpTo_21 : decode cX3_holdersUpTo 21 = .ok (.ifnull 24, 3) := by decide +kernel
theorem dX3_holdersUpTo_24 : decode cX3_holdersUpTo 24 = .ok (.aload 4, 2) := by decide +kernel
theorem dX3_holdersUpTo_26 : decode cX3_holdersUpTo 26 = .ok (.getfield 72, 3) := by decide +kernel
theorem dX3_holdersUpTo_29 : decode cX3_holdersUpTo 29 = .ok (.ifCond .eq 16, 3) := by decide +kernel
theorem dX3_holdersUpTo_32 : decode cX3_holdersUpTo 32 = .ok (.aload 4, 2) := by decide +kernel
theorem dX3_holdersUpTo_34 : decode cX3_holdersUpTo 34 = .ok (.getfield 75, 3) := by decide +kernel
theorem dX3_holdersUpTo_37 : decode cX3_holdersUpTo 37 = .ok (.iload_n 1, 1) := by decide +kernel
theorem dX3_holdersUpTo_38 : decode cX3_holdersUpTo 38 = .ok (.if_icmp .gt 7, 3) := by decide +kernel
theorem dX3_holdersUpTo_41 : decode cX3_holdersUpTo 41 = .ok (.iconst 1, 1) := by decide +kernel
theorem dX3_holdersUpTo_42 : decode cX3_holdersUpTo 42 = .ok (.goto 4, 3) := by decide +kernel
theorem dX3_holdersUpTo_45 : decode cX3_holdersUpTo 45 = .ok (.iconst 0, 1) := by decide +kernel
theorem dX3_holdersUpTo_46 : decode cX3_holdersUpTo 46 = .ok (.invokestatic 81, 3) := by decide +kernel
theorem dX3_holdersUpTo_49 : decode cX3_holdersUpTo 49 = .ok (.iadd, 1) := by decide +kernel
theorem dX3_holdersUpTo_50 : decode cX3_holdersUpTo 50 = .ok (.istore_n 2, 1) := by decide +kernel
theorem dX3_holdersUpTo_51 : decode cX3_holdersUpTo 51 = .ok (.iinc 3 1, 3) := by decide +kernel
theorem dX3_holdersUpTo_54 : decode cX3_holdersUpTo 54 = .ok (.goto (-50), 3) := by decide +kernel
theorem dX3_holdersUpTo_57 : decode cX3_holdersUpTo 57 = .ok (.iload_n 2, 1) := by decide +kernel
theorem dX3_holdersUpTo_58 : decode cX3_holdersUpTo 58 = .ok (.ireturn, 1) := by decide +kernel
theorem dX3_slowestHolder_0 : decode cX3_slowestHolder 0 = .ok (.iconst (-1), 1) := by decide +kernel
theorem dX3_slowestHolder_1 : decode cX3_slowestHolder 1 = .ok (.istore_n 1, 1) := by decide +kernel
theorem dX3_slowestHolder_2 : decode cX3_slowestHolder 2 = .ok (.aload_n 0, 1) := by decide +kernel
theorem dX3_slowestHolder_3 : decode cX3_slowestHolder 3 = .ok (.getfield 12, 3) := by decide +kernel
theorem dX3_slowestHolder_6 : decode cX3_slowestHolder 6 = .ok (.getfield 89, 3) := by decide +kernel
theorem dX3_slowestHolder_9 : decode cX3_slowestHolder 9 = .ok (.iconst 1, 1) := by decide +kernel
theorem dX3_slowestHolder_10 : decode cX3_slowestHolder 10 = .ok (.iadd, 1) := by decide +kernel
theorem dX3_slowestHolder_11 : decode cX3_slowestHolder 11 = .ok (.istore_n 2, 1) := by decide +kernel
theorem dX3_slowestHolder_12 : decode cX3_slowestHolder 12 = .ok (.iconst 0, 1) := by decide +kernel
theorem dX3_slowestHolder_13 : decode cX3_slowestHolder 13 = .ok (.istore_n 3, 1) := by decide +kernel
theorem dX3_slowestHolder_14 : decode cX3_slowestHolder 14 = .ok (.iload_n 3, 1) := by decide +kernel
theorem dX3_slowestHolder_15 : decode cX3_slowestHolder 15 = .ok (.bipush 8, 2) := by decide +kernel
theorem dX3_slowestHolder_17 : decode cX3_slowestHolder 17 = .ok (.if_icmp .ge 46, 3) := by decide +kernel
theorem dX3_slowestHolder_20 : decode cX3_slowestHolder 20 = .ok (.aload_n 0, 1) := by decide +kernel
theorem dX3_slowestHolder_21 : decode cX3_slowestHolder 21 = .ok (.iload_n 3, 1) := by decide +kernel
theorem dX3_slowestHolder_22 : decode cX3_slowestHolder 22 = .ok (.invokevirtual 69, 3) := by decide +kernel
theorem dX3_slowestHolder_25 : decode cX3_slowestHolder 25 = .ok (.astore 4, 2) := by decide +kernel
theorem dX3_slowestHolder_27 : decode cX3_slowestHolder 27 = .ok (.aload 4, 2) := by decide +kernel
theorem dX3_slowestHolder_29 : decode cX3_slowestHolder 29 = .ok (.ifnull 28, 3) := by decide +kernel
theorem dX3_slowestHolder_32 : decode cX3_slowestHolder 32 = .ok (.aload 4, 2) := by decide +kernel
theorem dX3_slowestHolder_34 : decode cX3_slowestHolder 34 = .ok (.getfield 72, 3) := by decide +kernel
theorem dX3_slowestHolder_37 : decode cX3_slowestHolder 37 = .ok (.ifCond .eq 20, 3) := by decide +kernel
theorem dX3_slowestHolder_40 : decode cX3_slowestHolder 40 = .ok (.aload 4, 2) := by decide +kernel
theorem dX3_slowestHolder_42 : decode cX3_slowestHolder 42 = .ok (.getfield 75, 3) := by decide +kernel
theorem dX3_slowestHolder_45 : decode cX3_slowestHolder 45 = .ok (.iload_n 2, 1) := by decide +kernel
theorem dX3_slowestHolder_46 : decode cX3_slowestHolder 46 = .ok (.if_icmp .ge 11, 3) := by decide +kernel
theorem dX3_slowestHolder_49 : decode cX3_slowestHolder 49 = .ok (.iload_n 3, 1) := by decide +kernel
theorem dX3_slowestHolder_50 : decode cX3_slowestHolder 50 = .ok (.istore_n 1, 1) := by decide +kernel
theorem dX3_slowestHolder_51 : decode cX3_slowestHolder 51 = .ok (.aload 4, 2) := by decide +kernel
theorem dX3_slowestHolder_53 : decode cX3_slowestHolder 53 = .ok (.getfield 75, 3) := by decide +kernel
theorem dX3_slowestHolder_56 : decode cX3_slowestHolder 56 = .ok (.istore_n 2, 1) := by decide +kernel
theorem dX3_slowestHolder_57 : decode cX3_slowestHolder 57 = .ok (.iinc 3 1, 3) := by decide +kernel
theorem dX3_slowestHolder_60 : decode cX3_slowestHolder 60 = .ok (.goto (-46), 3) := by decide +kernel
theorem dX3_slowestHolder_63 : decode cX3_slowestHolder 63 = .ok (.iload_n 1, 1) := by decide +kernel
theorem dX3_slowestHolder_64 : decode cX3_slowestHolder 64 = .ok (.ireturn, 1) := by decide +kernel
theorem dX3_number_0 : decode cX3_number 0 = .ok (.iload_n 1, 1) := by decide +kernel
theorem dX3_number_1 : decode cX3_number 1 = .ok (.tableswitch 136 0 10 #[59, 67, 75, 83, 91, 96, 108, 113, 118, 126, 131], 59) := by decide +kernel
theorem dX3_number_60 : decode cX3_number 60 = .ok (.aload_n 0, 1) := by decide +kernel
theorem dX3_number_61 : decode cX3_number 61 = .ok (.getfield 12, 3) := by decide +kernel
theorem dX3_number_64 : decode cX3_number 64 = .ok (.getfield 89, 3) := by decide +kernel
theorem dX3_number_67 : decode cX3_number 67 = .ok (.ireturn, 1) := by decide +kernel
theorem dX3_number_68 : decode cX3_number 68 = .ok (.aload_n 0, 1) := by decide +kernel
theorem dX3_number_69 : decode cX3_number 69 = .ok (.getfield 12, 3) := by decide +kernel
theorem dX3_number_72 : decode cX3_number 72 = .ok (.getfield 78, 3) := by decide +kernel
theorem dX3_number_75 : decode cX3_number 75 = .ok (.ireturn, 1) := by decide +kernel
theorem dX3_number_76 : decode cX3_number 76 = .ok (.aload_n 0, 1) := by decide +kernel
theorem dX3_number_77 : decode cX3_number 77 = .ok (.getfield 12, 3) := by decide +kernel
theorem dX3_number_80 : decode cX3_number 80 = .ok (.invokevirtual 92, 3) := by decide +kernel
theorem dX3_number_83 : decode cX3_number 83 = .ok (.ireturn, 1) := by decide +kernel
theorem dX3_number_84 : decode cX3_number 84 = .ok (.aload_n 0, 1) := by decide +kernel
theorem dX3_number_85 : decode cX3_number 85 = .ok (.getfield 12, 3) := by decide +kernel
theorem dX3_number_88 : decode cX3_number 88 = .ok (.getfield 96, 3) := by decide +kernel
theorem dX3_number_91 : decode cX3_number 91 = .ok (.ireturn, 1) := by decide +kernel
theorem dX3_number_92 : decode cX3_number 92 = .ok (.aload_n 0, 1) := by decide +kernel
theorem dX3_number_93 : decode cX3_number 93 = .ok (.invokevirtual 99, 3) := by decide +kernel
theorem dX3_number_96 : decode cX3_number 96 = .ok (.ireturn, 1) := by decide +kernel
theorem dX3_number_97 : decode cX3_number 97 = .ok (.aload_n 0, 1) := by decide +kernel
theorem dX3_number_98 : decode cX3_number 98 = .ok (.aload_n 0, 1) := by decide +kernel
theorem dX3_number_99 : decode cX3_number 99 = .ok (.getfield 12, 3) := by decide +kernel
theorem dX3_number_102 : decode cX3_number 102 = .ok (.getfield 89, 3) := by decide +kernel
theorem dX3_number_105 : decode cX3_number 105 = .ok (.invokevirtual 102, 3) := by decide +kernel
theorem dX3_number_108 : decode cX3_number 108 = .ok (.ireturn, 1) := by decide +kernel
theorem dX3_number_109 : decode cX3_number 109 = .ok (.aload_n 0, 1) := by decide +kernel
theorem dX3_number_110 : decode cX3_number 110 = .ok (.invokevirtual 106, 3) := by decide +kernel
theorem dX3_number_113 : decode cX3_number 113 = .ok (.ireturn, 1) := by decide +kernel
theorem dX3_number_114 : decode cX3_number 114 = .ok (.aload_n 0, 1) := by decide +kernel
theorem dX3_number_115 : decode cX3_number 115 = .ok (.getfield 41, 3) := by decide +kernel
theorem dX3_number_118 : decode cX3_number 118 = .ok (.ireturn, 1) := by decide +kernel
theorem dX3_number_119 : decode cX3_number 119 = .ok (.aload_n 0, 1) := by decide +kernel
theorem dX3_number_120 : decode cX3_number 120 = .ok (.getfield 12, 3) := by decide +kernel
theorem dX3_number_123 : decode cX3_number 123 = .ok (.getfield 109, 3) := by decide +kernel
theorem dX3_number_126 : decode cX3_number 126 = .ok (.ireturn, 1) := by decide +kernel
theorem dX3_number_127 : decode cX3_number 127 = .ok (.aload_n 0, 1) := by decide +kernel
theorem dX3_number_128 : decode cX3_number 128 = .ok (.getfield 45, 3) := by decide +kernel
theorem dX3_number_131 : decode cX3_number 131 = .ok (.ireturn, 1) := by decide +kernel
theorem dX3_number_132 : decode cX3_number 132 = .ok (.aload_n 0, 1) := by decide +kernel
theorem dX3_number_133 : decode cX3_number 133 = .ok (.getfield 48, 3) := by decide +kernel
theorem dX3_number_136 : decode cX3_number 136 = .ok (.ireturn, 1) := by decide +kernel
theorem dX3_number_137 : decode cX3_number 137 = .ok (.aload_n 0, 1) := by decide +kernel
theorem dX3_number_138 : decode cX3_number 138 = .ok (.getfield 51, 3) := by decide +kernel
theorem dX3_number_141 : decode cX3_number 141 = .ok (.ireturn, 1) := by decide +kernel
theorem dX3_segmentNumber_0 : decode cX3_segmentNumber 0 = .ok (.iload_n 2, 1) := by decide +kernel
theorem dX3_segmentNumber_1 : decode cX3_segmentNumber 1 = .ok (.tableswitch 126 0 4 #[35, 44, 62, 86, 108], 35) := by decide +kernel
theorem dX3_segmentNumber_36 : decode cX3_segmentNumber 36 = .ok (.aload_n 0, 1) := by decide +kernel
theorem dX3_segmentNumber_37 : decode cX3_segmentNumber 37 = .ok (.getfield 12, 3) := by decide +kernel
theorem dX3_segmentNumber_40 : decode cX3_segmentNumber 40 = .ok (.iload_n 1, 1) := by decide +kernel
theorem dX3_segmentNumber_41 : decode cX3_segmentNumber 41 = .ok (.invokevirtual 112, 3) := by decide +kernel
theorem dX3_segmentNumber_44 : decode cX3_segmentNumber 44 = .ok (.ireturn, 1) := by decide +kernel
theorem dX3_segmentNumber_45 : decode cX3_segmentNumber 45 = .ok (.aload_n 0, 1) := by decide +kernel
theorem dX3_segmentNumber_46 : decode cX3_segmentNumber 46 = .ok (.getfield 12, 3) := by decide +kernel
theorem dX3_segmentNumber_49 : decode cX3_segmentNumber 49 = .ok (.iload_n 1, 1) := by decide +kernel
theorem dX3_segmentNumber_50 : decode cX3_segmentNumber 50 = .ok (.invokevirtual 115, 3) := by decide +kernel
theorem dX3_segmentNumber_53 : decode cX3_segmentNumber 53 = .ok (.aload_n 0, 1) := by decide +kernel
theorem dX3_segmentNumber_54 : decode cX3_segmentNumber 54 = .ok (.getfield 12, 3) := by decide +kernel
theorem dX3_segmentNumber_57 : decode cX3_segmentNumber 57 = .ok (.iload_n 1, 1) := by decide +kernel
theorem dX3_segmentNumber_58 : decode cX3_segmentNumber 58 = .ok (.invokevirtual 112, 3) := by decide +kernel
theorem dX3_segmentNumber_61 : decode cX3_segmentNumber 61 = .ok (.isub, 1) := by decide +kernel
theorem dX3_segmentNumber_62 : decode cX3_segmentNumber 62 = .ok (.ireturn, 1) := by decide +kernel
theorem dX3_segmentNumber_63 : decode cX3_segmentNumber 63 = .ok (.aload_n 0, 1) := by decide +kernel
theorem dX3_segmentNumber_64 : decode cX3_segmentNumber 64 = .ok (.getfield 12, 3) := by decide +kernel
theorem dX3_segmentNumber_67 : decode cX3_segmentNumber 67 = .ok (.aload_n 0, 1) := by decide +kernel
theorem dX3_segmentNumber_68 : decode cX3_segmentNumber 68 = .ok (.getfield 12, 3) := by decide +kernel
theorem dX3_segmentNumber_71 : decode cX3_segmentNumber 71 = .ok (.iload_n 1, 1) := by decide +kernel
theorem dX3_segmentNumber_72 : decode cX3_segmentNumber 72 = .ok (.invokevirtual 112, 3) := by decide +kernel
theorem dX3_segmentNumber_75 : decode cX3_segmentNumber 75 = .ok (.aload_n 0, 1) := by decide +kernel
theorem dX3_segmentNumber_76 : decode cX3_segmentNumber 76 = .ok (.getfield 12, 3) := by decide +kernel
theorem dX3_segmentNumber_79 : decode cX3_segmentNumber 79 = .ok (.iload_n 1, 1) := by decide +kernel
theorem dX3_segmentNumber_80 : decode cX3_segmentNumber 80 = .ok (.invokevirtual 115, 3) := by decide +kernel
theorem dX3_segmentNumber_83 : decode cX3_segmentNumber 83 = .ok (.invokevirtual 118, 3) := by decide +kernel
theorem dX3_segmentNumber_86 : decode cX3_segmentNumber 86 = .ok (.ireturn, 1) := by decide +kernel
theorem dX3_segmentNumber_87 : decode cX3_segmentNumber 87 = .ok (.iload_n 1, 1) := by decide +kernel
theorem dX3_segmentNumber_88 : decode cX3_segmentNumber 88 = .ok (.aload_n 0, 1) := by decide +kernel
theorem dX3_segmentNumber_89 : decode cX3_segmentNumber 89 = .ok (.getfield 12, 3) := by decide +kernel
theorem dX3_segmentNumber_92 : decode cX3_segmentNumber 92 = .ok (.invokevirtual 92, 3) := by decide +kernel
theorem dX3_segmentNumber_95 : decode cX3_segmentNumber 95 = .ok (.iconst 1, 1) := by decide +kernel
theorem dX3_segmentNumber_96 : decode cX3_segmentNumber 96 = .ok (.isub, 1) := by decide +kernel
theorem dX3_segmentNumber_97 : decode cX3_segmentNumber 97 = .ok (.if_icmp .ge 7, 3) := by decide +kernel
theorem dX3_segmentNumber_100 : decode cX3_segmentNumber 100 = .ok (.iconst 1, 1) := by decide +kernel
theorem dX3_segmentNumber_101 : decode cX3_segmentNumber 101 = .ok (.goto 4, 3) := by decide +kernel
theorem dX3_segmentNumber_104 : decode cX3_segmentNumber 104 = .ok (.iconst 0, 1) := by decide +kernel
theorem dX3_segmentNumber_105 : decode cX3_segmentNumber 105 = .ok (.invokestatic 81, 3) := by decide +kernel
theorem dX3_segmentNumber_108 : decode cX3_segmentNumber 108 = .ok (.ireturn, 1) := by decide +kernel
theorem dX3_segmentNumber_109 : decode cX3_segmentNumber 109 = .ok (.aload_n 0, 1) := by decide +kernel
theorem dX3_segmentNumber_110 : decode cX3_segmentNumber 110 = .ok (.aload_n 0, 1) := by decide +kernel
theorem dX3_segmentNumber_111 : decode cX3_segmentNumber 111 = .ok (.getfield 12, 3) := by decide +kernel
theorem dX3_segmentNumber_114 : decode cX3_segmentNumber 114 = .ok (.iload_n 1, 1) := by decide +kernel
theorem dX3_segmentNumber_115 : decode cX3_segmentNumber 115 = .ok (.invokevirtual 115, 3) := by decide +kernel
theorem dX3_segmentNumber_118 : decode cX3_segmentNumber 118 = .ok (.iconst 1, 1) := by decide +kernel
theorem dX3_segmentNumber_119 : decode cX3_segmentNumber 119 = .ok (.isub, 1) := by decide +kernel
theorem dX3_segmentNumber_120 : decode cX3_segmentNumber 120 = .ok (.invokevirtual 122, 3) := by decide +kernel
theorem dX3_segmentNumber_123 : decode cX3_segmentNumber 123 = .ok (.invokestatic 81, 3) := by decide +kernel
theorem dX3_segmentNumber_126 : decode cX3_segmentNumber 126 = .ok (.ireturn, 1) := by decide +kernel
theorem dX3_segmentNumber_127 : decode cX3_segmentNumber 127 = .ok (.aload_n 0, 1) := by decide +kernel
theorem dX3_segmentNumber_128 : decode cX3_segmentNumber 128 = .ok (.aload_n 0, 1) := by decide +kernel
theorem dX3_segmentNumber_129 : decode cX3_segmentNumber 129 = .ok (.getfield 12, 3) := by decide +kernel
theorem dX3_segmentNumber_132 : decode cX3_segmentNumber 132 = .ok (.iload_n 1, 1) := by decide +kernel
theorem dX3_segmentNumber_133 : decode cX3_segmentNumber 133 = .ok (.invokevirtual 115, 3) := by decide +kernel
theorem dX3_segmentNumber_136 : decode cX3_segmentNumber 136 = .ok (.iconst 1, 1) := by decide +kernel
theorem dX3_segmentNumber_137 : decode cX3_segmentNumber 137 = .ok (.isub, 1) := by decide +kernel
theorem dX3_segmentNumber_138 : decode cX3_segmentNumber 138 = .ok (.invokevirtual 102, 3) := by decide +kernel
theorem dX3_segmentNumber_141 : decode cX3_segmentNumber 141 = .ok (.ifCond .le 7, 3) := by decide +kernel
theorem dX3_segmentNumber_144 : decode cX3_segmentNumber 144 = .ok (.iconst 1, 1) := by decide +kernel
theorem dX3_segmentNumber_145 : decode cX3_segmentNumber 145 = .ok (.goto 4, 3) := by decide +kernel
theorem dX3_segmentNumber_148 : decode cX3_segmentNumber 148 = .ok (.iconst 0, 1) := by decide +kernel
theorem dX3_segmentNumber_149 : decode cX3_segmentNumber 149 = .ok (.invokestatic 81, 3) := by decide +kernel
theorem dX3_segmentNumber_152 : decode cX3_segmentNumber 152 = .ok (.ireturn, 1) := by decide +kernel
theorem dX3_readerNumber_0 : decode cX3_readerNumber 0 = .ok (.iload_n 2, 1) := by decide +kernel
theorem dX3_readerNumber_1 : decode cX3_readerNumber 1 = .ok (.tableswitch 127 0 7 #[47, 52, 60, 65, 70, 75, 98, 110], 47) := by decide +kernel
theorem dX3_readerNumber_48 : decode cX3_readerNumber 48 = .ok (.aload_n 1, 1) := by decide +kernel
theorem dX3_readerNumber_49 : decode cX3_readerNumber 49 = .ok (.getfield 75, 3) := by decide +kernel
theorem dX3_readerNumber_52 : decode cX3_readerNumber 52 = .ok (.ireturn, 1) := by decide +kernel
theorem dX3_readerNumber_53 : decode cX3_readerNumber 53 = .ok (.aload_n 1, 1) := by decide +kernel
theorem dX3_readerNumber_54 : decode cX3_readerNumber 54 = .ok (.getfield 72, 3) := by decide +kernel
theorem dX3_readerNumber_57 : decode cX3_readerNumber 57 = .ok (.invokestatic 81, 3) := by decide +kernel
theorem dX3_readerNumber_60 : decode cX3_readerNumber 60 = .ok (.ireturn, 1) := by decide +kernel
theorem dX3_readerNumber_61 : decode cX3_readerNumber 61 = .ok (.aload_n 1, 1) := by decide +kernel
theorem dX3_readerNumber_62 : decode cX3_readerNumber 62 = .ok (.getfield 125, 3) := by decide +kernel
theorem dX3_readerNumber_65 : decode cX3_readerNumber 65 = .ok (.ireturn, 1) := by decide +kernel
theorem dX3_readerNumber_66 : decode cX3_readerNumber 66 = .ok (.aload_n 1, 1) := by decide +kernel
theorem dX3_readerNumber_67 : decode cX3_readerNumber 67 = .ok (.getfield 128, 3) := by decide +kernel
theorem dX3_readerNumber_70 : decode cX3_readerNumber 70 = .ok (.ireturn, 1) := by decide +kernel
theorem dX3_readerNumber_71 : decode cX3_readerNumber 71 = .ok (.aload_n 1, 1) := by decide +kernel
theorem dX3_readerNumber_72 : decode cX3_readerNumber 72 = .ok (.getfield 131, 3) := by decide +kernel
theorem dX3_readerNumber_75 : decode cX3_readerNumber 75 = .ok (.ireturn, 1) := by decide +kernel
theorem dX3_readerNumber_76 : decode cX3_readerNumber 76 = .ok (.aload_n 0, 1) := by decide +kernel
theorem dX3_readerNumber_77 : decode cX3_readerNumber 77 = .ok (.getfield 12, 3) := by decide +kernel
theorem dX3_readerNumber_80 : decode cX3_readerNumber 80 = .ok (.getfield 89, 3) := by decide +kernel
theorem dX3_readerNumber_83 : decode cX3_readerNumber 83 = .ok (.aload_n 1, 1) := by decide +kernel
theorem dX3_readerNumber_84 : decode cX3_readerNumber 84 = .ok (.getfield 75, 3) := by decide +kernel
theorem dX3_readerNumber_87 : decode cX3_readerNumber 87 = .ok (.aload_n 0, 1) := by decide +kernel
theorem dX3_readerNumber_88 : decode cX3_readerNumber 88 = .ok (.getfield 12, 3) := by decide +kernel
theorem dX3_readerNumber_91 : decode cX3_readerNumber 91 = .ok (.getfield 78, 3) := by decide +kernel
theorem dX3_readerNumber_94 : decode cX3_readerNumber 94 = .ok (.invokestatic 134, 3) := by decide +kernel
theorem dX3_readerNumber_97 : decode cX3_readerNumber 97 = .ok (.isub, 1) := by decide +kernel
theorem dX3_readerNumber_98 : decode cX3_readerNumber 98 = .ok (.ireturn, 1) := by decide +kernel
theorem dX3_readerNumber_99 : decode cX3_readerNumber 99 = .ok (.aload_n 0, 1) := by decide +kernel
theorem dX3_readerNumber_100 : decode cX3_readerNumber 100 = .ok (.getfield 12, 3) := by decide +kernel
theorem dX3_readerNumber_103 : decode cX3_readerNumber 103 = .ok (.aload_n 1, 1) := by decide +kernel
theorem dX3_readerNumber_104 : decode cX3_readerNumber 104 = .ok (.getfield 75, 3) := by decide +kernel
theorem dX3_readerNumber_107 : decode cX3_readerNumber 107 = .ok (.invokevirtual 139, 3) := by decide +kernel
theorem dX3_readerNumber_110 : decode cX3_readerNumber 110 = .ok (.ireturn, 1) := by decide +kernel
theorem dX3_readerNumber_111 : decode cX3_readerNumber 111 = .ok (.aload_n 0, 1) := by decide +kernel
theorem dX3_readerNumber_112 : decode cX3_readerNumber 112 = .ok (.getfield 12, 3) := by decide +kernel
theorem dX3_readerNumber_115 : decode cX3_readerNumber 115 = .ok (.getfield 78, 3) := by decide +kernel
theorem dX3_readerNumber_118 : decode cX3_readerNumber 118 = .ok (.aload_n 1, 1) := by decide +kernel
theorem dX3_readerNumber_119 : decode cX3_readerNumber 119 = .ok (.getfield 75, 3) := by decide +kernel
theorem dX3_readerNumber_122 : decode cX3_readerNumber 122 = .ok (.isub, 1) := by decide +kernel
theorem dX3_readerNumber_123 : decode cX3_readerNumber 123 = .ok (.iconst 0, 1) := by decide +kernel
theorem dX3_readerNumber_124 : decode cX3_readerNumber 124 = .ok (.invokestatic 134, 3) := by decide +kernel
theorem dX3_readerNumber_127 : decode cX3_readerNumber 127 = .ok (.ireturn, 1) := by decide +kernel
theorem dX3_readerNumber_128 : decode cX3_readerNumber 128 = .ok (.aload_n 1, 1) := by decide +kernel
theorem dX3_readerNumber_129 : decode cX3_readerNumber 129 = .ok (.getfield 142, 3) := by decide +kernel
theorem dX3_readerNumber_132 : decode cX3_readerNumber 132 = .ok (.ireturn, 1) := by decide +kernel
theorem dX3_isDue_0 : decode cX3_isDue 0 = .ok (.aload_n 0, 1) := by decide +kernel
theorem dX3_isDue_1 : decode cX3_isDue 1 = .ok (.getfield 24, 3) := by decide +kernel
theorem dX3_isDue_4 : decode cX3_isDue 4 = .ok (.iconst 2, 1) := by decide +kernel
theorem dX3_isDue_5 : decode cX3_isDue 5 = .ok (.invokestatic 145, 3) := by decide +kernel
theorem dX3_isDue_8 : decode cX3_isDue 8 = .ok (.istore_n 2, 1) := by decide +kernel
theorem dX3_isDue_9 : decode cX3_isDue 9 = .ok (.aload_n 0, 1) := by decide +kernel
theorem dX3_isDue_10 : decode cX3_isDue 10 = .ok (.getfield 12, 3) := by decide +kernel
theorem dX3_isDue_13 : decode cX3_isDue 13 = .ok (.getfield 96, 3) := by decide +kernel
theorem dX3_isDue_16 : decode cX3_isDue 16 = .ok (.aload_n 0, 1) := by decide +kernel
theorem dX3_isDue_17 : decode cX3_isDue 17 = .ok (.getfield 24, 3) := by decide +kernel
theorem dX3_isDue_20 : decode cX3_isDue 20 = .ok (.iconst 3, 1) := by decide +kernel
theorem dX3_isDue_21 : decode cX3_isDue 21 = .ok (.invokestatic 145, 3) := by decide +kernel
theorem dX3_isDue_24 : decode cX3_isDue 24 = .ok (.if_icmp .gt 27, 3) := by decide +kernel
theorem dX3_isDue_27 : decode cX3_isDue 27 = .ok (.iload_n 2, 1) := by decide +kernel
theorem dX3_isDue_28 : decode cX3_isDue 28 = .ok (.ifCond .le 27, 3) := by decide +kernel
theorem dX3_isDue_31 : decode cX3_isDue 31 = .ok (.aload_n 0, 1) := by decide +kernel
theorem dX3_isDue_32 : decode cX3_isDue 32 = .ok (.getfield 41, 3) := by decide +kernel
theorem dX3_isDue_35 : decode cX3_isDue 35 = .ok (.aload_n 0, 1) := by decide +kernel
theorem dX3_isDue_36 : decode cX3_isDue 36 = .ok (.getfield 12, 3) := by decide +kernel
theorem dX3_isDue_39 : decode cX3_isDue 39 = .ok (.getfield 149, 3) := by decide +kernel
theorem dX3_isDue_42 : decode cX3_isDue 42 = .ok (.iload_n 1, 1) := by decide +kernel
theorem dX3_isDue_43 : decode cX3_isDue 43 = .ok (.invokestatic 145, 3) := by decide +kernel
theorem dX3_isDue_46 : decode cX3_isDue 46 = .ok (.isub, 1) := by decide +kernel
theorem dX3_isDue_47 : decode cX3_isDue 47 = .ok (.iload_n 2, 1) := by decide +kernel
theorem dX3_isDue_48 : decode cX3_isDue 48 = .ok (.if_icmp .lt 7, 3) := by decide +kernel
theorem dX3_isDue_51 : decode cX3_isDue 51 = .ok (.iconst 1, 1) := by decide +kernel
theorem dX3_isDue_52 : decode cX3_isDue 52 = .ok (.goto 4, 3) := by decide +kernel
theorem dX3_isDue_55 : decode cX3_isDue 55 = .ok (.iconst 0, 1) := by decide +kernel
theorem dX3_isDue_56 : decode cX3_isDue 56 = .ok (.ireturn, 1) := by decide +kernel
theorem dX3_firstStays_0 : decode cX3_firstStays 0 = .ok (.aload_n 0, 1) := by decide +kernel
theorem dX3_firstStays_1 : decode cX3_firstStays 1 = .ok (.getfield 12, 3) := by decide +kernel
theorem dX3_firstStays_4 : decode cX3_firstStays 4 = .ok (.invokevirtual 92, 3) := by decide +kernel
theorem dX3_firstStays_7 : decode cX3_firstStays 7 = .ok (.iconst 2, 1) := by decide +kernel
theorem dX3_firstStays_8 : decode cX3_firstStays 8 = .ok (.if_icmp .ge 5, 3) := by decide +kernel
theorem dX3_firstStays_11 : decode cX3_firstStays 11 = .ok (.iconst 1, 1) := by decide +kernel
theorem dX3_firstStays_12 : decode cX3_firstStays 12 = .ok (.ireturn, 1) := by decide +kernel
theorem dX3_firstStays_13 : decode cX3_firstStays 13 = .ok (.aload_n 0, 1) := by decide +kernel
theorem dX3_firstStays_14 : decode cX3_firstStays 14 = .ok (.getfield 12, 3) := by decide +kernel
theorem dX3_firstStays_17 : decode cX3_firstStays 17 = .ok (.iconst 0, 1) := by decide +kernel
theorem dX3_firstStays_18 : decode cX3_firstStays 18 = .ok (.invokevirtual 115, 3) := by decide +kernel
theorem dX3_firstStays_21 : decode cX3_firstStays 21 = .ok (.iconst 1, 1) := by decide +kernel
theorem dX3_firstStays_22 : decode cX3_firstStays 22 = .ok (.isub, 1) := by decide +kernel
theorem dX3_firstStays_23 : decode cX3_firstStays 23 = .ok (.istore_n 1, 1) := by decide +kernel
theorem dX3_firstStays_24 : decode cX3_firstStays 24 = .ok (.aload_n 0, 1) := by decide +kernel
theorem dX3_firstStays_25 : decode cX3_firstStays 25 = .ok (.iload_n 1, 1) := by decide +kernel
theorem dX3_firstStays_26 : decode cX3_firstStays 26 = .ok (.invokevirtual 122, 3) := by decide +kernel
theorem dX3_firstStays_29 : decode cX3_firstStays 29 = .ok (.ifCond .ne 5, 3) := by decide +kernel
theorem dX3_firstStays_32 : decode cX3_firstStays 32 = .ok (.iconst 2, 1) := by decide +kernel
theorem dX3_firstStays_33 : decode cX3_firstStays 33 = .ok (.ireturn, 1) := by decide +kernel
theorem dX3_firstStays_34 : decode cX3_firstStays 34 = .ok (.aload_n 0, 1) := by decide +kernel
theorem dX3_firstStays_35 : decode cX3_firstStays 35 = .ok (.iload_n 1, 1) := by decide +kernel
theorem dX3_firstStays_36 : decode cX3_firstStays 36 = .ok (.invokevirtual 102, 3) := by decide +kernel
theorem dX3_firstStays_39 : decode cX3_firstStays 39 = .ok (.ifCond .le 7, 3) := by decide +kernel
theorem dX3_firstStays_42 : decode cX3_firstStays 42 = .ok (.iconst 3, 1) := by decide +kernel
theorem dX3_firstStays_43 : decode cX3_firstStays 43 = .ok (.goto 4, 3) := by decide +kernel
theorem dX3_firstStays_46 : decode cX3_firstStays 46 = .ok (.iconst 0, 1) := by decide +kernel
theorem dX3_firstStays_47 : decode cX3_firstStays 47 = .ok (.ireturn, 1) := by decide +kernel
theorem dX3_faultOf_0 : decode cX3_faultOf 0 = .ok (.iload_n 1, 1) := by decide +kernel
theorem dX3_faultOf_1 : decode cX3_faultOf 1 = .ok (.tableswitch 195 0 6 #[43, 52, 70, 98, 112, 143, 179], 43) := by decide +kernel
theorem dX3_faultOf_44 : decode cX3_faultOf 44 = .ok (.aload_n 0, 1) := by decide +kernel
theorem dX3_faultOf_45 : decode cX3_faultOf 45 = .ok (.iload_n 2, 1) := by decide +kernel
theorem dX3_faultOf_46 : decode cX3_faultOf 46 = .ok (.iload_n 3, 1) := by decide +kernel
theorem dX3_faultOf_47 : decode cX3_faultOf 47 = .ok (.iload 4, 2) := by decide +kernel
theorem dX3_faultOf_49 : decode cX3_faultOf 49 = .ok (.invokevirtual 152, 3) := by decide +kernel
theorem dX3_faultOf_52 : decode cX3_faultOf 52 = .ok (.ireturn, 1) := by decide +kernel
theorem dX3_faultOf_53 : decode cX3_faultOf 53 = .ok (.aload_n 0, 1) := by decide +kernel
theorem dX3_faultOf_54 : decode cX3_faultOf 54 = .ok (.iload_n 2, 1) := by decide +kernel
theorem dX3_faultOf_55 : decode cX3_faultOf 55 = .ok (.iload_n 3, 1) := by decide +kernel
theorem dX3_faultOf_56 : decode cX3_faultOf 56 = .ok (.iload 4, 2) := by decide +kernel
theorem dX3_faultOf_58 : decode cX3_faultOf 58 = .ok (.iconst 1, 1) := by decide +kernel
theorem dX3_faultOf_59 : decode cX3_faultOf 59 = .ok (.if_icmp .ne 7, 3) := by decide +kernel
theorem dX3_faultOf_62 : decode cX3_faultOf 62 = .ok (.iconst 1, 1) := by decide +kernel
theorem dX3_faultOf_63 : decode cX3_faultOf 63 = .ok (.goto 4, 3) := by decide +kernel
theorem dX3_faultOf_66 : decode cX3_faultOf 66 = .ok (.iconst 0, 1) := by decide +kernel
theorem dX3_faultOf_67 : decode cX3_faultOf 67 = .ok (.invokevirtual 156, 3) := by decide +kernel
theorem dX3_faultOf_70 : decode cX3_faultOf 70 = .ok (.ireturn, 1) := by decide +kernel
theorem dX3_faultOf_71 : decode cX3_faultOf 71 = .ok (.aload_n 0, 1) := by decide +kernel
theorem dX3_faultOf_72 : decode cX3_faultOf 72 = .ok (.iload_n 2, 1) := by decide +kernel
theorem dX3_faultOf_73 : decode cX3_faultOf 73 = .ok (.invokevirtual 69, 3) := by decide +kernel
theorem dX3_faultOf_76 : decode cX3_faultOf 76 = .ok (.ifnonnull 7, 3) := by decide +kernel
theorem dX3_faultOf_79 : decode cX3_faultOf 79 = .ok (.iconst 1, 1) := by decide +kernel
theorem dX3_faultOf_80 : decode cX3_faultOf 80 = .ok (.goto 18, 3) := by decide +kernel
theorem dX3_faultOf_83 : decode cX3_faultOf 83 = .ok (.iload_n 3, 1) := by decide +kernel
theorem dX3_faultOf_84 : decode cX3_faultOf 84 = .ok (.iconst 1, 1) := by decide +kernel
theorem dX3_faultOf_85 : decode cX3_faultOf 85 = .ok (.bipush 50, 2) := by decide +kernel
theorem dX3_faultOf_87 : decode cX3_faultOf 87 = .ok (.invokestatic 160, 3) := by decide +kernel
theorem dX3_faultOf_90 : decode cX3_faultOf 90 = .ok (.ifCond .eq 7, 3) := by decide +kernel
theorem dX3_faultOf_93 : decode cX3_faultOf 93 = .ok (.iconst 0, 1) := by decide +kernel
theorem dX3_faultOf_94 : decode cX3_faultOf 94 = .ok (.goto 4, 3) := by decide +kernel
theorem dX3_faultOf_97 : decode cX3_faultOf 97 = .ok (.iconst 2, 1) := by decide +kernel
theorem dX3_faultOf_98 : decode cX3_faultOf 98 = .ok (.ireturn, 1) := by decide +kernel
theorem dX3_faultOf_99 : decode cX3_faultOf 99 = .ok (.aload_n 0, 1) := by decide +kernel
theorem dX3_faultOf_100 : decode cX3_faultOf 100 = .ok (.iload_n 2, 1) := by decide +kernel
theorem dX3_faultOf_101 : decode cX3_faultOf 101 = .ok (.invokevirtual 69, 3) := by decide +kernel
theorem dX3_faultOf_104 : decode cX3_faultOf 104 = .ok (.ifnonnull 7, 3) := by decide +kernel
theorem dX3_faultOf_107 : decode cX3_faultOf 107 = .ok (.iconst 1, 1) := by decide +kernel
theorem dX3_faultOf_108 : decode cX3_faultOf 108 = .ok (.goto 4, 3) := by decide +kernel
theorem dX3_faultOf_111 : decode cX3_faultOf 111 = .ok (.iconst 0, 1) := by decide +kernel
theorem dX3_faultOf_112 : decode cX3_faultOf 112 = .ok (.ireturn, 1) := by decide +kernel
theorem dX3_faultOf_113 : decode cX3_faultOf 113 = .ok (.aload_n 0, 1) := by decide +kernel
theorem dX3_faultOf_114 : decode cX3_faultOf 114 = .ok (.iload_n 2, 1) := by decide +kernel
theorem dX3_faultOf_115 : decode cX3_faultOf 115 = .ok (.invokevirtual 69, 3) := by decide +kernel
theorem dX3_faultOf_118 : decode cX3_faultOf 118 = .ok (.ifnonnull 7, 3) := by decide +kernel
theorem dX3_faultOf_121 : decode cX3_faultOf 121 = .ok (.iconst 1, 1) := by decide +kernel
theorem dX3_faultOf_122 : decode cX3_faultOf 122 = .ok (.goto 21, 3) := by decide +kernel
theorem dX3_faultOf_125 : decode cX3_faultOf 125 = .ok (.iload_n 3, 1) := by decide +kernel
theorem dX3_faultOf_126 : decode cX3_faultOf 126 = .ok (.iconst 1, 1) := by decide +kernel
theorem dX3_faultOf_127 : decode cX3_faultOf 127 = .ok (.if_icmp .ne 15, 3) := by decide +kernel
theorem dX3_faultOf_130 : decode cX3_faultOf 130 = .ok (.aload_n 0, 1) := by decide +kernel
theorem dX3_faultOf_131 : decode cX3_faultOf 131 = .ok (.iload_n 2, 1) := by decide +kernel
theorem dX3_faultOf_132 : decode cX3_faultOf 132 = .ok (.invokevirtual 85, 3) := by decide +kernel
theorem dX3_faultOf_135 : decode cX3_faultOf 135 = .ok (.ifCond .eq 7, 3) := by decide +kernel
theorem dX3_faultOf_138 : decode cX3_faultOf 138 = .ok (.iconst 3, 1) := by decide +kernel
theorem dX3_faultOf_139 : decode cX3_faultOf 139 = .ok (.goto 4, 3) := by decide +kernel
theorem dX3_faultOf_142 : decode cX3_faultOf 142 = .ok (.iconst 0, 1) := by decide +kernel
theorem dX3_faultOf_143 : decode cX3_faultOf 143 = .ok (.ireturn, 1) := by decide +kernel
theorem dX3_faultOf_144 : decode cX3_faultOf 144 = .ok (.iload_n 2, 1) := by decide +kernel
theorem dX3_faultOf_145 : decode cX3_faultOf 145 = .ok (.iconst 0, 1) := by decide +kernel
theorem dX3_faultOf_146 : decode cX3_faultOf 146 = .ok (.iconst 5, 1) := by decide +kernel
theorem dX3_faultOf_147 : decode cX3_faultOf 147 = .ok (.invokestatic 160, 3) := by decide +kernel
theorem dX3_faultOf_150 : decode cX3_faultOf 150 = .ok (.ifCond .eq 28, 3) := by decide +kernel
theorem dX3_faultOf_153 : decode cX3_faultOf 153 = .ok (.iload_n 3, 1) := by decide +kernel
theorem dX3_faultOf_154 : decode cX3_faultOf 154 = .ok (.getstatic 164, 3) := by decide +kernel
theorem dX3_faultOf_157 : decode cX3_faultOf 157 = .ok (.iload_n 2, 1) := by decide +kernel
theorem dX3_faultOf_158 : decode cX3_faultOf 158 = .ok (.invokestatic 145, 3) := by decide +kernel
theorem dX3_faultOf_161 : decode cX3_faultOf 161 = .ok (.getstatic 167, 3) := by decide +kernel
theorem dX3_faultOf_164 : decode cX3_faultOf 164 = .ok (.iload_n 2, 1) := by decide +kernel
theorem dX3_faultOf_165 : decode cX3_faultOf 165 = .ok (.invokestatic 145, 3) := by decide +kernel
theorem dX3_faultOf_168 : decode cX3_faultOf 168 = .ok (.invokestatic 160, 3) := by decide +kernel
theorem dX3_faultOf_171 : decode cX3_faultOf 171 = .ok (.ifCond .eq 7, 3) := by decide +kernel
theorem dX3_faultOf_174 : decode cX3_faultOf 174 = .ok (.iconst 0, 1) := by decide +kernel
theorem dX3_faultOf_175 : decode cX3_faultOf 175 = .ok (.goto 4, 3) := by decide +kernel
theorem dX3_faultOf_178 : decode cX3_faultOf 178 = .ok (.iconst 2, 1) := by decide +kernel
theorem dX3_faultOf_179 : decode cX3_faultOf 179 = .ok (.ireturn, 1) := by decide +kernel
theorem dX3_faultOf_180 : decode cX3_faultOf 180 = .ok (.iload_n 2, 1) := by decide +kernel
theorem dX3_faultOf_181 : decode cX3_faultOf 181 = .ok (.iconst 1, 1) := by decide +kernel
theorem dX3_faultOf_182 : decode cX3_faultOf 182 = .ok (.bipush 99, 2) := by decide +kernel
theorem dX3_faultOf_184 : decode cX3_faultOf 184 = .ok (.invokestatic 160, 3) := by decide +kernel
theorem dX3_faultOf_187 : decode cX3_faultOf 187 = .ok (.ifCond .eq 7, 3) := by decide +kernel
theorem dX3_faultOf_190 : decode cX3_faultOf 190 = .ok (.iconst 0, 1) := by decide +kernel
theorem dX3_faultOf_191 : decode cX3_faultOf 191 = .ok (.goto 4, 3) := by decide +kernel
theorem dX3_faultOf_194 : decode cX3_faultOf 194 = .ok (.iconst 2, 1) := by decide +kernel
theorem dX3_faultOf_195 : decode cX3_faultOf 195 = .ok (.ireturn, 1) := by decide +kernel
theorem dX3_faultOf_196 : decode cX3_faultOf 196 = .ok (.iconst 2, 1) := by decide +kernel
theorem dX3_faultOf_197 : decode cX3_faultOf 197 = .ok (.ireturn, 1) := by decide +kernel
theorem dX3_faultOfWriting_0 : decode cX3_faultOfWriting 0 = .ok (.iload_n 1, 1) := by decide +kernel
theorem dX3_faultOfWriting_1 : decode cX3_faultOfWriting 1 = .ok (.iconst 0, 1) := by decide +kernel
theorem dX3_faultOfWriting_2 : decode cX3_faultOfWriting 2 = .ok (.bipush 7, 2) := by decide +kernel
theorem dX3_faultOfWriting_4 : decode cX3_faultOfWriting 4 = .ok (.invokestatic 160, 3) := by decide +kernel
theorem dX3_faultOfWriting_7 : decode cX3_faultOfWriting 7 = .ok (.ifCond .eq 23, 3) := by decide +kernel
theorem dX3_faultOfWriting_10 : decode cX3_faultOfWriting 10 = .ok (.iload_n 2, 1) := by decide +kernel
theorem dX3_faultOfWriting_11 : decode cX3_faultOfWriting 11 = .ok (.iconst 0, 1) := by decide +kernel
theorem dX3_faultOfWriting_12 : decode cX3_faultOfWriting 12 = .ok (.bipush 99, 2) := by decide +kernel
theorem dX3_faultOfWriting_14 : decode cX3_faultOfWriting 14 = .ok (.invokestatic 160, 3) := by decide +kernel
theorem dX3_faultOfWriting_17 : decode cX3_faultOfWriting 17 = .ok (.ifCond .eq 13, 3) := by decide +kernel
theorem dX3_faultOfWriting_20 : decode cX3_faultOfWriting 20 = .ok (.iload_n 3, 1) := by decide +kernel
theorem dX3_faultOfWriting_21 : decode cX3_faultOfWriting 21 = .ok (.iconst 1, 1) := by decide +kernel
theorem dX3_faultOfWriting_22 : decode cX3_faultOfWriting 22 = .ok (.bipush 40, 2) := by decide +kernel
theorem dX3_faultOfWriting_24 : decode cX3_faultOfWriting 24 = .ok (.invokestatic 160, 3) := by decide +kernel
theorem dX3_faultOfWriting_27 : decode cX3_faultOfWriting 27 = .ok (.ifCond .ne 5, 3) := by decide +kernel
theorem dX3_faultOfWriting_30 : decode cX3_faultOfWriting 30 = .ok (.iconst 2, 1) := by decide +kernel
theorem dX3_faultOfWriting_31 : decode cX3_faultOfWriting 31 = .ok (.ireturn, 1) := by decide +kernel
theorem dX3_faultOfWriting_32 : decode cX3_faultOfWriting 32 = .ok (.aload_n 0, 1) := by decide +kernel
theorem dX3_faultOfWriting_33 : decode cX3_faultOfWriting 33 = .ok (.getfield 12, 3) := by decide +kernel
theorem dX3_faultOfWriting_36 : decode cX3_faultOfWriting 36 = .ok (.getfield 89, 3) := by decide +kernel
theorem dX3_faultOfWriting_39 : decode cX3_faultOfWriting 39 = .ok (.sipush 200, 3) := by decide +kernel
theorem dX3_faultOfWriting_42 : decode cX3_faultOfWriting 42 = .ok (.if_icmp .ge 7, 3) := by decide +kernel
theorem dX3_faultOfWriting_45 : decode cX3_faultOfWriting 45 = .ok (.iconst 0, 1) := by decide +kernel
theorem dX3_faultOfWriting_46 : decode cX3_faultOfWriting 46 = .ok (.goto 4, 3) := by decide +kernel
theorem dX3_faultOfWriting_49 : decode cX3_faultOfWriting 49 = .ok (.iconst 3, 1) := by decide +kernel
theorem dX3_faultOfWriting_50 : decode cX3_faultOfWriting 50 = .ok (.ireturn, 1) := by decide +kernel
theorem dX3_faultOfJoining_0 : decode cX3_faultOfJoining 0 = .ok (.aload_n 0, 1) := by decide +kernel
theorem dX3_faultOfJoining_1 : decode cX3_faultOfJoining 1 = .ok (.iload_n 1, 1) := by decide +kernel
theorem dX3_faultOfJoining_2 : decode cX3_faultOfJoining 2 = .ok (.invokevirtual 61, 3) := by decide +kernel
theorem dX3_faultOfJoining_5 : decode cX3_faultOfJoining 5 = .ok (.astore 4, 2) := by decide +kernel
theorem dX3_faultOfJoining_7 : decode cX3_faultOfJoining 7 = .ok (.aload 4, 2) := by decide +kernel
theorem dX3_faultOfJoining_9 : decode cX3_faultOfJoining 9 = .ok (.ifnull 12, 3) := by decide +kernel
theorem dX3_faultOfJoining_12 : decode cX3_faultOfJoining 12 = .ok (.iload_n 2, 1) := by decide +kernel
theorem dX3_faultOfJoining_13 : decode cX3_faultOfJoining 13 = .ok (.iconst 0, 1) := by decide +kernel
theorem dX3_faultOfJoining_14 : decode cX3_faultOfJoining 14 = .ok (.iconst 2, 1) := by decide +kernel
theorem dX3_faultOfJoining_15 : decode cX3_faultOfJoining 15 = .ok (.invokestatic 160, 3) := by decide +kernel
theorem dX3_faultOfJoining_18 : decode cX3_faultOfJoining 18 = .ok (.ifCond .ne 5, 3) := by decide +kernel
theorem dX3_faultOfJoining_21 : decode cX3_faultOfJoining 21 = .ok (.iconst 2, 1) := by decide +kernel
theorem dX3_faultOfJoining_22 : decode cX3_faultOfJoining 22 = .ok (.ireturn, 1) := by decide +kernel
theorem dX3_faultOfJoining_23 : decode cX3_faultOfJoining 23 = .ok (.iload_n 2, 1) := by decide +kernel
theorem dX3_faultOfJoining_24 : decode cX3_faultOfJoining 24 = .ok (.iconst 2, 1) := by decide +kernel
theorem dX3_faultOfJoining_25 : decode cX3_faultOfJoining 25 = .ok (.if_icmp .ne 7, 3) := by decide +kernel
theorem dX3_faultOfJoining_28 : decode cX3_faultOfJoining 28 = .ok (.iconst 1, 1) := by decide +kernel
theorem dX3_faultOfJoining_29 : decode cX3_faultOfJoining 29 = .ok (.goto 4, 3) := by decide +kernel
theorem dX3_faultOfJoining_32 : decode cX3_faultOfJoining 32 = .ok (.iconst 0, 1) := by decide +kernel
theorem dX3_faultOfJoining_33 : decode cX3_faultOfJoining 33 = .ok (.istore 5, 2) := by decide +kernel
theorem dX3_faultOfJoining_35 : decode cX3_faultOfJoining 35 = .ok (.aload 4, 2) := by decide +kernel
theorem dX3_faultOfJoining_37 : decode cX3_faultOfJoining 37 = .ok (.getfield 65, 3) := by decide +kernel
theorem dX3_faultOfJoining_40 : decode cX3_faultOfJoining 40 = .ok (.ifCond .ne 40, 3) := by decide +kernel
theorem dX3_faultOfJoining_43 : decode cX3_faultOfJoining 43 = .ok (.iload 5, 2) := by decide +kernel
theorem dX3_faultOfJoining_45 : decode cX3_faultOfJoining 45 = .ok (.ifCond .eq 11, 3) := by decide +kernel
theorem dX3_faultOfJoining_48 : decode cX3_faultOfJoining 48 = .ok (.aload 4, 2) := by decide +kernel
theorem dX3_faultOfJoining_50 : decode cX3_faultOfJoining 50 = .ok (.getfield 170, 3) := by decide +kernel
theorem dX3_faultOfJoining_53 : decode cX3_faultOfJoining 53 = .ok (.ifCond .eq 27, 3) := by decide +kernel
theorem dX3_faultOfJoining_56 : decode cX3_faultOfJoining 56 = .ok (.iload 5, 2) := by decide +kernel
theorem dX3_faultOfJoining_58 : decode cX3_faultOfJoining 58 = .ok (.ifCond .eq 24, 3) := by decide +kernel
theorem dX3_faultOfJoining_61 : decode cX3_faultOfJoining 61 = .ok (.iload_n 3, 1) := by decide +kernel
theorem dX3_faultOfJoining_62 : decode cX3_faultOfJoining 62 = .ok (.ifCond .eq 20, 3) := by decide +kernel
theorem dX3_faultOfJoining_65 : decode cX3_faultOfJoining 65 = .ok (.aload 4, 2) := by decide +kernel
theorem dX3_faultOfJoining_67 : decode cX3_faultOfJoining 67 = .ok (.getfield 75, 3) := by decide +kernel
theorem dX3_faultOfJoining_70 : decode cX3_faultOfJoining 70 = .ok (.aload_n 0, 1) := by decide +kernel
theorem dX3_faultOfJoining_71 : decode cX3_faultOfJoining 71 = .ok (.getfield 12, 3) := by decide +kernel
theorem dX3_faultOfJoining_74 : decode cX3_faultOfJoining 74 = .ok (.getfield 78, 3) := by decide +kernel
theorem dX3_faultOfJoining_77 : decode cX3_faultOfJoining 77 = .ok (.if_icmp .ge 5, 3) := by decide +kernel
theorem dX3_faultOfJoining_80 : decode cX3_faultOfJoining 80 = .ok (.iconst 3, 1) := by decide +kernel
theorem dX3_faultOfJoining_81 : decode cX3_faultOfJoining 81 = .ok (.ireturn, 1) := by decide +kernel
theorem dX3_faultOfJoining_82 : decode cX3_faultOfJoining 82 = .ok (.iconst 0, 1) := by decide +kernel
theorem dX3_faultOfJoining_83 : decode cX3_faultOfJoining 83 = .ok (.ireturn, 1) := by decide +kernel
theorem dX3_attempt_0 : decode cX3_attempt 0 = .ok (.aload_n 0, 1) := by decide +kernel
theorem dX3_attempt_1 : decode cX3_attempt 1 = .ok (.iload_n 1, 1) := by decide +kernel
theorem dX3_attempt_2 : decode cX3_attempt 2 = .ok (.iload_n 2, 1) := by decide +kernel
theorem dX3_attempt_3 : decode cX3_attempt 3 = .ok (.iload_n 3, 1) := by decide +kernel
theorem dX3_attempt_4 : decode cX3_attempt 4 = .ok (.iload 4, 2) := by decide +kernel
theorem dX3_attempt_6 : decode cX3_attempt 6 = .ok (.invokevirtual 173, 3) := by decide +kernel
theorem dX3_attempt_9 : decode cX3_attempt 9 = .ok (.ifCond .eq 5, 3) := by decide +kernel
theorem dX3_attempt_12 : decode cX3_attempt 12 = .ok (.iconst 0, 1) := by decide +kernel
theorem dX3_attempt_13 : decode cX3_attempt 13 = .ok (.ireturn, 1) := by decide +kernel
theorem dX3_attempt_14 : decode cX3_attempt 14 = .ok (.aload_n 0, 1) := by decide +kernel
theorem dX3_attempt_15 : decode cX3_attempt 15 = .ok (.iload_n 1, 1) := by decide +kernel
theorem dX3_attempt_16 : decode cX3_attempt 16 = .ok (.iload_n 2, 1) := by decide +kernel
theorem dX3_attempt_17 : decode cX3_attempt 17 = .ok (.iload_n 3, 1) := by decide +kernel
theorem dX3_attempt_18 : decode cX3_attempt 18 = .ok (.iload 4, 2) := by decide +kernel
theorem dX3_attempt_20 : decode cX3_attempt 20 = .ok (.invokevirtual 177, 3) := by decide +kernel
theorem dX3_attempt_23 : decode cX3_attempt 23 = .ok (.pop, 1) := by decide +kernel
theorem dX3_attempt_24 : decode cX3_attempt 24 = .ok (.iconst 1, 1) := by decide +kernel
theorem dX3_attempt_25 : decode cX3_attempt 25 = .ok (.ireturn, 1) := by decide +kernel
theorem dX3_getsFurther_0 : decode cX3_getsFurther 0 = .ok (.aload_n 0, 1) := by decide +kernel
theorem dX3_getsFurther_1 : decode cX3_getsFurther 1 = .ok (.iconst 2, 1) := by decide +kernel
theorem dX3_getsFurther_2 : decode cX3_getsFurther 2 = .ok (.iload_n 1, 1) := by decide +kernel
theorem dX3_getsFurther_3 : decode cX3_getsFurther 3 = .ok (.iload_n 2, 1) := by decide +kernel
theorem dX3_getsFurther_4 : decode cX3_getsFurther 4 = .ok (.iconst 0, 1) := by decide +kernel
theorem dX3_getsFurther_5 : decode cX3_getsFurther 5 = .ok (.invokevirtual 173, 3) := by decide +kernel
theorem dX3_getsFurther_8 : decode cX3_getsFurther 8 = .ok (.ifCond .ne 18, 3) := by decide +kernel
theorem dX3_getsFurther_11 : decode cX3_getsFurther 11 = .ok (.aload_n 0, 1) := by decide +kernel
theorem dX3_getsFurther_12 : decode cX3_getsFurther 12 = .ok (.iconst 2, 1) := by decide +kernel
theorem dX3_getsFurther_13 : decode cX3_getsFurther 13 = .ok (.iload_n 1, 1) := by decide +kernel
theorem dX3_getsFurther_14 : decode cX3_getsFurther 14 = .ok (.iload_n 2, 1) := by decide +kernel
theorem dX3_getsFurther_15 : decode cX3_getsFurther 15 = .ok (.iconst 0, 1) := by decide +kernel
theorem dX3_getsFurther_16 : decode cX3_getsFurther 16 = .ok (.invokevirtual 177, 3) := by decide +kernel
theorem dX3_getsFurther_19 : decode cX3_getsFurther 19 = .ok (.ifCond .eq 7, 3) := by decide +kernel
theorem dX3_getsFurther_22 : decode cX3_getsFurther 22 = .ok (.iconst 1, 1) := by decide +kernel
theorem dX3_getsFurther_23 : decode cX3_getsFurther 23 = .ok (.goto 4, 3) := by decide +kernel
theorem dX3_getsFurther_26 : decode cX3_getsFurther 26 = .ok (.iconst 0, 1) := by decide +kernel
theorem dX3_getsFurther_27 : decode cX3_getsFurther 27 = .ok (.ireturn, 1) := by decide +kernel
theorem dX3_perform_0 : decode cX3_perform 0 = .ok (.iload_n 1, 1) := by decide +kernel
theorem dX3_perform_1 : decode cX3_perform 1 = .ok (.tableswitch 150 0 5 #[39, 80, 102, 113, 123, 143], 39) := by decide +kernel
theorem dX3_perform_40 : decode cX3_perform 40 = .ok (.aload_n 0, 1) := by decide +kernel
theorem dX3_perform_41 : decode cX3_perform 41 = .ok (.getfield 12, 3) := by decide +kernel
theorem dX3_perform_44 : decode cX3_perform 44 = .ok (.iload 4, 2) := by decide +kernel
theorem dX3_perform_46 : decode cX3_perform 46 = .ok (.aload_n 0, 1) := by decide +kernel
theorem dX3_perform_47 : decode cX3_perform 47 = .ok (.getfield 24, 3) := by decide +kernel
theorem dX3_perform_50 : decode cX3_perform 50 = .ok (.iconst 0, 1) := by decide +kernel
theorem dX3_perform_51 : decode cX3_perform 51 = .ok (.invokestatic 145, 3) := by decide +kernel
theorem dX3_perform_54 : decode cX3_perform 54 = .ok (.aload_n 0, 1) := by decide +kernel
theorem dX3_perform_55 : decode cX3_perform 55 = .ok (.getfield 24, 3) := by decide +kernel
theorem dX3_perform_58 : decode cX3_perform 58 = .ok (.iconst 1, 1) := by decide +kernel
theorem dX3_perform_59 : decode cX3_perform 59 = .ok (.invokestatic 145, 3) := by decide +kernel
theorem dX3_perform_62 : decode cX3_perform 62 = .ok (.invokevirtual 180, 3) := by decide +kernel
theorem dX3_perform_65 : decode cX3_perform 65 = .ok (.aload_n 0, 1) := by decide +kernel
theorem dX3_perform_66 : decode cX3_perform 66 = .ok (.getfield 12, 3) := by decide +kernel
theorem dX3_perform_69 : decode cX3_perform 69 = .ok (.iload_n 2, 1) := by decide +kernel
theorem dX3_perform_70 : decode cX3_perform 70 = .ok (.iload_n 3, 1) := by decide +kernel
theorem dX3_perform_71 : decode cX3_perform 71 = .ok (.iload 4, 2) := by decide +kernel
theorem dX3_perform_73 : decode cX3_perform 73 = .ok (.aload_n 0, 1) := by decide +kernel
theorem dX3_perform_74 : decode cX3_perform 74 = .ok (.getfield 41, 3) := by decide +kernel
theorem dX3_perform_77 : decode cX3_perform 77 = .ok (.invokevirtual 184, 3) := by decide +kernel
theorem dX3_perform_80 : decode cX3_perform 80 = .ok (.ireturn, 1) := by decide +kernel
theorem dX3_perform_81 : decode cX3_perform 81 = .ok (.aload_n 0, 1) := by decide +kernel
theorem dX3_perform_82 : decode cX3_perform 82 = .ok (.aload_n 0, 1) := by decide +kernel
theorem dX3_perform_83 : decode cX3_perform 83 = .ok (.iload_n 2, 1) := by decide +kernel
theorem dX3_perform_84 : decode cX3_perform 84 = .ok (.invokevirtual 61, 3) := by decide +kernel
theorem dX3_perform_87 : decode cX3_perform 87 = .ok (.iload_n 3, 1) := by decide +kernel
theorem dX3_perform_88 : decode cX3_perform 88 = .ok (.iload 4, 2) := by decide +kernel
theorem dX3_perform_90 : decode cX3_perform 90 = .ok (.iconst 1, 1) := by decide +kernel
theorem dX3_perform_91 : decode cX3_perform 91 = .ok (.if_icmp .ne 7, 3) := by decide +kernel
theorem dX3_perform_94 : decode cX3_perform 94 = .ok (.iconst 1, 1) := by decide +kernel
theorem dX3_perform_95 : decode cX3_perform 95 = .ok (.goto 4, 3) := by decide +kernel
theorem dX3_perform_98 : decode cX3_perform 98 = .ok (.iconst 0, 1) := by decide +kernel
theorem dX3_perform_99 : decode cX3_perform 99 = .ok (.invokevirtual 187, 3) := by decide +kernel
theorem dX3_perform_102 : decode cX3_perform 102 = .ok (.ireturn, 1) := by decide +kernel
theorem dX3_perform_103 : decode cX3_perform 103 = .ok (.aload_n 0, 1) := by decide +kernel
theorem dX3_perform_104 : decode cX3_perform 104 = .ok (.aload_n 0, 1) := by decide +kernel
theorem dX3_perform_105 : decode cX3_perform 105 = .ok (.iload_n 2, 1) := by decide +kernel
theorem dX3_perform_106 : decode cX3_perform 106 = .ok (.invokevirtual 69, 3) := by decide +kernel
theorem dX3_perform_109 : decode cX3_perform 109 = .ok (.iload_n 3, 1) := by decide +kernel
theorem dX3_perform_110 : decode cX3_perform 110 = .ok (.invokevirtual 191, 3) := by decide +kernel
theorem dX3_perform_113 : decode cX3_perform 113 = .ok (.ireturn, 1) := by decide +kernel
theorem dX3_perform_114 : decode cX3_perform 114 = .ok (.aload_n 0, 1) := by decide +kernel
theorem dX3_perform_115 : decode cX3_perform 115 = .ok (.aload_n 0, 1) := by decide +kernel
theorem dX3_perform_116 : decode cX3_perform 116 = .ok (.iload_n 2, 1) := by decide +kernel
theorem dX3_perform_117 : decode cX3_perform 117 = .ok (.invokevirtual 69, 3) := by decide +kernel
theorem dX3_perform_120 : decode cX3_perform 120 = .ok (.invokevirtual 195, 3) := by decide +kernel
theorem dX3_perform_123 : decode cX3_perform 123 = .ok (.ireturn, 1) := by decide +kernel
theorem dX3_perform_124 : decode cX3_perform 124 = .ok (.aload_n 0, 1) := by decide +kernel
theorem dX3_perform_125 : decode cX3_perform 125 = .ok (.aload_n 0, 1) := by decide +kernel
theorem dX3_perform_126 : decode cX3_perform 126 = .ok (.iload_n 2, 1) := by decide +kernel
theorem dX3_perform_127 : decode cX3_perform 127 = .ok (.invokevirtual 69, 3) := by decide +kernel
theorem dX3_perform_130 : decode cX3_perform 130 = .ok (.iload_n 3, 1) := by decide +kernel
theorem dX3_perform_131 : decode cX3_perform 131 = .ok (.iconst 1, 1) := by decide +kernel
theorem dX3_perform_132 : decode cX3_perform 132 = .ok (.if_icmp .ne 7, 3) := by decide +kernel
theorem dX3_perform_135 : decode cX3_perform 135 = .ok (.iconst 1, 1) := by decide +kernel
theorem dX3_perform_136 : decode cX3_perform 136 = .ok (.goto 4, 3) := by decide +kernel
theorem dX3_perform_139 : decode cX3_perform 139 = .ok (.iconst 0, 1) := by decide +kernel
theorem dX3_perform_140 : decode cX3_perform 140 = .ok (.invokevirtual 199, 3) := by decide +kernel
theorem dX3_perform_143 : decode cX3_perform 143 = .ok (.ireturn, 1) := by decide +kernel
theorem dX3_perform_144 : decode cX3_perform 144 = .ok (.aload_n 0, 1) := by decide +kernel
theorem dX3_perform_145 : decode cX3_perform 145 = .ok (.iload_n 2, 1) := by decide +kernel
theorem dX3_perform_146 : decode cX3_perform 146 = .ok (.iload_n 3, 1) := by decide +kernel
theorem dX3_perform_147 : decode cX3_perform 147 = .ok (.invokevirtual 203, 3) := by decide +kernel
theorem dX3_perform_150 : decode cX3_perform 150 = .ok (.ireturn, 1) := by decide +kernel
theorem dX3_perform_151 : decode cX3_perform 151 = .ok (.aload_n 0, 1) := by decide +kernel
theorem dX3_perform_152 : decode cX3_perform 152 = .ok (.iload_n 2, 1) := by decide +kernel
theorem dX3_perform_153 : decode cX3_perform 153 = .ok (.invokevirtual 206, 3) := by decide +kernel
theorem dX3_perform_156 : decode cX3_perform 156 = .ok (.ireturn, 1) := by decide +kernel
theorem dX3_letIn_0 : decode cX3_letIn 0 = .ok (.aload_n 1, 1) := by decide +kernel
theorem dX3_letIn_1 : decode cX3_letIn 1 = .ok (.ifnonnull 5, 3) := by decide +kernel
theorem dX3_letIn_4 : decode cX3_letIn 4 = .ok (.iconst (-1), 1) := by decide +kernel
theorem dX3_letIn_5 : decode cX3_letIn 5 = .ok (.ireturn, 1) := by decide +kernel
theorem dX3_letIn_6 : decode cX3_letIn 6 = .ok (.iload_n 2, 1) := by decide +kernel
theorem dX3_letIn_7 : decode cX3_letIn 7 = .ok (.ifCond .ne 31, 3) := by decide +kernel
theorem dX3_letIn_10 : decode cX3_letIn 10 = .ok (.aload_n 1, 1) := by decide +kernel
theorem dX3_letIn_11 : decode cX3_letIn 11 = .ok (.aload_n 0, 1) := by decide +kernel
theorem dX3_letIn_12 : decode cX3_letIn 12 = .ok (.getfield 12, 3) := by decide +kernel
theorem dX3_letIn_15 : decode cX3_letIn 15 = .ok (.getfield 78, 3) := by decide +kernel
theorem dX3_letIn_18 : decode cX3_letIn 18 = .ok (.putfield 75, 3) := by decide +kernel
theorem dX3_letIn_21 : decode cX3_letIn 21 = .ok (.aload_n 0, 1) := by decide +kernel
theorem dX3_letIn_22 : decode cX3_letIn 22 = .ok (.getfield 12, 3) := by decide +kernel
theorem dX3_letIn_25 : decode cX3_letIn 25 = .ok (.getfield 209, 3) := by decide +kernel
theorem dX3_letIn_28 : decode cX3_letIn 28 = .ok (.aload_n 1, 1) := by decide +kernel
theorem dX3_letIn_29 : decode cX3_letIn 29 = .ok (.getfield 212, 3) := by decide +kernel
theorem dX3_letIn_32 : decode cX3_letIn 32 = .ok (.invokestatic 37, 3) := by decide +kernel
theorem dX3_letIn_35 : decode cX3_letIn 35 = .ok (.goto 60, 3) := by decide +kernel
theorem dX3_letIn_38 : decode cX3_letIn 38 = .ok (.iload_n 2, 1) := by decide +kernel
theorem dX3_letIn_39 : decode cX3_letIn 39 = .ok (.iconst 1, 1) := by decide +kernel
theorem dX3_letIn_40 : decode cX3_letIn 40 = .ok (.if_icmp .ne 55, 3) := by decide +kernel
theorem dX3_letIn_43 : decode cX3_letIn 43 = .ok (.aload_n 1, 1) := by decide +kernel
theorem dX3_letIn_44 : decode cX3_letIn 44 = .ok (.aload_n 0, 1) := by decide +kernel
theorem dX3_letIn_45 : decode cX3_letIn 45 = .ok (.getfield 12, 3) := by decide +kernel
theorem dX3_letIn_48 : decode cX3_letIn 48 = .ok (.getfield 89, 3) := by decide +kernel
theorem dX3_letIn_51 : decode cX3_letIn 51 = .ok (.putfield 75, 3) := by decide +kernel
theorem dX3_letIn_54 : decode cX3_letIn 54 = .ok (.iconst 0, 1) := by decide +kernel
theorem dX3_letIn_55 : decode cX3_letIn 55 = .ok (.istore 4, 2) := by decide +kernel
theorem dX3_letIn_57 : decode cX3_letIn 57 = .ok (.iload 4, 2) := by decide +kernel
theorem dX3_letIn_59 : decode cX3_letIn 59 = .ok (.bipush 8, 2) := by decide +kernel
theorem dX3_letIn_61 : decode cX3_letIn 61 = .ok (.if_icmp .ge 34, 3) := by decide +kernel
theorem dX3_letIn_64 : decode cX3_letIn 64 = .ok (.aload_n 1, 1) := by decide +kernel
theorem dX3_letIn_65 : decode cX3_letIn 65 = .ok (.getfield 212, 3) := by decide +kernel
theorem dX3_letIn_68 : decode cX3_letIn 68 = .ok (.iload 4, 2) := by decide +kernel
theorem dX3_letIn_70 : decode cX3_letIn 70 = .ok (.aload_n 0, 1) := by decide +kernel
theorem dX3_letIn_71 : decode cX3_letIn 71 = .ok (.getfield 12, 3) := by decide +kernel
theorem dX3_letIn_74 : decode cX3_letIn 74 = .ok (.iload 4, 2) := by decide +kernel
theorem dX3_letIn_76 : decode cX3_letIn 76 = .ok (.aload_n 0, 1) := by decide +kernel
theorem dX3_letIn_77 : decode cX3_letIn 77 = .ok (.getfield 12, 3) := by decide +kernel
theorem dX3_letIn_80 : decode cX3_letIn 80 = .ok (.getfield 89, 3) := by decide +kernel
theorem dX3_letIn_83 : decode cX3_letIn 83 = .ok (.invokevirtual 215, 3) := by decide +kernel
theorem dX3_letIn_86 : decode cX3_letIn 86 = .ok (.invokestatic 218, 3) := by decide +kernel
theorem dX3_letIn_89 : decode cX3_letIn 89 = .ok (.iinc 4 1, 3) := by decide +kernel
theorem dX3_letIn_92 : decode cX3_letIn 92 = .ok (.goto (-35), 3) := by decide +kernel
theorem dX3_letIn_95 : decode cX3_letIn 95 = .ok (.aload_n 1, 1) := by decide +kernel
theorem dX3_letIn_96 : decode cX3_letIn 96 = .ok (.aload_n 0, 1) := by decide +kernel
theorem dX3_letIn_97 : decode cX3_letIn 97 = .ok (.getfield 41, 3) := by decide +kernel
theorem dX3_letIn_100 : decode cX3_letIn 100 = .ok (.iload_n 3, 1) := by decide +kernel
theorem dX3_letIn_101 : decode cX3_letIn 101 = .ok (.invokevirtual 222, 3) := by decide +kernel
theorem dX3_letIn_104 : decode cX3_letIn 104 = .ok (.aload_n 1, 1) := by decide +kernel
theorem dX3_letIn_105 : decode cX3_letIn 105 = .ok (.getfield 75, 3) := by decide +kernel
theorem dX3_letIn_108 : decode cX3_letIn 108 = .ok (.ireturn, 1) := by decide +kernel
theorem dX3_letRead_0 : decode cX3_letRead 0 = .ok (.aload_n 1, 1) := by decide +kernel
theorem dX3_letRead_1 : decode cX3_letRead 1 = .ok (.ifnonnull 5, 3) := by decide +kernel
theorem dX3_letRead_4 : decode cX3_letRead 4 = .ok (.iconst 0, 1) := by decide +kernel
theorem dX3_letRead_5 : decode cX3_letRead 5 = .ok (.ireturn, 1) := by decide +kernel
theorem dX3_letRead_6 : decode cX3_letRead 6 = .ok (.aload_n 1, 1) := by decide +kernel
theorem dX3_letRead_7 : decode cX3_letRead 7 = .ok (.aload_n 0, 1) := by decide +kernel
theorem dX3_letRead_8 : decode cX3_letRead 8 = .ok (.getfield 41, 3) := by decide +kernel
theorem dX3_letRead_11 : decode cX3_letRead 11 = .ok (.putfield 131, 3) := by decide +kernel
theorem dX3_letRead_14 : decode cX3_letRead 14 = .ok (.aload_n 1, 1) := by decide +kernel
theorem dX3_letRead_15 : decode cX3_letRead 15 = .ok (.getfield 75, 3) := by decide +kernel
theorem dX3_letRead_18 : decode cX3_letRead 18 = .ok (.aload_n 0, 1) := by decide +kernel
theorem dX3_letRead_19 : decode cX3_letRead 19 = .ok (.getfield 12, 3) := by decide +kernel
theorem dX3_letRead_22 : decode cX3_letRead 22 = .ok (.getfield 78, 3) := by decide +kernel
theorem dX3_letRead_25 : decode cX3_letRead 25 = .ok (.if_icmp .ge 12, 3) := by decide +kernel
theorem dX3_letRead_28 : decode cX3_letRead 28 = .ok (.aload_n 0, 1) := by decide +kernel
theorem dX3_letRead_29 : decode cX3_letRead 29 = .ok (.aload_n 1, 1) := by decide +kernel
theorem dX3_letRead_30 : decode cX3_letRead 30 = .ok (.invokevirtual 226, 3) := by decide +kernel
theorem dX3_letRead_33 : decode cX3_letRead 33 = .ok (.ineg, 1) := by decide +kernel
theorem dX3_letRead_34 : decode cX3_letRead 34 = .ok (.goto 24, 3) := by decide +kernel
theorem dX3_letRead_37 : decode cX3_letRead 37 = .ok (.aload_n 0, 1) := by decide +kernel
theorem dX3_letRead_38 : decode cX3_letRead 38 = .ok (.aload_n 1, 1) := by decide +kernel
theorem dX3_letRead_39 : decode cX3_letRead 39 = .ok (.iload_n 2, 1) := by decide +kernel
theorem dX3_letRead_40 : decode cX3_letRead 40 = .ok (.aload_n 0, 1) := by decide +kernel
theorem dX3_letRead_41 : decode cX3_letRead 41 = .ok (.getfield 12, 3) := by decide +kernel
theorem dX3_letRead_44 : decode cX3_letRead 44 = .ok (.getfield 89, 3) := by decide +kernel
theorem dX3_letRead_47 : decode cX3_letRead 47 = .ok (.aload_n 1, 1) := by decide +kernel
theorem dX3_letRead_48 : decode cX3_letRead 48 = .ok (.getfield 75, 3) := by decide +kernel
theorem dX3_letRead_51 : decode cX3_letRead 51 = .ok (.isub, 1) := by decide +kernel
theorem dX3_letRead_52 : decode cX3_letRead 52 = .ok (.invokestatic 229, 3) := by decide +kernel
theorem dX3_letRead_55 : decode cX3_letRead 55 = .ok (.invokevirtual 232, 3) := by decide +kernel
theorem dX3_letRead_58 : decode cX3_letRead 58 = .ok (.ireturn, 1) := by decide +kernel
theorem dX3_tellGap_0 : decode cX3_tellGap 0 = .ok (.aload_n 0, 1) := by decide +kernel
theorem dX3_tellGap_1 : decode cX3_tellGap 1 = .ok (.getfield 12, 3) := by decide +kernel
theorem dX3_tellGap_4 : decode cX3_tellGap 4 = .ok (.getfield 78, 3) := by decide +kernel
theorem dX3_tellGap_7 : decode cX3_tellGap 7 = .ok (.aload_n 1, 1) := by decide +kernel
theorem dX3_tellGap_8 : decode cX3_tellGap 8 = .ok (.getfield 75, 3) := by decide +kernel
theorem dX3_tellGap_11 : decode cX3_tellGap 11 = .ok (.isub, 1) := by decide +kernel
theorem dX3_tellGap_12 : decode cX3_tellGap 12 = .ok (.istore_n 2, 1) := by decide +kernel
theorem dX3_tellGap_13 : decode cX3_tellGap 13 = .ok (.aload_n 1, 1) := by decide +kernel
theorem dX3_tellGap_14 : decode cX3_tellGap 14 = .ok (.dup, 1) := by decide +kernel
theorem dX3_tellGap_15 : decode cX3_tellGap 15 = .ok (.getfield 128, 3) := by decide +kernel
theorem dX3_tellGap_18 : decode cX3_tellGap 18 = .ok (.iload_n 2, 1) := by decide +kernel
theorem dX3_tellGap_19 : decode cX3_tellGap 19 = .ok (.iadd, 1) := by decide +kernel
theorem dX3_tellGap_20 : decode cX3_tellGap 20 = .ok (.putfield 128, 3) := by decide +kernel
theorem dX3_tellGap_23 : decode cX3_tellGap 23 = .ok (.aload_n 0, 1) := by decide +kernel
theorem dX3_tellGap_24 : decode cX3_tellGap 24 = .ok (.dup, 1) := by decide +kernel
theorem dX3_tellGap_25 : decode cX3_tellGap 25 = .ok (.getfield 51, 3) := by decide +kernel
theorem dX3_tellGap_28 : decode cX3_tellGap 28 = .ok (.iload_n 2, 1) := by decide +kernel
theorem dX3_tellGap_29 : decode cX3_tellGap 29 = .ok (.iadd, 1) := by decide +kernel
theorem dX3_tellGap_30 : decode cX3_tellGap 30 = .ok (.putfield 51, 3) := by decide +kernel
theorem dX3_tellGap_33 : decode cX3_tellGap 33 = .ok (.aload_n 1, 1) := by decide +kernel
theorem dX3_tellGap_34 : decode cX3_tellGap 34 = .ok (.aload_n 0, 1) := by decide +kernel
theorem dX3_tellGap_35 : decode cX3_tellGap 35 = .ok (.getfield 12, 3) := by decide +kernel
theorem dX3_tellGap_38 : decode cX3_tellGap 38 = .ok (.getfield 78, 3) := by decide +kernel
theorem dX3_tellGap_41 : decode cX3_tellGap 41 = .ok (.putfield 75, 3) := by decide +kernel
theorem dX3_tellGap_44 : decode cX3_tellGap 44 = .ok (.aload_n 0, 1) := by decide +kernel
theorem dX3_tellGap_45 : decode cX3_tellGap 45 = .ok (.getfield 12, 3) := by decide +kernel
theorem dX3_tellGap_48 : decode cX3_tellGap 48 = .ok (.getfield 209, 3) := by decide +kernel
theorem dX3_tellGap_51 : decode cX3_tellGap 51 = .ok (.aload_n 1, 1) := by decide +kernel
theorem dX3_tellGap_52 : decode cX3_tellGap 52 = .ok (.getfield 212, 3) := by decide +kernel
theorem dX3_tellGap_55 : decode cX3_tellGap 55 = .ok (.invokestatic 37, 3) := by decide +kernel
theorem dX3_tellGap_58 : decode cX3_tellGap 58 = .ok (.iload_n 2, 1) := by decide +kernel
theorem dX3_tellGap_59 : decode cX3_tellGap 59 = .ok (.ireturn, 1) := by decide +kernel
theorem dX3_readOn_0 : decode cX3_readOn 0 = .ok (.iconst 0, 1) := by decide +kernel
theorem dX3_readOn_1 : decode cX3_readOn 1 = .ok (.istore_n 3, 1) := by decide +kernel
theorem dX3_readOn_2 : decode cX3_readOn 2 = .ok (.iload_n 3, 1) := by decide +kernel
theorem dX3_readOn_3 : decode cX3_readOn 3 = .ok (.iload_n 2, 1) := by decide +kernel
theorem dX3_readOn_4 : decode cX3_readOn 4 = .ok (.if_icmp .ge 48, 3) := by decide +kernel
theorem dX3_readOn_7 : decode cX3_readOn 7 = .ok (.aload_n 1, 1) := by decide +kernel
theorem dX3_readOn_8 : decode cX3_readOn 8 = .ok (.getfield 212, 3) := by decide +kernel
theorem dX3_readOn_11 : decode cX3_readOn 11 = .ok (.aload_n 0, 1) := by decide +kernel
theorem dX3_readOn_12 : decode cX3_readOn 12 = .ok (.getfield 12, 3) := by decide +kernel
theorem dX3_readOn_15 : decode cX3_readOn 15 = .ok (.getfield 235, 3) := by decide +kernel
theorem dX3_readOn_18 : decode cX3_readOn 18 = .ok (.aload_n 1, 1) := by decide +kernel
theorem dX3_readOn_19 : decode cX3_readOn 19 = .ok (.getfield 75, 3) := by decide +kernel
theorem dX3_readOn_22 : decode cX3_readOn 22 = .ok (.iload_n 3, 1) := by decide +kernel
theorem dX3_readOn_23 : decode cX3_readOn 23 = .ok (.iadd, 1) := by decide +kernel
theorem dX3_readOn_24 : decode cX3_readOn 24 = .ok (.invokestatic 145, 3) := by decide +kernel
theorem dX3_readOn_27 : decode cX3_readOn 27 = .ok (.aload_n 0, 1) := by decide +kernel
theorem dX3_readOn_28 : decode cX3_readOn 28 = .ok (.getfield 12, 3) := by decide +kernel
theorem dX3_readOn_31 : decode cX3_readOn 31 = .ok (.getfield 238, 3) := by decide +kernel
theorem dX3_readOn_34 : decode cX3_readOn 34 = .ok (.aload_n 1, 1) := by decide +kernel
theorem dX3_readOn_35 : decode cX3_readOn 35 = .ok (.getfield 75, 3) := by decide +kernel
theorem dX3_readOn_38 : decode cX3_readOn 38 = .ok (.iload_n 3, 1) := by decide +kernel
theorem dX3_readOn_39 : decode cX3_readOn 39 = .ok (.iadd, 1) := by decide +kernel
theorem dX3_readOn_40 : decode cX3_readOn 40 = .ok (.invokestatic 145, 3) := by decide +kernel
theorem dX3_readOn_43 : decode cX3_readOn 43 = .ok (.invokestatic 218, 3) := by decide +kernel
theorem dX3_readOn_46 : decode cX3_readOn 46 = .ok (.iinc 3 1, 3) := by decide +kernel
theorem dX3_readOn_49 : decode cX3_readOn 49 = .ok (.goto (-47), 3) := by decide +kernel
theorem dX3_readOn_52 : decode cX3_readOn 52 = .ok (.aload_n 1, 1) := by decide +kernel
theorem dX3_readOn_53 : decode cX3_readOn 53 = .ok (.dup, 1) := by decide +kernel
theorem dX3_readOn_54 : decode cX3_readOn 54 = .ok (.getfield 75, 3) := by decide +kernel
theorem dX3_readOn_57 : decode cX3_readOn 57 = .ok (.iload_n 2, 1) := by decide +kernel
theorem dX3_readOn_58 : decode cX3_readOn 58 = .ok (.iadd, 1) := by decide +kernel
theorem dX3_readOn_59 : decode cX3_readOn 59 = .ok (.putfield 75, 3) := by decide +kernel
theorem dX3_readOn_62 : decode cX3_readOn 62 = .ok (.aload_n 1, 1) := by decide +kernel
theorem dX3_readOn_63 : decode cX3_readOn 63 = .ok (.dup, 1) := by decide +kernel
theorem dX3_readOn_64 : decode cX3_readOn 64 = .ok (.getfield 125, 3) := by decide +kernel
theorem dX3_readOn_67 : decode cX3_readOn 67 = .ok (.iload_n 2, 1) := by decide +kernel
theorem dX3_readOn_68 : decode cX3_readOn 68 = .ok (.iadd, 1) := by decide +kernel
theorem dX3_readOn_69 : decode cX3_readOn 69 = .ok (.putfield 125, 3) := by decide +kernel
theorem dX3_readOn_72 : decode cX3_readOn 72 = .ok (.iload_n 2, 1) := by decide +kernel
theorem dX3_readOn_73 : decode cX3_readOn 73 = .ok (.ireturn, 1) := by decide +kernel
theorem dX3_letGo_0 : decode cX3_letGo 0 = .ok (.aload_n 1, 1) := by decide +kernel
theorem dX3_letGo_1 : decode cX3_letGo 1 = .ok (.ifnull 7, 3) := by decide +kernel
theorem dX3_letGo_4 : decode cX3_letGo 4 = .ok (.aload_n 1, 1) := by decide +kernel
theorem dX3_letGo_5 : decode cX3_letGo 5 = .ok (.invokevirtual 239, 3) := by decide +kernel
theorem dX3_letGo_8 : decode cX3_letGo 8 = .ok (.aload_n 0, 1) := by decide +kernel
theorem dX3_letGo_9 : decode cX3_letGo 9 = .ok (.invokevirtual 99, 3) := by decide +kernel
theorem dX3_letGo_12 : decode cX3_letGo 12 = .ok (.ireturn, 1) := by decide +kernel
theorem dX3_changeHold_0 : decode cX3_changeHold 0 = .ok (.aload_n 1, 1) := by decide +kernel
theorem dX3_changeHold_1 : decode cX3_changeHold 1 = .ok (.ifnonnull 5, 3) := by decide +kernel
theorem dX3_changeHold_4 : decode cX3_changeHold 4 = .ok (.iconst 0, 1) := by decide +kernel
theorem dX3_changeHold_5 : decode cX3_changeHold 5 = .ok (.ireturn, 1) := by decide +kernel
theorem dX3_changeHold_6 : decode cX3_changeHold 6 = .ok (.aload_n 1, 1) := by decide +kernel
theorem dX3_changeHold_7 : decode cX3_changeHold 7 = .ok (.getfield 72, 3) := by decide +kernel
theorem dX3_changeHold_10 : decode cX3_changeHold 10 = .ok (.invokestatic 81, 3) := by decide +kernel
theorem dX3_changeHold_13 : decode cX3_changeHold 13 = .ok (.istore_n 3, 1) := by decide +kernel
theorem dX3_changeHold_14 : decode cX3_changeHold 14 = .ok (.aload_n 1, 1) := by decide +kernel
theorem dX3_changeHold_15 : decode cX3_changeHold 15 = .ok (.iload_n 2, 1) := by decide +kernel
theorem dX3_changeHold_16 : decode cX3_changeHold 16 = .ok (.putfield 72, 3) := by decide +kernel
theorem dX3_changeHold_19 : decode cX3_changeHold 19 = .ok (.aload_n 1, 1) := by decide +kernel
theorem dX3_changeHold_20 : decode cX3_changeHold 20 = .ok (.iconst 0, 1) := by decide +kernel
theorem dX3_changeHold_21 : decode cX3_changeHold 21 = .ok (.putfield 142, 3) := by decide +kernel
theorem dX3_changeHold_24 : decode cX3_changeHold 24 = .ok (.iload_n 3, 1) := by decide +kernel
theorem dX3_changeHold_25 : decode cX3_changeHold 25 = .ok (.ireturn, 1) := by decide +kernel
theorem dX3_change_0 : decode cX3_change 0 = .ok (.aload_n 0, 1) := by decide +kernel
theorem dX3_change_1 : decode cX3_change 1 = .ok (.getfield 24, 3) := by decide +kernel
theorem dX3_change_4 : decode cX3_change 4 = .ok (.iload_n 1, 1) := by decide +kernel
theorem dX3_change_5 : decode cX3_change 5 = .ok (.invokestatic 145, 3) := by decide +kernel
theorem dX3_change_8 : decode cX3_change 8 = .ok (.istore_n 3, 1) := by decide +kernel
theorem dX3_change_9 : decode cX3_change 9 = .ok (.aload_n 0, 1) := by decide +kernel
theorem dX3_change_10 : decode cX3_change 10 = .ok (.getfield 24, 3) := by decide +kernel
theorem dX3_change_13 : decode cX3_change 13 = .ok (.iload_n 1, 1) := by decide +kernel
theorem dX3_change_14 : decode cX3_change 14 = .ok (.iload_n 2, 1) := by decide +kernel
theorem dX3_change_15 : decode cX3_change 15 = .ok (.invokestatic 218, 3) := by decide +kernel
theorem dX3_change_18 : decode cX3_change 18 = .ok (.iload_n 3, 1) := by decide +kernel
theorem dX3_change_19 : decode cX3_change 19 = .ok (.ireturn, 1) := by decide +kernel
theorem dX3_passTime_0 : decode cX3_passTime 0 = .ok (.aload_n 0, 1) := by decide +kernel
theorem dX3_passTime_1 : decode cX3_passTime 1 = .ok (.getfield 12, 3) := by decide +kernel
theorem dX3_passTime_4 : decode cX3_passTime 4 = .ok (.getfield 109, 3) := by decide +kernel
theorem dX3_passTime_7 : decode cX3_passTime 7 = .ok (.istore_n 2, 1) := by decide +kernel
theorem dX3_passTime_8 : decode cX3_passTime 8 = .ok (.iconst 0, 1) := by decide +kernel
theorem dX3_passTime_9 : decode cX3_passTime 9 = .ok (.istore_n 3, 1) := by decide +kernel
theorem dX3_passTime_10 : decode cX3_passTime 10 = .ok (.iload_n 3, 1) := by decide +kernel
theorem dX3_passTime_11 : decode cX3_passTime 11 = .ok (.iload_n 1, 1) := by decide +kernel
theorem dX3_passTime_12 : decode cX3_passTime 12 = .ok (.if_icmp .ge 77, 3) := by decide +kernel
theorem dX3_passTime_15 : decode cX3_passTime 15 = .ok (.aload_n 0, 1) := by decide +kernel
theorem dX3_passTime_16 : decode cX3_passTime 16 = .ok (.dup, 1) := by decide +kernel
theorem dX3_passTime_17 : decode cX3_passTime 17 = .ok (.getfield 41, 3) := by decide +kernel
theorem dX3_passTime_20 : decode cX3_passTime 20 = .ok (.iconst 1, 1) := by decide +kernel
theorem dX3_passTime_21 : decode cX3_passTime 21 = .ok (.iadd, 1) := by decide +kernel
theorem dX3_passTime_22 : decode cX3_passTime 22 = .ok (.putfield 41, 3) := by decide +kernel
theorem dX3_passTime_25 : decode cX3_passTime 25 = .ok (.iconst 0, 1) := by decide +kernel
theorem dX3_passTime_26 : decode cX3_passTime 26 = .ok (.istore 4, 2) := by decide +kernel
theorem dX3_passTime_28 : decode cX3_passTime 28 = .ok (.iload 4, 2) := by decide +kernel
theorem dX3_passTime_30 : decode cX3_passTime 30 = .ok (.bipush 8, 2) := by decide +kernel
theorem dX3_passTime_32 : decode cX3_passTime 32 = .ok (.if_icmp .ge 20, 3) := by decide +kernel
theorem dX3_passTime_35 : decode cX3_passTime 35 = .ok (.aload_n 0, 1) := by decide +kernel
theorem dX3_passTime_36 : decode cX3_passTime 36 = .ok (.aload_n 0, 1) := by decide +kernel
theorem dX3_passTime_37 : decode cX3_passTime 37 = .ok (.getfield 20, 3) := by decide +kernel
theorem dX3_passTime_40 : decode cX3_passTime 40 = .ok (.iload 4, 2) := by decide +kernel
theorem dX3_passTime_42 : decode cX3_passTime 42 = .ok (.aaload, 1) := by decide +kernel
theorem dX3_passTime_43 : decode cX3_passTime 43 = .ok (.invokevirtual 242, 3) := by decide +kernel
theorem dX3_passTime_46 : decode cX3_passTime 46 = .ok (.iinc 4 1, 3) := by decide +kernel
theorem dX3_passTime_49 : decode cX3_passTime 49 = .ok (.goto (-21), 3) := by decide +kernel
theorem dX3_passTime_52 : decode cX3_passTime 52 = .ok (.iconst 0, 1) := by decide +kernel
theorem dX3_passTime_53 : decode cX3_passTime 53 = .ok (.istore 4, 2) := by decide +kernel
theorem dX3_passTime_55 : decode cX3_passTime 55 = .ok (.iload 4, 2) := by decide +kernel
theorem dX3_passTime_57 : decode cX3_passTime 57 = .ok (.sipush 200, 3) := by decide +kernel
theorem dX3_passTime_60 : decode cX3_passTime 60 = .ok (.if_icmp .ge 23, 3) := by decide +kernel
theorem dX3_passTime_63 : decode cX3_passTime 63 = .ok (.aload_n 0, 1) := by decide +kernel
theorem dX3_passTime_64 : decode cX3_passTime 64 = .ok (.invokevirtual 245, 3) := by decide +kernel
theorem dX3_passTime_67 : decode cX3_passTime 67 = .ok (.ifCond .ne 16, 3) := by decide +kernel
theorem dX3_passTime_70 : decode cX3_passTime 70 = .ok (.aload_n 0, 1) := by decide +kernel
theorem dX3_passTime_71 : decode cX3_passTime 71 = .ok (.getfield 12, 3) := by decide +kernel
theorem dX3_passTime_74 : decode cX3_passTime 74 = .ok (.invokevirtual 248, 3) := by decide +kernel
theorem dX3_passTime_77 : decode cX3_passTime 77 = .ok (.iinc 4 1, 3) := by decide +kernel
theorem dX3_passTime_80 : decode cX3_passTime 80 = .ok (.goto (-25), 3) := by decide +kernel
theorem dX3_passTime_83 : decode cX3_passTime 83 = .ok (.iinc 3 1, 3) := by decide +kernel
theorem dX3_passTime_86 : decode cX3_passTime 86 = .ok (.goto (-76), 3) := by decide +kernel
theorem dX3_passTime_89 : decode cX3_passTime 89 = .ok (.aload_n 0, 1) := by decide +kernel
theorem dX3_passTime_90 : decode cX3_passTime 90 = .ok (.getfield 12, 3) := by decide +kernel
theorem dX3_passTime_93 : decode cX3_passTime 93 = .ok (.getfield 109, 3) := by decide +kernel
theorem dX3_passTime_96 : decode cX3_passTime 96 = .ok (.iload_n 2, 1) := by decide +kernel
theorem dX3_passTime_97 : decode cX3_passTime 97 = .ok (.isub, 1) := by decide +kernel
theorem dX3_passTime_98 : decode cX3_passTime 98 = .ok (.ireturn, 1) := by decide +kernel
theorem dX3_checkHold_0 : decode cX3_checkHold 0 = .ok (.aload_n 1, 1) := by decide +kernel
theorem dX3_checkHold_1 : decode cX3_checkHold 1 = .ok (.ifnull 10, 3) := by decide +kernel
theorem dX3_checkHold_4 : decode cX3_checkHold 4 = .ok (.aload_n 1, 1) := by decide +kernel
theorem dX3_checkHold_5 : decode cX3_checkHold 5 = .ok (.getfield 72, 3) := by decide +kernel
theorem dX3_checkHold_8 : decode cX3_checkHold 8 = .ok (.ifCond .ne 4, 3) := by decide +kernel
theorem dX3_checkHold_11 : decode cX3_checkHold 11 = .ok (.return_, 1) := by decide +kernel
theorem dX3_checkHold_12 : decode cX3_checkHold 12 = .ok (.aload_n 0, 1) := by decide +kernel
theorem dX3_checkHold_13 : decode cX3_checkHold 13 = .ok (.getfield 24, 3) := by decide +kernel
theorem dX3_checkHold_16 : decode cX3_checkHold 16 = .ok (.iconst 4, 1) := by decide +kernel
theorem dX3_checkHold_17 : decode cX3_checkHold 17 = .ok (.invokestatic 145, 3) := by decide +kernel
theorem dX3_checkHold_20 : decode cX3_checkHold 20 = .ok (.istore_n 2, 1) := by decide +kernel
theorem dX3_checkHold_21 : decode cX3_checkHold 21 = .ok (.aload_n 0, 1) := by decide +kernel
theorem dX3_checkHold_22 : decode cX3_checkHold 22 = .ok (.getfield 24, 3) := by decide +kernel
theorem dX3_checkHold_25 : decode cX3_checkHold 25 = .ok (.iconst 5, 1) := by decide +kernel
theorem dX3_checkHold_26 : decode cX3_checkHold 26 = .ok (.invokestatic 145, 3) := by decide +kernel
theorem dX3_checkHold_29 : decode cX3_checkHold 29 = .ok (.istore_n 3, 1) := by decide +kernel
theorem dX3_checkHold_30 : decode cX3_checkHold 30 = .ok (.iload_n 2, 1) := by decide +kernel
theorem dX3_checkHold_31 : decode cX3_checkHold 31 = .ok (.ifCond .le 36, 3) := by decide +kernel
theorem dX3_checkHold_34 : decode cX3_checkHold 34 = .ok (.aload_n 0, 1) := by decide +kernel
theorem dX3_checkHold_35 : decode cX3_checkHold 35 = .ok (.getfield 12, 3) := by decide +kernel
theorem dX3_checkHold_38 : decode cX3_checkHold 38 = .ok (.aload_n 1, 1) := by decide +kernel
theorem dX3_checkHold_39 : decode cX3_checkHold 39 = .ok (.getfield 75, 3) := by decide +kernel
theorem dX3_checkHold_42 : decode cX3_checkHold 42 = .ok (.invokevirtual 139, 3) := by decide +kernel
theorem dX3_checkHold_45 : decode cX3_checkHold 45 = .ok (.iload_n 2, 1) := by decide +kernel
theorem dX3_checkHold_46 : decode cX3_checkHold 46 = .ok (.if_icmp .le 21, 3) := by decide +kernel
theorem dX3_checkHold_49 : decode cX3_checkHold 49 = .ok (.aload_n 1, 1) := by decide +kernel
theorem dX3_checkHold_50 : decode cX3_checkHold 50 = .ok (.iconst 1, 1) := by decide +kernel
theorem dX3_checkHold_51 : decode cX3_checkHold 51 = .ok (.putfield 142, 3) := by decide +kernel
theorem dX3_checkHold_54 : decode cX3_checkHold 54 = .ok (.aload_n 0, 1) := by decide +kernel
theorem dX3_checkHold_55 : decode cX3_checkHold 55 = .ok (.dup, 1) := by decide +kernel
theorem dX3_checkHold_56 : decode cX3_checkHold 56 = .ok (.getfield 45, 3) := by decide +kernel
theorem dX3_checkHold_59 : decode cX3_checkHold 59 = .ok (.iconst 1, 1) := by decide +kernel
theorem dX3_checkHold_60 : decode cX3_checkHold 60 = .ok (.iadd, 1) := by decide +kernel
theorem dX3_checkHold_61 : decode cX3_checkHold 61 = .ok (.putfield 45, 3) := by decide +kernel
theorem dX3_checkHold_64 : decode cX3_checkHold 64 = .ok (.goto 39, 3) := by decide +kernel
theorem dX3_checkHold_67 : decode cX3_checkHold 67 = .ok (.iload_n 3, 1) := by decide +kernel
theorem dX3_checkHold_68 : decode cX3_checkHold 68 = .ok (.ifCond .le 34, 3) := by decide +kernel
theorem dX3_checkHold_71 : decode cX3_checkHold 71 = .ok (.aload_n 0, 1) := by decide +kernel
theorem dX3_checkHold_72 : decode cX3_checkHold 72 = .ok (.getfield 41, 3) := by decide +kernel
theorem dX3_checkHold_75 : decode cX3_checkHold 75 = .ok (.aload_n 1, 1) := by decide +kernel
theorem dX3_checkHold_76 : decode cX3_checkHold 76 = .ok (.getfield 131, 3) := by decide +kernel
theorem dX3_checkHold_79 : decode cX3_checkHold 79 = .ok (.isub, 1) := by decide +kernel
theorem dX3_checkHold_80 : decode cX3_checkHold 80 = .ok (.iload_n 3, 1) := by decide +kernel
theorem dX3_checkHold_81 : decode cX3_checkHold 81 = .ok (.if_icmp .lt 21, 3) := by decide +kernel
theorem dX3_checkHold_84 : decode cX3_checkHold 84 = .ok (.aload_n 1, 1) := by decide +kernel
theorem dX3_checkHold_85 : decode cX3_checkHold 85 = .ok (.iconst 2, 1) := by decide +kernel
theorem dX3_checkHold_86 : decode cX3_checkHold 86 = .ok (.putfield 142, 3) := by decide +kernel
theorem dX3_checkHold_89 : decode cX3_checkHold 89 = .ok (.aload_n 0, 1) := by decide +kernel
theorem dX3_checkHold_90 : decode cX3_checkHold 90 = .ok (.dup, 1) := by decide +kernel
theorem dX3_checkHold_91 : decode cX3_checkHold 91 = .ok (.getfield 48, 3) := by decide +kernel
theorem dX3_checkHold_94 : decode cX3_checkHold 94 = .ok (.iconst 1, 1) := by decide +kernel
theorem dX3_checkHold_95 : decode cX3_checkHold 95 = .ok (.iadd, 1) := by decide +kernel
theorem dX3_checkHold_96 : decode cX3_checkHold 96 = .ok (.putfield 48, 3) := by decide +kernel
theorem dX3_checkHold_99 : decode cX3_checkHold 99 = .ok (.goto 4, 3) := by decide +kernel
theorem dX3_checkHold_102 : decode cX3_checkHold 102 = .ok (.return_, 1) := by decide +kernel
theorem dX3_checkHold_103 : decode cX3_checkHold 103 = .ok (.aload_n 1, 1) := by decide +kernel
theorem dX3_checkHold_104 : decode cX3_checkHold 104 = .ok (.iconst 0, 1) := by decide +kernel
theorem dX3_checkHold_105 : decode cX3_checkHold 105 = .ok (.putfield 72, 3) := by decide +kernel
theorem dX3_checkHold_108 : decode cX3_checkHold 108 = .ok (.return_, 1) := by decide +kernel
theorem dX4_init_0 : decode cX4_init 0 = .ok (.aload_n 0, 1) := by decide +kernel
theorem dX4_init_1 : decode cX4_init 1 = .ok (.invokespecial 3, 3) := by decide +kernel
theorem dX4_init_4 : decode cX4_init 4 = .ok (.aload_n 0, 1) := by decide +kernel
theorem dX4_init_5 : decode cX4_init 5 = .ok (.bipush 120, 2) := by decide +kernel
theorem dX4_init_7 : decode cX4_init 7 = .ok (.newarray .char, 2) := by decide +kernel
theorem dX4_init_9 : decode cX4_init 9 = .ok (.putfield 9, 3) := by decide +kernel
theorem dX4_init_12 : decode cX4_init 12 = .ok (.return_, 1) := by decide +kernel
theorem dX4_isFull_0 : decode cX4_isFull 0 = .ok (.aload_n 0, 1) := by decide +kernel
theorem dX4_isFull_1 : decode cX4_isFull 1 = .ok (.getfield 15, 3) := by decide +kernel
theorem dX4_isFull_4 : decode cX4_isFull 4 = .ok (.bipush 120, 2) := by decide +kernel
theorem dX4_isFull_6 : decode cX4_isFull 6 = .ok (.if_icmp .lt 7, 3) := by decide +kernel
theorem dX4_isFull_9 : decode cX4_isFull 9 = .ok (.iconst 1, 1) := by decide +kernel
theorem dX4_isFull_10 : decode cX4_isFull 10 = .ok (.goto 4, 3) := by decide +kernel
theorem dX4_isFull_13 : decode cX4_isFull 13 = .ok (.iconst 0, 1) := by decide +kernel
theorem dX4_isFull_14 : decode cX4_isFull 14 = .ok (.ireturn, 1) := by decide +kernel
theorem dX4_add_0 : decode cX4_add 0 = .ok (.aload_n 0, 1) := by decide +kernel
theorem dX4_add_1 : decode cX4_add 1 = .ok (.getfield 15, 3) := by decide +kernel
theorem dX4_add_4 : decode cX4_add 4 = .ok (.ifCond .lt 32, 3) := by decide +kernel
theorem dX4_add_7 : decode cX4_add 7 = .ok (.aload_n 0, 1) := by decide +kernel
theorem dX4_add_8 : decode cX4_add 8 = .ok (.getfield 15, 3) := by decide +kernel
theorem dX4_add_11 : decode cX4_add 11 = .ok (.bipush 120, 2) := by decide +kernel
theorem dX4_add_13 : decode cX4_add 13 = .ok (.if_icmp .ge 23, 3) := by decide +kernel
theorem dX4_add_16 : decode cX4_add 16 = .ok (.aload_n 0, 1) := by decide +kernel
theorem dX4_add_17 : decode cX4_add 17 = .ok (.getfield 9, 3) := by decide +kernel
theorem dX4_add_20 : decode cX4_add 20 = .ok (.aload_n 0, 1) := by decide +kernel
theorem dX4_add_21 : decode cX4_add 21 = .ok (.getfield 15, 3) := by decide +kernel
theorem dX4_add_24 : decode cX4_add 24 = .ok (.iload_n 1, 1) := by decide +kernel
theorem dX4_add_25 : decode cX4_add 25 = .ok (.castore, 1) := by decide +kernel
theorem dX4_add_26 : decode cX4_add 26 = .ok (.aload_n 0, 1) := by decide +kernel
theorem dX4_add_27 : decode cX4_add 27 = .ok (.dup, 1) := by decide +kernel
theorem dX4_add_28 : decode cX4_add 28 = .ok (.getfield 15, 3) := by decide +kernel
theorem dX4_add_31 : decode cX4_add 31 = .ok (.iconst 1, 1) := by decide +kernel
theorem dX4_add_32 : decode cX4_add 32 = .ok (.iadd, 1) := by decide +kernel
theorem dX4_add_33 : decode cX4_add 33 = .ok (.putfield 15, 3) := by decide +kernel
theorem dX4_add_36 : decode cX4_add 36 = .ok (.aload_n 0, 1) := by decide +kernel
theorem dX4_add_37 : decode cX4_add 37 = .ok (.getfield 15, 3) := by decide +kernel
theorem dX4_add_40 : decode cX4_add 40 = .ok (.ireturn, 1) := by decide +kernel
theorem dX4_empty_0 : decode cX4_empty 0 = .ok (.aload_n 0, 1) := by decide +kernel
theorem dX4_empty_1 : decode cX4_empty 1 = .ok (.getfield 15, 3) := by decide +kernel
theorem dX4_empty_4 : decode cX4_empty 4 = .ok (.istore_n 1, 1) := by decide +kernel
theorem dX4_empty_5 : decode cX4_empty 5 = .ok (.aload_n 0, 1) := by decide +kernel
theorem dX4_empty_6 : decode cX4_empty 6 = .ok (.iconst 0, 1) := by decide +kernel
theorem dX4_empty_7 : decode cX4_empty 7 = .ok (.putfield 15, 3) := by decide +kernel
theorem dX4_empty_10 : decode cX4_empty 10 = .ok (.iload_n 1, 1) := by decide +kernel
theorem dX4_empty_11 : decode cX4_empty 11 = .ok (.ireturn, 1) := by decide +kernel
theorem dX4_findError_0 : decode cX4_findError 0 = .ok (.aload_n 0, 1) := by decide +kernel
theorem dX4_findError_1 : decode cX4_findError 1 = .ok (.invokevirtual 19, 3) := by decide +kernel
theorem dX4_findError_4 : decode cX4_findError 4 = .ok (.iconst 0, 1) := by decide +kernel
theorem dX4_findError_5 : decode cX4_findError 5 = .ok (.istore_n 1, 1) := by decide +kernel
theorem dX4_findError_6 : decode cX4_findError 6 = .ok (.iload_n 1, 1) := by decide +kernel
theorem dX4_findError_7 : decode cX4_findError 7 = .ok (.bipush 120, 2) := by decide +kernel
theorem dX4_findError_9 : decode cX4_findError 9 = .ok (.if_icmp .ge 20, 3) := by decide +kernel
theorem dX4_findError_12 : decode cX4_findError 12 = .ok (.aload_n 0, 1) := by decide +kernel
theorem dX4_findError_13 : decode cX4_findError 13 = .ok (.invokevirtual 22, 3) := by decide +kernel
theorem dX4_findError_16 : decode cX4_findError 16 = .ok (.ifCond .eq 13, 3) := by decide +kernel
theorem dX4_findError_19 : decode cX4_findError 19 = .ok (.aload_n 0, 1) := by decide +kernel
theorem dX4_findError_20 : decode cX4_findError 20 = .ok (.invokevirtual 26, 3) := by decide +kernel
theorem dX4_findError_23 : decode cX4_findError 23 = .ok (.iinc 1 1, 3) := by decide +kernel
theorem dX4_findError_26 : decode cX4_findError 26 = .ok (.goto (-20), 3) := by decide +kernel
theorem dX4_findError_29 : decode cX4_findError 29 = .ok (.aload_n 0, 1) := by decide +kernel
theorem dX4_findError_30 : decode cX4_findError 30 = .ok (.getfield 29, 3) := by decide +kernel
theorem dX4_findError_33 : decode cX4_findError 33 = .ok (.ifCond .eq 10, 3) := by decide +kernel
theorem dX4_findError_36 : decode cX4_findError 36 = .ok (.aload_n 0, 1) := by decide +kernel
theorem dX4_findError_37 : decode cX4_findError 37 = .ok (.getfield 33, 3) := by decide +kernel
theorem dX4_findError_40 : decode cX4_findError 40 = .ok (.goto 4, 3) := by decide +kernel
theorem dX4_findError_43 : decode cX4_findError 43 = .ok (.iconst (-1), 1) := by decide +kernel
theorem dX4_findError_44 : decode cX4_findError 44 = .ok (.ireturn, 1) := by decide +kernel
theorem dX4_runOn_0 : decode cX4_runOn 0 = .ok (.iconst 0, 1) := by decide +kernel
theorem dX4_runOn_1 : decode cX4_runOn 1 = .ok (.istore_n 2, 1) := by decide +kernel
theorem dX4_runOn_2 : decode cX4_runOn 2 = .ok (.aload_n 0, 1) := by decide +kernel
theorem dX4_runOn_3 : decode cX4_runOn 3 = .ok (.invokevirtual 19, 3) := by decide +kernel
theorem dX4_runOn_6 : decode cX4_runOn 6 = .ok (.iconst 0, 1) := by decide +kernel
theorem dX4_runOn_7 : decode cX4_runOn 7 = .ok (.istore_n 3, 1) := by decide +kernel
theorem dX4_runOn_8 : decode cX4_runOn 8 = .ok (.iload_n 3, 1) := by decide +kernel
theorem dX4_runOn_9 : decode cX4_runOn 9 = .ok (.bipush 120, 2) := by decide +kernel
theorem dX4_runOn_11 : decode cX4_runOn 11 = .ok (.if_icmp .ge 61, 3) := by decide +kernel
theorem dX4_runOn_14 : decode cX4_runOn 14 = .ok (.aload_n 0, 1) := by decide +kernel
theorem dX4_runOn_15 : decode cX4_runOn 15 = .ok (.invokevirtual 22, 3) := by decide +kernel
theorem dX4_runOn_18 : decode cX4_runOn 18 = .ok (.ifCond .eq 54, 3) := by decide +kernel
theorem dX4_runOn_21 : decode cX4_runOn 21 = .ok (.aload_n 0, 1) := by decide +kernel
theorem dX4_runOn_22 : decode cX4_runOn 22 = .ok (.invokevirtual 26, 3) := by decide +kernel
theorem dX4_runOn_25 : decode cX4_runOn 25 = .ok (.iload_n 2, 1) := by decide +kernel
theorem dX4_runOn_26 : decode cX4_runOn 26 = .ok (.aload_n 0, 1) := by decide +kernel
theorem dX4_runOn_27 : decode cX4_runOn 27 = .ok (.getfield 29, 3) := by decide +kernel
theorem dX4_runOn_30 : decode cX4_runOn 30 = .ok (.ifCond .ne 30, 3) := by decide +kernel
theorem dX4_runOn_33 : decode cX4_runOn 33 = .ok (.aload_n 1, 1) := by decide +kernel
theorem dX4_runOn_34 : decode cX4_runOn 34 = .ok (.aload_n 0, 1) := by decide +kernel
theorem dX4_runOn_35 : decode cX4_runOn 35 = .ok (.getfield 36, 3) := by decide +kernel
theorem dX4_runOn_38 : decode cX4_runOn 38 = .ok (.aload_n 0, 1) := by decide +kernel
theorem dX4_runOn_39 : decode cX4_runOn 39 = .ok (.getfield 39, 3) := by decide +kernel
theorem dX4_runOn_42 : decode cX4_runOn 42 = .ok (.aload_n 0, 1) := by decide +kernel
theorem dX4_runOn_43 : decode cX4_runOn 43 = .ok (.getfield 42, 3) := by decide +kernel
theorem dX4_runOn_46 : decode cX4_runOn 46 = .ok (.aload_n 0, 1) := by decide +kernel
theorem dX4_runOn_47 : decode cX4_runOn 47 = .ok (.getfield 45, 3) := by decide +kernel
theorem dX4_runOn_50 : decode cX4_runOn 50 = .ok (.invokevirtual 48, 3) := by decide +kernel
theorem dX4_runOn_53 : decode cX4_runOn 53 = .ok (.ifCond .ne 7, 3) := by decide +kernel
theorem dX4_runOn_56 : decode cX4_runOn 56 = .ok (.iconst 1, 1) := by decide +kernel
theorem dX4_runOn_57 : decode cX4_runOn 57 = .ok (.goto 4, 3) := by decide +kernel
theorem dX4_runOn_60 : decode cX4_runOn 60 = .ok (.iconst 0, 1) := by decide +kernel
theorem dX4_runOn_61 : decode cX4_runOn 61 = .ok (.invokestatic 54, 3) := by decide +kernel
theorem dX4_runOn_64 : decode cX4_runOn 64 = .ok (.iadd, 1) := by decide +kernel
theorem dX4_runOn_65 : decode cX4_runOn 65 = .ok (.istore_n 2, 1) := by decide +kernel
theorem dX4_runOn_66 : decode cX4_runOn 66 = .ok (.iinc 3 1, 3) := by decide +kernel
theorem dX4_runOn_69 : decode cX4_runOn 69 = .ok (.goto (-61), 3) := by decide +kernel
theorem dX4_runOn_72 : decode cX4_runOn 72 = .ok (.iload_n 2, 1) := by decide +kernel
theorem dX4_runOn_73 : decode cX4_runOn 73 = .ok (.ireturn, 1) := by decide +kernel
theorem dX4_begin_0 : decode cX4_begin 0 = .ok (.aload_n 0, 1) := by decide +kernel
theorem dX4_begin_1 : decode cX4_begin 1 = .ok (.iconst 0, 1) := by decide +kernel
theorem dX4_begin_2 : decode cX4_begin 2 = .ok (.putfield 33, 3) := by decide +kernel
theorem dX4_begin_5 : decode cX4_begin 5 = .ok (.aload_n 0, 1) := by decide +kernel
theorem dX4_begin_6 : decode cX4_begin 6 = .ok (.aload_n 0, 1) := by decide +kernel
theorem dX4_begin_7 : decode cX4_begin 7 = .ok (.invokevirtual 58, 3) := by decide +kernel
theorem dX4_begin_10 : decode cX4_begin 10 = .ok (.bipush 71, 2) := by decide +kernel
theorem dX4_begin_12 : decode cX4_begin 12 = .ok (.if_icmp .eq 7, 3) := by decide +kernel
theorem dX4_begin_15 : decode cX4_begin 15 = .ok (.iconst 1, 1) := by decide +kernel
theorem dX4_begin_16 : decode cX4_begin 16 = .ok (.goto 4, 3) := by decide +kernel
theorem dX4_begin_19 : decode cX4_begin 19 = .ok (.iconst 0, 1) := by decide +kernel
theorem dX4_begin_20 : decode cX4_begin 20 = .ok (.putfield 29, 3) := by decide +kernel
theorem dX4_begin_23 : decode cX4_begin 23 = .ok (.aload_n 0, 1) := by decide +kernel
theorem dX4_begin_24 : decode cX4_begin 24 = .ok (.getfield 29, 3) := by decide +kernel
theorem dX4_begin_27 : decode cX4_begin 27 = .ok (.ifCond .ne 13, 3) := by decide +kernel
theorem dX4_begin_30 : decode cX4_begin 30 = .ok (.aload_n 0, 1) := by decide +kernel
theorem dX4_begin_31 : decode cX4_begin 31 = .ok (.dup, 1) := by decide +kernel
theorem dX4_begin_32 : decode cX4_begin 32 = .ok (.getfield 33, 3) := by decide +kernel
theorem dX4_begin_35 : decode cX4_begin 35 = .ok (.iconst 1, 1) := by decide +kernel
theorem dX4_begin_36 : decode cX4_begin 36 = .ok (.iadd, 1) := by decide +kernel
theorem dX4_begin_37 : decode cX4_begin 37 = .ok (.putfield 33, 3) := by decide +kernel
theorem dX4_begin_40 : decode cX4_begin 40 = .ok (.return_, 1) := by decide +kernel
theorem dX4_hasMore_0 : decode cX4_hasMore 0 = .ok (.aload_n 0, 1) := by decide +kernel
theorem dX4_hasMore_1 : decode cX4_hasMore 1 = .ok (.getfield 29, 3) := by decide +kernel
theorem dX4_hasMore_4 : decode cX4_hasMore 4 = .ok (.ifCond .ne 18, 3) := by decide +kernel
theorem dX4_hasMore_7 : decode cX4_hasMore 7 = .ok (.aload_n 0, 1) := by decide +kernel
theorem dX4_hasMore_8 : decode cX4_hasMore 8 = .ok (.getfield 33, 3) := by decide +kernel
theorem dX4_hasMore_11 : decode cX4_hasMore 11 = .ok (.aload_n 0, 1) := by decide +kernel
theorem dX4_hasMore_12 : decode cX4_hasMore 12 = .ok (.getfield 15, 3) := by decide +kernel
theorem dX4_hasMore_15 : decode cX4_hasMore 15 = .ok (.if_icmp .ge 7, 3) := by decide +kernel
theorem dX4_hasMore_18 : decode cX4_hasMore 18 = .ok (.iconst 1, 1) := by decide +kernel
theorem dX4_hasMore_19 : decode cX4_hasMore 19 = .ok (.goto 4, 3) := by decide +kernel
theorem dX4_hasMore_22 : decode cX4_hasMore 22 = .ok (.iconst 0, 1) := by decide +kernel
theorem dX4_hasMore_23 : decode cX4_hasMore 23 = .ok (.ireturn, 1) := by decide +kernel
theorem dX4_sign_0 : decode cX4_sign 0 = .ok (.aload_n 0, 1) := by decide +kernel
theorem dX4_sign_1 : decode cX4_sign 1 = .ok (.getfield 33, 3) := by decide +kernel
theorem dX4_sign_4 : decode cX4_sign 4 = .ok (.ifCond .lt 35, 3) := by decide +kernel
theorem dX4_sign_7 : decode cX4_sign 7 = .ok (.aload_n 0, 1) := by decide +kernel
theorem dX4_sign_8 : decode cX4_sign 8 = .ok (.getfield 33, 3) := by decide +kernel
theorem dX4_sign_11 : decode cX4_sign 11 = .ok (.aload_n 0, 1) := by decide +kernel
theorem dX4_sign_12 : decode cX4_sign 12 = .ok (.getfield 15, 3) := by decide +kernel
theorem dX4_sign_15 : decode cX4_sign 15 = .ok (.if_icmp .ge 24, 3) := by decide +kernel
theorem dX4_sign_18 : decode cX4_sign 18 = .ok (.aload_n 0, 1) := by decide +kernel
theorem dX4_sign_19 : decode cX4_sign 19 = .ok (.getfield 33, 3) := by decide +kernel
theorem dX4_sign_22 : decode cX4_sign 22 = .ok (.bipush 120, 2) := by decide +kernel
theorem dX4_sign_24 : decode cX4_sign 24 = .ok (.if_icmp .ge 15, 3) := by decide +kernel
theorem dX4_sign_27 : decode cX4_sign 27 = .ok (.aload_n 0, 1) := by decide +kernel
theorem dX4_sign_28 : decode cX4_sign 28 = .ok (.getfield 9, 3) := by decide +kernel
theorem dX4_sign_31 : decode cX4_sign 31 = .ok (.aload_n 0, 1) := by decide +kernel
theorem dX4_sign_32 : decode cX4_sign 32 = .ok (.getfield 33, 3) := by decide +kernel
theorem dX4_sign_35 : decode cX4_sign 35 = .ok (.caload, 1) := by decide +kernel
theorem dX4_sign_36 : decode cX4_sign 36 = .ok (.goto 4, 3) := by decide +kernel
theorem dX4_sign_39 : decode cX4_sign 39 = .ok (.iconst 0, 1) := by decide +kernel
theorem dX4_sign_40 : decode cX4_sign 40 = .ok (.ireturn, 1) := by decide +kernel
theorem dX4_understand_0 : decode cX4_understand 0 = .ok (.aload_n 0, 1) := by decide +kernel
theorem dX4_understand_1 : decode cX4_understand 1 = .ok (.aload_n 0, 1) := by decide +kernel
theorem dX4_understand_2 : decode cX4_understand 2 = .ok (.aload_n 0, 1) := by decide +kernel
theorem dX4_understand_3 : decode cX4_understand 3 = .ok (.invokevirtual 58, 3) := by decide +kernel
theorem dX4_understand_6 : decode cX4_understand 6 = .ok (.invokevirtual 62, 3) := by decide +kernel
theorem dX4_understand_9 : decode cX4_understand 9 = .ok (.putfield 36, 3) := by decide +kernel
theorem dX4_understand_12 : decode cX4_understand 12 = .ok (.aload_n 0, 1) := by decide +kernel
theorem dX4_understand_13 : decode cX4_understand 13 = .ok (.getfield 36, 3) := by decide +kernel
theorem dX4_understand_16 : decode cX4_understand 16 = .ok (.iconst (-1), 1) := by decide +kernel
theorem dX4_understand_17 : decode cX4_understand 17 = .ok (.if_icmp .ne 9, 3) := by decide +kernel
theorem dX4_understand_20 : decode cX4_understand 20 = .ok (.aload_n 0, 1) := by decide +kernel
theorem dX4_understand_21 : decode cX4_understand 21 = .ok (.iconst 1, 1) := by decide +kernel
theorem dX4_understand_22 : decode cX4_understand 22 = .ok (.putfield 29, 3) := by decide +kernel
theorem dX4_understand_25 : decode cX4_understand 25 = .ok (.return_, 1) := by decide +kernel
theorem dX4_understand_26 : decode cX4_understand 26 = .ok (.aload_n 0, 1) := by decide +kernel
theorem dX4_understand_27 : decode cX4_understand 27 = .ok (.dup, 1) := by decide +kernel
theorem dX4_understand_28 : decode cX4_understand 28 = .ok (.getfield 33, 3) := by decide +kernel
theorem dX4_understand_31 : decode cX4_understand 31 = .ok (.iconst 1, 1) := by decide +kernel
theorem dX4_understand_32 : decode cX4_understand 32 = .ok (.iadd, 1) := by decide +kernel
theorem dX4_understand_33 : decode cX4_understand 33 = .ok (.putfield 33, 3) := by decide +kernel
theorem dX4_understand_36 : decode cX4_understand 36 = .ok (.aload_n 0, 1) := by decide +kernel
theorem dX4_understand_37 : decode cX4_understand 37 = .ok (.iconst 0, 1) := by decide +kernel
theorem dX4_understand_38 : decode cX4_understand 38 = .ok (.putfield 42, 3) := by decide +kernel
theorem dX4_understand_41 : decode cX4_understand 41 = .ok (.aload_n 0, 1) := by decide +kernel
theorem dX4_understand_42 : decode cX4_understand 42 = .ok (.iconst 0, 1) := by decide +kernel
theorem dX4_understand_43 : decode cX4_understand 43 = .ok (.putfield 45, 3) := by decide +kernel
theorem dX4_understand_46 : decode cX4_understand 46 = .ok (.aload_n 0, 1) := by decide +kernel
theorem dX4_understand_47 : decode cX4_understand 47 = .ok (.getfield 36, 3) := by decide +kernel
theorem dX4_understand_50 : decode cX4_understand 50 = .ok (.bipush 6, 2) := by decide +kernel
theorem dX4_understand_52 : decode cX4_understand 52 = .ok (.if_icmp .ne 18, 3) := by decide +kernel
theorem dX4_understand_55 : decode cX4_understand 55 = .ok (.aload_n 0, 1) := by decide +kernel
theorem dX4_understand_56 : decode cX4_understand 56 = .ok (.aload_n 0, 1) := by decide +kernel
theorem dX4_understand_57 : decode cX4_understand 57 = .ok (.iconst 2, 1) := by decide +kernel
theorem dX4_understand_58 : decode cX4_understand 58 = .ok (.iconst 1, 1) := by decide +kernel
theorem dX4_understand_59 : decode cX4_understand 59 = .ok (.bipush 99, 2) := by decide +kernel
theorem dX4_understand_61 : decode cX4_understand 61 = .ok (.invokevirtual 66, 3) := by decide +kernel
theorem dX4_understand_64 : decode cX4_understand 64 = .ok (.putfield 39, 3) := by decide +kernel
theorem dX4_understand_67 : decode cX4_understand 67 = .ok (.goto 54, 3) := by decide +kernel
theorem dX4_understand_70 : decode cX4_understand 70 = .ok (.aload_n 0, 1) := by decide +kernel
theorem dX4_understand_71 : decode cX4_understand 71 = .ok (.getfield 36, 3) := by decide +kernel
theorem dX4_understand_74 : decode cX4_understand 74 = .ok (.iconst 5, 1) := by decide +kernel
theorem dX4_understand_75 : decode cX4_understand 75 = .ok (.if_icmp .ne 30, 3) := by decide +kernel
theorem dX4_understand_78 : decode cX4_understand 78 = .ok (.aload_n 0, 1) := by decide +kernel
theorem dX4_understand_79 : decode cX4_understand 79 = .ok (.aload_n 0, 1) := by decide +kernel
theorem dX4_understand_80 : decode cX4_understand 80 = .ok (.iconst 1, 1) := by decide +kernel
theorem dX4_understand_81 : decode cX4_understand 81 = .ok (.iconst 0, 1) := by decide +kernel
theorem dX4_understand_82 : decode cX4_understand 82 = .ok (.iconst 5, 1) := by decide +kernel
theorem dX4_understand_83 : decode cX4_understand 83 = .ok (.invokevirtual 66, 3) := by decide +kernel
theorem dX4_understand_86 : decode cX4_understand 86 = .ok (.putfield 39, 3) := by decide +kernel
theorem dX4_understand_89 : decode cX4_understand 89 = .ok (.aload_n 0, 1) := by decide +kernel
theorem dX4_understand_90 : decode cX4_understand 90 = .ok (.aload_n 0, 1) := by decide +kernel
theorem dX4_understand_91 : decode cX4_understand 91 = .ok (.iconst 4, 1) := by decide +kernel
theorem dX4_understand_92 : decode cX4_understand 92 = .ok (.iconst 0, 1) := by decide +kernel
theorem dX4_understand_93 : decode cX4_understand 93 = .ok (.sipush 4000, 3) := by decide +kernel
theorem dX4_understand_96 : decode cX4_understand 96 = .ok (.invokevirtual 66, 3) := by decide +kernel
theorem dX4_understand_99 : decode cX4_understand 99 = .ok (.putfield 42, 3) := by decide +kernel
theorem dX4_understand_102 : decode cX4_understand 102 = .ok (.goto 19, 3) := by decide +kernel
theorem dX4_understand_105 : decode cX4_understand 105 = .ok (.aload_n 0, 1) := by decide +kernel
theorem dX4_understand_106 : decode cX4_understand 106 = .ok (.aload_n 0, 1) := by decide +kernel
theorem dX4_understand_107 : decode cX4_understand 107 = .ok (.iconst 1, 1) := by decide +kernel
theorem dX4_understand_108 : decode cX4_understand 108 = .ok (.iconst 0, 1) := by decide +kernel
theorem dX4_understand_109 : decode cX4_understand 109 = .ok (.bipush 7, 2) := by decide +kernel
theorem dX4_understand_111 : decode cX4_understand 111 = .ok (.invokevirtual 66, 3) := by decide +kernel
theorem dX4_understand_114 : decode cX4_understand 114 = .ok (.putfield 39, 3) := by decide +kernel
theorem dX4_understand_117 : decode cX4_understand 117 = .ok (.aload_n 0, 1) := by decide +kernel
theorem dX4_understand_118 : decode cX4_understand 118 = .ok (.invokevirtual 70, 3) := by decide +kernel
theorem dX4_understand_121 : decode cX4_understand 121 = .ok (.return_, 1) := by decide +kernel
theorem dX4_understandRest_0 : decode cX4_understandRest 0 = .ok (.aload_n 0, 1) := by decide +kernel
theorem dX4_understandRest_1 : decode cX4_understandRest 1 = .ok (.getfield 36, 3) := by decide +kernel
theorem dX4_understandRest_4 : decode cX4_understandRest 4 = .ok (.ifCond .ne 30, 3) := by decide +kernel
theorem dX4_understandRest_7 : decode cX4_understandRest 7 = .ok (.aload_n 0, 1) := by decide +kernel
theorem dX4_understandRest_8 : decode cX4_understandRest 8 = .ok (.aload_n 0, 1) := by decide +kernel
theorem dX4_understandRest_9 : decode cX4_understandRest 9 = .ok (.iconst 2, 1) := by decide +kernel
theorem dX4_understandRest_10 : decode cX4_understandRest 10 = .ok (.iconst 0, 1) := by decide +kernel
theorem dX4_understandRest_11 : decode cX4_understandRest 11 = .ok (.bipush 99, 2) := by decide +kernel
theorem dX4_understandRest_13 : decode cX4_understandRest 13 = .ok (.invokevirtual 66, 3) := by decide +kernel
theorem dX4_understandRest_16 : decode cX4_understandRest 16 = .ok (.putfield 42, 3) := by decide +kernel
theorem dX4_understandRest_19 : decode cX4_understandRest 19 = .ok (.aload_n 0, 1) := by decide +kernel
theorem dX4_understandRest_20 : decode cX4_understandRest 20 = .ok (.aload_n 0, 1) := by decide +kernel
theorem dX4_understandRest_21 : decode cX4_understandRest 21 = .ok (.iconst 2, 1) := by decide +kernel
theorem dX4_understandRest_22 : decode cX4_understandRest 22 = .ok (.iconst 1, 1) := by decide +kernel
theorem dX4_understandRest_23 : decode cX4_understandRest 23 = .ok (.bipush 40, 2) := by decide +kernel
theorem dX4_understandRest_25 : decode cX4_understandRest 25 = .ok (.invokevirtual 66, 3) := by decide +kernel
theorem dX4_understandRest_28 : decode cX4_understandRest 28 = .ok (.putfield 45, 3) := by decide +kernel
theorem dX4_understandRest_31 : decode cX4_understandRest 31 = .ok (.goto 72, 3) := by decide +kernel
theorem dX4_understandRest_34 : decode cX4_understandRest 34 = .ok (.aload_n 0, 1) := by decide +kernel
theorem dX4_understandRest_35 : decode cX4_understandRest 35 = .ok (.getfield 36, 3) := by decide +kernel
theorem dX4_understandRest_38 : decode cX4_understandRest 38 = .ok (.iconst 1, 1) := by decide +kernel
theorem dX4_understandRest_39 : decode cX4_understandRest 39 = .ok (.if_icmp .ne 25, 3) := by decide +kernel
theorem dX4_understandRest_42 : decode cX4_understandRest 42 = .ok (.aload_n 0, 1) := by decide +kernel
theorem dX4_understandRest_43 : decode cX4_understandRest 43 = .ok (.aload_n 0, 1) := by decide +kernel
theorem dX4_understandRest_44 : decode cX4_understandRest 44 = .ok (.iconst 1, 1) := by decide +kernel
theorem dX4_understandRest_45 : decode cX4_understandRest 45 = .ok (.iconst 0, 1) := by decide +kernel
theorem dX4_understandRest_46 : decode cX4_understandRest 46 = .ok (.iconst 2, 1) := by decide +kernel
theorem dX4_understandRest_47 : decode cX4_understandRest 47 = .ok (.invokevirtual 66, 3) := by decide +kernel
theorem dX4_understandRest_50 : decode cX4_understandRest 50 = .ok (.putfield 42, 3) := by decide +kernel
theorem dX4_understandRest_53 : decode cX4_understandRest 53 = .ok (.aload_n 0, 1) := by decide +kernel
theorem dX4_understandRest_54 : decode cX4_understandRest 54 = .ok (.aload_n 0, 1) := by decide +kernel
theorem dX4_understandRest_55 : decode cX4_understandRest 55 = .ok (.invokevirtual 73, 3) := by decide +kernel
theorem dX4_understandRest_58 : decode cX4_understandRest 58 = .ok (.putfield 45, 3) := by decide +kernel
theorem dX4_understandRest_61 : decode cX4_understandRest 61 = .ok (.goto 42, 3) := by decide +kernel
theorem dX4_understandRest_64 : decode cX4_understandRest 64 = .ok (.aload_n 0, 1) := by decide +kernel
theorem dX4_understandRest_65 : decode cX4_understandRest 65 = .ok (.getfield 36, 3) := by decide +kernel
theorem dX4_understandRest_68 : decode cX4_understandRest 68 = .ok (.iconst 2, 1) := by decide +kernel
theorem dX4_understandRest_69 : decode cX4_understandRest 69 = .ok (.if_icmp .ne 18, 3) := by decide +kernel
theorem dX4_understandRest_72 : decode cX4_understandRest 72 = .ok (.aload_n 0, 1) := by decide +kernel
theorem dX4_understandRest_73 : decode cX4_understandRest 73 = .ok (.aload_n 0, 1) := by decide +kernel
theorem dX4_understandRest_74 : decode cX4_understandRest 74 = .ok (.iconst 2, 1) := by decide +kernel
theorem dX4_understandRest_75 : decode cX4_understandRest 75 = .ok (.iconst 1, 1) := by decide +kernel
theorem dX4_understandRest_76 : decode cX4_understandRest 76 = .ok (.bipush 50, 2) := by decide +kernel
theorem dX4_understandRest_78 : decode cX4_understandRest 78 = .ok (.invokevirtual 66, 3) := by decide +kernel
theorem dX4_understandRest_81 : decode cX4_understandRest 81 = .ok (.putfield 42, 3) := by decide +kernel
theorem dX4_understandRest_84 : decode cX4_understandRest 84 = .ok (.goto 19, 3) := by decide +kernel
theorem dX4_understandRest_87 : decode cX4_understandRest 87 = .ok (.aload_n 0, 1) := by decide +kernel
theorem dX4_understandRest_88 : decode cX4_understandRest 88 = .ok (.getfield 36, 3) := by decide +kernel
theorem dX4_understandRest_91 : decode cX4_understandRest 91 = .ok (.iconst 4, 1) := by decide +kernel
theorem dX4_understandRest_92 : decode cX4_understandRest 92 = .ok (.if_icmp .ne 11, 3) := by decide +kernel
theorem dX4_understandRest_95 : decode cX4_understandRest 95 = .ok (.aload_n 0, 1) := by decide +kernel
theorem dX4_understandRest_96 : decode cX4_understandRest 96 = .ok (.aload_n 0, 1) := by decide +kernel
theorem dX4_understandRest_97 : decode cX4_understandRest 97 = .ok (.invokevirtual 73, 3) := by decide +kernel
theorem dX4_understandRest_100 : decode cX4_understandRest 100 = .ok (.putfield 42, 3) := by decide +kernel
theorem dX4_understandRest_103 : decode cX4_understandRest 103 = .ok (.return_, 1) := by decide +kernel
theorem dX4_actionOf_0 : decode cX4_actionOf 0 = .ok (.iload_n 1, 1) := by decide +kernel
theorem dX4_actionOf_1 : decode cX4_actionOf 1 = .ok (.tableswitch 94 104 119 #[87, 94, 81, 94, 85, 94, 94, 94, 94, 94, 83, 89, 91, 94, 94, 79], 79) := by decide +kernel
theorem dX4_actionOf_80 : decode cX4_actionOf 80 = .ok (.iconst 0, 1) := by decide +kernel
theorem dX4_actionOf_81 : decode cX4_actionOf 81 = .ok (.ireturn, 1) := by decide +kernel
theorem dX4_actionOf_82 : decode cX4_actionOf 82 = .ok (.iconst 1, 1) := by decide +kernel
theorem dX4_actionOf_83 : decode cX4_actionOf 83 = .ok (.ireturn, 1) := by decide +kernel
theorem dX4_actionOf_84 : decode cX4_actionOf 84 = .ok (.iconst 2, 1) := by decide +kernel
theorem dX4_actionOf_85 : decode cX4_actionOf 85 = .ok (.ireturn, 1) := by decide +kernel
theorem dX4_actionOf_86 : decode cX4_actionOf 86 = .ok (.iconst 3, 1) := by decide +kernel
theorem dX4_actionOf_87 : decode cX4_actionOf 87 = .ok (.ireturn, 1) := by decide +kernel
theorem dX4_actionOf_88 : decode cX4_actionOf 88 = .ok (.iconst 4, 1) := by decide +kernel
theorem dX4_actionOf_89 : decode cX4_actionOf 89 = .ok (.ireturn, 1) := by decide +kernel
theorem dX4_actionOf_90 : decode cX4_actionOf 90 = .ok (.iconst 5, 1) := by decide +kernel
theorem dX4_actionOf_91 : decode cX4_actionOf 91 = .ok (.ireturn, 1) := by decide +kernel
theorem dX4_actionOf_92 : decode cX4_actionOf 92 = .ok (.bipush 6, 2) := by decide +kernel
theorem dX4_actionOf_94 : decode cX4_actionOf 94 = .ok (.ireturn, 1) := by decide +kernel
theorem dX4_actionOf_95 : decode cX4_actionOf 95 = .ok (.iconst (-1), 1) := by decide +kernel
theorem dX4_actionOf_96 : decode cX4_actionOf 96 = .ok (.ireturn, 1) := by decide +kernel
theorem dX4_plusOrMinus_0 : decode cX4_plusOrMinus 0 = .ok (.aload_n 0, 1) := by decide +kernel
theorem dX4_plusOrMinus_1 : decode cX4_plusOrMinus 1 = .ok (.invokevirtual 58, 3) := by decide +kernel
theorem dX4_plusOrMinus_4 : decode cX4_plusOrMinus 4 = .ok (.istore_n 1, 1) := by decide +kernel
theorem dX4_plusOrMinus_5 : decode cX4_plusOrMinus 5 = .ok (.aload_n 0, 1) := by decide +kernel
theorem dX4_plusOrMinus_6 : decode cX4_plusOrMinus 6 = .ok (.getfield 29, 3) := by decide +kernel
theorem dX4_plusOrMinus_9 : decode cX4_plusOrMinus 9 = .ok (.ifCond .ne 15, 3) := by decide +kernel
theorem dX4_plusOrMinus_12 : decode cX4_plusOrMinus 12 = .ok (.iload_n 1, 1) := by decide +kernel
theorem dX4_plusOrMinus_13 : decode cX4_plusOrMinus 13 = .ok (.bipush 43, 2) := by decide +kernel
theorem dX4_plusOrMinus_15 : decode cX4_plusOrMinus 15 = .ok (.if_icmp .eq 16, 3) := by decide +kernel
theorem dX4_plusOrMinus_18 : decode cX4_plusOrMinus 18 = .ok (.iload_n 1, 1) := by decide +kernel
theorem dX4_plusOrMinus_19 : decode cX4_plusOrMinus 19 = .ok (.bipush 45, 2) := by decide +kernel
theorem dX4_plusOrMinus_21 : decode cX4_plusOrMinus 21 = .ok (.if_icmp .eq 10, 3) := by decide +kernel
theorem dX4_plusOrMinus_24 : decode cX4_plusOrMinus 24 = .ok (.aload_n 0, 1) := by decide +kernel
theorem dX4_plusOrMinus_25 : decode cX4_plusOrMinus 25 = .ok (.iconst 1, 1) := by decide +kernel
theorem dX4_plusOrMinus_26 : decode cX4_plusOrMinus 26 = .ok (.putfield 29, 3) := by decide +kernel
theorem dX4_plusOrMinus_29 : decode cX4_plusOrMinus 29 = .ok (.iconst 0, 1) := by decide +kernel
theorem dX4_plusOrMinus_30 : decode cX4_plusOrMinus 30 = .ok (.ireturn, 1) := by decide +kernel
theorem dX4_plusOrMinus_31 : decode cX4_plusOrMinus 31 = .ok (.aload_n 0, 1) := by decide +kernel
theorem dX4_plusOrMinus_32 : decode cX4_plusOrMinus 32 = .ok (.dup, 1) := by decide +kernel
theorem dX4_plusOrMinus_33 : decode cX4_plusOrMinus 33 = .ok (.getfield 33, 3) := by decide +kernel
theorem dX4_plusOrMinus_36 : decode cX4_plusOrMinus 36 = .ok (.iconst 1, 1) := by decide +kernel
theorem dX4_plusOrMinus_37 : decode cX4_plusOrMinus 37 = .ok (.iadd, 1) := by decide +kernel
theorem dX4_plusOrMinus_38 : decode cX4_plusOrMinus 38 = .ok (.putfield 33, 3) := by decide +kernel
theorem dX4_plusOrMinus_41 : decode cX4_plusOrMinus 41 = .ok (.iload_n 1, 1) := by decide +kernel
theorem dX4_plusOrMinus_42 : decode cX4_plusOrMinus 42 = .ok (.bipush 43, 2) := by decide +kernel
theorem dX4_plusOrMinus_44 : decode cX4_plusOrMinus 44 = .ok (.if_icmp .ne 7, 3) := by decide +kernel
theorem dX4_plusOrMinus_47 : decode cX4_plusOrMinus 47 = .ok (.iconst 1, 1) := by decide +kernel
theorem dX4_plusOrMinus_48 : decode cX4_plusOrMinus 48 = .ok (.goto 4, 3) := by decide +kernel
theorem dX4_plusOrMinus_51 : decode cX4_plusOrMinus 51 = .ok (.iconst 0, 1) := by decide +kernel
theorem dX4_plusOrMinus_52 : decode cX4_plusOrMinus 52 = .ok (.invokestatic 54, 3) := by decide +kernel
theorem dX4_plusOrMinus_55 : decode cX4_plusOrMinus 55 = .ok (.ireturn, 1) := by decide +kernel
theorem dX4_digits_0 : decode cX4_digits 0 = .ok (.iconst 0, 1) := by decide +kernel
theorem dX4_digits_1 : decode cX4_digits 1 = .ok (.istore 4, 2) := by decide +kernel
theorem dX4_digits_3 : decode cX4_digits 3 = .ok (.iconst 1, 1) := by decide +kernel
theorem dX4_digits_4 : decode cX4_digits 4 = .ok (.istore 5, 2) := by decide +kernel
theorem dX4_digits_6 : decode cX4_digits 6 = .ok (.iconst 0, 1) := by decide +kernel
theorem dX4_digits_7 : decode cX4_digits 7 = .ok (.istore 6, 2) := by decide +kernel
theorem dX4_digits_9 : decode cX4_digits 9 = .ok (.iload 6, 2) := by decide +kernel
theorem dX4_digits_11 : decode cX4_digits 11 = .ok (.iload_n 1, 1) := by decide +kernel
theorem dX4_digits_12 : decode cX4_digits 12 = .ok (.if_icmp .ge 16, 3) := by decide +kernel
theorem dX4_digits_15 : decode cX4_digits 15 = .ok (.iload 5, 2) := by decide +kernel
theorem dX4_digits_17 : decode cX4_digits 17 = .ok (.bipush 10, 2) := by decide +kernel
theorem dX4_digits_19 : decode cX4_digits 19 = .ok (.imul, 1) := by decide +kernel
theorem dX4_digits_20 : decode cX4_digits 20 = .ok (.istore 5, 2) := by decide +kernel
theorem dX4_digits_22 : decode cX4_digits 22 = .ok (.iinc 6 1, 3) := by decide +kernel
theorem dX4_digits_25 : decode cX4_digits 25 = .ok (.goto (-16), 3) := by decide +kernel
theorem dX4_digits_28 : decode cX4_digits 28 = .ok (.iconst 0, 1) := by decide +kernel
theorem dX4_digits_29 : decode cX4_digits 29 = .ok (.istore 6, 2) := by decide +kernel
theorem dX4_digits_31 : decode cX4_digits 31 = .ok (.iload 6, 2) := by decide +kernel
theorem dX4_digits_33 : decode cX4_digits 33 = .ok (.iload_n 1, 1) := by decide +kernel
theorem dX4_digits_34 : decode cX4_digits 34 = .ok (.if_icmp .ge 101, 3) := by decide +kernel
theorem dX4_digits_37 : decode cX4_digits 37 = .ok (.aload_n 0, 1) := by decide +kernel
theorem dX4_digits_38 : decode cX4_digits 38 = .ok (.getfield 29, 3) := by decide +kernel
theorem dX4_digits_41 : decode cX4_digits 41 = .ok (.ifCond .ne 94, 3) := by decide +kernel
theorem dX4_digits_44 : decode cX4_digits 44 = .ok (.iload 5, 2) := by decide +kernel
theorem dX4_digits_46 : decode cX4_digits 46 = .ok (.bipush 10, 2) := by decide +kernel
theorem dX4_digits_48 : decode cX4_digits 48 = .ok (.idiv, 1) := by decide +kernel
theorem dX4_digits_49 : decode cX4_digits 49 = .ok (.istore 5, 2) := by decide +kernel
theorem dX4_digits_51 : decode cX4_digits 51 = .ok (.aload_n 0, 1) := by decide +kernel
theorem dX4_digits_52 : decode cX4_digits 52 = .ok (.invokevirtual 58, 3) := by decide +kernel
theorem dX4_digits_55 : decode cX4_digits 55 = .ok (.istore 7, 2) := by decide +kernel
theorem dX4_digits_57 : decode cX4_digits 57 = .ok (.iload 4, 2) := by decide +kernel
theorem dX4_digits_59 : decode cX4_digits 59 = .ok (.bipush 10, 2) := by decide +kernel
theorem dX4_digits_61 : decode cX4_digits 61 = .ok (.imul, 1) := by decide +kernel
theorem dX4_digits_62 : decode cX4_digits 62 = .ok (.iload 7, 2) := by decide +kernel
theorem dX4_digits_64 : decode cX4_digits 64 = .ok (.bipush 48, 2) := by decide +kernel
theorem dX4_digits_66 : decode cX4_digits 66 = .ok (.isub, 1) := by decide +kernel
theorem dX4_digits_67 : decode cX4_digits 67 = .ok (.iadd, 1) := by decide +kernel
theorem dX4_digits_68 : decode cX4_digits 68 = .ok (.istore 8, 2) := by decide +kernel
theorem dX4_digits_70 : decode cX4_digits 70 = .ok (.iload 7, 2) := by decide +kernel
theorem dX4_digits_72 : decode cX4_digits 72 = .ok (.bipush 48, 2) := by decide +kernel
theorem dX4_digits_74 : decode cX4_digits 74 = .ok (.if_icmp .lt 33, 3) := by decide +kernel
theorem dX4_digits_77 : decode cX4_digits 77 = .ok (.iload 7, 2) := by decide +kernel
theorem dX4_digits_79 : decode cX4_digits 79 = .ok (.bipush 57, 2) := by decide +kernel
theorem dX4_digits_81 : decode cX4_digits 81 = .ok (.if_icmp .gt 26, 3) := by decide +kernel
theorem dX4_digits_84 : decode cX4_digits 84 = .ok (.iload 8, 2) := by decide +kernel
theorem dX4_digits_86 : decode cX4_digits 86 = .ok (.iload 5, 2) := by decide +kernel
theorem dX4_digits_88 : decode cX4_digits 88 = .ok (.imul, 1) := by decide +kernel
theorem dX4_digits_89 : decode cX4_digits 89 = .ok (.iload_n 3, 1) := by decide +kernel
theorem dX4_digits_90 : decode cX4_digits 90 = .ok (.if_icmp .gt 17, 3) := by decide +kernel
theorem dX4_digits_93 : decode cX4_digits 93 = .ok (.iload 8, 2) := by decide +kernel
theorem dX4_digits_95 : decode cX4_digits 95 = .ok (.iload 5, 2) := by decide +kernel
theorem dX4_digits_97 : decode cX4_digits 97 = .ok (.imul, 1) := by decide +kernel
theorem dX4_digits_98 : decode cX4_digits 98 = .ok (.iload 5, 2) := by decide +kernel
theorem dX4_digits_100 : decode cX4_digits 100 = .ok (.iadd, 1) := by decide +kernel
theorem dX4_digits_101 : decode cX4_digits 101 = .ok (.iconst 1, 1) := by decide +kernel
theorem dX4_digits_102 : decode cX4_digits 102 = .ok (.isub, 1) := by decide +kernel
theorem dX4_digits_103 : decode cX4_digits 103 = .ok (.iload_n 2, 1) := by decide +kernel
theorem dX4_digits_104 : decode cX4_digits 104 = .ok (.if_icmp .ge 11, 3) := by decide +kernel
theorem dX4_digits_107 : decode cX4_digits 107 = .ok (.aload_n 0, 1) := by decide +kernel
theorem dX4_digits_108 : decode cX4_digits 108 = .ok (.iconst 1, 1) := by decide +kernel
theorem dX4_digits_109 : decode cX4_digits 109 = .ok (.putfield 29, 3) := by decide +kernel
theorem dX4_digits_112 : decode cX4_digits 112 = .ok (.goto 17, 3) := by decide +kernel
theorem dX4_digits_115 : decode cX4_digits 115 = .ok (.iload 8, 2) := by decide +kernel
theorem dX4_digits_117 : decode cX4_digits 117 = .ok (.istore 4, 2) := by decide +kernel
theorem dX4_digits_119 : decode cX4_digits 119 = .ok (.aload_n 0, 1) := by decide +kernel
theorem dX4_digits_120 : decode cX4_digits 120 = .ok (.dup, 1) := by decide +kernel
theorem dX4_digits_121 : decode cX4_digits 121 = .ok (.getfield 33, 3) := by decide +kernel
theorem dX4_digits_124 : decode cX4_digits 124 = .ok (.iconst 1, 1) := by decide +kernel
theorem dX4_digits_125 : decode cX4_digits 125 = .ok (.iadd, 1) := by decide +kernel
theorem dX4_digits_126 : decode cX4_digits 126 = .ok (.putfield 33, 3) := by decide +kernel
theorem dX4_digits_129 : decode cX4_digits 129 = .ok (.iinc 6 1, 3) := by decide +kernel
theorem dX4_digits_132 : decode cX4_digits 132 = .ok (.goto (-101), 3) := by decide +kernel
theorem dX4_digits_135 : decode cX4_digits 135 = .ok (.iload 4, 2) := by decide +kernel
theorem dX4_digits_137 : decode cX4_digits 137 = .ok (.ireturn, 1) := by decide +kernel
theorem dX5_init_0 : decode cX5_init 0 = .ok (.aload_n 0, 1) := by decide +kernel
theorem dX5_init_1 : decode cX5_init 1 = .ok (.invokespecial 1, 3) := by decide +kernel
theorem dX5_init_4 : decode cX5_init 4 = .ok (.aload_n 0, 1) := by decide +kernel
theorem dX5_init_5 : decode cX5_init 5 = .ok (.new 7, 3) := by decide +kernel
theorem dX5_init_8 : decode cX5_init 8 = .ok (.dup, 1) := by decide +kernel
theorem dX5_init_9 : decode cX5_init 9 = .ok (.invokespecial 9, 3) := by decide +kernel
theorem dX5_init_12 : decode cX5_init 12 = .ok (.putfield 10, 3) := by decide +kernel
theorem dX5_init_15 : decode cX5_init 15 = .ok (.aload_n 0, 1) := by decide +kernel
theorem dX5_init_16 : decode cX5_init 16 = .ok (.new 16, 3) := by decide +kernel
theorem dX5_init_19 : decode cX5_init 19 = .ok (.dup, 1) := by decide +kernel
theorem dX5_init_20 : decode cX5_init 20 = .ok (.invokespecial 18, 3) := by decide +kernel
theorem dX5_init_23 : decode cX5_init 23 = .ok (.putfield 19, 3) := by decide +kernel
theorem dX5_init_26 : decode cX5_init 26 = .ok (.aload_n 0, 1) := by decide +kernel
theorem dX5_init_27 : decode cX5_init 27 = .ok (.new 16, 3) := by decide +kernel
theorem dX5_init_30 : decode cX5_init 30 = .ok (.dup, 1) := by decide +kernel
theorem dX5_init_31 : decode cX5_init 31 = .ok (.invokespecial 18, 3) := by decide +kernel
theorem dX5_init_34 : decode cX5_init 34 = .ok (.putfield 23, 3) := by decide +kernel
theorem dX5_init_37 : decode cX5_init 37 = .ok (.aload_n 0, 1) := by decide +kernel
theorem dX5_init_38 : decode cX5_init 38 = .ok (.new 26, 3) := by decide +kernel
theorem dX5_init_41 : decode cX5_init 41 = .ok (.dup, 1) := by decide +kernel
theorem dX5_init_42 : decode cX5_init 42 = .ok (.invokespecial 28, 3) := by decide +kernel
theorem dX5_init_45 : decode cX5_init 45 = .ok (.putfield 29, 3) := by decide +kernel
theorem dX5_init_48 : decode cX5_init 48 = .ok (.aload_n 0, 1) := by decide +kernel
theorem dX5_init_49 : decode cX5_init 49 = .ok (.iconst 2, 1) := by decide +kernel
theorem dX5_init_50 : decode cX5_init 50 = .ok (.anewarray 16, 3) := by decide +kernel
theorem dX5_init_53 : decode cX5_init 53 = .ok (.putfield 33, 3) := by decide +kernel
theorem dX5_init_56 : decode cX5_init 56 = .ok (.aload_n 0, 1) := by decide +kernel
theorem dX5_init_57 : decode cX5_init 57 = .ok (.iconst 2, 1) := by decide +kernel
theorem dX5_init_58 : decode cX5_init 58 = .ok (.newarray .boolean, 2) := by decide +kernel
theorem dX5_init_60 : decode cX5_init 60 = .ok (.putfield 37, 3) := by decide +kernel
theorem dX5_init_63 : decode cX5_init 63 = .ok (.iconst 0, 1) := by decide +kernel
theorem dX5_init_64 : decode cX5_init 64 = .ok (.istore_n 1, 1) := by decide +kernel
theorem dX5_init_65 : decode cX5_init 65 = .ok (.iload_n 1, 1) := by decide +kernel
theorem dX5_init_66 : decode cX5_init 66 = .ok (.iconst 2, 1) := by decide +kernel
theorem dX5_init_67 : decode cX5_init 67 = .ok (.if_icmp .ge 22, 3) := by decide +kernel
theorem dX5_init_70 : decode cX5_init 70 = .ok (.aload_n 0, 1) := by decide +kernel
theorem dX5_init_71 : decode cX5_init 71 = .ok (.getfield 33, 3) := by decide +kernel
theorem dX5_init_74 : decode cX5_init 74 = .ok (.iload_n 1, 1) := by decide +kernel
theorem dX5_init_75 : decode cX5_init 75 = .ok (.new 16, 3) := by decide +kernel
theorem dX5_init_78 : decode cX5_init 78 = .ok (.dup, 1) := by decide +kernel
theorem dX5_init_79 : decode cX5_init 79 = .ok (.invokespecial 18, 3) := by decide +kernel
theorem dX5_init_82 : decode cX5_init 82 = .ok (.aastore, 1) := by decide +kernel
theorem dX5_init_83 : decode cX5_init 83 = .ok (.iinc 1 1, 3) := by decide +kernel
theorem dX5_init_86 : decode cX5_init 86 = .ok (.goto (-21), 3) := by decide +kernel
theorem dX5_init_89 : decode cX5_init 89 = .ok (.return_, 1) := by decide +kernel
theorem dX5_append_0 : decode cX5_append 0 = .ok (.iload_n 1, 1) := by decide +kernel
theorem dX5_append_1 : decode cX5_append 1 = .ok (.iconst 0, 1) := by decide +kernel
theorem dX5_append_2 : decode cX5_append 2 = .ok (.sipush 255, 3) := by decide +kernel
theorem dX5_append_5 : decode cX5_append 5 = .ok (.invokestatic 41, 3) := by decide +kernel
theorem dX5_append_8 : decode cX5_append 8 = .ok (.ifCond .ne 13, 3) := by decide +kernel
theorem dX5_append_11 : decode cX5_append 11 = .ok (.new 45, 3) := by decide +kernel
theorem dX5_append_14 : decode cX5_append 14 = .ok (.dup, 1) := by decide +kernel
theorem dX5_append_15 : decode cX5_append 15 = .ok (.ldc 47, 2) := by decide +kernel
theorem dX5_append_17 : decode cX5_append 17 = .ok (.invokespecial 49, 3) := by decide +kernel
theorem dX5_append_20 : decode cX5_append 20 = .ok (.athrow, 1) := by decide +kernel
theorem dX5_append_21 : decode cX5_append 21 = .ok (.aload_n 0, 1) := by decide +kernel
theorem dX5_append_22 : decode cX5_append 22 = .ok (.getfield 10, 3) := by decide +kernel
theorem dX5_append_25 : decode cX5_append 25 = .ok (.invokevirtual 52, 3) := by decide +kernel
theorem dX5_append_28 : decode cX5_append 28 = .ok (.ifCond .eq 13, 3) := by decide +kernel
theorem dX5_append_31 : decode cX5_append 31 = .ok (.new 56, 3) := by decide +kernel
theorem dX5_append_34 : decode cX5_append 34 = .ok (.dup, 1) := by decide +kernel
theorem dX5_append_35 : decode cX5_append 35 = .ok (.ldc 58, 2) := by decide +kernel
theorem dX5_append_37 : decode cX5_append 37 = .ok (.invokespecial 60, 3) := by decide +kernel
theorem dX5_append_40 : decode cX5_append 40 = .ok (.athrow, 1) := by decide +kernel
theorem dX5_append_41 : decode cX5_append 41 = .ok (.aload_n 0, 1) := by decide +kernel
theorem dX5_append_42 : decode cX5_append 42 = .ok (.getfield 10, 3) := by decide +kernel
theorem dX5_append_45 : decode cX5_append 45 = .ok (.iload_n 1, 1) := by decide +kernel
theorem dX5_append_46 : decode cX5_append 46 = .ok (.i2c, 1) := by decide +kernel
theorem dX5_append_47 : decode cX5_append 47 = .ok (.invokevirtual 61, 3) := by decide +kernel
theorem dX5_append_50 : decode cX5_append 50 = .ok (.ireturn, 1) := by decide +kernel
theorem dX5_clearText_0 : decode cX5_clearText 0 = .ok (.aload_n 0, 1) := by decide +kernel
theorem dX5_clearText_1 : decode cX5_clearText 1 = .ok (.getfield 10, 3) := by decide +kernel
theorem dX5_clearText_4 : decode cX5_clearText 4 = .ok (.invokevirtual 65, 3) := by decide +kernel
theorem dX5_clearText_7 : decode cX5_clearText 7 = .ok (.ireturn, 1) := by decide +kernel
theorem dX5_errorPosition_0 : decode cX5_errorPosition 0 = .ok (.aload_n 0, 1) := by decide +kernel
theorem dX5_errorPosition_1 : decode cX5_errorPosition 1 = .ok (.getfield 10, 3) := by decide +kernel
theorem dX5_errorPosition_4 : decode cX5_errorPosition 4 = .ok (.invokevirtual 69, 3) := by decide +kernel
theorem dX5_errorPosition_7 : decode cX5_errorPosition 7 = .ok (.ireturn, 1) := by decide +kernel
theorem dX5_load_0 : decode cX5_load 0 = .ok (.aload_n 0, 1) := by decide +kernel
theorem dX5_load_1 : decode cX5_load 1 = .ok (.getfield 10, 3) := by decide +kernel
theorem dX5_load_4 : decode cX5_load 4 = .ok (.invokevirtual 69, 3) := by decide +kernel
theorem dX5_load_7 : decode cX5_load 7 = .ok (.iconst (-1), 1) := by decide +kernel
theorem dX5_load_8 : decode cX5_load 8 = .ok (.if_icmp .eq 13, 3) := by decide +kernel
theorem dX5_load_11 : decode cX5_load 11 = .ok (.new 56, 3) := by decide +kernel
theorem dX5_load_14 : decode cX5_load 14 = .ok (.dup, 1) := by decide +kernel
theorem dX5_load_15 : decode cX5_load 15 = .ok (.ldc 72, 2) := by decide +kernel
theorem dX5_load_17 : decode cX5_load 17 = .ok (.invokespecial 60, 3) := by decide +kernel
theorem dX5_load_20 : decode cX5_load 20 = .ok (.athrow, 1) := by decide +kernel
theorem dX5_load_21 : decode cX5_load 21 = .ok (.aload_n 0, 1) := by decide +kernel
theorem dX5_load_22 : decode cX5_load 22 = .ok (.getfield 19, 3) := by decide +kernel
theorem dX5_load_25 : decode cX5_load 25 = .ok (.invokevirtual 74, 3) := by decide +kernel
theorem dX5_load_28 : decode cX5_load 28 = .ok (.aload_n 0, 1) := by decide +kernel
theorem dX5_load_29 : decode cX5_load 29 = .ok (.getfield 29, 3) := by decide +kernel
theorem dX5_load_32 : decode cX5_load 32 = .ok (.invokevirtual 77, 3) := by decide +kernel
theorem dX5_load_35 : decode cX5_load 35 = .ok (.iconst 0, 1) := by decide +kernel
theorem dX5_load_36 : decode cX5_load 36 = .ok (.istore_n 1, 1) := by decide +kernel
theorem dX5_load_37 : decode cX5_load 37 = .ok (.iload_n 1, 1) := by decide +kernel
theorem dX5_load_38 : decode cX5_load 38 = .ok (.iconst 2, 1) := by decide +kernel
theorem dX5_load_39 : decode cX5_load 39 = .ok (.if_icmp .ge 16, 3) := by decide +kernel
theorem dX5_load_42 : decode cX5_load 42 = .ok (.aload_n 0, 1) := by decide +kernel
theorem dX5_load_43 : decode cX5_load 43 = .ok (.getfield 37, 3) := by decide +kernel
theorem dX5_load_46 : decode cX5_load 46 = .ok (.iload_n 1, 1) := by decide +kernel
theorem dX5_load_47 : decode cX5_load 47 = .ok (.iconst 0, 1) := by decide +kernel
theorem dX5_load_48 : decode cX5_load 48 = .ok (.bastore, 1) := by decide +kernel
theorem dX5_load_49 : decode cX5_load 49 = .ok (.iinc 1 1, 3) := by decide +kernel
theorem dX5_load_52 : decode cX5_load 52 = .ok (.goto (-15), 3) := by decide +kernel
theorem dX5_load_55 : decode cX5_load 55 = .ok (.aload_n 0, 1) := by decide +kernel
theorem dX5_load_56 : decode cX5_load 56 = .ok (.getfield 10, 3) := by decide +kernel
theorem dX5_load_59 : decode cX5_load 59 = .ok (.aload_n 0, 1) := by decide +kernel
theorem dX5_load_60 : decode cX5_load 60 = .ok (.getfield 19, 3) := by decide +kernel
theorem dX5_load_63 : decode cX5_load 63 = .ok (.invokevirtual 80, 3) := by decide +kernel
theorem dX5_load_66 : decode cX5_load 66 = .ok (.ireturn, 1) := by decide +kernel
theorem dX5_about_0 : decode cX5_about 0 = .ok (.iload_n 1, 1) := by decide +kernel
theorem dX5_about_1 : decode cX5_about 1 = .ok (.iconst 0, 1) := by decide +kernel
theorem dX5_about_2 : decode cX5_about 2 = .ok (.bipush 11, 2) := by decide +kernel
theorem dX5_about_4 : decode cX5_about 4 = .ok (.invokestatic 41, 3) := by decide +kernel
theorem dX5_about_7 : decode cX5_about 7 = .ok (.ifCond .ne 13, 3) := by decide +kernel
theorem dX5_about_10 : decode cX5_about 10 = .ok (.new 45, 3) := by decide +kernel
theorem dX5_about_13 : decode cX5_about 13 = .ok (.dup, 1) := by decide +kernel
theorem dX5_about_14 : decode cX5_about 14 = .ok (.ldc 84, 2) := by decide +kernel
theorem dX5_about_16 : decode cX5_about 16 = .ok (.invokespecial 49, 3) := by decide +kernel
theorem dX5_about_19 : decode cX5_about 19 = .ok (.athrow, 1) := by decide +kernel
theorem dX5_about_20 : decode cX5_about 20 = .ok (.aload_n 0, 1) := by decide +kernel
theorem dX5_about_21 : decode cX5_about 21 = .ok (.getfield 19, 3) := by decide +kernel
theorem dX5_about_24 : decode cX5_about 24 = .ok (.iload_n 1, 1) := by decide +kernel
theorem dX5_about_25 : decode cX5_about 25 = .ok (.invokevirtual 86, 3) := by decide +kernel
theorem dX5_about_28 : decode cX5_about 28 = .ok (.ireturn, 1) := by decide +kernel
theorem dX5_rowOf_0 : decode cX5_rowOf 0 = .ok (.aload_n 0, 1) := by decide +kernel
theorem dX5_rowOf_1 : decode cX5_rowOf 1 = .ok (.getfield 19, 3) := by decide +kernel
theorem dX5_rowOf_4 : decode cX5_rowOf 4 = .ok (.getfield 90, 3) := by decide +kernel
theorem dX5_rowOf_7 : decode cX5_rowOf 7 = .ok (.iload_n 1, 1) := by decide +kernel
theorem dX5_rowOf_8 : decode cX5_rowOf 8 = .ok (.invokevirtual 94, 3) := by decide +kernel
theorem dX5_rowOf_11 : decode cX5_rowOf 11 = .ok (.ifCond .ne 13, 3) := by decide +kernel
theorem dX5_rowOf_14 : decode cX5_rowOf 14 = .ok (.new 100, 3) := by decide +kernel
theorem dX5_rowOf_17 : decode cX5_rowOf 17 = .ok (.dup, 1) := by decide +kernel
theorem dX5_rowOf_18 : decode cX5_rowOf 18 = .ok (.ldc 102, 2) := by decide +kernel
theorem dX5_rowOf_20 : decode cX5_rowOf 20 = .ok (.invokespecial 104, 3) := by decide +kernel
theorem dX5_rowOf_23 : decode cX5_rowOf 23 = .ok (.athrow, 1) := by decide +kernel
theorem dX5_rowOf_24 : decode cX5_rowOf 24 = .ok (.iload_n 2, 1) := by decide +kernel
theorem dX5_rowOf_25 : decode cX5_rowOf 25 = .ok (.iconst 0, 1) := by decide +kernel
theorem dX5_rowOf_26 : decode cX5_rowOf 26 = .ok (.iconst 5, 1) := by decide +kernel
theorem dX5_rowOf_27 : decode cX5_rowOf 27 = .ok (.invokestatic 41, 3) := by decide +kernel
theorem dX5_rowOf_30 : decode cX5_rowOf 30 = .ok (.ifCond .ne 13, 3) := by decide +kernel
theorem dX5_rowOf_33 : decode cX5_rowOf 33 = .ok (.new 45, 3) := by decide +kernel
theorem dX5_rowOf_36 : decode cX5_rowOf 36 = .ok (.dup, 1) := by decide +kernel
theorem dX5_rowOf_37 : decode cX5_rowOf 37 = .ok (.ldc 105, 2) := by decide +kernel
theorem dX5_rowOf_39 : decode cX5_rowOf 39 = .ok (.invokespecial 49, 3) := by decide +kernel
theorem dX5_rowOf_42 : decode cX5_rowOf 42 = .ok (.athrow, 1) := by decide +kernel
theorem dX5_rowOf_43 : decode cX5_rowOf 43 = .ok (.iload_n 2, 1) := by decide +kernel
theorem dX5_rowOf_44 : decode cX5_rowOf 44 = .ok (.iconst 5, 1) := by decide +kernel
theorem dX5_rowOf_45 : decode cX5_rowOf 45 = .ok (.if_icmp .ne 14, 3) := by decide +kernel
theorem dX5_rowOf_48 : decode cX5_rowOf 48 = .ok (.aload_n 0, 1) := by decide +kernel
theorem dX5_rowOf_49 : decode cX5_rowOf 49 = .ok (.getfield 19, 3) := by decide +kernel
theorem dX5_rowOf_52 : decode cX5_rowOf 52 = .ok (.iload_n 1, 1) := by decide +kernel
theorem dX5_rowOf_53 : decode cX5_rowOf 53 = .ok (.invokevirtual 107, 3) := by decide +kernel
theorem dX5_rowOf_56 : decode cX5_rowOf 56 = .ok (.goto 15, 3) := by decide +kernel
theorem dX5_rowOf_59 : decode cX5_rowOf 59 = .ok (.aload_n 0, 1) := by decide +kernel
theorem dX5_rowOf_60 : decode cX5_rowOf 60 = .ok (.getfield 19, 3) := by decide +kernel
theorem dX5_rowOf_63 : decode cX5_rowOf 63 = .ok (.getfield 90, 3) := by decide +kernel
theorem dX5_rowOf_66 : decode cX5_rowOf 66 = .ok (.iload_n 1, 1) := by decide +kernel
theorem dX5_rowOf_67 : decode cX5_rowOf 67 = .ok (.iload_n 2, 1) := by decide +kernel
theorem dX5_rowOf_68 : decode cX5_rowOf 68 = .ok (.invokevirtual 110, 3) := by decide +kernel
theorem dX5_rowOf_71 : decode cX5_rowOf 71 = .ok (.ireturn, 1) := by decide +kernel
theorem dX5_segmentOf_0 : decode cX5_segmentOf 0 = .ok (.iload_n 1, 1) := by decide +kernel
theorem dX5_segmentOf_1 : decode cX5_segmentOf 1 = .ok (.iconst 0, 1) := by decide +kernel
theorem dX5_segmentOf_2 : decode cX5_segmentOf 2 = .ok (.aload_n 0, 1) := by decide +kernel
theorem dX5_segmentOf_3 : decode cX5_segmentOf 3 = .ok (.getfield 19, 3) := by decide +kernel
theorem dX5_segmentOf_6 : decode cX5_segmentOf 6 = .ok (.getfield 90, 3) := by decide +kernel
theorem dX5_segmentOf_9 : decode cX5_segmentOf 9 = .ok (.invokevirtual 114, 3) := by decide +kernel
theorem dX5_segmentOf_12 : decode cX5_segmentOf 12 = .ok (.iconst 1, 1) := by decide +kernel
theorem dX5_segmentOf_13 : decode cX5_segmentOf 13 = .ok (.isub, 1) := by decide +kernel
theorem dX5_segmentOf_14 : decode cX5_segmentOf 14 = .ok (.invokestatic 41, 3) := by decide +kernel
theorem dX5_segmentOf_17 : decode cX5_segmentOf 17 = .ok (.ifCond .ne 13, 3) := by decide +kernel
theorem dX5_segmentOf_20 : decode cX5_segmentOf 20 = .ok (.new 100, 3) := by decide +kernel
theorem dX5_segmentOf_23 : decode cX5_segmentOf 23 = .ok (.dup, 1) := by decide +kernel
theorem dX5_segmentOf_24 : decode cX5_segmentOf 24 = .ok (.ldc 117, 2) := by decide +kernel
theorem dX5_segmentOf_26 : decode cX5_segmentOf 26 = .ok (.invokespecial 104, 3) := by decide +kernel
theorem dX5_segmentOf_29 : decode cX5_segmentOf 29 = .ok (.athrow, 1) := by decide +kernel
theorem dX5_segmentOf_30 : decode cX5_segmentOf 30 = .ok (.iload_n 2, 1) := by decide +kernel
theorem dX5_segmentOf_31 : decode cX5_segmentOf 31 = .ok (.iconst 0, 1) := by decide +kernel
theorem dX5_segmentOf_32 : decode cX5_segmentOf 32 = .ok (.iconst 5, 1) := by decide +kernel
theorem dX5_segmentOf_33 : decode cX5_segmentOf 33 = .ok (.invokestatic 41, 3) := by decide +kernel
theorem dX5_segmentOf_36 : decode cX5_segmentOf 36 = .ok (.ifCond .ne 13, 3) := by decide +kernel
theorem dX5_segmentOf_39 : decode cX5_segmentOf 39 = .ok (.new 45, 3) := by decide +kernel
theorem dX5_segmentOf_42 : decode cX5_segmentOf 42 = .ok (.dup, 1) := by decide +kernel
theorem dX5_segmentOf_43 : decode cX5_segmentOf 43 = .ok (.ldc 105, 2) := by decide +kernel
theorem dX5_segmentOf_45 : decode cX5_segmentOf 45 = .ok (.invokespecial 49, 3) := by decide +kernel
theorem dX5_segmentOf_48 : decode cX5_segmentOf 48 = .ok (.athrow, 1) := by decide +kernel
theorem dX5_segmentOf_49 : decode cX5_segmentOf 49 = .ok (.aload_n 0, 1) := by decide +kernel
theorem dX5_segmentOf_50 : decode cX5_segmentOf 50 = .ok (.getfield 19, 3) := by decide +kernel
theorem dX5_segmentOf_53 : decode cX5_segmentOf 53 = .ok (.iload_n 1, 1) := by decide +kernel
theorem dX5_segmentOf_54 : decode cX5_segmentOf 54 = .ok (.iload_n 2, 1) := by decide +kernel
theorem dX5_segmentOf_55 : decode cX5_segmentOf 55 = .ok (.invokevirtual 119, 3) := by decide +kernel
theorem dX5_segmentOf_58 : decode cX5_segmentOf 58 = .ok (.ireturn, 1) := by decide +kernel
theorem dX5_readerOf_0 : decode cX5_readerOf 0 = .ok (.aload_n 0, 1) := by decide +kernel
theorem dX5_readerOf_1 : decode cX5_readerOf 1 = .ok (.getfield 19, 3) := by decide +kernel
theorem dX5_readerOf_4 : decode cX5_readerOf 4 = .ok (.iload_n 1, 1) := by decide +kernel
theorem dX5_readerOf_5 : decode cX5_readerOf 5 = .ok (.invokevirtual 122, 3) := by decide +kernel
theorem dX5_readerOf_8 : decode cX5_readerOf 8 = .ok (.astore_n 3, 1) := by decide +kernel
theorem dX5_readerOf_9 : decode cX5_readerOf 9 = .ok (.aload_n 3, 1) := by decide +kernel
theorem dX5_readerOf_10 : decode cX5_readerOf 10 = .ok (.ifnonnull 13, 3) := by decide +kernel
theorem dX5_readerOf_13 : decode cX5_readerOf 13 = .ok (.new 100, 3) := by decide +kernel
theorem dX5_readerOf_16 : decode cX5_readerOf 16 = .ok (.dup, 1) := by decide +kernel
theorem dX5_readerOf_17 : decode cX5_readerOf 17 = .ok (.ldc 126, 2) := by decide +kernel
theorem dX5_readerOf_19 : decode cX5_readerOf 19 = .ok (.invokespecial 104, 3) := by decide +kernel
theorem dX5_readerOf_22 : decode cX5_readerOf 22 = .ok (.athrow, 1) := by decide +kernel
theorem dX5_readerOf_23 : decode cX5_readerOf 23 = .ok (.iload_n 2, 1) := by decide +kernel
theorem dX5_readerOf_24 : decode cX5_readerOf 24 = .ok (.iconst 0, 1) := by decide +kernel
theorem dX5_readerOf_25 : decode cX5_readerOf 25 = .ok (.bipush 8, 2) := by decide +kernel
theorem dX5_readerOf_27 : decode cX5_readerOf 27 = .ok (.invokestatic 41, 3) := by decide +kernel
theorem dX5_readerOf_30 : decode cX5_readerOf 30 = .ok (.ifCond .ne 13, 3) := by decide +kernel
theorem dX5_readerOf_33 : decode cX5_readerOf 33 = .ok (.new 45, 3) := by decide +kernel
theorem dX5_readerOf_36 : decode cX5_readerOf 36 = .ok (.dup, 1) := by decide +kernel
theorem dX5_readerOf_37 : decode cX5_readerOf 37 = .ok (.ldc 128, 2) := by decide +kernel
theorem dX5_readerOf_39 : decode cX5_readerOf 39 = .ok (.invokespecial 49, 3) := by decide +kernel
theorem dX5_readerOf_42 : decode cX5_readerOf 42 = .ok (.athrow, 1) := by decide +kernel
theorem dX5_readerOf_43 : decode cX5_readerOf 43 = .ok (.aload_n 0, 1) := by decide +kernel
theorem dX5_readerOf_44 : decode cX5_readerOf 44 = .ok (.getfield 19, 3) := by decide +kernel
theorem dX5_readerOf_47 : decode cX5_readerOf 47 = .ok (.aload_n 3, 1) := by decide +kernel
theorem dX5_readerOf_48 : decode cX5_readerOf 48 = .ok (.iload_n 2, 1) := by decide +kernel
theorem dX5_readerOf_49 : decode cX5_readerOf 49 = .ok (.invokevirtual 130, 3) := by decide +kernel
theorem dX5_readerOf_52 : decode cX5_readerOf 52 = .ok (.ireturn, 1) := by decide +kernel
theorem dX5_table_0 : decode cX5_table 0 = .ok (.aload_n 0, 1) := by decide +kernel
theorem dX5_table_1 : decode cX5_table 1 = .ok (.getfield 19, 3) := by decide +kernel
theorem dX5_table_4 : decode cX5_table 4 = .ok (.iload_n 1, 1) := by decide +kernel
theorem dX5_table_5 : decode cX5_table 5 = .ok (.invokevirtual 122, 3) := by decide +kernel
theorem dX5_table_8 : decode cX5_table 8 = .ok (.astore_n 3, 1) := by decide +kernel
theorem dX5_table_9 : decode cX5_table 9 = .ok (.aload_n 3, 1) := by decide +kernel
theorem dX5_table_10 : decode cX5_table 10 = .ok (.ifnonnull 13, 3) := by decide +kernel
theorem dX5_table_13 : decode cX5_table 13 = .ok (.new 100, 3) := by decide +kernel
theorem dX5_table_16 : decode cX5_table 16 = .ok (.dup, 1) := by decide +kernel
theorem dX5_table_17 : decode cX5_table 17 = .ok (.ldc 126, 2) := by decide +kernel
theorem dX5_table_19 : decode cX5_table 19 = .ok (.invokespecial 104, 3) := by decide +kernel
theorem dX5_table_22 : decode cX5_table 22 = .ok (.athrow, 1) := by decide +kernel
theorem dX5_table_23 : decode cX5_table 23 = .ok (.iload_n 2, 1) := by decide +kernel
theorem dX5_table_24 : decode cX5_table 24 = .ok (.iconst 0, 1) := by decide +kernel
theorem dX5_table_25 : decode cX5_table 25 = .ok (.bipush 7, 2) := by decide +kernel
theorem dX5_table_27 : decode cX5_table 27 = .ok (.invokestatic 41, 3) := by decide +kernel
theorem dX5_table_30 : decode cX5_table 30 = .ok (.ifCond .ne 13, 3) := by decide +kernel
theorem dX5_table_33 : decode cX5_table 33 = .ok (.new 45, 3) := by decide +kernel
theorem dX5_table_36 : decode cX5_table 36 = .ok (.dup, 1) := by decide +kernel
theorem dX5_table_37 : decode cX5_table 37 = .ok (.ldc 134, 2) := by decide +kernel
theorem dX5_table_39 : decode cX5_table 39 = .ok (.invokespecial 49, 3) := by decide +kernel
theorem dX5_table_42 : decode cX5_table 42 = .ok (.athrow, 1) := by decide +kernel
theorem dX5_table_43 : decode cX5_table 43 = .ok (.aload_n 3, 1) := by decide +kernel
theorem dX5_table_44 : decode cX5_table 44 = .ok (.getfield 136, 3) := by decide +kernel
theorem dX5_table_47 : decode cX5_table 47 = .ok (.iload_n 2, 1) := by decide +kernel
theorem dX5_table_48 : decode cX5_table 48 = .ok (.invokestatic 142, 3) := by decide +kernel
theorem dX5_table_51 : decode cX5_table 51 = .ok (.ireturn, 1) := by decide +kernel
theorem dX5_base_0 : decode cX5_base 0 = .ok (.iload_n 1, 1) := by decide +kernel
theorem dX5_base_1 : decode cX5_base 1 = .ok (.iconst 0, 1) := by decide +kernel
theorem dX5_base_2 : decode cX5_base 2 = .ok (.bipush 7, 2) := by decide +kernel
theorem dX5_base_4 : decode cX5_base 4 = .ok (.invokestatic 41, 3) := by decide +kernel
theorem dX5_base_7 : decode cX5_base 7 = .ok (.ifCond .ne 13, 3) := by decide +kernel
theorem dX5_base_10 : decode cX5_base 10 = .ok (.new 45, 3) := by decide +kernel
theorem dX5_base_13 : decode cX5_base 13 = .ok (.dup, 1) := by decide +kernel
theorem dX5_base_14 : decode cX5_base 14 = .ok (.ldc 134, 2) := by decide +kernel
theorem dX5_base_16 : decode cX5_base 16 = .ok (.invokespecial 49, 3) := by decide +kernel
theorem dX5_base_19 : decode cX5_base 19 = .ok (.athrow, 1) := by decide +kernel
theorem dX5_base_20 : decode cX5_base 20 = .ok (.aload_n 0, 1) := by decide +kernel
theorem dX5_base_21 : decode cX5_base 21 = .ok (.getfield 19, 3) := by decide +kernel
theorem dX5_base_24 : decode cX5_base 24 = .ok (.getfield 90, 3) := by decide +kernel
theorem dX5_base_27 : decode cX5_base 27 = .ok (.getfield 146, 3) := by decide +kernel
theorem dX5_base_30 : decode cX5_base 30 = .ok (.iload_n 1, 1) := by decide +kernel
theorem dX5_base_31 : decode cX5_base 31 = .ok (.invokestatic 142, 3) := by decide +kernel
theorem dX5_base_34 : decode cX5_base 34 = .ok (.ireturn, 1) := by decide +kernel
theorem dX5_setting_0 : decode cX5_setting 0 = .ok (.iload_n 1, 1) := by decide +kernel
theorem dX5_setting_1 : decode cX5_setting 1 = .ok (.iconst 0, 1) := by decide +kernel
theorem dX5_setting_2 : decode cX5_setting 2 = .ok (.iconst 5, 1) := by decide +kernel
theorem dX5_setting_3 : decode cX5_setting 3 = .ok (.invokestatic 41, 3) := by decide +kernel
theorem dX5_setting_6 : decode cX5_setting 6 = .ok (.ifCond .ne 13, 3) := by decide +kernel
theorem dX5_setting_9 : decode cX5_setting 9 = .ok (.new 45, 3) := by decide +kernel
theorem dX5_setting_12 : decode cX5_setting 12 = .ok (.dup, 1) := by decide +kernel
theorem dX5_setting_13 : decode cX5_setting 13 = .ok (.ldc 105, 2) := by decide +kernel
theorem dX5_setting_15 : decode cX5_setting 15 = .ok (.invokespecial 49, 3) := by decide +kernel
theorem dX5_setting_18 : decode cX5_setting 18 = .ok (.athrow, 1) := by decide +kernel
theorem dX5_setting_19 : decode cX5_setting 19 = .ok (.aload_n 0, 1) := by decide +kernel
theorem dX5_setting_20 : decode cX5_setting 20 = .ok (.getfield 19, 3) := by decide +kernel
theorem dX5_setting_23 : decode cX5_setting 23 = .ok (.getfield 149, 3) := by decide +kernel
theorem dX5_setting_26 : decode cX5_setting 26 = .ok (.iload_n 1, 1) := by decide +kernel
theorem dX5_setting_27 : decode cX5_setting 27 = .ok (.invokestatic 142, 3) := by decide +kernel
theorem dX5_setting_30 : decode cX5_setting 30 = .ok (.ireturn, 1) := by decide +kernel
theorem dX5_write_0 : decode cX5_write 0 = .ok (.aload_n 0, 1) := by decide +kernel
theorem dX5_write_1 : decode cX5_write 1 = .ok (.iconst 0, 1) := by decide +kernel
theorem dX5_write_2 : decode cX5_write 2 = .ok (.iload_n 1, 1) := by decide +kernel
theorem dX5_write_3 : decode cX5_write 3 = .ok (.iload_n 2, 1) := by decide +kernel
theorem dX5_write_4 : decode cX5_write 4 = .ok (.iload_n 3, 1) := by decide +kernel
theorem dX5_write_5 : decode cX5_write 5 = .ok (.invokevirtual 152, 3) := by decide +kernel
theorem dX5_write_8 : decode cX5_write 8 = .ok (.ireturn, 1) := by decide +kernel
theorem dX5_join_0 : decode cX5_join 0 = .ok (.aload_n 0, 1) := by decide +kernel
theorem dX5_join_1 : decode cX5_join 1 = .ok (.iconst 1, 1) := by decide +kernel
theorem dX5_join_2 : decode cX5_join 2 = .ok (.iload_n 1, 1) := by decide +kernel
theorem dX5_join_3 : decode cX5_join 3 = .ok (.iload_n 2, 1) := by decide +kernel
theorem dX5_join_4 : decode cX5_join 4 = .ok (.iload_n 3, 1) := by decide +kernel
theorem dX5_join_5 : decode cX5_join 5 = .ok (.invokestatic 156, 3) := by decide +kernel
theorem dX5_join_8 : decode cX5_join 8 = .ok (.invokevirtual 152, 3) := by decide +kernel
theorem dX5_join_11 : decode cX5_join 11 = .ok (.ireturn, 1) := by decide +kernel
theorem dX5_read_0 : decode cX5_read 0 = .ok (.aload_n 0, 1) := by decide +kernel
theorem dX5_read_1 : decode cX5_read 1 = .ok (.iconst 2, 1) := by decide +kernel
theorem dX5_read_2 : decode cX5_read 2 = .ok (.iload_n 1, 1) := by decide +kernel
theorem dX5_read_3 : decode cX5_read 3 = .ok (.iload_n 2, 1) := by decide +kernel
theorem dX5_read_4 : decode cX5_read 4 = .ok (.iconst 0, 1) := by decide +kernel
theorem dX5_read_5 : decode cX5_read 5 = .ok (.invokevirtual 152, 3) := by decide +kernel
theorem dX5_read_8 : decode cX5_read 8 = .ok (.ireturn, 1) := by decide +kernel
theorem dX5_leave_0 : decode cX5_leave 0 = .ok (.aload_n 0, 1) := by decide +kernel
theorem dX5_leave_1 : decode cX5_leave 1 = .ok (.iconst 3, 1) := by decide +kernel
theorem dX5_leave_2 : decode cX5_leave 2 = .ok (.iload_n 1, 1) := by decide +kernel
theorem dX5_leave_3 : decode cX5_leave 3 = .ok (.iconst 0, 1) := by decide +kernel
theorem dX5_leave_4 : decode cX5_leave 4 = .ok (.iconst 0, 1) := by decide +kernel
theorem dX5_leave_5 : decode cX5_leave 5 = .ok (.invokevirtual 152, 3) := by decide +kernel
theorem dX5_leave_8 : decode cX5_leave 8 = .ok (.ireturn, 1) := by decide +kernel
theorem dX5_hold_0 : decode cX5_hold 0 = .ok (.aload_n 0, 1) := by decide +kernel
theorem dX5_hold_1 : decode cX5_hold 1 = .ok (.iconst 4, 1) := by decide +kernel
theorem dX5_hold_2 : decode cX5_hold 2 = .ok (.iload_n 1, 1) := by decide +kernel
theorem dX5_hold_3 : decode cX5_hold 3 = .ok (.iload_n 2, 1) := by decide +kernel
theorem dX5_hold_4 : decode cX5_hold 4 = .ok (.invokestatic 156, 3) := by decide +kernel
theorem dX5_hold_7 : decode cX5_hold 7 = .ok (.iconst 0, 1) := by decide +kernel
theorem dX5_hold_8 : decode cX5_hold 8 = .ok (.invokevirtual 152, 3) := by decide +kernel
theorem dX5_hold_11 : decode cX5_hold 11 = .ok (.ireturn, 1) := by decide +kernel
theorem dX5_set_0 : decode cX5_set 0 = .ok (.aload_n 0, 1) := by decide +kernel
theorem dX5_set_1 : decode cX5_set 1 = .ok (.iconst 5, 1) := by decide +kernel
theorem dX5_set_2 : decode cX5_set 2 = .ok (.iload_n 1, 1) := by decide +kernel
theorem dX5_set_3 : decode cX5_set 3 = .ok (.iload_n 2, 1) := by decide +kernel
theorem dX5_set_4 : decode cX5_set 4 = .ok (.iconst 0, 1) := by decide +kernel
theorem dX5_set_5 : decode cX5_set 5 = .ok (.invokevirtual 152, 3) := by decide +kernel
theorem dX5_set_8 : decode cX5_set 8 = .ok (.ireturn, 1) := by decide +kernel
theorem dX5_ticks_0 : decode cX5_ticks 0 = .ok (.aload_n 0, 1) := by decide +kernel
theorem dX5_ticks_1 : decode cX5_ticks 1 = .ok (.bipush 6, 2) := by decide +kernel
theorem dX5_ticks_3 : decode cX5_ticks 3 = .ok (.iload_n 1, 1) := by decide +kernel
theorem dX5_ticks_4 : decode cX5_ticks 4 = .ok (.iconst 0, 1) := by decide +kernel
theorem dX5_ticks_5 : decode cX5_ticks 5 = .ok (.iconst 0, 1) := by decide +kernel
theorem dX5_ticks_6 : decode cX5_ticks 6 = .ok (.invokevirtual 152, 3) := by decide +kernel
theorem dX5_ticks_9 : decode cX5_ticks 9 = .ok (.ireturn, 1) := by decide +kernel
theorem dX5_undo_0 : decode cX5_undo 0 = .ok (.aload_n 0, 1) := by decide +kernel
theorem dX5_undo_1 : decode cX5_undo 1 = .ok (.getfield 29, 3) := by decide +kernel
theorem dX5_undo_4 : decode cX5_undo 4 = .ok (.getfield 160, 3) := by decide +kernel
theorem dX5_undo_7 : decode cX5_undo 7 = .ok (.ifCond .ne 13, 3) := by decide +kernel
theorem dX5_undo_10 : decode cX5_undo 10 = .ok (.new 56, 3) := by decide +kernel
theorem dX5_undo_13 : decode cX5_undo 13 = .ok (.dup, 1) := by decide +kernel
theorem dX5_undo_14 : decode cX5_undo 14 = .ok (.ldc 164, 2) := by decide +kernel
theorem dX5_undo_16 : decode cX5_undo 16 = .ok (.invokespecial 60, 3) := by decide +kernel
theorem dX5_undo_19 : decode cX5_undo 19 = .ok (.athrow, 1) := by decide +kernel
theorem dX5_undo_20 : decode cX5_undo 20 = .ok (.aload_n 0, 1) := by decide +kernel
theorem dX5_undo_21 : decode cX5_undo 21 = .ok (.getfield 29, 3) := by decide +kernel
theorem dX5_undo_24 : decode cX5_undo 24 = .ok (.aload_n 0, 1) := by decide +kernel
theorem dX5_undo_25 : decode cX5_undo 25 = .ok (.getfield 19, 3) := by decide +kernel
theorem dX5_undo_28 : decode cX5_undo 28 = .ok (.invokevirtual 166, 3) := by decide +kernel
theorem dX5_undo_31 : decode cX5_undo 31 = .ok (.ireturn, 1) := by decide +kernel
theorem dX5_why_0 : decode cX5_why 0 = .ok (.aload_n 0, 1) := by decide +kernel
theorem dX5_why_1 : decode cX5_why 1 = .ok (.getfield 19, 3) := by decide +kernel
theorem dX5_why_4 : decode cX5_why 4 = .ok (.invokevirtual 169, 3) := by decide +kernel
theorem dX5_why_7 : decode cX5_why 7 = .ok (.ireturn, 1) := by decide +kernel
theorem dX5_slowest_0 : decode cX5_slowest 0 = .ok (.aload_n 0, 1) := by decide +kernel
theorem dX5_slowest_1 : decode cX5_slowest 1 = .ok (.getfield 19, 3) := by decide +kernel
theorem dX5_slowest_4 : decode cX5_slowest 4 = .ok (.invokevirtual 172, 3) := by decide +kernel
theorem dX5_slowest_7 : decode cX5_slowest 7 = .ok (.ireturn, 1) := by decide +kernel
theorem dX5_truth_0 : decode cX5_truth 0 = .ok (.iload_n 2, 1) := by decide +kernel
theorem dX5_truth_1 : decode cX5_truth 1 = .ok (.aload_n 0, 1) := by decide +kernel
theorem dX5_truth_2 : decode cX5_truth 2 = .ok (.getfield 19, 3) := by decide +kernel
theorem dX5_truth_5 : decode cX5_truth 5 = .ok (.getfield 90, 3) := by decide +kernel
theorem dX5_truth_8 : decode cX5_truth 8 = .ok (.getfield 175, 3) := by decide +kernel
theorem dX5_truth_11 : decode cX5_truth 11 = .ok (.aload_n 0, 1) := by decide +kernel
theorem dX5_truth_12 : decode cX5_truth 12 = .ok (.getfield 19, 3) := by decide +kernel
theorem dX5_truth_15 : decode cX5_truth 15 = .ok (.getfield 90, 3) := by decide +kernel
theorem dX5_truth_18 : decode cX5_truth 18 = .ok (.getfield 178, 3) := by decide +kernel
theorem dX5_truth_21 : decode cX5_truth 21 = .ok (.invokestatic 41, 3) := by decide +kernel
theorem dX5_truth_24 : decode cX5_truth 24 = .ok (.ifCond .ne 13, 3) := by decide +kernel
theorem dX5_truth_27 : decode cX5_truth 27 = .ok (.new 100, 3) := by decide +kernel
theorem dX5_truth_30 : decode cX5_truth 30 = .ok (.dup, 1) := by decide +kernel
theorem dX5_truth_31 : decode cX5_truth 31 = .ok (.ldc 181, 2) := by decide +kernel
theorem dX5_truth_33 : decode cX5_truth 33 = .ok (.invokespecial 104, 3) := by decide +kernel
theorem dX5_truth_36 : decode cX5_truth 36 = .ok (.athrow, 1) := by decide +kernel
theorem dX5_truth_37 : decode cX5_truth 37 = .ok (.iload_n 1, 1) := by decide +kernel
theorem dX5_truth_38 : decode cX5_truth 38 = .ok (.iconst 0, 1) := by decide +kernel
theorem dX5_truth_39 : decode cX5_truth 39 = .ok (.bipush 7, 2) := by decide +kernel
theorem dX5_truth_41 : decode cX5_truth 41 = .ok (.invokestatic 41, 3) := by decide +kernel
theorem dX5_truth_44 : decode cX5_truth 44 = .ok (.ifCond .eq 12, 3) := by decide +kernel
theorem dX5_truth_47 : decode cX5_truth 47 = .ok (.iload_n 3, 1) := by decide +kernel
theorem dX5_truth_48 : decode cX5_truth 48 = .ok (.iconst 0, 1) := by decide +kernel
theorem dX5_truth_49 : decode cX5_truth 49 = .ok (.iconst 1, 1) := by decide +kernel
theorem dX5_truth_50 : decode cX5_truth 50 = .ok (.invokestatic 41, 3) := by decide +kernel
theorem dX5_truth_53 : decode cX5_truth 53 = .ok (.ifCond .ne 13, 3) := by decide +kernel
theorem dX5_truth_56 : decode cX5_truth 56 = .ok (.new 45, 3) := by decide +kernel
theorem dX5_truth_59 : decode cX5_truth 59 = .ok (.dup, 1) := by decide +kernel
theorem dX5_truth_60 : decode cX5_truth 60 = .ok (.ldc 183, 2) := by decide +kernel
theorem dX5_truth_62 : decode cX5_truth 62 = .ok (.invokespecial 49, 3) := by decide +kernel
theorem dX5_truth_65 : decode cX5_truth 65 = .ok (.athrow, 1) := by decide +kernel
theorem dX5_truth_66 : decode cX5_truth 66 = .ok (.iload_n 3, 1) := by decide +kernel
theorem dX5_truth_67 : decode cX5_truth 67 = .ok (.ifCond .ne 18, 3) := by decide +kernel
theorem dX5_truth_70 : decode cX5_truth 70 = .ok (.aload_n 0, 1) := by decide +kernel
theorem dX5_truth_71 : decode cX5_truth 71 = .ok (.getfield 19, 3) := by decide +kernel
theorem dX5_truth_74 : decode cX5_truth 74 = .ok (.getfield 90, 3) := by decide +kernel
theorem dX5_truth_77 : decode cX5_truth 77 = .ok (.iload_n 1, 1) := by decide +kernel
theorem dX5_truth_78 : decode cX5_truth 78 = .ok (.iload_n 2, 1) := by decide +kernel
theorem dX5_truth_79 : decode cX5_truth 79 = .ok (.invokevirtual 185, 3) := by decide +kernel
theorem dX5_truth_82 : decode cX5_truth 82 = .ok (.goto 15, 3) := by decide +kernel
theorem dX5_truth_85 : decode cX5_truth 85 = .ok (.aload_n 0, 1) := by decide +kernel
theorem dX5_truth_86 : decode cX5_truth 86 = .ok (.getfield 19, 3) := by decide +kernel
theorem dX5_truth_89 : decode cX5_truth 89 = .ok (.getfield 90, 3) := by decide +kernel
theorem dX5_truth_92 : decode cX5_truth 92 = .ok (.iload_n 1, 1) := by decide +kernel
theorem dX5_truth_93 : decode cX5_truth 93 = .ok (.iload_n 2, 1) := by decide +kernel
theorem dX5_truth_94 : decode cX5_truth 94 = .ok (.invokevirtual 188, 3) := by decide +kernel
theorem dX5_truth_97 : decode cX5_truth 97 = .ok (.ireturn, 1) := by decide +kernel
theorem dX5_droppedIn_0 : decode cX5_droppedIn 0 = .ok (.aload_n 0, 1) := by decide +kernel
theorem dX5_droppedIn_1 : decode cX5_droppedIn 1 = .ok (.invokevirtual 191, 3) := by decide +kernel
theorem dX5_droppedIn_4 : decode cX5_droppedIn 4 = .ok (.astore_n 1, 1) := by decide +kernel
theorem dX5_droppedIn_5 : decode cX5_droppedIn 5 = .ok (.iconst 1, 1) := by decide +kernel
theorem dX5_droppedIn_6 : decode cX5_droppedIn 6 = .ok (.istore_n 2, 1) := by decide +kernel
theorem dX5_droppedIn_7 : decode cX5_droppedIn 7 = .ok (.iload_n 2, 1) := by decide +kernel
theorem dX5_droppedIn_8 : decode cX5_droppedIn 8 = .ok (.sipush 300, 3) := by decide +kernel
theorem dX5_droppedIn_11 : decode cX5_droppedIn 11 = .ok (.if_icmp .gt 19, 3) := by decide +kernel
theorem dX5_droppedIn_14 : decode cX5_droppedIn 14 = .ok (.aload_n 1, 1) := by decide +kernel
theorem dX5_droppedIn_15 : decode cX5_droppedIn 15 = .ok (.iconst 1, 1) := by decide +kernel
theorem dX5_droppedIn_16 : decode cX5_droppedIn 16 = .ok (.invokevirtual 195, 3) := by decide +kernel
theorem dX5_droppedIn_19 : decode cX5_droppedIn 19 = .ok (.ifCond .le 5, 3) := by decide +kernel
theorem dX5_droppedIn_22 : decode cX5_droppedIn 22 = .ok (.iload_n 2, 1) := by decide +kernel
theorem dX5_droppedIn_23 : decode cX5_droppedIn 23 = .ok (.ireturn, 1) := by decide +kernel
theorem dX5_droppedIn_24 : decode cX5_droppedIn 24 = .ok (.iinc 2 1, 3) := by decide +kernel
theorem dX5_droppedIn_27 : decode cX5_droppedIn 27 = .ok (.goto (-20), 3) := by decide +kernel
theorem dX5_droppedIn_30 : decode cX5_droppedIn 30 = .ok (.iconst (-1), 1) := by decide +kernel
theorem dX5_droppedIn_31 : decode cX5_droppedIn 31 = .ok (.ireturn, 1) := by decide +kernel
theorem dX5_lostIn_0 : decode cX5_lostIn 0 = .ok (.aload_n 0, 1) := by decide +kernel
theorem dX5_lostIn_1 : decode cX5_lostIn 1 = .ok (.getfield 19, 3) := by decide +kernel
theorem dX5_lostIn_4 : decode cX5_lostIn 4 = .ok (.iload_n 1, 1) := by decide +kernel
theorem dX5_lostIn_5 : decode cX5_lostIn 5 = .ok (.invokevirtual 122, 3) := by decide +kernel
theorem dX5_lostIn_8 : decode cX5_lostIn 8 = .ok (.ifnonnull 13, 3) := by decide +kernel
theorem dX5_lostIn_11 : decode cX5_lostIn 11 = .ok (.new 100, 3) := by decide +kernel
theorem dX5_lostIn_14 : decode cX5_lostIn 14 = .ok (.dup, 1) := by decide +kernel
theorem dX5_lostIn_15 : decode cX5_lostIn 15 = .ok (.ldc 126, 2) := by decide +kernel
theorem dX5_lostIn_17 : decode cX5_lostIn 17 = .ok (.invokespecial 104, 3) := by decide +kernel
theorem dX5_lostIn_20 : decode cX5_lostIn 20 = .ok (.athrow, 1) := by decide +kernel
theorem dX5_lostIn_21 : decode cX5_lostIn 21 = .ok (.aload_n 0, 1) := by decide +kernel
theorem dX5_lostIn_22 : decode cX5_lostIn 22 = .ok (.invokevirtual 191, 3) := by decide +kernel
theorem dX5_lostIn_25 : decode cX5_lostIn 25 = .ok (.astore_n 2, 1) := by decide +kernel
theorem dX5_lostIn_26 : decode cX5_lostIn 26 = .ok (.aload_n 2, 1) := by decide +kernel
theorem dX5_lostIn_27 : decode cX5_lostIn 27 = .ok (.iload_n 1, 1) := by decide +kernel
theorem dX5_lostIn_28 : decode cX5_lostIn 28 = .ok (.invokevirtual 198, 3) := by decide +kernel
theorem dX5_lostIn_31 : decode cX5_lostIn 31 = .ok (.ifCond .ne 5, 3) := by decide +kernel
theorem dX5_lostIn_34 : decode cX5_lostIn 34 = .ok (.iconst (-1), 1) := by decide +kernel
theorem dX5_lostIn_35 : decode cX5_lostIn 35 = .ok (.ireturn, 1) := by decide +kernel
theorem dX5_lostIn_36 : decode cX5_lostIn 36 = .ok (.iconst 1, 1) := by decide +kernel
theorem dX5_lostIn_37 : decode cX5_lostIn 37 = .ok (.istore_n 3, 1) := by decide +kernel
theorem dX5_lostIn_38 : decode cX5_lostIn 38 = .ok (.iload_n 3, 1) := by decide +kernel
theorem dX5_lostIn_39 : decode cX5_lostIn 39 = .ok (.sipush 300, 3) := by decide +kernel
theorem dX5_lostIn_42 : decode cX5_lostIn 42 = .ok (.if_icmp .gt 25, 3) := by decide +kernel
theorem dX5_lostIn_45 : decode cX5_lostIn 45 = .ok (.aload_n 2, 1) := by decide +kernel
theorem dX5_lostIn_46 : decode cX5_lostIn 46 = .ok (.iconst 1, 1) := by decide +kernel
theorem dX5_lostIn_47 : decode cX5_lostIn 47 = .ok (.invokevirtual 195, 3) := by decide +kernel
theorem dX5_lostIn_50 : decode cX5_lostIn 50 = .ok (.pop, 1) := by decide +kernel
theorem dX5_lostIn_51 : decode cX5_lostIn 51 = .ok (.aload_n 2, 1) := by decide +kernel
theorem dX5_lostIn_52 : decode cX5_lostIn 52 = .ok (.iload_n 1, 1) := by decide +kernel
theorem dX5_lostIn_53 : decode cX5_lostIn 53 = .ok (.invokevirtual 198, 3) := by decide +kernel
theorem dX5_lostIn_56 : decode cX5_lostIn 56 = .ok (.ifCond .ne 5, 3) := by decide +kernel
theorem dX5_lostIn_59 : decode cX5_lostIn 59 = .ok (.iload_n 3, 1) := by decide +kernel
theorem dX5_lostIn_60 : decode cX5_lostIn 60 = .ok (.ireturn, 1) := by decide +kernel
theorem dX5_lostIn_61 : decode cX5_lostIn 61 = .ok (.iinc 3 1, 3) := by decide +kernel
theorem dX5_lostIn_64 : decode cX5_lostIn 64 = .ok (.goto (-26), 3) := by decide +kernel
theorem dX5_lostIn_67 : decode cX5_lostIn 67 = .ok (.iconst (-1), 1) := by decide +kernel
theorem dX5_lostIn_68 : decode cX5_lostIn 68 = .ok (.ireturn, 1) := by decide +kernel
theorem dX5_ifFree_0 : decode cX5_ifFree 0 = .ok (.aload_n 0, 1) := by decide +kernel
theorem dX5_ifFree_1 : decode cX5_ifFree 1 = .ok (.getfield 19, 3) := by decide +kernel
theorem dX5_ifFree_4 : decode cX5_ifFree 4 = .ok (.iload_n 1, 1) := by decide +kernel
theorem dX5_ifFree_5 : decode cX5_ifFree 5 = .ok (.invokevirtual 122, 3) := by decide +kernel
theorem dX5_ifFree_8 : decode cX5_ifFree 8 = .ok (.ifnonnull 13, 3) := by decide +kernel
theorem dX5_ifFree_11 : decode cX5_ifFree 11 = .ok (.new 100, 3) := by decide +kernel
theorem dX5_ifFree_14 : decode cX5_ifFree 14 = .ok (.dup, 1) := by decide +kernel
theorem dX5_ifFree_15 : decode cX5_ifFree 15 = .ok (.ldc 126, 2) := by decide +kernel
theorem dX5_ifFree_17 : decode cX5_ifFree 17 = .ok (.invokespecial 104, 3) := by decide +kernel
theorem dX5_ifFree_20 : decode cX5_ifFree 20 = .ok (.athrow, 1) := by decide +kernel
theorem dX5_ifFree_21 : decode cX5_ifFree 21 = .ok (.aload_n 0, 1) := by decide +kernel
theorem dX5_ifFree_22 : decode cX5_ifFree 22 = .ok (.invokevirtual 191, 3) := by decide +kernel
theorem dX5_ifFree_25 : decode cX5_ifFree 25 = .ok (.astore_n 2, 1) := by decide +kernel
theorem dX5_ifFree_26 : decode cX5_ifFree 26 = .ok (.aload_n 2, 1) := by decide +kernel
theorem dX5_ifFree_27 : decode cX5_ifFree 27 = .ok (.iconst 4, 1) := by decide +kernel
theorem dX5_ifFree_28 : decode cX5_ifFree 28 = .ok (.iload_n 1, 1) := by decide +kernel
theorem dX5_ifFree_29 : decode cX5_ifFree 29 = .ok (.iconst 0, 1) := by decide +kernel
theorem dX5_ifFree_30 : decode cX5_ifFree 30 = .ok (.iconst 0, 1) := by decide +kernel
theorem dX5_ifFree_31 : decode cX5_ifFree 31 = .ok (.invokevirtual 201, 3) := by decide +kernel
theorem dX5_ifFree_34 : decode cX5_ifFree 34 = .ok (.pop, 1) := by decide +kernel
theorem dX5_ifFree_35 : decode cX5_ifFree 35 = .ok (.aload_n 2, 1) := by decide +kernel
theorem dX5_ifFree_36 : decode cX5_ifFree 36 = .ok (.iconst 1, 1) := by decide +kernel
theorem dX5_ifFree_37 : decode cX5_ifFree 37 = .ok (.invokevirtual 195, 3) := by decide +kernel
theorem dX5_ifFree_40 : decode cX5_ifFree 40 = .ok (.ireturn, 1) := by decide +kernel
theorem dX5_leastRoom_0 : decode cX5_leastRoom 0 = .ok (.iload_n 1, 1) := by decide +kernel
theorem dX5_leastRoom_1 : decode cX5_leastRoom 1 = .ok (.iconst 1, 1) := by decide +kernel
theorem dX5_leastRoom_2 : decode cX5_leastRoom 2 = .ok (.sipush 200, 3) := by decide +kernel
theorem dX5_leastRoom_5 : decode cX5_leastRoom 5 = .ok (.invokestatic 41, 3) := by decide +kernel
theorem dX5_leastRoom_8 : decode cX5_leastRoom 8 = .ok (.ifCond .ne 13, 3) := by decide +kernel
theorem dX5_leastRoom_11 : decode cX5_leastRoom 11 = .ok (.new 45, 3) := by decide +kernel
theorem dX5_leastRoom_14 : decode cX5_leastRoom 14 = .ok (.dup, 1) := by decide +kernel
theorem dX5_leastRoom_15 : decode cX5_leastRoom 15 = .ok (.ldc 205, 2) := by decide +kernel
theorem dX5_leastRoom_17 : decode cX5_leastRoom 17 = .ok (.invokespecial 49, 3) := by decide +kernel
theorem dX5_leastRoom_20 : decode cX5_leastRoom 20 = .ok (.athrow, 1) := by decide +kernel
theorem dX5_leastRoom_21 : decode cX5_leastRoom 21 = .ok (.aload_n 0, 1) := by decide +kernel
theorem dX5_leastRoom_22 : decode cX5_leastRoom 22 = .ok (.iconst 0, 1) := by decide +kernel
theorem dX5_leastRoom_23 : decode cX5_leastRoom 23 = .ok (.iload_n 1, 1) := by decide +kernel
theorem dX5_leastRoom_24 : decode cX5_leastRoom 24 = .ok (.invokevirtual 207, 3) := by decide +kernel
theorem dX5_leastRoom_27 : decode cX5_leastRoom 27 = .ok (.ifCond .eq 5, 3) := by decide +kernel
theorem dX5_leastRoom_30 : decode cX5_leastRoom 30 = .ok (.iconst 0, 1) := by decide +kernel
theorem dX5_leastRoom_31 : decode cX5_leastRoom 31 = .ok (.ireturn, 1) := by decide +kernel
theorem dX5_leastRoom_32 : decode cX5_leastRoom 32 = .ok (.aload_n 0, 1) := by decide +kernel
theorem dX5_leastRoom_33 : decode cX5_leastRoom 33 = .ok (.getfield 19, 3) := by decide +kernel
theorem dX5_leastRoom_36 : decode cX5_leastRoom 36 = .ok (.getfield 90, 3) := by decide +kernel
theorem dX5_leastRoom_39 : decode cX5_leastRoom 39 = .ok (.getfield 211, 3) := by decide +kernel
theorem dX5_leastRoom_42 : decode cX5_leastRoom 42 = .ok (.istore_n 2, 1) := by decide +kernel
theorem dX5_leastRoom_43 : decode cX5_leastRoom 43 = .ok (.iload_n 2, 1) := by decide +kernel
theorem dX5_leastRoom_44 : decode cX5_leastRoom 44 = .ok (.sipush 4000, 3) := by decide +kernel
theorem dX5_leastRoom_47 : decode cX5_leastRoom 47 = .ok (.if_icmp .gt 16, 3) := by decide +kernel
theorem dX5_leastRoom_50 : decode cX5_leastRoom 50 = .ok (.aload_n 0, 1) := by decide +kernel
theorem dX5_leastRoom_51 : decode cX5_leastRoom 51 = .ok (.iload_n 2, 1) := by decide +kernel
theorem dX5_leastRoom_52 : decode cX5_leastRoom 52 = .ok (.iload_n 1, 1) := by decide +kernel
theorem dX5_leastRoom_53 : decode cX5_leastRoom 53 = .ok (.invokevirtual 207, 3) := by decide +kernel
theorem dX5_leastRoom_56 : decode cX5_leastRoom 56 = .ok (.ifCond .eq 7, 3) := by decide +kernel
theorem dX5_leastRoom_59 : decode cX5_leastRoom 59 = .ok (.iload_n 2, 1) := by decide +kernel
theorem dX5_leastRoom_60 : decode cX5_leastRoom 60 = .ok (.goto 4, 3) := by decide +kernel
theorem dX5_leastRoom_63 : decode cX5_leastRoom 63 = .ok (.iconst (-1), 1) := by decide +kernel
theorem dX5_leastRoom_64 : decode cX5_leastRoom 64 = .ok (.ireturn, 1) := by decide +kernel
theorem dX5_runScript_0 : decode cX5_runScript 0 = .ok (.iload_n 1, 1) := by decide +kernel
theorem dX5_runScript_1 : decode cX5_runScript 1 = .ok (.iconst 1, 1) := by decide +kernel
theorem dX5_runScript_2 : decode cX5_runScript 2 = .ok (.iconst 3, 1) := by decide +kernel
theorem dX5_runScript_3 : decode cX5_runScript 3 = .ok (.invokestatic 41, 3) := by decide +kernel
theorem dX5_runScript_6 : decode cX5_runScript 6 = .ok (.ifCond .ne 13, 3) := by decide +kernel
theorem dX5_runScript_9 : decode cX5_runScript 9 = .ok (.new 45, 3) := by decide +kernel
theorem dX5_runScript_12 : decode cX5_runScript 12 = .ok (.dup, 1) := by decide +kernel
theorem dX5_runScript_13 : decode cX5_runScript 13 = .ok (.ldc 214, 2) := by decide +kernel
theorem dX5_runScript_15 : decode cX5_runScript 15 = .ok (.invokespecial 49, 3) := by decide +kernel
theorem dX5_runScript_18 : decode cX5_runScript 18 = .ok (.athrow, 1) := by decide +kernel
theorem dX5_runScript_19 : decode cX5_runScript 19 = .ok (.lload_n 2, 1) := by decide +kernel
theorem dX5_runScript_20 : decode cX5_runScript 20 = .ok (.lconst 0, 1) := by decide +kernel
theorem dX5_runScript_21 : decode cX5_runScript 21 = .ok (.lcmp, 1) := by decide +kernel
theorem dX5_runScript_22 : decode cX5_runScript 22 = .ok (.ifCond .lt 13, 3) := by decide +kernel
theorem dX5_runScript_25 : decode cX5_runScript 25 = .ok (.lload_n 2, 1) := by decide +kernel
theorem dX5_runScript_26 : decode cX5_runScript 26 = .ok (.iload_n 1, 1) := by decide +kernel
theorem dX5_runScript_27 : decode cX5_runScript 27 = .ok (.invokestatic 216, 3) := by decide +kernel
theorem dX5_runScript_30 : decode cX5_runScript 30 = .ok (.lconst 0, 1) := by decide +kernel
theorem dX5_runScript_31 : decode cX5_runScript 31 = .ok (.lcmp, 1) := by decide +kernel
theorem dX5_runScript_32 : decode cX5_runScript 32 = .ok (.ifCond .le 13, 3) := by decide +kernel
theorem dX5_runScript_35 : decode cX5_runScript 35 = .ok (.new 45, 3) := by decide +kernel
theorem dX5_runScript_38 : decode cX5_runScript 38 = .ok (.dup, 1) := by decide +kernel
theorem dX5_runScript_39 : decode cX5_runScript 39 = .ok (.ldc 220, 2) := by decide +kernel
theorem dX5_runScript_41 : decode cX5_runScript 41 = .ok (.invokespecial 49, 3) := by decide +kernel
theorem dX5_runScript_44 : decode cX5_runScript 44 = .ok (.athrow, 1) := by decide +kernel
theorem dX5_runScript_45 : decode cX5_runScript 45 = .ok (.aload_n 0, 1) := by decide +kernel
theorem dX5_runScript_46 : decode cX5_runScript 46 = .ok (.invokevirtual 191, 3) := by decide +kernel
theorem dX5_runScript_49 : decode cX5_runScript 49 = .ok (.astore 4, 2) := by decide +kernel
theorem dX5_runScript_51 : decode cX5_runScript 51 = .ok (.iconst 0, 1) := by decide +kernel
theorem dX5_runScript_52 : decode cX5_runScript 52 = .ok (.istore 5, 2) := by decide +kernel
theorem dX5_runScript_54 : decode cX5_runScript 54 = .ok (.iload 5, 2) := by decide +kernel
theorem dX5_runScript_56 : decode cX5_runScript 56 = .ok (.iload_n 1, 1) := by decide +kernel
theorem dX5_runScript_57 : decode cX5_runScript 57 = .ok (.if_icmp .ge 39, 3) := by decide +kernel
theorem dX5_runScript_60 : decode cX5_runScript 60 = .ok (.lload_n 2, 1) := by decide +kernel
theorem dX5_runScript_61 : decode cX5_runScript 61 = .ok (.iload_n 1, 1) := by decide +kernel
theorem dX5_runScript_62 : decode cX5_runScript 62 = .ok (.iconst 1, 1) := by decide +kernel
theorem dX5_runScript_63 : decode cX5_runScript 63 = .ok (.isub, 1) := by decide +kernel
theorem dX5_runScript_64 : decode cX5_runScript 64 = .ok (.iload 5, 2) := by decide +kernel
theorem dX5_runScript_66 : decode cX5_runScript 66 = .ok (.isub, 1) := by decide +kernel
theorem dX5_runScript_67 : decode cX5_runScript 67 = .ok (.invokestatic 216, 3) := by decide +kernel
theorem dX5_runScript_70 : decode cX5_runScript 70 = .ok (.ldc2_w 222, 3) := by decide +kernel
theorem dX5_runScript_73 : decode cX5_runScript 73 = .ok (.lrem, 1) := by decide +kernel
theorem dX5_runScript_74 : decode cX5_runScript 74 = .ok (.l2i, 1) := by decide +kernel
theorem dX5_runScript_75 : decode cX5_runScript 75 = .ok (.istore 6, 2) := by decide +kernel
theorem dX5_runScript_77 : decode cX5_runScript 77 = .ok (.aload 4, 2) := by decide +kernel
theorem dX5_runScript_79 : decode cX5_runScript 79 = .ok (.iload 6, 2) := by decide +kernel
theorem dX5_runScript_81 : decode cX5_runScript 81 = .ok (.invokestatic 224, 3) := by decide +kernel
theorem dX5_runScript_84 : decode cX5_runScript 84 = .ok (.ifCond .ne 6, 3) := by decide +kernel
theorem dX5_runScript_87 : decode cX5_runScript 87 = .ok (.iload 5, 2) := by decide +kernel
theorem dX5_runScript_89 : decode cX5_runScript 89 = .ok (.ireturn, 1) := by decide +kernel
theorem dX5_runScript_90 : decode cX5_runScript 90 = .ok (.iinc 5 1, 3) := by decide +kernel
theorem dX5_runScript_93 : decode cX5_runScript 93 = .ok (.goto (-39), 3) := by decide +kernel
theorem dX5_runScript_96 : decode cX5_runScript 96 = .ok (.iconst (-1), 1) := by decide +kernel
theorem dX5_runScript_97 : decode cX5_runScript 97 = .ok (.ireturn, 1) := by decide +kernel
theorem dX5_simulate_0 : decode cX5_simulate 0 = .ok (.iload_n 3, 1) := by decide +kernel
theorem dX5_simulate_1 : decode cX5_simulate 1 = .ok (.iconst 1, 1) := by decide +kernel
theorem dX5_simulate_2 : decode cX5_simulate 2 = .ok (.bipush 60, 2) := by decide +kernel
theorem dX5_simulate_4 : decode cX5_simulate 4 = .ok (.invokestatic 41, 3) := by decide +kernel
theorem dX5_simulate_7 : decode cX5_simulate 7 = .ok (.ifCond .ne 13, 3) := by decide +kernel
theorem dX5_simulate_10 : decode cX5_simulate 10 = .ok (.new 45, 3) := by decide +kernel
theorem dX5_simulate_13 : decode cX5_simulate 13 = .ok (.dup, 1) := by decide +kernel
theorem dX5_simulate_14 : decode cX5_simulate 14 = .ok (.ldc 228, 2) := by decide +kernel
theorem dX5_simulate_16 : decode cX5_simulate 16 = .ok (.invokespecial 49, 3) := by decide +kernel
theorem dX5_simulate_19 : decode cX5_simulate 19 = .ok (.athrow, 1) := by decide +kernel
theorem dX5_simulate_20 : decode cX5_simulate 20 = .ok (.aload_n 0, 1) := by decide +kernel
theorem dX5_simulate_21 : decode cX5_simulate 21 = .ok (.invokevirtual 191, 3) := by decide +kernel
theorem dX5_simulate_24 : decode cX5_simulate 24 = .ok (.astore 4, 2) := by decide +kernel
theorem dX5_simulate_26 : decode cX5_simulate 26 = .ok (.lload_n 1, 1) := by decide +kernel
theorem dX5_simulate_27 : decode cX5_simulate 27 = .ok (.lstore 5, 2) := by decide +kernel
theorem dX5_simulate_29 : decode cX5_simulate 29 = .ok (.iconst 0, 1) := by decide +kernel
theorem dX5_simulate_30 : decode cX5_simulate 30 = .ok (.istore 7, 2) := by decide +kernel
theorem dX5_simulate_32 : decode cX5_simulate 32 = .ok (.iload 7, 2) := by decide +kernel
theorem dX5_simulate_34 : decode cX5_simulate 34 = .ok (.iload_n 3, 1) := by decide +kernel
theorem dX5_simulate_35 : decode cX5_simulate 35 = .ok (.if_icmp .ge 32, 3) := by decide +kernel
theorem dX5_simulate_38 : decode cX5_simulate 38 = .ok (.lload 5, 2) := by decide +kernel
theorem dX5_simulate_40 : decode cX5_simulate 40 = .ok (.ldc2_w 230, 3) := by decide +kernel
theorem dX5_simulate_43 : decode cX5_simulate 43 = .ok (.lmul, 1) := by decide +kernel
theorem dX5_simulate_44 : decode cX5_simulate 44 = .ok (.ldc2_w 232, 3) := by decide +kernel
theorem dX5_simulate_47 : decode cX5_simulate 47 = .ok (.ladd, 1) := by decide +kernel
theorem dX5_simulate_48 : decode cX5_simulate 48 = .ok (.lstore 5, 2) := by decide +kernel
theorem dX5_simulate_50 : decode cX5_simulate 50 = .ok (.aload 4, 2) := by decide +kernel
theorem dX5_simulate_52 : decode cX5_simulate 52 = .ok (.lload 5, 2) := by decide +kernel
theorem dX5_simulate_54 : decode cX5_simulate 54 = .ok (.bipush 33, 2) := by decide +kernel
theorem dX5_simulate_56 : decode cX5_simulate 56 = .ok (.lushr, 1) := by decide +kernel
theorem dX5_simulate_57 : decode cX5_simulate 57 = .ok (.l2i, 1) := by decide +kernel
theorem dX5_simulate_58 : decode cX5_simulate 58 = .ok (.invokestatic 234, 3) := by decide +kernel
theorem dX5_simulate_61 : decode cX5_simulate 61 = .ok (.iinc 7 1, 3) := by decide +kernel
theorem dX5_simulate_64 : decode cX5_simulate 64 = .ok (.goto (-32), 3) := by decide +kernel
theorem dX5_simulate_67 : decode cX5_simulate 67 = .ok (.aload 4, 2) := by decide +kernel
theorem dX5_simulate_69 : decode cX5_simulate 69 = .ok (.getfield 90, 3) := by decide +kernel
theorem dX5_simulate_72 : decode cX5_simulate 72 = .ok (.getfield 238, 3) := by decide +kernel
theorem dX5_simulate_75 : decode cX5_simulate 75 = .ok (.aload_n 0, 1) := by decide +kernel
theorem dX5_simulate_76 : decode cX5_simulate 76 = .ok (.getfield 19, 3) := by decide +kernel
theorem dX5_simulate_79 : decode cX5_simulate 79 = .ok (.getfield 90, 3) := by decide +kernel
theorem dX5_simulate_82 : decode cX5_simulate 82 = .ok (.getfield 238, 3) := by decide +kernel
theorem dX5_simulate_85 : decode cX5_simulate 85 = .ok (.isub, 1) := by decide +kernel
theorem dX5_simulate_86 : decode cX5_simulate 86 = .ok (.istore 7, 2) := by decide +kernel
theorem dX5_simulate_88 : decode cX5_simulate 88 = .ok (.aload 4, 2) := by decide +kernel
theorem dX5_simulate_90 : decode cX5_simulate 90 = .ok (.getfield 241, 3) := by decide +kernel
theorem dX5_simulate_93 : decode cX5_simulate 93 = .ok (.aload_n 0, 1) := by decide +kernel
theorem dX5_simulate_94 : decode cX5_simulate 94 = .ok (.getfield 19, 3) := by decide +kernel
theorem dX5_simulate_97 : decode cX5_simulate 97 = .ok (.getfield 241, 3) := by decide +kernel
theorem dX5_simulate_100 : decode cX5_simulate 100 = .ok (.isub, 1) := by decide +kernel
theorem dX5_simulate_101 : decode cX5_simulate 101 = .ok (.bipush 99, 2) := by decide +kernel
theorem dX5_simulate_103 : decode cX5_simulate 103 = .ok (.invokestatic 244, 3) := by decide +kernel
theorem dX5_simulate_106 : decode cX5_simulate 106 = .ok (.istore 8, 2) := by decide +kernel
theorem dX5_simulate_108 : decode cX5_simulate 108 = .ok (.sipush 10000, 3) := by decide +kernel
theorem dX5_simulate_111 : decode cX5_simulate 111 = .ok (.iload 7, 2) := by decide +kernel
theorem dX5_simulate_113 : decode cX5_simulate 113 = .ok (.imul, 1) := by decide +kernel
theorem dX5_simulate_114 : decode cX5_simulate 114 = .ok (.bipush 100, 2) := by decide +kernel
theorem dX5_simulate_116 : decode cX5_simulate 116 = .ok (.iload 8, 2) := by decide +kernel
theorem dX5_simulate_118 : decode cX5_simulate 118 = .ok (.imul, 1) := by decide +kernel
theorem dX5_simulate_119 : decode cX5_simulate 119 = .ok (.iadd, 1) := by decide +kernel
theorem dX5_simulate_120 : decode cX5_simulate 120 = .ok (.aload 4, 2) := by decide +kernel
theorem dX5_simulate_122 : decode cX5_simulate 122 = .ok (.invokevirtual 249, 3) := by decide +kernel
theorem dX5_simulate_125 : decode cX5_simulate 125 = .ok (.iadd, 1) := by decide +kernel
theorem dX5_simulate_126 : decode cX5_simulate 126 = .ok (.ireturn, 1) := by decide +kernel
theorem dX5_save_0 : decode cX5_save 0 = .ok (.iload_n 1, 1) := by decide +kernel
theorem dX5_save_1 : decode cX5_save 1 = .ok (.iconst 0, 1) := by decide +kernel
theorem dX5_save_2 : decode cX5_save 2 = .ok (.iconst 1, 1) := by decide +kernel
theorem dX5_save_3 : decode cX5_save 3 = .ok (.invokestatic 41, 3) := by decide +kernel
theorem dX5_save_6 : decode cX5_save 6 = .ok (.ifCond .ne 13, 3) := by decide +kernel
theorem dX5_save_9 : decode cX5_save 9 = .ok (.new 100, 3) := by decide +kernel
theorem dX5_save_12 : decode cX5_save 12 = .ok (.dup, 1) := by decide +kernel
theorem dX5_save_13 : decode cX5_save 13 = .ok (.ldc 252, 2) := by decide +kernel
theorem dX5_save_15 : decode cX5_save 15 = .ok (.invokespecial 104, 3) := by decide +kernel
theorem dX5_save_18 : decode cX5_save 18 = .ok (.athrow, 1) := by decide +kernel
theorem dX5_save_19 : decode cX5_save 19 = .ok (.aload_n 0, 1) := by decide +kernel
theorem dX5_save_20 : decode cX5_save 20 = .ok (.getfield 33, 3) := by decide +kernel
theorem dX5_save_23 : decode cX5_save 23 = .ok (.iload_n 1, 1) := by decide +kernel
theorem dX5_save_24 : decode cX5_save 24 = .ok (.aaload, 1) := by decide +kernel
theorem dX5_save_25 : decode cX5_save 25 = .ok (.astore_n 2, 1) := by decide +kernel
theorem dX5_save_26 : decode cX5_save 26 = .ok (.aload_n 2, 1) := by decide +kernel
theorem dX5_save_27 : decode cX5_save 27 = .ok (.ifnull 11, 3) := by decide +kernel
theorem dX5_save_30 : decode cX5_save 30 = .ok (.aload_n 2, 1) := by decide +kernel
theorem dX5_save_31 : decode cX5_save 31 = .ok (.aload_n 0, 1) := by decide +kernel
theorem dX5_save_32 : decode cX5_save 32 = .ok (.getfield 19, 3) := by decide +kernel
theorem dX5_save_35 : decode cX5_save 35 = .ok (.invokevirtual 254, 3) := by decide +kernel
theorem dX5_save_38 : decode cX5_save 38 = .ok (.aload_n 0, 1) := by decide +kernel
theorem dX5_save_39 : decode cX5_save 39 = .ok (.getfield 37, 3) := by decide +kernel
theorem dX5_save_42 : decode cX5_save 42 = .ok (.iload_n 1, 1) := by decide +kernel
theorem dX5_save_43 : decode cX5_save 43 = .ok (.iconst 1, 1) := by decide +kernel
theorem dX5_save_44 : decode cX5_save 44 = .ok (.bastore, 1) := by decide +kernel
theorem dX5_save_45 : decode cX5_save 45 = .ok (.aload_n 0, 1) := by decide +kernel
theorem dX5_save_46 : decode cX5_save 46 = .ok (.getfield 19, 3) := by decide +kernel
theorem dX5_save_49 : decode cX5_save 49 = .ok (.getfield 258, 3) := by decide +kernel
theorem dX5_save_52 : decode cX5_save 52 = .ok (.ireturn, 1) := by decide +kernel
theorem dX5_restore_0 : decode cX5_restore 0 = .ok (.iload_n 1, 1) := by decide +kernel
theorem dX5_restore_1 : decode cX5_restore 1 = .ok (.iconst 0, 1) := by decide +kernel
theorem dX5_restore_2 : decode cX5_restore 2 = .ok (.iconst 1, 1) := by decide +kernel
theorem dX5_restore_3 : decode cX5_restore 3 = .ok (.invokestatic 41, 3) := by decide +kernel
theorem dX5_restore_6 : decode cX5_restore 6 = .ok (.ifCond .ne 13, 3) := by decide +kernel
theorem dX5_restore_9 : decode cX5_restore 9 = .ok (.new 100, 3) := by decide +kernel
theorem dX5_restore_12 : decode cX5_restore 12 = .ok (.dup, 1) := by decide +kernel
theorem dX5_restore_13 : decode cX5_restore 13 = .ok (.ldc 252, 2) := by decide +kernel
theorem dX5_restore_15 : decode cX5_restore 15 = .ok (.invokespecial 104, 3) := by decide +kernel
theorem dX5_restore_18 : decode cX5_restore 18 = .ok (.athrow, 1) := by decide +kernel
theorem dX5_restore_19 : decode cX5_restore 19 = .ok (.aload_n 0, 1) := by decide +kernel
theorem dX5_restore_20 : decode cX5_restore 20 = .ok (.getfield 37, 3) := by decide +kernel
theorem dX5_restore_23 : decode cX5_restore 23 = .ok (.iload_n 1, 1) := by decide +kernel
theorem dX5_restore_24 : decode cX5_restore 24 = .ok (.baload, 1) := by decide +kernel
theorem dX5_restore_25 : decode cX5_restore 25 = .ok (.ifCond .ne 14, 3) := by decide +kernel
theorem dX5_restore_28 : decode cX5_restore 28 = .ok (.new 56, 3) := by decide +kernel
theorem dX5_restore_31 : decode cX5_restore 31 = .ok (.dup, 1) := by decide +kernel
theorem dX5_restore_32 : decode cX5_restore 32 = .ok (.ldc_w 261, 3) := by decide +kernel
theorem dX5_restore_35 : decode cX5_restore 35 = .ok (.invokespecial 60, 3) := by decide +kernel
theorem dX5_restore_38 : decode cX5_restore 38 = .ok (.athrow, 1) := by decide +kernel
theorem dX5_restore_39 : decode cX5_restore 39 = .ok (.aload_n 0, 1) := by decide +kernel
theorem dX5_restore_40 : decode cX5_restore 40 = .ok (.getfield 19, 3) := by decide +kernel
theorem dX5_restore_43 : decode cX5_restore 43 = .ok (.aload_n 0, 1) := by decide +kernel
theorem dX5_restore_44 : decode cX5_restore 44 = .ok (.getfield 33, 3) := by decide +kernel
theorem dX5_restore_47 : decode cX5_restore 47 = .ok (.iload_n 1, 1) := by decide +kernel
theorem dX5_restore_48 : decode cX5_restore 48 = .ok (.aaload, 1) := by decide +kernel
theorem dX5_restore_49 : decode cX5_restore 49 = .ok (.invokevirtual 254, 3) := by decide +kernel
theorem dX5_restore_52 : decode cX5_restore 52 = .ok (.aload_n 0, 1) := by decide +kernel
theorem dX5_restore_53 : decode cX5_restore 53 = .ok (.getfield 29, 3) := by decide +kernel
theorem dX5_restore_56 : decode cX5_restore 56 = .ok (.invokevirtual 77, 3) := by decide +kernel
theorem dX5_restore_59 : decode cX5_restore 59 = .ok (.aload_n 0, 1) := by decide +kernel
theorem dX5_restore_60 : decode cX5_restore 60 = .ok (.getfield 19, 3) := by decide +kernel
theorem dX5_restore_63 : decode cX5_restore 63 = .ok (.getfield 258, 3) := by decide +kernel
theorem dX5_restore_66 : decode cX5_restore 66 = .ok (.ireturn, 1) := by decide +kernel
theorem dX5_act_0 : decode cX5_act 0 = .ok (.aload_n 0, 1) := by decide +kernel
theorem dX5_act_1 : decode cX5_act 1 = .ok (.getfield 19, 3) := by decide +kernel
theorem dX5_act_4 : decode cX5_act 4 = .ok (.iload_n 1, 1) := by decide +kernel
theorem dX5_act_5 : decode cX5_act 5 = .ok (.iload_n 2, 1) := by decide +kernel
theorem dX5_act_6 : decode cX5_act 6 = .ok (.iload_n 3, 1) := by decide +kernel
theorem dX5_act_7 : decode cX5_act 7 = .ok (.iload 4, 2) := by decide +kernel
theorem dX5_act_9 : decode cX5_act 9 = .ok (.invokevirtual 263, 3) := by decide +kernel
theorem dX5_act_12 : decode cX5_act 12 = .ok (.istore 5, 2) := by decide +kernel
theorem dX5_act_14 : decode cX5_act 14 = .ok (.iload 5, 2) := by decide +kernel
theorem dX5_act_16 : decode cX5_act 16 = .ok (.iconst 1, 1) := by decide +kernel
theorem dX5_act_17 : decode cX5_act 17 = .ok (.if_icmp .ne 13, 3) := by decide +kernel
theorem dX5_act_20 : decode cX5_act 20 = .ok (.new 100, 3) := by decide +kernel
theorem dX5_act_23 : decode cX5_act 23 = .ok (.dup, 1) := by decide +kernel
theorem dX5_act_24 : decode cX5_act 24 = .ok (.ldc 126, 2) := by decide +kernel
theorem dX5_act_26 : decode cX5_act 26 = .ok (.invokespecial 104, 3) := by decide +kernel
theorem dX5_act_29 : decode cX5_act 29 = .ok (.athrow, 1) := by decide +kernel
theorem dX5_act_30 : decode cX5_act 30 = .ok (.iload 5, 2) := by decide +kernel
theorem dX5_act_32 : decode cX5_act 32 = .ok (.iconst 2, 1) := by decide +kernel
theorem dX5_act_33 : decode cX5_act 33 = .ok (.if_icmp .ne 14, 3) := by decide +kernel
theorem dX5_act_36 : decode cX5_act 36 = .ok (.new 45, 3) := by decide +kernel
theorem dX5_act_39 : decode cX5_act 39 = .ok (.dup, 1) := by decide +kernel
theorem dX5_act_40 : decode cX5_act 40 = .ok (.ldc_w 266, 3) := by decide +kernel
theorem dX5_act_43 : decode cX5_act 43 = .ok (.invokespecial 49, 3) := by decide +kernel
theorem dX5_act_46 : decode cX5_act 46 = .ok (.athrow, 1) := by decide +kernel
theorem dX5_act_47 : decode cX5_act 47 = .ok (.iload 5, 2) := by decide +kernel
theorem dX5_act_49 : decode cX5_act 49 = .ok (.iconst 3, 1) := by decide +kernel
theorem dX5_act_50 : decode cX5_act 50 = .ok (.if_icmp .ne 14, 3) := by decide +kernel
theorem dX5_act_53 : decode cX5_act 53 = .ok (.new 56, 3) := by decide +kernel
theorem dX5_act_56 : decode cX5_act 56 = .ok (.dup, 1) := by decide +kernel
theorem dX5_act_57 : decode cX5_act 57 = .ok (.ldc_w 268, 3) := by decide +kernel
theorem dX5_act_60 : decode cX5_act 60 = .ok (.invokespecial 60, 3) := by decide +kernel
theorem dX5_act_63 : decode cX5_act 63 = .ok (.athrow, 1) := by decide +kernel
theorem dX5_act_64 : decode cX5_act 64 = .ok (.aload_n 0, 1) := by decide +kernel
theorem dX5_act_65 : decode cX5_act 65 = .ok (.getfield 29, 3) := by decide +kernel
theorem dX5_act_68 : decode cX5_act 68 = .ok (.aload_n 0, 1) := by decide +kernel
theorem dX5_act_69 : decode cX5_act 69 = .ok (.getfield 19, 3) := by decide +kernel
theorem dX5_act_72 : decode cX5_act 72 = .ok (.invokevirtual 270, 3) := by decide +kernel
theorem dX5_act_75 : decode cX5_act 75 = .ok (.aload_n 0, 1) := by decide +kernel
theorem dX5_act_76 : decode cX5_act 76 = .ok (.getfield 19, 3) := by decide +kernel
theorem dX5_act_79 : decode cX5_act 79 = .ok (.iload_n 1, 1) := by decide +kernel
theorem dX5_act_80 : decode cX5_act 80 = .ok (.iload_n 2, 1) := by decide +kernel
theorem dX5_act_81 : decode cX5_act 81 = .ok (.iload_n 3, 1) := by decide +kernel
theorem dX5_act_82 : decode cX5_act 82 = .ok (.iload 4, 2) := by decide +kernel
theorem dX5_act_84 : decode cX5_act 84 = .ok (.invokevirtual 273, 3) := by decide +kernel
theorem dX5_act_87 : decode cX5_act 87 = .ok (.ireturn, 1) := by decide +kernel
theorem dX5_copyToTry_0 : decode cX5_copyToTry 0 = .ok (.aload_n 0, 1) := by decide +kernel
theorem dX5_copyToTry_1 : decode cX5_copyToTry 1 = .ok (.getfield 23, 3) := by decide +kernel
theorem dX5_copyToTry_4 : decode cX5_copyToTry 4 = .ok (.aload_n 0, 1) := by decide +kernel
theorem dX5_copyToTry_5 : decode cX5_copyToTry 5 = .ok (.getfield 19, 3) := by decide +kernel
theorem dX5_copyToTry_8 : decode cX5_copyToTry 8 = .ok (.invokevirtual 254, 3) := by decide +kernel
theorem dX5_copyToTry_11 : decode cX5_copyToTry 11 = .ok (.aload_n 0, 1) := by decide +kernel
theorem dX5_copyToTry_12 : decode cX5_copyToTry 12 = .ok (.getfield 23, 3) := by decide +kernel
theorem dX5_copyToTry_15 : decode cX5_copyToTry 15 = .ok (.areturn, 1) := by decide +kernel
theorem dX5_dropsNone_0 : decode cX5_dropsNone 0 = .ok (.aload_n 0, 1) := by decide +kernel
theorem dX5_dropsNone_1 : decode cX5_dropsNone 1 = .ok (.invokevirtual 191, 3) := by decide +kernel
theorem dX5_dropsNone_4 : decode cX5_dropsNone 4 = .ok (.astore_n 3, 1) := by decide +kernel
theorem dX5_dropsNone_5 : decode cX5_dropsNone 5 = .ok (.aload_n 3, 1) := by decide +kernel
theorem dX5_dropsNone_6 : decode cX5_dropsNone 6 = .ok (.iconst 5, 1) := by decide +kernel
theorem dX5_dropsNone_7 : decode cX5_dropsNone 7 = .ok (.iconst 3, 1) := by decide +kernel
theorem dX5_dropsNone_8 : decode cX5_dropsNone 8 = .ok (.iload_n 1, 1) := by decide +kernel
theorem dX5_dropsNone_9 : decode cX5_dropsNone 9 = .ok (.iconst 0, 1) := by decide +kernel
theorem dX5_dropsNone_10 : decode cX5_dropsNone 10 = .ok (.invokevirtual 201, 3) := by decide +kernel
theorem dX5_dropsNone_13 : decode cX5_dropsNone 13 = .ok (.pop, 1) := by decide +kernel
theorem dX5_dropsNone_14 : decode cX5_dropsNone 14 = .ok (.aload_n 3, 1) := by decide +kernel
theorem dX5_dropsNone_15 : decode cX5_dropsNone 15 = .ok (.iload_n 2, 1) := by decide +kernel
theorem dX5_dropsNone_16 : decode cX5_dropsNone 16 = .ok (.invokevirtual 195, 3) := by decide +kernel
theorem dX5_dropsNone_19 : decode cX5_dropsNone 19 = .ok (.ifCond .ne 7, 3) := by decide +kernel
theorem dX5_dropsNone_22 : decode cX5_dropsNone 22 = .ok (.iconst 1, 1) := by decide +kernel
theorem dX5_dropsNone_23 : decode cX5_dropsNone 23 = .ok (.goto 4, 3) := by decide +kernel
theorem dX5_dropsNone_26 : decode cX5_dropsNone 26 = .ok (.iconst 0, 1) := by decide +kernel
theorem dX5_dropsNone_27 : decode cX5_dropsNone 27 = .ok (.ireturn, 1) := by decide +kernel
theorem dX5_withoutGroups_0 : decode cX5_withoutGroups 0 = .ok (.lload_n 0, 1) := by decide +kernel
theorem dX5_withoutGroups_1 : decode cX5_withoutGroups 1 = .ok (.lstore_n 3, 1) := by decide +kernel
theorem dX5_withoutGroups_2 : decode cX5_withoutGroups 2 = .ok (.iconst 0, 1) := by decide +kernel
theorem dX5_withoutGroups_3 : decode cX5_withoutGroups 3 = .ok (.istore 5, 2) := by decide +kernel
theorem dX5_withoutGroups_5 : decode cX5_withoutGroups 5 = .ok (.iload 5, 2) := by decide +kernel
theorem dX5_withoutGroups_7 : decode cX5_withoutGroups 7 = .ok (.iload_n 2, 1) := by decide +kernel
theorem dX5_withoutGroups_8 : decode cX5_withoutGroups 8 = .ok (.if_icmp .ge 15, 3) := by decide +kernel
theorem dX5_withoutGroups_11 : decode cX5_withoutGroups 11 = .ok (.lload_n 3, 1) := by decide +kernel
theorem dX5_withoutGroups_12 : decode cX5_withoutGroups 12 = .ok (.ldc2_w 222, 3) := by decide +kernel
theorem dX5_withoutGroups_15 : decode cX5_withoutGroups 15 = .ok (.ldiv, 1) := by decide +kernel
theorem dX5_withoutGroups_16 : decode cX5_withoutGroups 16 = .ok (.lstore_n 3, 1) := by decide +kernel
theorem dX5_withoutGroups_17 : decode cX5_withoutGroups 17 = .ok (.iinc 5 1, 3) := by decide +kernel
theorem dX5_withoutGroups_20 : decode cX5_withoutGroups 20 = .ok (.goto (-15), 3) := by decide +kernel
theorem dX5_withoutGroups_23 : decode cX5_withoutGroups 23 = .ok (.lload_n 3, 1) := by decide +kernel
theorem dX5_withoutGroups_24 : decode cX5_withoutGroups 24 = .ok (.lreturn, 1) := by decide +kernel
theorem dX5_succeeds_0 : decode cX5_succeeds 0 = .ok (.iload_n 1, 1) := by decide +kernel
theorem dX5_succeeds_1 : decode cX5_succeeds 1 = .ok (.sipush 10000, 3) := by decide +kernel
theorem dX5_succeeds_4 : decode cX5_succeeds 4 = .ok (.idiv, 1) := by decide +kernel
theorem dX5_succeeds_5 : decode cX5_succeeds 5 = .ok (.bipush 10, 2) := by decide +kernel
theorem dX5_succeeds_7 : decode cX5_succeeds 7 = .ok (.irem, 1) := by decide +kernel
theorem dX5_succeeds_8 : decode cX5_succeeds 8 = .ok (.istore_n 2, 1) := by decide +kernel
theorem dX5_succeeds_9 : decode cX5_succeeds 9 = .ok (.iload_n 1, 1) := by decide +kernel
theorem dX5_succeeds_10 : decode cX5_succeeds 10 = .ok (.bipush 10, 2) := by decide +kernel
theorem dX5_succeeds_12 : decode cX5_succeeds 12 = .ok (.irem, 1) := by decide +kernel
theorem dX5_succeeds_13 : decode cX5_succeeds 13 = .ok (.istore_n 3, 1) := by decide +kernel
theorem dX5_succeeds_14 : decode cX5_succeeds 14 = .ok (.iload_n 1, 1) := by decide +kernel
theorem dX5_succeeds_15 : decode cX5_succeeds 15 = .ok (.bipush 100, 2) := by decide +kernel
theorem dX5_succeeds_17 : decode cX5_succeeds 17 = .ok (.irem, 1) := by decide +kernel
theorem dX5_succeeds_18 : decode cX5_succeeds 18 = .ok (.istore 4, 2) := by decide +kernel
theorem dX5_succeeds_20 : decode cX5_succeeds 20 = .ok (.iload_n 1, 1) := by decide +kernel
theorem dX5_succeeds_21 : decode cX5_succeeds 21 = .ok (.sipush 1000, 3) := by decide +kernel
theorem dX5_succeeds_24 : decode cX5_succeeds 24 = .ok (.irem, 1) := by decide +kernel
theorem dX5_succeeds_25 : decode cX5_succeeds 25 = .ok (.istore 5, 2) := by decide +kernel
theorem dX5_succeeds_27 : decode cX5_succeeds 27 = .ok (.iload_n 1, 1) := by decide +kernel
theorem dX5_succeeds_28 : decode cX5_succeeds 28 = .ok (.bipush 100, 2) := by decide +kernel
theorem dX5_succeeds_30 : decode cX5_succeeds 30 = .ok (.idiv, 1) := by decide +kernel
theorem dX5_succeeds_31 : decode cX5_succeeds 31 = .ok (.bipush 100, 2) := by decide +kernel
theorem dX5_succeeds_33 : decode cX5_succeeds 33 = .ok (.irem, 1) := by decide +kernel
theorem dX5_succeeds_34 : decode cX5_succeeds 34 = .ok (.ifCond .ne 7, 3) := by decide +kernel
theorem dX5_succeeds_37 : decode cX5_succeeds 37 = .ok (.iconst 1, 1) := by decide +kernel
theorem dX5_succeeds_38 : decode cX5_succeeds 38 = .ok (.goto 4, 3) := by decide +kernel
theorem dX5_succeeds_41 : decode cX5_succeeds 41 = .ok (.iconst 0, 1) := by decide +kernel
theorem dX5_succeeds_42 : decode cX5_succeeds 42 = .ok (.istore 6, 2) := by decide +kernel
theorem dX5_succeeds_44 : decode cX5_succeeds 44 = .ok (.iload_n 1, 1) := by decide +kernel
theorem dX5_succeeds_45 : decode cX5_succeeds 45 = .ok (.ldc_w 276, 3) := by decide +kernel
theorem dX5_succeeds_48 : decode cX5_succeeds 48 = .ok (.idiv, 1) := by decide +kernel
theorem dX5_succeeds_49 : decode cX5_succeeds 49 = .ok (.tableswitch 323 1 9 #[51, 67, 88, 127, 152, 182, 209, 246, 275], 51) := by decide +kernel
theorem dX5_succeeds_100 : decode cX5_succeeds 100 = .ok (.aload_n 0, 1) := by decide +kernel
theorem dX5_succeeds_101 : decode cX5_succeeds 101 = .ok (.iconst 0, 1) := by decide +kernel
theorem dX5_succeeds_102 : decode cX5_succeeds 102 = .ok (.iload_n 2, 1) := by decide +kernel
theorem dX5_succeeds_103 : decode cX5_succeeds 103 = .ok (.iload_n 1, 1) := by decide +kernel
theorem dX5_succeeds_104 : decode cX5_succeeds 104 = .ok (.bipush 100, 2) := by decide +kernel
theorem dX5_succeeds_106 : decode cX5_succeeds 106 = .ok (.idiv, 1) := by decide +kernel
theorem dX5_succeeds_107 : decode cX5_succeeds 107 = .ok (.bipush 100, 2) := by decide +kernel
theorem dX5_succeeds_109 : decode cX5_succeeds 109 = .ok (.irem, 1) := by decide +kernel
theorem dX5_succeeds_110 : decode cX5_succeeds 110 = .ok (.iload 4, 2) := by decide +kernel
theorem dX5_succeeds_112 : decode cX5_succeeds 112 = .ok (.invokevirtual 201, 3) := by decide +kernel
theorem dX5_succeeds_115 : decode cX5_succeeds 115 = .ok (.ireturn, 1) := by decide +kernel
theorem dX5_succeeds_116 : decode cX5_succeeds 116 = .ok (.iload 6, 2) := by decide +kernel
theorem dX5_succeeds_118 : decode cX5_succeeds 118 = .ok (.ifCond .eq 17, 3) := by decide +kernel
theorem dX5_succeeds_121 : decode cX5_succeeds 121 = .ok (.aload_n 0, 1) := by decide +kernel
theorem dX5_succeeds_122 : decode cX5_succeeds 122 = .ok (.iload_n 2, 1) := by decide +kernel
theorem dX5_succeeds_123 : decode cX5_succeeds 123 = .ok (.iload 4, 2) := by decide +kernel
theorem dX5_succeeds_125 : decode cX5_succeeds 125 = .ok (.invokevirtual 277, 3) := by decide +kernel
theorem dX5_succeeds_128 : decode cX5_succeeds 128 = .ok (.ifCond .eq 7, 3) := by decide +kernel
theorem dX5_succeeds_131 : decode cX5_succeeds 131 = .ok (.iconst 1, 1) := by decide +kernel
theorem dX5_succeeds_132 : decode cX5_succeeds 132 = .ok (.goto 4, 3) := by decide +kernel
theorem dX5_succeeds_135 : decode cX5_succeeds 135 = .ok (.iconst 0, 1) := by decide +kernel
theorem dX5_succeeds_136 : decode cX5_succeeds 136 = .ok (.ireturn, 1) := by decide +kernel
theorem dX5_succeeds_137 : decode cX5_succeeds 137 = .ok (.iload_n 1, 1) := by decide +kernel
theorem dX5_succeeds_138 : decode cX5_succeeds 138 = .ok (.bipush 10, 2) := by decide +kernel
theorem dX5_succeeds_140 : decode cX5_succeeds 140 = .ok (.idiv, 1) := by decide +kernel
theorem dX5_succeeds_141 : decode cX5_succeeds 141 = .ok (.bipush 100, 2) := by decide +kernel
theorem dX5_succeeds_143 : decode cX5_succeeds 143 = .ok (.irem, 1) := by decide +kernel
theorem dX5_succeeds_144 : decode cX5_succeeds 144 = .ok (.ifCond .ne 30, 3) := by decide +kernel
theorem dX5_succeeds_147 : decode cX5_succeeds 147 = .ok (.iload_n 3, 1) := by decide +kernel
theorem dX5_succeeds_148 : decode cX5_succeeds 148 = .ok (.iconst 1, 1) := by decide +kernel
theorem dX5_succeeds_149 : decode cX5_succeeds 149 = .ok (.if_icmp .gt 25, 3) := by decide +kernel
theorem dX5_succeeds_152 : decode cX5_succeeds 152 = .ok (.aload_n 0, 1) := by decide +kernel
theorem dX5_succeeds_153 : decode cX5_succeeds 153 = .ok (.iconst 1, 1) := by decide +kernel
theorem dX5_succeeds_154 : decode cX5_succeeds 154 = .ok (.iload_n 2, 1) := by decide +kernel
theorem dX5_succeeds_155 : decode cX5_succeeds 155 = .ok (.iload_n 1, 1) := by decide +kernel
theorem dX5_succeeds_156 : decode cX5_succeeds 156 = .ok (.sipush 1000, 3) := by decide +kernel
theorem dX5_succeeds_159 : decode cX5_succeeds 159 = .ok (.idiv, 1) := by decide +kernel
theorem dX5_succeeds_160 : decode cX5_succeeds 160 = .ok (.bipush 10, 2) := by decide +kernel
theorem dX5_succeeds_162 : decode cX5_succeeds 162 = .ok (.irem, 1) := by decide +kernel
theorem dX5_succeeds_163 : decode cX5_succeeds 163 = .ok (.iload_n 3, 1) := by decide +kernel
theorem dX5_succeeds_164 : decode cX5_succeeds 164 = .ok (.invokevirtual 201, 3) := by decide +kernel
theorem dX5_succeeds_167 : decode cX5_succeeds 167 = .ok (.ifCond .eq 7, 3) := by decide +kernel
theorem dX5_succeeds_170 : decode cX5_succeeds 170 = .ok (.iconst 1, 1) := by decide +kernel
theorem dX5_succeeds_171 : decode cX5_succeeds 171 = .ok (.goto 4, 3) := by decide +kernel
theorem dX5_succeeds_174 : decode cX5_succeeds 174 = .ok (.iconst 0, 1) := by decide +kernel
theorem dX5_succeeds_175 : decode cX5_succeeds 175 = .ok (.ireturn, 1) := by decide +kernel
theorem dX5_succeeds_176 : decode cX5_succeeds 176 = .ok (.iload_n 1, 1) := by decide +kernel
theorem dX5_succeeds_177 : decode cX5_succeeds 177 = .ok (.sipush 10000, 3) := by decide +kernel
theorem dX5_succeeds_180 : decode cX5_succeeds 180 = .ok (.irem, 1) := by decide +kernel
theorem dX5_succeeds_181 : decode cX5_succeeds 181 = .ok (.ifCond .ne 18, 3) := by decide +kernel
theorem dX5_succeeds_184 : decode cX5_succeeds 184 = .ok (.aload_n 0, 1) := by decide +kernel
theorem dX5_succeeds_185 : decode cX5_succeeds 185 = .ok (.iconst 3, 1) := by decide +kernel
theorem dX5_succeeds_186 : decode cX5_succeeds 186 = .ok (.iload_n 2, 1) := by decide +kernel
theorem dX5_succeeds_187 : decode cX5_succeeds 187 = .ok (.iconst 0, 1) := by decide +kernel
theorem dX5_succeeds_188 : decode cX5_succeeds 188 = .ok (.iconst 0, 1) := by decide +kernel
theorem dX5_succeeds_189 : decode cX5_succeeds 189 = .ok (.invokevirtual 201, 3) := by decide +kernel
theorem dX5_succeeds_192 : decode cX5_succeeds 192 = .ok (.ifCond .eq 7, 3) := by decide +kernel
theorem dX5_succeeds_195 : decode cX5_succeeds 195 = .ok (.iconst 1, 1) := by decide +kernel
theorem dX5_succeeds_196 : decode cX5_succeeds 196 = .ok (.goto 4, 3) := by decide +kernel
theorem dX5_succeeds_199 : decode cX5_succeeds 199 = .ok (.iconst 0, 1) := by decide +kernel
theorem dX5_succeeds_200 : decode cX5_succeeds 200 = .ok (.ireturn, 1) := by decide +kernel
theorem dX5_succeeds_201 : decode cX5_succeeds 201 = .ok (.iload_n 1, 1) := by decide +kernel
theorem dX5_succeeds_202 : decode cX5_succeeds 202 = .ok (.bipush 100, 2) := by decide +kernel
theorem dX5_succeeds_204 : decode cX5_succeeds 204 = .ok (.idiv, 1) := by decide +kernel
theorem dX5_succeeds_205 : decode cX5_succeeds 205 = .ok (.sipush 1000, 3) := by decide +kernel
theorem dX5_succeeds_208 : decode cX5_succeeds 208 = .ok (.irem, 1) := by decide +kernel
theorem dX5_succeeds_209 : decode cX5_succeeds 209 = .ok (.ifCond .ne 20, 3) := by decide +kernel
theorem dX5_succeeds_212 : decode cX5_succeeds 212 = .ok (.aload_n 0, 1) := by decide +kernel
theorem dX5_succeeds_213 : decode cX5_succeeds 213 = .ok (.bipush 6, 2) := by decide +kernel
theorem dX5_succeeds_215 : decode cX5_succeeds 215 = .ok (.iload 4, 2) := by decide +kernel
theorem dX5_succeeds_217 : decode cX5_succeeds 217 = .ok (.iconst 0, 1) := by decide +kernel
theorem dX5_succeeds_218 : decode cX5_succeeds 218 = .ok (.iconst 0, 1) := by decide +kernel
theorem dX5_succeeds_219 : decode cX5_succeeds 219 = .ok (.invokevirtual 201, 3) := by decide +kernel
theorem dX5_succeeds_222 : decode cX5_succeeds 222 = .ok (.ifCond .eq 7, 3) := by decide +kernel
theorem dX5_succeeds_225 : decode cX5_succeeds 225 = .ok (.iconst 1, 1) := by decide +kernel
theorem dX5_succeeds_226 : decode cX5_succeeds 226 = .ok (.goto 4, 3) := by decide +kernel
theorem dX5_succeeds_229 : decode cX5_succeeds 229 = .ok (.iconst 0, 1) := by decide +kernel
theorem dX5_succeeds_230 : decode cX5_succeeds 230 = .ok (.ireturn, 1) := by decide +kernel
theorem dX5_succeeds_231 : decode cX5_succeeds 231 = .ok (.iload_n 1, 1) := by decide +kernel
theorem dX5_succeeds_232 : decode cX5_succeeds 232 = .ok (.sipush 1000, 3) := by decide +kernel
theorem dX5_succeeds_235 : decode cX5_succeeds 235 = .ok (.idiv, 1) := by decide +kernel
theorem dX5_succeeds_236 : decode cX5_succeeds 236 = .ok (.bipush 10, 2) := by decide +kernel
theorem dX5_succeeds_238 : decode cX5_succeeds 238 = .ok (.irem, 1) := by decide +kernel
theorem dX5_succeeds_239 : decode cX5_succeeds 239 = .ok (.ifCond .ne 17, 3) := by decide +kernel
theorem dX5_succeeds_242 : decode cX5_succeeds 242 = .ok (.aload_n 0, 1) := by decide +kernel
theorem dX5_succeeds_243 : decode cX5_succeeds 243 = .ok (.iload_n 2, 1) := by decide +kernel
theorem dX5_succeeds_244 : decode cX5_succeeds 244 = .ok (.iload 5, 2) := by decide +kernel
theorem dX5_succeeds_246 : decode cX5_succeeds 246 = .ok (.invokevirtual 280, 3) := by decide +kernel
theorem dX5_succeeds_249 : decode cX5_succeeds 249 = .ok (.ifCond .eq 7, 3) := by decide +kernel
theorem dX5_succeeds_252 : decode cX5_succeeds 252 = .ok (.iconst 1, 1) := by decide +kernel
theorem dX5_succeeds_253 : decode cX5_succeeds 253 = .ok (.goto 4, 3) := by decide +kernel
theorem dX5_succeeds_256 : decode cX5_succeeds 256 = .ok (.iconst 0, 1) := by decide +kernel
theorem dX5_succeeds_257 : decode cX5_succeeds 257 = .ok (.ireturn, 1) := by decide +kernel
theorem dX5_succeeds_258 : decode cX5_succeeds 258 = .ok (.iload 6, 2) := by decide +kernel
theorem dX5_succeeds_260 : decode cX5_succeeds 260 = .ok (.ifCond .eq 33, 3) := by decide +kernel
theorem dX5_succeeds_263 : decode cX5_succeeds 263 = .ok (.iload_n 2, 1) := by decide +kernel
theorem dX5_succeeds_264 : decode cX5_succeeds 264 = .ok (.bipush 8, 2) := by decide +kernel
theorem dX5_succeeds_266 : decode cX5_succeeds 266 = .ok (.if_icmp .ge 27, 3) := by decide +kernel
theorem dX5_succeeds_269 : decode cX5_succeeds 269 = .ok (.aload_n 0, 1) := by decide +kernel
theorem dX5_succeeds_270 : decode cX5_succeeds 270 = .ok (.getfield 90, 3) := by decide +kernel
theorem dX5_succeeds_273 : decode cX5_succeeds 273 = .ok (.iload_n 2, 1) := by decide +kernel
theorem dX5_succeeds_274 : decode cX5_succeeds 274 = .ok (.aload_n 0, 1) := by decide +kernel
theorem dX5_succeeds_275 : decode cX5_succeeds 275 = .ok (.getfield 90, 3) := by decide +kernel
theorem dX5_succeeds_278 : decode cX5_succeeds 278 = .ok (.getfield 178, 3) := by decide +kernel
theorem dX5_succeeds_281 : decode cX5_succeeds 281 = .ok (.invokevirtual 185, 3) := by decide +kernel
theorem dX5_succeeds_284 : decode cX5_succeeds 284 = .ok (.iload 4, 2) := by decide +kernel
theorem dX5_succeeds_286 : decode cX5_succeeds 286 = .ok (.if_icmp .ne 7, 3) := by decide +kernel
theorem dX5_succeeds_289 : decode cX5_succeeds 289 = .ok (.iconst 1, 1) := by decide +kernel
theorem dX5_succeeds_290 : decode cX5_succeeds 290 = .ok (.goto 4, 3) := by decide +kernel
theorem dX5_succeeds_293 : decode cX5_succeeds 293 = .ok (.iconst 0, 1) := by decide +kernel
theorem dX5_succeeds_294 : decode cX5_succeeds 294 = .ok (.ireturn, 1) := by decide +kernel
theorem dX5_succeeds_295 : decode cX5_succeeds 295 = .ok (.iload_n 1, 1) := by decide +kernel
theorem dX5_succeeds_296 : decode cX5_succeeds 296 = .ok (.sipush 1000, 3) := by decide +kernel
theorem dX5_succeeds_299 : decode cX5_succeeds 299 = .ok (.idiv, 1) := by decide +kernel
theorem dX5_succeeds_300 : decode cX5_succeeds 300 = .ok (.bipush 100, 2) := by decide +kernel
theorem dX5_succeeds_302 : decode cX5_succeeds 302 = .ok (.irem, 1) := by decide +kernel
theorem dX5_succeeds_303 : decode cX5_succeeds 303 = .ok (.ifCond .ne 19, 3) := by decide +kernel
theorem dX5_succeeds_306 : decode cX5_succeeds 306 = .ok (.aload_n 0, 1) := by decide +kernel
theorem dX5_succeeds_307 : decode cX5_succeeds 307 = .ok (.getfield 90, 3) := by decide +kernel
theorem dX5_succeeds_310 : decode cX5_succeeds 310 = .ok (.getfield 175, 3) := by decide +kernel
theorem dX5_succeeds_313 : decode cX5_succeeds 313 = .ok (.iload 5, 2) := by decide +kernel
theorem dX5_succeeds_315 : decode cX5_succeeds 315 = .ok (.if_icmp .lt 7, 3) := by decide +kernel
theorem dX5_succeeds_318 : decode cX5_succeeds 318 = .ok (.iconst 1, 1) := by decide +kernel
theorem dX5_succeeds_319 : decode cX5_succeeds 319 = .ok (.goto 4, 3) := by decide +kernel
theorem dX5_succeeds_322 : decode cX5_succeeds 322 = .ok (.iconst 0, 1) := by decide +kernel
theorem dX5_succeeds_323 : decode cX5_succeeds 323 = .ok (.ireturn, 1) := by decide +kernel
theorem dX5_succeeds_324 : decode cX5_succeeds 324 = .ok (.iload_n 1, 1) := by decide +kernel
theorem dX5_succeeds_325 : decode cX5_succeeds 325 = .ok (.bipush 10, 2) := by decide +kernel
theorem dX5_succeeds_327 : decode cX5_succeeds 327 = .ok (.idiv, 1) := by decide +kernel
theorem dX5_succeeds_328 : decode cX5_succeeds 328 = .ok (.sipush 1000, 3) := by decide +kernel
theorem dX5_succeeds_331 : decode cX5_succeeds 331 = .ok (.irem, 1) := by decide +kernel
theorem dX5_succeeds_332 : decode cX5_succeeds 332 = .ok (.ifCond .ne 38, 3) := by decide +kernel
theorem dX5_succeeds_335 : decode cX5_succeeds 335 = .ok (.iload_n 3, 1) := by decide +kernel
theorem dX5_succeeds_336 : decode cX5_succeeds 336 = .ok (.iconst 1, 1) := by decide +kernel
theorem dX5_succeeds_337 : decode cX5_succeeds 337 = .ok (.if_icmp .gt 33, 3) := by decide +kernel
theorem dX5_succeeds_340 : decode cX5_succeeds 340 = .ok (.aload_n 0, 1) := by decide +kernel
theorem dX5_succeeds_341 : decode cX5_succeeds 341 = .ok (.iload_n 2, 1) := by decide +kernel
theorem dX5_succeeds_342 : decode cX5_succeeds 342 = .ok (.invokevirtual 122, 3) := by decide +kernel
theorem dX5_succeeds_345 : decode cX5_succeeds 345 = .ok (.ifnull 25, 3) := by decide +kernel
theorem dX5_succeeds_348 : decode cX5_succeeds 348 = .ok (.aload_n 0, 1) := by decide +kernel
theorem dX5_succeeds_349 : decode cX5_succeeds 349 = .ok (.iload_n 2, 1) := by decide +kernel
theorem dX5_succeeds_350 : decode cX5_succeeds 350 = .ok (.invokevirtual 198, 3) := by decide +kernel
theorem dX5_succeeds_353 : decode cX5_succeeds 353 = .ok (.iload_n 3, 1) := by decide +kernel
theorem dX5_succeeds_354 : decode cX5_succeeds 354 = .ok (.iconst 1, 1) := by decide +kernel
theorem dX5_succeeds_355 : decode cX5_succeeds 355 = .ok (.if_icmp .ne 7, 3) := by decide +kernel
theorem dX5_succeeds_358 : decode cX5_succeeds 358 = .ok (.iconst 1, 1) := by decide +kernel
theorem dX5_succeeds_359 : decode cX5_succeeds 359 = .ok (.goto 4, 3) := by decide +kernel
theorem dX5_succeeds_362 : decode cX5_succeeds 362 = .ok (.iconst 0, 1) := by decide +kernel
theorem dX5_succeeds_363 : decode cX5_succeeds 363 = .ok (.if_icmp .ne 7, 3) := by decide +kernel
theorem dX5_succeeds_366 : decode cX5_succeeds 366 = .ok (.iconst 1, 1) := by decide +kernel
theorem dX5_succeeds_367 : decode cX5_succeeds 367 = .ok (.goto 4, 3) := by decide +kernel
theorem dX5_succeeds_370 : decode cX5_succeeds 370 = .ok (.iconst 0, 1) := by decide +kernel
theorem dX5_succeeds_371 : decode cX5_succeeds 371 = .ok (.ireturn, 1) := by decide +kernel
theorem dX5_succeeds_372 : decode cX5_succeeds 372 = .ok (.iconst 0, 1) := by decide +kernel
theorem dX5_succeeds_373 : decode cX5_succeeds 373 = .ok (.ireturn, 1) := by decide +kernel
theorem dX5_takeTurn_0 : decode cX5_takeTurn 0 = .ok (.iload_n 1, 1) := by decide +kernel
theorem dX5_takeTurn_1 : decode cX5_takeTurn 1 = .ok (.bipush 16, 2) := by decide +kernel
theorem dX5_takeTurn_3 : decode cX5_takeTurn 3 = .ok (.idiv, 1) := by decide +kernel
theorem dX5_takeTurn_4 : decode cX5_takeTurn 4 = .ok (.istore_n 2, 1) := by decide +kernel
theorem dX5_takeTurn_5 : decode cX5_takeTurn 5 = .ok (.iload_n 1, 1) := by decide +kernel
theorem dX5_takeTurn_6 : decode cX5_takeTurn 6 = .ok (.bipush 16, 2) := by decide +kernel
theorem dX5_takeTurn_8 : decode cX5_takeTurn 8 = .ok (.irem, 1) := by decide +kernel
theorem dX5_takeTurn_9 : decode cX5_takeTurn 9 = .ok (.istore_n 3, 1) := by decide +kernel
theorem dX5_takeTurn_10 : decode cX5_takeTurn 10 = .ok (.iload_n 3, 1) := by decide +kernel
theorem dX5_takeTurn_11 : decode cX5_takeTurn 11 = .ok (.iconst 5, 1) := by decide +kernel
theorem dX5_takeTurn_12 : decode cX5_takeTurn 12 = .ok (.if_icmp .gt 33, 3) := by decide +kernel
theorem dX5_takeTurn_15 : decode cX5_takeTurn 15 = .ok (.aload_n 0, 1) := by decide +kernel
theorem dX5_takeTurn_16 : decode cX5_takeTurn 16 = .ok (.iconst 0, 1) := by decide +kernel
theorem dX5_takeTurn_17 : decode cX5_takeTurn 17 = .ok (.iload_n 2, 1) := by decide +kernel
theorem dX5_takeTurn_18 : decode cX5_takeTurn 18 = .ok (.bipush 8, 2) := by decide +kernel
theorem dX5_takeTurn_20 : decode cX5_takeTurn 20 = .ok (.irem, 1) := by decide +kernel
theorem dX5_takeTurn_21 : decode cX5_takeTurn 21 = .ok (.iload_n 2, 1) := by decide +kernel
theorem dX5_takeTurn_22 : decode cX5_takeTurn 22 = .ok (.bipush 8, 2) := by decide +kernel
theorem dX5_takeTurn_24 : decode cX5_takeTurn 24 = .ok (.idiv, 1) := by decide +kernel
theorem dX5_takeTurn_25 : decode cX5_takeTurn 25 = .ok (.bipush 100, 2) := by decide +kernel
theorem dX5_takeTurn_27 : decode cX5_takeTurn 27 = .ok (.irem, 1) := by decide +kernel
theorem dX5_takeTurn_28 : decode cX5_takeTurn 28 = .ok (.iconst 1, 1) := by decide +kernel
theorem dX5_takeTurn_29 : decode cX5_takeTurn 29 = .ok (.iload_n 2, 1) := by decide +kernel
theorem dX5_takeTurn_30 : decode cX5_takeTurn 30 = .ok (.sipush 1024, 3) := by decide +kernel
theorem dX5_takeTurn_33 : decode cX5_takeTurn 33 = .ok (.idiv, 1) := by decide +kernel
theorem dX5_takeTurn_34 : decode cX5_takeTurn 34 = .ok (.bipush 40, 2) := by decide +kernel
theorem dX5_takeTurn_36 : decode cX5_takeTurn 36 = .ok (.irem, 1) := by decide +kernel
theorem dX5_takeTurn_37 : decode cX5_takeTurn 37 = .ok (.iadd, 1) := by decide +kernel
theorem dX5_takeTurn_38 : decode cX5_takeTurn 38 = .ok (.invokevirtual 201, 3) := by decide +kernel
theorem dX5_takeTurn_41 : decode cX5_takeTurn 41 = .ok (.pop, 1) := by decide +kernel
theorem dX5_takeTurn_42 : decode cX5_takeTurn 42 = .ok (.goto 187, 3) := by decide +kernel
theorem dX5_takeTurn_45 : decode cX5_takeTurn 45 = .ok (.iload_n 3, 1) := by decide +kernel
theorem dX5_takeTurn_46 : decode cX5_takeTurn 46 = .ok (.bipush 7, 2) := by decide +kernel
theorem dX5_takeTurn_48 : decode cX5_takeTurn 48 = .ok (.if_icmp .gt 28, 3) := by decide +kernel
theorem dX5_takeTurn_51 : decode cX5_takeTurn 51 = .ok (.aload_n 0, 1) := by decide +kernel
theorem dX5_takeTurn_52 : decode cX5_takeTurn 52 = .ok (.iconst 1, 1) := by decide +kernel
theorem dX5_takeTurn_53 : decode cX5_takeTurn 53 = .ok (.iload_n 2, 1) := by decide +kernel
theorem dX5_takeTurn_54 : decode cX5_takeTurn 54 = .ok (.bipush 8, 2) := by decide +kernel
theorem dX5_takeTurn_56 : decode cX5_takeTurn 56 = .ok (.irem, 1) := by decide +kernel
theorem dX5_takeTurn_57 : decode cX5_takeTurn 57 = .ok (.iload_n 2, 1) := by decide +kernel
theorem dX5_takeTurn_58 : decode cX5_takeTurn 58 = .ok (.bipush 8, 2) := by decide +kernel
theorem dX5_takeTurn_60 : decode cX5_takeTurn 60 = .ok (.idiv, 1) := by decide +kernel
theorem dX5_takeTurn_61 : decode cX5_takeTurn 61 = .ok (.iconst 3, 1) := by decide +kernel
theorem dX5_takeTurn_62 : decode cX5_takeTurn 62 = .ok (.irem, 1) := by decide +kernel
theorem dX5_takeTurn_63 : decode cX5_takeTurn 63 = .ok (.iload_n 2, 1) := by decide +kernel
theorem dX5_takeTurn_64 : decode cX5_takeTurn 64 = .ok (.bipush 32, 2) := by decide +kernel
theorem dX5_takeTurn_66 : decode cX5_takeTurn 66 = .ok (.idiv, 1) := by decide +kernel
theorem dX5_takeTurn_67 : decode cX5_takeTurn 67 = .ok (.iconst 2, 1) := by decide +kernel
theorem dX5_takeTurn_68 : decode cX5_takeTurn 68 = .ok (.irem, 1) := by decide +kernel
theorem dX5_takeTurn_69 : decode cX5_takeTurn 69 = .ok (.invokevirtual 201, 3) := by decide +kernel
theorem dX5_takeTurn_72 : decode cX5_takeTurn 72 = .ok (.pop, 1) := by decide +kernel
theorem dX5_takeTurn_73 : decode cX5_takeTurn 73 = .ok (.goto 156, 3) := by decide +kernel
theorem dX5_takeTurn_76 : decode cX5_takeTurn 76 = .ok (.iload_n 3, 1) := by decide +kernel
theorem dX5_takeTurn_77 : decode cX5_takeTurn 77 = .ok (.bipush 9, 2) := by decide +kernel
theorem dX5_takeTurn_79 : decode cX5_takeTurn 79 = .ok (.if_icmp .gt 26, 3) := by decide +kernel
theorem dX5_takeTurn_82 : decode cX5_takeTurn 82 = .ok (.aload_n 0, 1) := by decide +kernel
theorem dX5_takeTurn_83 : decode cX5_takeTurn 83 = .ok (.iconst 2, 1) := by decide +kernel
theorem dX5_takeTurn_84 : decode cX5_takeTurn 84 = .ok (.iload_n 2, 1) := by decide +kernel
theorem dX5_takeTurn_85 : decode cX5_takeTurn 85 = .ok (.bipush 8, 2) := by decide +kernel
theorem dX5_takeTurn_87 : decode cX5_takeTurn 87 = .ok (.irem, 1) := by decide +kernel
theorem dX5_takeTurn_88 : decode cX5_takeTurn 88 = .ok (.iconst 1, 1) := by decide +kernel
theorem dX5_takeTurn_89 : decode cX5_takeTurn 89 = .ok (.iload_n 2, 1) := by decide +kernel
theorem dX5_takeTurn_90 : decode cX5_takeTurn 90 = .ok (.bipush 8, 2) := by decide +kernel
theorem dX5_takeTurn_92 : decode cX5_takeTurn 92 = .ok (.idiv, 1) := by decide +kernel
theorem dX5_takeTurn_93 : decode cX5_takeTurn 93 = .ok (.bipush 12, 2) := by decide +kernel
theorem dX5_takeTurn_95 : decode cX5_takeTurn 95 = .ok (.irem, 1) := by decide +kernel
theorem dX5_takeTurn_96 : decode cX5_takeTurn 96 = .ok (.iadd, 1) := by decide +kernel
theorem dX5_takeTurn_97 : decode cX5_takeTurn 97 = .ok (.iconst 0, 1) := by decide +kernel
theorem dX5_takeTurn_98 : decode cX5_takeTurn 98 = .ok (.invokevirtual 201, 3) := by decide +kernel
theorem dX5_takeTurn_101 : decode cX5_takeTurn 101 = .ok (.pop, 1) := by decide +kernel
theorem dX5_takeTurn_102 : decode cX5_takeTurn 102 = .ok (.goto 127, 3) := by decide +kernel
theorem dX5_takeTurn_105 : decode cX5_takeTurn 105 = .ok (.iload_n 3, 1) := by decide +kernel
theorem dX5_takeTurn_106 : decode cX5_takeTurn 106 = .ok (.bipush 10, 2) := by decide +kernel
theorem dX5_takeTurn_108 : decode cX5_takeTurn 108 = .ok (.if_icmp .ne 27, 3) := by decide +kernel
theorem dX5_takeTurn_111 : decode cX5_takeTurn 111 = .ok (.iload_n 2, 1) := by decide +kernel
theorem dX5_takeTurn_112 : decode cX5_takeTurn 112 = .ok (.bipush 8, 2) := by decide +kernel
theorem dX5_takeTurn_114 : decode cX5_takeTurn 114 = .ok (.idiv, 1) := by decide +kernel
theorem dX5_takeTurn_115 : decode cX5_takeTurn 115 = .ok (.iconst 4, 1) := by decide +kernel
theorem dX5_takeTurn_116 : decode cX5_takeTurn 116 = .ok (.irem, 1) := by decide +kernel
theorem dX5_takeTurn_117 : decode cX5_takeTurn 117 = .ok (.ifCond .ne 18, 3) := by decide +kernel
theorem dX5_takeTurn_120 : decode cX5_takeTurn 120 = .ok (.aload_n 0, 1) := by decide +kernel
theorem dX5_takeTurn_121 : decode cX5_takeTurn 121 = .ok (.iconst 3, 1) := by decide +kernel
theorem dX5_takeTurn_122 : decode cX5_takeTurn 122 = .ok (.iload_n 2, 1) := by decide +kernel
theorem dX5_takeTurn_123 : decode cX5_takeTurn 123 = .ok (.bipush 8, 2) := by decide +kernel
theorem dX5_takeTurn_125 : decode cX5_takeTurn 125 = .ok (.irem, 1) := by decide +kernel
theorem dX5_takeTurn_126 : decode cX5_takeTurn 126 = .ok (.iconst 0, 1) := by decide +kernel
theorem dX5_takeTurn_127 : decode cX5_takeTurn 127 = .ok (.iconst 0, 1) := by decide +kernel
theorem dX5_takeTurn_128 : decode cX5_takeTurn 128 = .ok (.invokevirtual 201, 3) := by decide +kernel
theorem dX5_takeTurn_131 : decode cX5_takeTurn 131 = .ok (.pop, 1) := by decide +kernel
theorem dX5_takeTurn_132 : decode cX5_takeTurn 132 = .ok (.goto 97, 3) := by decide +kernel
theorem dX5_takeTurn_135 : decode cX5_takeTurn 135 = .ok (.iload_n 3, 1) := by decide +kernel
theorem dX5_takeTurn_136 : decode cX5_takeTurn 136 = .ok (.bipush 10, 2) := by decide +kernel
theorem dX5_takeTurn_138 : decode cX5_takeTurn 138 = .ok (.if_icmp .ne 23, 3) := by decide +kernel
theorem dX5_takeTurn_141 : decode cX5_takeTurn 141 = .ok (.aload_n 0, 1) := by decide +kernel
theorem dX5_takeTurn_142 : decode cX5_takeTurn 142 = .ok (.iconst 4, 1) := by decide +kernel
theorem dX5_takeTurn_143 : decode cX5_takeTurn 143 = .ok (.iload_n 2, 1) := by decide +kernel
theorem dX5_takeTurn_144 : decode cX5_takeTurn 144 = .ok (.bipush 8, 2) := by decide +kernel
theorem dX5_takeTurn_146 : decode cX5_takeTurn 146 = .ok (.irem, 1) := by decide +kernel
theorem dX5_takeTurn_147 : decode cX5_takeTurn 147 = .ok (.iload_n 2, 1) := by decide +kernel
theorem dX5_takeTurn_148 : decode cX5_takeTurn 148 = .ok (.bipush 32, 2) := by decide +kernel
theorem dX5_takeTurn_150 : decode cX5_takeTurn 150 = .ok (.idiv, 1) := by decide +kernel
theorem dX5_takeTurn_151 : decode cX5_takeTurn 151 = .ok (.iconst 2, 1) := by decide +kernel
theorem dX5_takeTurn_152 : decode cX5_takeTurn 152 = .ok (.irem, 1) := by decide +kernel
theorem dX5_takeTurn_153 : decode cX5_takeTurn 153 = .ok (.iconst 0, 1) := by decide +kernel
theorem dX5_takeTurn_154 : decode cX5_takeTurn 154 = .ok (.invokevirtual 201, 3) := by decide +kernel
theorem dX5_takeTurn_157 : decode cX5_takeTurn 157 = .ok (.pop, 1) := by decide +kernel
theorem dX5_takeTurn_158 : decode cX5_takeTurn 158 = .ok (.goto 71, 3) := by decide +kernel
theorem dX5_takeTurn_161 : decode cX5_takeTurn 161 = .ok (.iload_n 3, 1) := by decide +kernel
theorem dX5_takeTurn_162 : decode cX5_takeTurn 162 = .ok (.bipush 11, 2) := by decide +kernel
theorem dX5_takeTurn_164 : decode cX5_takeTurn 164 = .ok (.if_icmp .ne 29, 3) := by decide +kernel
theorem dX5_takeTurn_167 : decode cX5_takeTurn 167 = .ok (.iload_n 2, 1) := by decide +kernel
theorem dX5_takeTurn_168 : decode cX5_takeTurn 168 = .ok (.sipush 1024, 3) := by decide +kernel
theorem dX5_takeTurn_171 : decode cX5_takeTurn 171 = .ok (.idiv, 1) := by decide +kernel
theorem dX5_takeTurn_172 : decode cX5_takeTurn 172 = .ok (.iconst 2, 1) := by decide +kernel
theorem dX5_takeTurn_173 : decode cX5_takeTurn 173 = .ok (.irem, 1) := by decide +kernel
theorem dX5_takeTurn_174 : decode cX5_takeTurn 174 = .ok (.ifCond .ne 19, 3) := by decide +kernel
theorem dX5_takeTurn_177 : decode cX5_takeTurn 177 = .ok (.aload_n 0, 1) := by decide +kernel
theorem dX5_takeTurn_178 : decode cX5_takeTurn 178 = .ok (.iconst 5, 1) := by decide +kernel
theorem dX5_takeTurn_179 : decode cX5_takeTurn 179 = .ok (.iconst 3, 1) := by decide +kernel
theorem dX5_takeTurn_180 : decode cX5_takeTurn 180 = .ok (.iload_n 2, 1) := by decide +kernel
theorem dX5_takeTurn_181 : decode cX5_takeTurn 181 = .ok (.sipush 600, 3) := by decide +kernel
theorem dX5_takeTurn_184 : decode cX5_takeTurn 184 = .ok (.irem, 1) := by decide +kernel
theorem dX5_takeTurn_185 : decode cX5_takeTurn 185 = .ok (.iconst 0, 1) := by decide +kernel
theorem dX5_takeTurn_186 : decode cX5_takeTurn 186 = .ok (.invokevirtual 201, 3) := by decide +kernel
theorem dX5_takeTurn_189 : decode cX5_takeTurn 189 = .ok (.pop, 1) := by decide +kernel
theorem dX5_takeTurn_190 : decode cX5_takeTurn 190 = .ok (.goto 39, 3) := by decide +kernel
theorem dX5_takeTurn_193 : decode cX5_takeTurn 193 = .ok (.iload_n 3, 1) := by decide +kernel
theorem dX5_takeTurn_194 : decode cX5_takeTurn 194 = .ok (.bipush 11, 2) := by decide +kernel
theorem dX5_takeTurn_196 : decode cX5_takeTurn 196 = .ok (.if_icmp .ne 18, 3) := by decide +kernel
theorem dX5_takeTurn_199 : decode cX5_takeTurn 199 = .ok (.aload_n 0, 1) := by decide +kernel
theorem dX5_takeTurn_200 : decode cX5_takeTurn 200 = .ok (.iconst 5, 1) := by decide +kernel
theorem dX5_takeTurn_201 : decode cX5_takeTurn 201 = .ok (.iconst 2, 1) := by decide +kernel
theorem dX5_takeTurn_202 : decode cX5_takeTurn 202 = .ok (.iload_n 2, 1) := by decide +kernel
theorem dX5_takeTurn_203 : decode cX5_takeTurn 203 = .ok (.bipush 20, 2) := by decide +kernel
theorem dX5_takeTurn_205 : decode cX5_takeTurn 205 = .ok (.irem, 1) := by decide +kernel
theorem dX5_takeTurn_206 : decode cX5_takeTurn 206 = .ok (.iconst 0, 1) := by decide +kernel
theorem dX5_takeTurn_207 : decode cX5_takeTurn 207 = .ok (.invokevirtual 201, 3) := by decide +kernel
theorem dX5_takeTurn_210 : decode cX5_takeTurn 210 = .ok (.pop, 1) := by decide +kernel
theorem dX5_takeTurn_211 : decode cX5_takeTurn 211 = .ok (.goto 18, 3) := by decide +kernel
theorem dX5_takeTurn_214 : decode cX5_takeTurn 214 = .ok (.aload_n 0, 1) := by decide +kernel
theorem dX5_takeTurn_215 : decode cX5_takeTurn 215 = .ok (.bipush 6, 2) := by decide +kernel
theorem dX5_takeTurn_217 : decode cX5_takeTurn 217 = .ok (.iconst 1, 1) := by decide +kernel
theorem dX5_takeTurn_218 : decode cX5_takeTurn 218 = .ok (.iload_n 2, 1) := by decide +kernel
theorem dX5_takeTurn_219 : decode cX5_takeTurn 219 = .ok (.bipush 8, 2) := by decide +kernel
theorem dX5_takeTurn_221 : decode cX5_takeTurn 221 = .ok (.irem, 1) := by decide +kernel
theorem dX5_takeTurn_222 : decode cX5_takeTurn 222 = .ok (.iadd, 1) := by decide +kernel
theorem dX5_takeTurn_223 : decode cX5_takeTurn 223 = .ok (.iconst 0, 1) := by decide +kernel
theorem dX5_takeTurn_224 : decode cX5_takeTurn 224 = .ok (.iconst 0, 1) := by decide +kernel
theorem dX5_takeTurn_225 : decode cX5_takeTurn 225 = .ok (.invokevirtual 201, 3) := by decide +kernel
theorem dX5_takeTurn_228 : decode cX5_takeTurn 228 = .ok (.pop, 1) := by decide +kernel
theorem dX5_takeTurn_229 : decode cX5_takeTurn 229 = .ok (.return_, 1) := by decide +kernel
theorem dX5_isIn_0 : decode cX5_isIn 0 = .ok (.iload_n 0, 1) := by decide +kernel
theorem dX5_isIn_1 : decode cX5_isIn 1 = .ok (.iload_n 1, 1) := by decide +kernel
theorem dX5_isIn_2 : decode cX5_isIn 2 = .ok (.if_icmp .lt 12, 3) := by decide +kernel
theorem dX5_isIn_5 : decode cX5_isIn 5 = .ok (.iload_n 0, 1) := by decide +kernel
theorem dX5_isIn_6 : decode cX5_isIn 6 = .ok (.iload_n 2, 1) := by decide +kernel
theorem dX5_isIn_7 : decode cX5_isIn 7 = .ok (.if_icmp .gt 7, 3) := by decide +kernel
theorem dX5_isIn_10 : decode cX5_isIn 10 = .ok (.iconst 1, 1) := by decide +kernel
theorem dX5_isIn_11 : decode cX5_isIn 11 = .ok (.goto 4, 3) := by decide +kernel
theorem dX5_isIn_14 : decode cX5_isIn 14 = .ok (.iconst 0, 1) := by decide +kernel
theorem dX5_isIn_15 : decode cX5_isIn 15 = .ok (.ireturn, 1) := by decide +kernel
theorem dX5_asNumber_0 : decode cX5_asNumber 0 = .ok (.iload_n 0, 1) := by decide +kernel
theorem dX5_asNumber_1 : decode cX5_asNumber 1 = .ok (.ifCond .eq 7, 3) := by decide +kernel
theorem dX5_asNumber_4 : decode cX5_asNumber 4 = .ok (.iconst 1, 1) := by decide +kernel
theorem dX5_asNumber_5 : decode cX5_asNumber 5 = .ok (.goto 4, 3) := by decide +kernel
theorem dX5_asNumber_8 : decode cX5_asNumber 8 = .ok (.iconst 0, 1) := by decide +kernel
theorem dX5_asNumber_9 : decode cX5_asNumber 9 = .ok (.ireturn, 1) := by decide +kernel
theorem dX5_at_0 : decode cX5_at 0 = .ok (.iload_n 1, 1) := by decide +kernel
theorem dX5_at_1 : decode cX5_at 1 = .ok (.ifCond .lt 15, 3) := by decide +kernel
theorem dX5_at_4 : decode cX5_at 4 = .ok (.iload_n 1, 1) := by decide +kernel
theorem dX5_at_5 : decode cX5_at 5 = .ok (.aload_n 0, 1) := by decide +kernel
theorem dX5_at_6 : decode cX5_at 6 = .ok (.arraylength, 1) := by decide +kernel
theorem dX5_at_7 : decode cX5_at 7 = .ok (.if_icmp .ge 9, 3) := by decide +kernel
theorem dX5_at_10 : decode cX5_at 10 = .ok (.aload_n 0, 1) := by decide +kernel
theorem dX5_at_11 : decode cX5_at 11 = .ok (.iload_n 1, 1) := by decide +kernel
theorem dX5_at_12 : decode cX5_at 12 = .ok (.iaload, 1) := by decide +kernel
theorem dX5_at_13 : decode cX5_at 13 = .ok (.goto 4, 3) := by decide +kernel
theorem dX5_at_16 : decode cX5_at 16 = .ok (.iconst (-1), 1) := by decide +kernel
theorem dX5_at_17 : decode cX5_at 17 = .ok (.ireturn, 1) := by decide +kernel
theorem dX5_put_0 : decode cX5_put 0 = .ok (.iload_n 1, 1) := by decide +kernel
theorem dX5_put_1 : decode cX5_put 1 = .ok (.ifCond .lt 13, 3) := by decide +kernel
theorem dX5_put_4 : decode cX5_put 4 = .ok (.iload_n 1, 1) := by decide +kernel
theorem dX5_put_5 : decode cX5_put 5 = .ok (.aload_n 0, 1) := by decide +kernel
theorem dX5_put_6 : decode cX5_put 6 = .ok (.arraylength, 1) := by decide +kernel
theorem dX5_put_7 : decode cX5_put 7 = .ok (.if_icmp .ge 7, 3) := by decide +kernel
theorem dX5_put_10 : decode cX5_put 10 = .ok (.aload_n 0, 1) := by decide +kernel
theorem dX5_put_11 : decode cX5_put 11 = .ok (.iload_n 1, 1) := by decide +kernel
theorem dX5_put_12 : decode cX5_put 12 = .ok (.iload_n 2, 1) := by decide +kernel
theorem dX5_put_13 : decode cX5_put 13 = .ok (.iastore, 1) := by decide +kernel
theorem dX5_put_14 : decode cX5_put 14 = .ok (.return_, 1) := by decide +kernel
theorem dX5_copy_0 : decode cX5_copy 0 = .ok (.aload_n 0, 1) := by decide +kernel
theorem dX5_copy_1 : decode cX5_copy 1 = .ok (.iconst 0, 1) := by decide +kernel
theorem dX5_copy_2 : decode cX5_copy 2 = .ok (.aload_n 1, 1) := by decide +kernel
theorem dX5_copy_3 : decode cX5_copy 3 = .ok (.iconst 0, 1) := by decide +kernel
theorem dX5_copy_4 : decode cX5_copy 4 = .ok (.aload_n 0, 1) := by decide +kernel
theorem dX5_copy_5 : decode cX5_copy 5 = .ok (.arraylength, 1) := by decide +kernel
theorem dX5_copy_6 : decode cX5_copy 6 = .ok (.aload_n 1, 1) := by decide +kernel
theorem dX5_copy_7 : decode cX5_copy 7 = .ok (.arraylength, 1) := by decide +kernel
theorem dX5_copy_8 : decode cX5_copy 8 = .ok (.invokestatic 244, 3) := by decide +kernel
theorem dX5_copy_11 : decode cX5_copy 11 = .ok (.invokestatic 283, 3) := by decide +kernel
theorem dX5_copy_14 : decode cX5_copy 14 = .ok (.return_, 1) := by decide +kernel
theorem dX6_init_0 : decode cX6_init 0 = .ok (.aload_n 0, 1) := by decide +kernel
theorem dX6_init_1 : decode cX6_init 1 = .ok (.invokespecial 1, 3) := by decide +kernel
theorem dX6_init_4 : decode cX6_init 4 = .ok (.aload_n 0, 1) := by decide +kernel
theorem dX6_init_5 : decode cX6_init 5 = .ok (.sipush 621, 3) := by decide +kernel
theorem dX6_init_8 : decode cX6_init 8 = .ok (.newarray .int, 2) := by decide +kernel
theorem dX6_init_10 : decode cX6_init 10 = .ok (.putfield 7, 3) := by decide +kernel
theorem dX6_init_13 : decode cX6_init 13 = .ok (.aload_n 0, 1) := by decide +kernel
theorem dX6_init_14 : decode cX6_init 14 = .ok (.sipush 621, 3) := by decide +kernel
theorem dX6_init_17 : decode cX6_init 17 = .ok (.newarray .int, 2) := by decide +kernel
theorem dX6_init_19 : decode cX6_init 19 = .ok (.putfield 13, 3) := by decide +kernel
theorem dX6_init_22 : decode cX6_init 22 = .ok (.aload_n 0, 1) := by decide +kernel
theorem dX6_init_23 : decode cX6_init 23 = .ok (.sipush 621, 3) := by decide +kernel
theorem dX6_init_26 : decode cX6_init 26 = .ok (.newarray .int, 2) := by decide +kernel
theorem dX6_init_28 : decode cX6_init 28 = .ok (.putfield 16, 3) := by decide +kernel
theorem dX6_init_31 : decode cX6_init 31 = .ok (.aload_n 0, 1) := by decide +kernel
theorem dX6_init_32 : decode cX6_init 32 = .ok (.sipush 8694, 3) := by decide +kernel
theorem dX6_init_35 : decode cX6_init 35 = .ok (.newarray .int, 2) := by decide +kernel
theorem dX6_init_37 : decode cX6_init 37 = .ok (.putfield 19, 3) := by decide +kernel
theorem dX6_init_40 : decode cX6_init 40 = .ok (.aload_n 0, 1) := by decide +kernel
theorem dX6_init_41 : decode cX6_init 41 = .ok (.sipush 1242, 3) := by decide +kernel
theorem dX6_init_44 : decode cX6_init 44 = .ok (.newarray .int, 2) := by decide +kernel
theorem dX6_init_46 : decode cX6_init 46 = .ok (.putfield 22, 3) := by decide +kernel
theorem dX6_init_49 : decode cX6_init 49 = .ok (.aload_n 0, 1) := by decide +kernel
theorem dX6_init_50 : decode cX6_init 50 = .ok (.iconst 2, 1) := by decide +kernel
theorem dX6_init_51 : decode cX6_init 51 = .ok (.newarray .boolean, 2) := by decide +kernel
theorem dX6_init_53 : decode cX6_init 53 = .ok (.putfield 25, 3) := by decide +kernel
theorem dX6_init_56 : decode cX6_init 56 = .ok (.aload_n 0, 1) := by decide +kernel
theorem dX6_init_57 : decode cX6_init 57 = .ok (.bipush 120, 2) := by decide +kernel
theorem dX6_init_59 : decode cX6_init 59 = .ok (.newarray .int, 2) := by decide +kernel
theorem dX6_init_61 : decode cX6_init 61 = .ok (.putfield 29, 3) := by decide +kernel
theorem dX6_init_64 : decode cX6_init 64 = .ok (.aload_n 0, 1) := by decide +kernel
theorem dX6_init_65 : decode cX6_init 65 = .ok (.getfield 7, 3) := by decide +kernel
theorem dX6_init_68 : decode cX6_init 68 = .ok (.invokestatic 32, 3) := by decide +kernel
theorem dX6_init_71 : decode cX6_init 71 = .ok (.return_, 1) := by decide +kernel
theorem dX6_thrown_0 : decode cX6_thrown 0 = .ok (.aload_n 0, 1) := by decide +kernel
theorem dX6_thrown_1 : decode cX6_thrown 1 = .ok (.getfield 36, 3) := by decide +kernel
theorem dX6_thrown_4 : decode cX6_thrown 4 = .ok (.ireturn, 1) := by decide +kernel
theorem dX6_refused_0 : decode cX6_refused 0 = .ok (.aload_n 0, 1) := by decide +kernel
theorem dX6_refused_1 : decode cX6_refused 1 = .ok (.iload_n 1, 1) := by decide +kernel
theorem dX6_refused_2 : decode cX6_refused 2 = .ok (.putfield 36, 3) := by decide +kernel
theorem dX6_refused_5 : decode cX6_refused 5 = .ok (.iload_n 1, 1) := by decide +kernel
theorem dX6_refused_6 : decode cX6_refused 6 = .ok (.ifCond .eq 7, 3) := by decide +kernel
theorem dX6_refused_9 : decode cX6_refused 9 = .ok (.iconst 1, 1) := by decide +kernel
theorem dX6_refused_10 : decode cX6_refused 10 = .ok (.goto 4, 3) := by decide +kernel
theorem dX6_refused_13 : decode cX6_refused 13 = .ok (.iconst 0, 1) := by decide +kernel
theorem dX6_refused_14 : decode cX6_refused 14 = .ok (.ireturn, 1) := by decide +kernel
theorem dX6_in_0 : decode cX6_in 0 = .ok (.lload_n 0, 1) := by decide +kernel
theorem dX6_in_1 : decode cX6_in 1 = .ok (.lload_n 2, 1) := by decide +kernel
theorem dX6_in_2 : decode cX6_in 2 = .ok (.lcmp, 1) := by decide +kernel
theorem dX6_in_3 : decode cX6_in 3 = .ok (.ifCond .lt 14, 3) := by decide +kernel
theorem dX6_in_6 : decode cX6_in 6 = .ok (.lload_n 0, 1) := by decide +kernel
theorem dX6_in_7 : decode cX6_in 7 = .ok (.lload 4, 2) := by decide +kernel
theorem dX6_in_9 : decode cX6_in 9 = .ok (.lcmp, 1) := by decide +kernel
theorem dX6_in_10 : decode cX6_in 10 = .ok (.ifCond .gt 7, 3) := by decide +kernel
theorem dX6_in_13 : decode cX6_in 13 = .ok (.iconst 1, 1) := by decide +kernel
theorem dX6_in_14 : decode cX6_in 14 = .ok (.goto 4, 3) := by decide +kernel
theorem dX6_in_17 : decode cX6_in 17 = .ok (.iconst 0, 1) := by decide +kernel
theorem dX6_in_18 : decode cX6_in 18 = .ok (.ireturn, 1) := by decide +kernel
theorem dX6_tens_0 : decode cX6_tens 0 = .ok (.lconst 1, 1) := by decide +kernel
theorem dX6_tens_1 : decode cX6_tens 1 = .ok (.lstore_n 1, 1) := by decide +kernel
theorem dX6_tens_2 : decode cX6_tens 2 = .ok (.iconst 0, 1) := by decide +kernel
theorem dX6_tens_3 : decode cX6_tens 3 = .ok (.istore_n 3, 1) := by decide +kernel
theorem dX6_tens_4 : decode cX6_tens 4 = .ok (.iload_n 3, 1) := by decide +kernel
theorem dX6_tens_5 : decode cX6_tens 5 = .ok (.iload_n 0, 1) := by decide +kernel
theorem dX6_tens_6 : decode cX6_tens 6 = .ok (.if_icmp .ge 15, 3) := by decide +kernel
theorem dX6_tens_9 : decode cX6_tens 9 = .ok (.lload_n 1, 1) := by decide +kernel
theorem dX6_tens_10 : decode cX6_tens 10 = .ok (.ldc2_w 40, 3) := by decide +kernel
theorem dX6_tens_13 : decode cX6_tens 13 = .ok (.lmul, 1) := by decide +kernel
theorem dX6_tens_14 : decode cX6_tens 14 = .ok (.lstore_n 1, 1) := by decide +kernel
theorem dX6_tens_15 : decode cX6_tens 15 = .ok (.iinc 3 1, 3) := by decide +kernel
theorem dX6_tens_18 : decode cX6_tens 18 = .ok (.goto (-14), 3) := by decide +kernel
theorem dX6_tens_21 : decode cX6_tens 21 = .ok (.lload_n 1, 1) := by decide +kernel
theorem dX6_tens_22 : decode cX6_tens 22 = .ok (.lreturn, 1) := by decide +kernel
theorem dX6_fresh_0 : decode cX6_fresh 0 = .ok (.iconst 0, 1) := by decide +kernel
theorem dX6_fresh_1 : decode cX6_fresh 1 = .ok (.istore_n 1, 1) := by decide +kernel
theorem dX6_fresh_2 : decode cX6_fresh 2 = .ok (.iload_n 1, 1) := by decide +kernel
theorem dX6_fresh_3 : decode cX6_fresh 3 = .ok (.sipush 621, 3) := by decide +kernel
theorem dX6_fresh_6 : decode cX6_fresh 6 = .ok (.if_icmp .ge 13, 3) := by decide +kernel
theorem dX6_fresh_9 : decode cX6_fresh 9 = .ok (.aload_n 0, 1) := by decide +kernel
theorem dX6_fresh_10 : decode cX6_fresh 10 = .ok (.iload_n 1, 1) := by decide +kernel
theorem dX6_fresh_11 : decode cX6_fresh 11 = .ok (.iconst 0, 1) := by decide +kernel
theorem dX6_fresh_12 : decode cX6_fresh 12 = .ok (.iastore, 1) := by decide +kernel
theorem dX6_fresh_13 : decode cX6_fresh 13 = .ok (.iinc 1 1, 3) := by decide +kernel
theorem dX6_fresh_16 : decode cX6_fresh 16 = .ok (.goto (-14), 3) := by decide +kernel
theorem dX6_fresh_19 : decode cX6_fresh 19 = .ok (.iconst 0, 1) := by decide +kernel
theorem dX6_fresh_20 : decode cX6_fresh 20 = .ok (.istore_n 1, 1) := by decide +kernel
theorem dX6_fresh_21 : decode cX6_fresh 21 = .ok (.iload_n 1, 1) := by decide +kernel
theorem dX6_fresh_22 : decode cX6_fresh 22 = .ok (.bipush 8, 2) := by decide +kernel
theorem dX6_fresh_24 : decode cX6_fresh 24 = .ok (.if_icmp .ge 17, 3) := by decide +kernel
theorem dX6_fresh_27 : decode cX6_fresh 27 = .ok (.aload_n 0, 1) := by decide +kernel
theorem dX6_fresh_28 : decode cX6_fresh 28 = .ok (.sipush 402, 3) := by decide +kernel
theorem dX6_fresh_31 : decode cX6_fresh 31 = .ok (.iload_n 1, 1) := by decide +kernel
theorem dX6_fresh_32 : decode cX6_fresh 32 = .ok (.iadd, 1) := by decide +kernel
theorem dX6_fresh_33 : decode cX6_fresh 33 = .ok (.iconst (-1), 1) := by decide +kernel
theorem dX6_fresh_34 : decode cX6_fresh 34 = .ok (.iastore, 1) := by decide +kernel
theorem dX6_fresh_35 : decode cX6_fresh 35 = .ok (.iinc 1 1, 3) := by decide +kernel
theorem dX6_fresh_38 : decode cX6_fresh 38 = .ok (.goto (-17), 3) := by decide +kernel
theorem dX6_fresh_41 : decode cX6_fresh 41 = .ok (.aload_n 0, 1) := by decide +kernel
theorem dX6_fresh_42 : decode cX6_fresh 42 = .ok (.sipush 610, 3) := by decide +kernel
theorem dX6_fresh_45 : decode cX6_fresh 45 = .ok (.iconst 4, 1) := by decide +kernel
theorem dX6_fresh_46 : decode cX6_fresh 46 = .ok (.iastore, 1) := by decide +kernel
theorem dX6_fresh_47 : decode cX6_fresh 47 = .ok (.aload_n 0, 1) := by decide +kernel
theorem dX6_fresh_48 : decode cX6_fresh 48 = .ok (.sipush 611, 3) := by decide +kernel
theorem dX6_fresh_51 : decode cX6_fresh 51 = .ok (.bipush 100, 2) := by decide +kernel
theorem dX6_fresh_53 : decode cX6_fresh 53 = .ok (.iastore, 1) := by decide +kernel
theorem dX6_fresh_54 : decode cX6_fresh 54 = .ok (.aload_n 0, 1) := by decide +kernel
theorem dX6_fresh_55 : decode cX6_fresh 55 = .ok (.sipush 613, 3) := by decide +kernel
theorem dX6_fresh_58 : decode cX6_fresh 58 = .ok (.sipush 400, 3) := by decide +kernel
theorem dX6_fresh_61 : decode cX6_fresh 61 = .ok (.iastore, 1) := by decide +kernel
theorem dX6_fresh_62 : decode cX6_fresh 62 = .ok (.return_, 1) := by decide +kernel
theorem dX6_copy_0 : decode cX6_copy 0 = .ok (.iconst 0, 1) := by decide +kernel
theorem dX6_copy_1 : decode cX6_copy 1 = .ok (.istore_n 2, 1) := by decide +kernel
theorem dX6_copy_2 : decode cX6_copy 2 = .ok (.iload_n 2, 1) := by decide +kernel
theorem dX6_copy_3 : decode cX6_copy 3 = .ok (.sipush 621, 3) := by decide +kernel
theorem dX6_copy_6 : decode cX6_copy 6 = .ok (.if_icmp .ge 15, 3) := by decide +kernel
theorem dX6_copy_9 : decode cX6_copy 9 = .ok (.aload_n 1, 1) := by decide +kernel
theorem dX6_copy_10 : decode cX6_copy 10 = .ok (.iload_n 2, 1) := by decide +kernel
theorem dX6_copy_11 : decode cX6_copy 11 = .ok (.aload_n 0, 1) := by decide +kernel
theorem dX6_copy_12 : decode cX6_copy 12 = .ok (.iload_n 2, 1) := by decide +kernel
theorem dX6_copy_13 : decode cX6_copy 13 = .ok (.iaload, 1) := by decide +kernel
theorem dX6_copy_14 : decode cX6_copy 14 = .ok (.iastore, 1) := by decide +kernel
theorem dX6_copy_15 : decode cX6_copy 15 = .ok (.iinc 2 1, 3) := by decide +kernel
theorem dX6_copy_18 : decode cX6_copy 18 = .ok (.goto (-16), 3) := by decide +kernel
theorem dX6_copy_21 : decode cX6_copy 21 = .ok (.return_, 1) := by decide +kernel
theorem dX6_isName_0 : decode cX6_isName 0 = .ok (.iload_n 0, 1) := by decide +kernel
theorem dX6_isName_1 : decode cX6_isName 1 = .ok (.i2l, 1) := by decide +kernel
theorem dX6_isName_2 : decode cX6_isName 2 = .ok (.lconst 0, 1) := by decide +kernel
theorem dX6_isName_3 : decode cX6_isName 3 = .ok (.ldc2_w 42, 3) := by decide +kernel
theorem dX6_isName_6 : decode cX6_isName 6 = .ok (.invokestatic 44, 3) := by decide +kernel
theorem dX6_isName_9 : decode cX6_isName 9 = .ok (.ireturn, 1) := by decide +kernel
theorem dX6_isKey_0 : decode cX6_isKey 0 = .ok (.iload_n 0, 1) := by decide +kernel
theorem dX6_isKey_1 : decode cX6_isKey 1 = .ok (.i2l, 1) := by decide +kernel
theorem dX6_isKey_2 : decode cX6_isKey 2 = .ok (.lconst 0, 1) := by decide +kernel
theorem dX6_isKey_3 : decode cX6_isKey 3 = .ok (.ldc2_w 42, 3) := by decide +kernel
theorem dX6_isKey_6 : decode cX6_isKey 6 = .ok (.invokestatic 44, 3) := by decide +kernel
theorem dX6_isKey_9 : decode cX6_isKey 9 = .ok (.ireturn, 1) := by decide +kernel
theorem dX6_isRow_0 : decode cX6_isRow 0 = .ok (.iload_n 0, 1) := by decide +kernel
theorem dX6_isRow_1 : decode cX6_isRow 1 = .ok (.invokestatic 48, 3) := by decide +kernel
theorem dX6_isRow_4 : decode cX6_isRow 4 = .ok (.ifCond .eq 31, 3) := by decide +kernel
theorem dX6_isRow_7 : decode cX6_isRow 7 = .ok (.iload_n 1, 1) := by decide +kernel
theorem dX6_isRow_8 : decode cX6_isRow 8 = .ok (.i2l, 1) := by decide +kernel
theorem dX6_isRow_9 : decode cX6_isRow 9 = .ok (.lconst 0, 1) := by decide +kernel
theorem dX6_isRow_10 : decode cX6_isRow 10 = .ok (.ldc2_w 52, 3) := by decide +kernel
theorem dX6_isRow_13 : decode cX6_isRow 13 = .ok (.invokestatic 44, 3) := by decide +kernel
theorem dX6_isRow_16 : decode cX6_isRow 16 = .ok (.ifCond .eq 19, 3) := by decide +kernel
theorem dX6_isRow_19 : decode cX6_isRow 19 = .ok (.iload_n 2, 1) := by decide +kernel
theorem dX6_isRow_20 : decode cX6_isRow 20 = .ok (.i2l, 1) := by decide +kernel
theorem dX6_isRow_21 : decode cX6_isRow 21 = .ok (.lconst 1, 1) := by decide +kernel
theorem dX6_isRow_22 : decode cX6_isRow 22 = .ok (.ldc2_w 54, 3) := by decide +kernel
theorem dX6_isRow_25 : decode cX6_isRow 25 = .ok (.invokestatic 44, 3) := by decide +kernel
theorem dX6_isRow_28 : decode cX6_isRow 28 = .ok (.ifCond .eq 7, 3) := by decide +kernel
theorem dX6_isRow_31 : decode cX6_isRow 31 = .ok (.iconst 1, 1) := by decide +kernel
theorem dX6_isRow_32 : decode cX6_isRow 32 = .ok (.goto 4, 3) := by decide +kernel
theorem dX6_isRow_35 : decode cX6_isRow 35 = .ok (.iconst 0, 1) := by decide +kernel
theorem dX6_isRow_36 : decode cX6_isRow 36 = .ok (.ireturn, 1) := by decide +kernel
theorem dX6_isSetting_0 : decode cX6_isSetting 0 = .ok (.iload_n 0, 1) := by decide +kernel
theorem dX6_isSetting_1 : decode cX6_isSetting 1 = .ok (.tableswitch 87 0 4 #[35, 45, 57, 67, 77], 35) := by decide +kernel
theorem dX6_isSetting_36 : decode cX6_isSetting 36 = .ok (.iload_n 1, 1) := by decide +kernel
theorem dX6_isSetting_37 : decode cX6_isSetting 37 = .ok (.i2l, 1) := by decide +kernel
theorem dX6_isSetting_38 : decode cX6_isSetting 38 = .ok (.lconst 1, 1) := by decide +kernel
theorem dX6_isSetting_39 : decode cX6_isSetting 39 = .ok (.ldc2_w 56, 3) := by decide +kernel
theorem dX6_isSetting_42 : decode cX6_isSetting 42 = .ok (.invokestatic 44, 3) := by decide +kernel
theorem dX6_isSetting_45 : decode cX6_isSetting 45 = .ok (.ireturn, 1) := by decide +kernel
theorem dX6_isSetting_46 : decode cX6_isSetting 46 = .ok (.iload_n 1, 1) := by decide +kernel
theorem dX6_isSetting_47 : decode cX6_isSetting 47 = .ok (.i2l, 1) := by decide +kernel
theorem dX6_isSetting_48 : decode cX6_isSetting 48 = .ok (.ldc2_w 54, 3) := by decide +kernel
theorem dX6_isSetting_51 : decode cX6_isSetting 51 = .ok (.ldc2_w 58, 3) := by decide +kernel
theorem dX6_isSetting_54 : decode cX6_isSetting 54 = .ok (.invokestatic 44, 3) := by decide +kernel
theorem dX6_isSetting_57 : decode cX6_isSetting 57 = .ok (.ireturn, 1) := by decide +kernel
theorem dX6_isSetting_58 : decode cX6_isSetting 58 = .ok (.iload_n 1, 1) := by decide +kernel
theorem dX6_isSetting_59 : decode cX6_isSetting 59 = .ok (.i2l, 1) := by decide +kernel
theorem dX6_isSetting_60 : decode cX6_isSetting 60 = .ok (.lconst 0, 1) := by decide +kernel
theorem dX6_isSetting_61 : decode cX6_isSetting 61 = .ok (.ldc2_w 52, 3) := by decide +kernel
theorem dX6_isSetting_64 : decode cX6_isSetting 64 = .ok (.invokestatic 44, 3) := by decide +kernel
theorem dX6_isSetting_67 : decode cX6_isSetting 67 = .ok (.ireturn, 1) := by decide +kernel
theorem dX6_isSetting_68 : decode cX6_isSetting 68 = .ok (.iload_n 1, 1) := by decide +kernel
theorem dX6_isSetting_69 : decode cX6_isSetting 69 = .ok (.i2l, 1) := by decide +kernel
theorem dX6_isSetting_70 : decode cX6_isSetting 70 = .ok (.lconst 0, 1) := by decide +kernel
theorem dX6_isSetting_71 : decode cX6_isSetting 71 = .ok (.ldc2_w 60, 3) := by decide +kernel
theorem dX6_isSetting_74 : decode cX6_isSetting 74 = .ok (.invokestatic 44, 3) := by decide +kernel
theorem dX6_isSetting_77 : decode cX6_isSetting 77 = .ok (.ireturn, 1) := by decide +kernel
theorem dX6_isSetting_78 : decode cX6_isSetting 78 = .ok (.iload_n 1, 1) := by decide +kernel
theorem dX6_isSetting_79 : decode cX6_isSetting 79 = .ok (.i2l, 1) := by decide +kernel
theorem dX6_isSetting_80 : decode cX6_isSetting 80 = .ok (.lconst 0, 1) := by decide +kernel
theorem dX6_isSetting_81 : decode cX6_isSetting 81 = .ok (.ldc2_w 60, 3) := by decide +kernel
theorem dX6_isSetting_84 : decode cX6_isSetting 84 = .ok (.invokestatic 44, 3) := by decide +kernel
theorem dX6_isSetting_87 : decode cX6_isSetting 87 = .ok (.ireturn, 1) := by decide +kernel
theorem dX6_isSetting_88 : decode cX6_isSetting 88 = .ok (.iload_n 0, 1) := by decide +kernel
theorem dX6_isSetting_89 : decode cX6_isSetting 89 = .ok (.iconst 5, 1) := by decide +kernel
theorem dX6_isSetting_90 : decode cX6_isSetting 90 = .ok (.if_icmp .ne 19, 3) := by decide +kernel
theorem dX6_isSetting_93 : decode cX6_isSetting 93 = .ok (.iload_n 1, 1) := by decide +kernel
theorem dX6_isSetting_94 : decode cX6_isSetting 94 = .ok (.i2l, 1) := by decide +kernel
theorem dX6_isSetting_95 : decode cX6_isSetting 95 = .ok (.lconst 0, 1) := by decide +kernel
theorem dX6_isSetting_96 : decode cX6_isSetting 96 = .ok (.ldc2_w 52, 3) := by decide +kernel
theorem dX6_isSetting_99 : decode cX6_isSetting 99 = .ok (.invokestatic 44, 3) := by decide +kernel
theorem dX6_isSetting_102 : decode cX6_isSetting 102 = .ok (.ifCond .eq 7, 3) := by decide +kernel
theorem dX6_isSetting_105 : decode cX6_isSetting 105 = .ok (.iconst 1, 1) := by decide +kernel
theorem dX6_isSetting_106 : decode cX6_isSetting 106 = .ok (.goto 4, 3) := by decide +kernel
theorem dX6_isSetting_109 : decode cX6_isSetting 109 = .ok (.iconst 0, 1) := by decide +kernel
theorem dX6_isSetting_110 : decode cX6_isSetting 110 = .ok (.ireturn, 1) := by decide +kernel
theorem dX6_reader_0 : decode cX6_reader 0 = .ok (.sipush 410, 3) := by decide +kernel
theorem dX6_reader_3 : decode cX6_reader 3 = .ok (.bipush 15, 2) := by decide +kernel
theorem dX6_reader_5 : decode cX6_reader 5 = .ok (.iload_n 0, 1) := by decide +kernel
theorem dX6_reader_6 : decode cX6_reader 6 = .ok (.imul, 1) := by decide +kernel
theorem dX6_reader_7 : decode cX6_reader 7 = .ok (.iadd, 1) := by decide +kernel
theorem dX6_reader_8 : decode cX6_reader 8 = .ok (.ireturn, 1) := by decide +kernel
theorem dX6_isReader_0 : decode cX6_isReader 0 = .ok (.iload_n 1, 1) := by decide +kernel
theorem dX6_isReader_1 : decode cX6_isReader 1 = .ok (.invokestatic 62, 3) := by decide +kernel
theorem dX6_isReader_4 : decode cX6_isReader 4 = .ok (.ifCond .eq 19, 3) := by decide +kernel
theorem dX6_isReader_7 : decode cX6_isReader 7 = .ok (.aload_n 0, 1) := by decide +kernel
theorem dX6_isReader_8 : decode cX6_isReader 8 = .ok (.iload_n 1, 1) := by decide +kernel
theorem dX6_isReader_9 : decode cX6_isReader 9 = .ok (.invokestatic 65, 3) := by decide +kernel
theorem dX6_isReader_12 : decode cX6_isReader 12 = .ok (.iconst 0, 1) := by decide +kernel
theorem dX6_isReader_13 : decode cX6_isReader 13 = .ok (.iadd, 1) := by decide +kernel
theorem dX6_isReader_14 : decode cX6_isReader 14 = .ok (.iaload, 1) := by decide +kernel
theorem dX6_isReader_15 : decode cX6_isReader 15 = .ok (.iconst 1, 1) := by decide +kernel
theorem dX6_isReader_16 : decode cX6_isReader 16 = .ok (.if_icmp .ne 7, 3) := by decide +kernel
theorem dX6_isReader_19 : decode cX6_isReader 19 = .ok (.iconst 1, 1) := by decide +kernel
theorem dX6_isReader_20 : decode cX6_isReader 20 = .ok (.goto 4, 3) := by decide +kernel
theorem dX6_isReader_23 : decode cX6_isReader 23 = .ok (.iconst 0, 1) := by decide +kernel
theorem dX6_isReader_24 : decode cX6_isReader 24 = .ok (.ireturn, 1) := by decide +kernel
theorem dX6_key_0 : decode cX6_key 0 = .ok (.aload_n 0, 1) := by decide +kernel
theorem dX6_key_1 : decode cX6_key 1 = .ok (.iconst 0, 1) := by decide +kernel
theorem dX6_key_2 : decode cX6_key 2 = .ok (.iload_n 1, 1) := by decide +kernel
theorem dX6_key_3 : decode cX6_key 3 = .ok (.iadd, 1) := by decide +kernel
theorem dX6_key_4 : decode cX6_key 4 = .ok (.iaload, 1) := by decide +kernel
theorem dX6_key_5 : decode cX6_key 5 = .ok (.bipush 8, 2) := by decide +kernel
theorem dX6_key_7 : decode cX6_key 7 = .ok (.irem, 1) := by decide +kernel
theorem dX6_key_8 : decode cX6_key 8 = .ok (.ireturn, 1) := by decide +kernel
theorem dX6_begins_0 : decode cX6_begins 0 = .ok (.aload_n 0, 1) := by decide +kernel
theorem dX6_begins_1 : decode cX6_begins 1 = .ok (.iconst 0, 1) := by decide +kernel
theorem dX6_begins_2 : decode cX6_begins 2 = .ok (.iload_n 1, 1) := by decide +kernel
theorem dX6_begins_3 : decode cX6_begins 3 = .ok (.iadd, 1) := by decide +kernel
theorem dX6_begins_4 : decode cX6_begins 4 = .ok (.iaload, 1) := by decide +kernel
theorem dX6_begins_5 : decode cX6_begins 5 = .ok (.bipush 8, 2) := by decide +kernel
theorem dX6_begins_7 : decode cX6_begins 7 = .ok (.idiv, 1) := by decide +kernel
theorem dX6_begins_8 : decode cX6_begins 8 = .ok (.iconst 2, 1) := by decide +kernel
theorem dX6_begins_9 : decode cX6_begins 9 = .ok (.irem, 1) := by decide +kernel
theorem dX6_begins_10 : decode cX6_begins 10 = .ok (.iconst 1, 1) := by decide +kernel
theorem dX6_begins_11 : decode cX6_begins 11 = .ok (.if_icmp .ne 7, 3) := by decide +kernel
theorem dX6_begins_14 : decode cX6_begins 14 = .ok (.iconst 1, 1) := by decide +kernel
theorem dX6_begins_15 : decode cX6_begins 15 = .ok (.goto 4, 3) := by decide +kernel
theorem dX6_begins_18 : decode cX6_begins 18 = .ok (.iconst 0, 1) := by decide +kernel
theorem dX6_begins_19 : decode cX6_begins 19 = .ok (.ireturn, 1) := by decide +kernel
theorem dX6_value_0 : decode cX6_value 0 = .ok (.aload_n 0, 1) := by decide +kernel
theorem dX6_value_1 : decode cX6_value 1 = .ok (.iconst 0, 1) := by decide +kernel
theorem dX6_value_2 : decode cX6_value 2 = .ok (.iload_n 1, 1) := by decide +kernel
theorem dX6_value_3 : decode cX6_value 3 = .ok (.iadd, 1) := by decide +kernel
theorem dX6_value_4 : decode cX6_value 4 = .ok (.iaload, 1) := by decide +kernel
theorem dX6_value_5 : decode cX6_value 5 = .ok (.bipush 16, 2) := by decide +kernel
theorem dX6_value_7 : decode cX6_value 7 = .ok (.idiv, 1) := by decide +kernel
theorem dX6_value_8 : decode cX6_value 8 = .ok (.bipush 100, 2) := by decide +kernel
theorem dX6_value_10 : decode cX6_value 10 = .ok (.irem, 1) := by decide +kernel
theorem dX6_value_11 : decode cX6_value 11 = .ok (.ireturn, 1) := by decide +kernel
theorem dX6_size_0 : decode cX6_size 0 = .ok (.aload_n 0, 1) := by decide +kernel
theorem dX6_size_1 : decode cX6_size 1 = .ok (.iconst 0, 1) := by decide +kernel
theorem dX6_size_2 : decode cX6_size 2 = .ok (.iload_n 1, 1) := by decide +kernel
theorem dX6_size_3 : decode cX6_size 3 = .ok (.iadd, 1) := by decide +kernel
theorem dX6_size_4 : decode cX6_size 4 = .ok (.iaload, 1) := by decide +kernel
theorem dX6_size_5 : decode cX6_size 5 = .ok (.sipush 1600, 3) := by decide +kernel
theorem dX6_size_8 : decode cX6_size 8 = .ok (.idiv, 1) := by decide +kernel
theorem dX6_size_9 : decode cX6_size 9 = .ok (.ireturn, 1) := by decide +kernel
theorem dX6_sizes_0 : decode cX6_sizes 0 = .ok (.iconst 0, 1) := by decide +kernel
theorem dX6_sizes_1 : decode cX6_sizes 1 = .ok (.istore_n 3, 1) := by decide +kernel
theorem dX6_sizes_2 : decode cX6_sizes 2 = .ok (.iload_n 1, 1) := by decide +kernel
theorem dX6_sizes_3 : decode cX6_sizes 3 = .ok (.istore 4, 2) := by decide +kernel
theorem dX6_sizes_5 : decode cX6_sizes 5 = .ok (.iload 4, 2) := by decide +kernel
theorem dX6_sizes_7 : decode cX6_sizes 7 = .ok (.iload_n 2, 1) := by decide +kernel
theorem dX6_sizes_8 : decode cX6_sizes 8 = .ok (.if_icmp .ge 18, 3) := by decide +kernel
theorem dX6_sizes_11 : decode cX6_sizes 11 = .ok (.iload_n 3, 1) := by decide +kernel
theorem dX6_sizes_12 : decode cX6_sizes 12 = .ok (.aload_n 0, 1) := by decide +kernel
theorem dX6_sizes_13 : decode cX6_sizes 13 = .ok (.iload 4, 2) := by decide +kernel
theorem dX6_sizes_15 : decode cX6_sizes 15 = .ok (.invokestatic 69, 3) := by decide +kernel
theorem dX6_sizes_18 : decode cX6_sizes 18 = .ok (.iadd, 1) := by decide +kernel
theorem dX6_sizes_19 : decode cX6_sizes 19 = .ok (.istore_n 3, 1) := by decide +kernel
theorem dX6_sizes_20 : decode cX6_sizes 20 = .ok (.iinc 4 1, 3) := by decide +kernel
theorem dX6_sizes_23 : decode cX6_sizes 23 = .ok (.goto (-18), 3) := by decide +kernel
theorem dX6_sizes_26 : decode cX6_sizes 26 = .ok (.iload_n 3, 1) := by decide +kernel
theorem dX6_sizes_27 : decode cX6_sizes 27 = .ok (.ireturn, 1) := by decide +kernel
theorem dX6_segments_0 : decode cX6_segments 0 = .ok (.iconst 0, 1) := by decide +kernel
theorem dX6_segments_1 : decode cX6_segments 1 = .ok (.istore_n 1, 1) := by decide +kernel
theorem dX6_segments_2 : decode cX6_segments 2 = .ok (.aload_n 0, 1) := by decide +kernel
theorem dX6_segments_3 : decode cX6_segments 3 = .ok (.sipush 400, 3) := by decide +kernel
theorem dX6_segments_6 : decode cX6_segments 6 = .ok (.iaload, 1) := by decide +kernel
theorem dX6_segments_7 : decode cX6_segments 7 = .ok (.istore_n 2, 1) := by decide +kernel
theorem dX6_segments_8 : decode cX6_segments 8 = .ok (.iload_n 2, 1) := by decide +kernel
theorem dX6_segments_9 : decode cX6_segments 9 = .ok (.aload_n 0, 1) := by decide +kernel
theorem dX6_segments_10 : decode cX6_segments 10 = .ok (.sipush 401, 3) := by decide +kernel
theorem dX6_segments_13 : decode cX6_segments 13 = .ok (.iaload, 1) := by decide +kernel
theorem dX6_segments_14 : decode cX6_segments 14 = .ok (.if_icmp .ge 25, 3) := by decide +kernel
theorem dX6_segments_17 : decode cX6_segments 17 = .ok (.iload_n 1, 1) := by decide +kernel
theorem dX6_segments_18 : decode cX6_segments 18 = .ok (.aload_n 0, 1) := by decide +kernel
theorem dX6_segments_19 : decode cX6_segments 19 = .ok (.iload_n 2, 1) := by decide +kernel
theorem dX6_segments_20 : decode cX6_segments 20 = .ok (.invokestatic 73, 3) := by decide +kernel
theorem dX6_segments_23 : decode cX6_segments 23 = .ok (.ifCond .eq 7, 3) := by decide +kernel
theorem dX6_segments_26 : decode cX6_segments 26 = .ok (.iconst 1, 1) := by decide +kernel
theorem dX6_segments_27 : decode cX6_segments 27 = .ok (.goto 4, 3) := by decide +kernel
theorem dX6_segments_30 : decode cX6_segments 30 = .ok (.iconst 0, 1) := by decide +kernel
theorem dX6_segments_31 : decode cX6_segments 31 = .ok (.iadd, 1) := by decide +kernel
theorem dX6_segments_32 : decode cX6_segments 32 = .ok (.istore_n 1, 1) := by decide +kernel
theorem dX6_segments_33 : decode cX6_segments 33 = .ok (.iinc 2 1, 3) := by decide +kernel
theorem dX6_segments_36 : decode cX6_segments 36 = .ok (.goto (-28), 3) := by decide +kernel
theorem dX6_segments_39 : decode cX6_segments 39 = .ok (.iload_n 1, 1) := by decide +kernel
theorem dX6_segments_40 : decode cX6_segments 40 = .ok (.ireturn, 1) := by decide +kernel
theorem dX6_segmentAt_0 : decode cX6_segmentAt 0 = .ok (.iload_n 1, 1) := by decide +kernel
theorem dX6_segmentAt_1 : decode cX6_segmentAt 1 = .ok (.istore_n 2, 1) := by decide +kernel
theorem dX6_segmentAt_2 : decode cX6_segmentAt 2 = .ok (.aload_n 0, 1) := by decide +kernel
theorem dX6_segmentAt_3 : decode cX6_segmentAt 3 = .ok (.iload_n 2, 1) := by decide +kernel
theorem dX6_segmentAt_4 : decode cX6_segmentAt 4 = .ok (.invokestatic 73, 3) := by decide +kernel
theorem dX6_segmentAt_7 : decode cX6_segmentAt 7 = .ok (.ifCond .ne 9, 3) := by decide +kernel
theorem dX6_segmentAt_10 : decode cX6_segmentAt 10 = .ok (.iinc 2 (-1), 3) := by decide +kernel
theorem dX6_segmentAt_13 : decode cX6_segmentAt 13 = .ok (.goto (-11), 3) := by decide +kernel
theorem dX6_segmentAt_16 : decode cX6_segmentAt 16 = .ok (.iload_n 2, 1) := by decide +kernel
theorem dX6_segmentAt_17 : decode cX6_segmentAt 17 = .ok (.ireturn, 1) := by decide +kernel
theorem dX6_behind_0 : decode cX6_behind 0 = .ok (.iload_n 1, 1) := by decide +kernel
theorem dX6_behind_1 : decode cX6_behind 1 = .ok (.iconst 1, 1) := by decide +kernel
theorem dX6_behind_2 : decode cX6_behind 2 = .ok (.iadd, 1) := by decide +kernel
theorem dX6_behind_3 : decode cX6_behind 3 = .ok (.istore_n 2, 1) := by decide +kernel
theorem dX6_behind_4 : decode cX6_behind 4 = .ok (.iload_n 2, 1) := by decide +kernel
theorem dX6_behind_5 : decode cX6_behind 5 = .ok (.aload_n 0, 1) := by decide +kernel
theorem dX6_behind_6 : decode cX6_behind 6 = .ok (.sipush 401, 3) := by decide +kernel
theorem dX6_behind_9 : decode cX6_behind 9 = .ok (.iaload, 1) := by decide +kernel
theorem dX6_behind_10 : decode cX6_behind 10 = .ok (.if_icmp .ge 17, 3) := by decide +kernel
theorem dX6_behind_13 : decode cX6_behind 13 = .ok (.aload_n 0, 1) := by decide +kernel
theorem dX6_behind_14 : decode cX6_behind 14 = .ok (.iload_n 2, 1) := by decide +kernel
theorem dX6_behind_15 : decode cX6_behind 15 = .ok (.invokestatic 73, 3) := by decide +kernel
theorem dX6_behind_18 : decode cX6_behind 18 = .ok (.ifCond .ne 9, 3) := by decide +kernel
theorem dX6_behind_21 : decode cX6_behind 21 = .ok (.iinc 2 1, 3) := by decide +kernel
theorem dX6_behind_24 : decode cX6_behind 24 = .ok (.goto (-20), 3) := by decide +kernel
theorem dX6_behind_27 : decode cX6_behind 27 = .ok (.iload_n 2, 1) := by decide +kernel
theorem dX6_behind_28 : decode cX6_behind 28 = .ok (.ireturn, 1) := by decide +kernel
theorem dX6_firstOf_0 : decode cX6_firstOf 0 = .ok (.aload_n 0, 1) := by decide +kernel
theorem dX6_firstOf_1 : decode cX6_firstOf 1 = .ok (.sipush 400, 3) := by decide +kernel
theorem dX6_firstOf_4 : decode cX6_firstOf 4 = .ok (.iaload, 1) := by decide +kernel
theorem dX6_firstOf_5 : decode cX6_firstOf 5 = .ok (.istore_n 2, 1) := by decide +kernel
theorem dX6_firstOf_6 : decode cX6_firstOf 6 = .ok (.iload_n 1, 1) := by decide +kernel
theorem dX6_firstOf_7 : decode cX6_firstOf 7 = .ok (.istore_n 3, 1) := by decide +kernel
theorem dX6_firstOf_8 : decode cX6_firstOf 8 = .ok (.iload_n 3, 1) := by decide +kernel
theorem dX6_firstOf_9 : decode cX6_firstOf 9 = .ok (.ifCond .le 15, 3) := by decide +kernel
theorem dX6_firstOf_12 : decode cX6_firstOf 12 = .ok (.aload_n 0, 1) := by decide +kernel
theorem dX6_firstOf_13 : decode cX6_firstOf 13 = .ok (.iload_n 2, 1) := by decide +kernel
theorem dX6_firstOf_14 : decode cX6_firstOf 14 = .ok (.invokestatic 77, 3) := by decide +kernel
theorem dX6_firstOf_17 : decode cX6_firstOf 17 = .ok (.istore_n 2, 1) := by decide +kernel
theorem dX6_firstOf_18 : decode cX6_firstOf 18 = .ok (.iinc 3 (-1), 3) := by decide +kernel
theorem dX6_firstOf_21 : decode cX6_firstOf 21 = .ok (.goto (-13), 3) := by decide +kernel
theorem dX6_firstOf_24 : decode cX6_firstOf 24 = .ok (.iload_n 2, 1) := by decide +kernel
theorem dX6_firstOf_25 : decode cX6_firstOf 25 = .ok (.ireturn, 1) := by decide +kernel
theorem dX6_isDue_0 : decode cX6_isDue 0 = .ok (.aload_n 0, 1) := by decide +kernel
theorem dX6_isDue_1 : decode cX6_isDue 1 = .ok (.iload_n 1, 1) := by decide +kernel
theorem dX6_isDue_2 : decode cX6_isDue 2 = .ok (.invokestatic 77, 3) := by decide +kernel
theorem dX6_isDue_5 : decode cX6_isDue 5 = .ok (.iconst 1, 1) := by decide +kernel
theorem dX6_isDue_6 : decode cX6_isDue 6 = .ok (.isub, 1) := by decide +kernel
theorem dX6_isDue_7 : decode cX6_isDue 7 = .ok (.istore_n 2, 1) := by decide +kernel
theorem dX6_isDue_8 : decode cX6_isDue 8 = .ok (.aload_n 0, 1) := by decide +kernel
theorem dX6_isDue_9 : decode cX6_isDue 9 = .ok (.sipush 612, 3) := by decide +kernel
theorem dX6_isDue_12 : decode cX6_isDue 12 = .ok (.iaload, 1) := by decide +kernel
theorem dX6_isDue_13 : decode cX6_isDue 13 = .ok (.ifCond .le 28, 3) := by decide +kernel
theorem dX6_isDue_16 : decode cX6_isDue 16 = .ok (.aload_n 0, 1) := by decide +kernel
theorem dX6_isDue_17 : decode cX6_isDue 17 = .ok (.sipush 616, 3) := by decide +kernel
theorem dX6_isDue_20 : decode cX6_isDue 20 = .ok (.iaload, 1) := by decide +kernel
theorem dX6_isDue_21 : decode cX6_isDue 21 = .ok (.aload_n 0, 1) := by decide +kernel
theorem dX6_isDue_22 : decode cX6_isDue 22 = .ok (.sipush 200, 3) := by decide +kernel
theorem dX6_isDue_25 : decode cX6_isDue 25 = .ok (.iload_n 2, 1) := by decide +kernel
theorem dX6_isDue_26 : decode cX6_isDue 26 = .ok (.iadd, 1) := by decide +kernel
theorem dX6_isDue_27 : decode cX6_isDue 27 = .ok (.iaload, 1) := by decide +kernel
theorem dX6_isDue_28 : decode cX6_isDue 28 = .ok (.isub, 1) := by decide +kernel
theorem dX6_isDue_29 : decode cX6_isDue 29 = .ok (.aload_n 0, 1) := by decide +kernel
theorem dX6_isDue_30 : decode cX6_isDue 30 = .ok (.sipush 612, 3) := by decide +kernel
theorem dX6_isDue_33 : decode cX6_isDue 33 = .ok (.iaload, 1) := by decide +kernel
theorem dX6_isDue_34 : decode cX6_isDue 34 = .ok (.if_icmp .lt 7, 3) := by decide +kernel
theorem dX6_isDue_37 : decode cX6_isDue 37 = .ok (.iconst 1, 1) := by decide +kernel
theorem dX6_isDue_38 : decode cX6_isDue 38 = .ok (.goto 4, 3) := by decide +kernel
theorem dX6_isDue_41 : decode cX6_isDue 41 = .ok (.iconst 0, 1) := by decide +kernel
theorem dX6_isDue_42 : decode cX6_isDue 42 = .ok (.istore_n 3, 1) := by decide +kernel
theorem dX6_isDue_43 : decode cX6_isDue 43 = .ok (.iload_n 3, 1) := by decide +kernel
theorem dX6_isDue_44 : decode cX6_isDue 44 = .ok (.ifCond .ne 25, 3) := by decide +kernel
theorem dX6_isDue_47 : decode cX6_isDue 47 = .ok (.aload_n 0, 1) := by decide +kernel
theorem dX6_isDue_48 : decode cX6_isDue 48 = .ok (.aload_n 0, 1) := by decide +kernel
theorem dX6_isDue_49 : decode cX6_isDue 49 = .ok (.sipush 400, 3) := by decide +kernel
theorem dX6_isDue_52 : decode cX6_isDue 52 = .ok (.iaload, 1) := by decide +kernel
theorem dX6_isDue_53 : decode cX6_isDue 53 = .ok (.aload_n 0, 1) := by decide +kernel
theorem dX6_isDue_54 : decode cX6_isDue 54 = .ok (.sipush 401, 3) := by decide +kernel
theorem dX6_isDue_57 : decode cX6_isDue 57 = .ok (.iaload, 1) := by decide +kernel
theorem dX6_isDue_58 : decode cX6_isDue 58 = .ok (.invokestatic 80, 3) := by decide +kernel
theorem dX6_isDue_61 : decode cX6_isDue 61 = .ok (.aload_n 0, 1) := by decide +kernel
theorem dX6_isDue_62 : decode cX6_isDue 62 = .ok (.sipush 613, 3) := by decide +kernel
theorem dX6_isDue_65 : decode cX6_isDue 65 = .ok (.iaload, 1) := by decide +kernel
theorem dX6_isDue_66 : decode cX6_isDue 66 = .ok (.if_icmp .le 7, 3) := by decide +kernel
theorem dX6_isDue_69 : decode cX6_isDue 69 = .ok (.iconst 1, 1) := by decide +kernel
theorem dX6_isDue_70 : decode cX6_isDue 70 = .ok (.goto 4, 3) := by decide +kernel
theorem dX6_isDue_73 : decode cX6_isDue 73 = .ok (.iconst 0, 1) := by decide +kernel
theorem dX6_isDue_74 : decode cX6_isDue 74 = .ok (.ireturn, 1) := by decide +kernel
theorem dX6_holders_0 : decode cX6_holders 0 = .ok (.iconst 0, 1) := by decide +kernel
theorem dX6_holders_1 : decode cX6_holders 1 = .ok (.istore_n 2, 1) := by decide +kernel
theorem dX6_holders_2 : decode cX6_holders 2 = .ok (.iconst 0, 1) := by decide +kernel
theorem dX6_holders_3 : decode cX6_holders 3 = .ok (.istore_n 3, 1) := by decide +kernel
theorem dX6_holders_4 : decode cX6_holders 4 = .ok (.iload_n 3, 1) := by decide +kernel
theorem dX6_holders_5 : decode cX6_holders 5 = .ok (.bipush 8, 2) := by decide +kernel
theorem dX6_holders_7 : decode cX6_holders 7 = .ok (.if_icmp .ge 53, 3) := by decide +kernel
theorem dX6_holders_10 : decode cX6_holders 10 = .ok (.iload_n 3, 1) := by decide +kernel
theorem dX6_holders_11 : decode cX6_holders 11 = .ok (.invokestatic 65, 3) := by decide +kernel
theorem dX6_holders_14 : decode cX6_holders 14 = .ok (.istore 4, 2) := by decide +kernel
theorem dX6_holders_16 : decode cX6_holders 16 = .ok (.iload_n 2, 1) := by decide +kernel
theorem dX6_holders_17 : decode cX6_holders 17 = .ok (.aload_n 0, 1) := by decide +kernel
theorem dX6_holders_18 : decode cX6_holders 18 = .ok (.iload 4, 2) := by decide +kernel
theorem dX6_holders_20 : decode cX6_holders 20 = .ok (.iconst 0, 1) := by decide +kernel
theorem dX6_holders_21 : decode cX6_holders 21 = .ok (.iadd, 1) := by decide +kernel
theorem dX6_holders_22 : decode cX6_holders 22 = .ok (.iaload, 1) := by decide +kernel
theorem dX6_holders_23 : decode cX6_holders 23 = .ok (.iconst 1, 1) := by decide +kernel
theorem dX6_holders_24 : decode cX6_holders 24 = .ok (.if_icmp .ne 27, 3) := by decide +kernel
theorem dX6_holders_27 : decode cX6_holders 27 = .ok (.aload_n 0, 1) := by decide +kernel
theorem dX6_holders_28 : decode cX6_holders 28 = .ok (.iload 4, 2) := by decide +kernel
theorem dX6_holders_30 : decode cX6_holders 30 = .ok (.iconst 2, 1) := by decide +kernel
theorem dX6_holders_31 : decode cX6_holders 31 = .ok (.iadd, 1) := by decide +kernel
theorem dX6_holders_32 : decode cX6_holders 32 = .ok (.iaload, 1) := by decide +kernel
theorem dX6_holders_33 : decode cX6_holders 33 = .ok (.iconst 1, 1) := by decide +kernel
theorem dX6_holders_34 : decode cX6_holders 34 = .ok (.if_icmp .ne 17, 3) := by decide +kernel
theorem dX6_holders_37 : decode cX6_holders 37 = .ok (.aload_n 0, 1) := by decide +kernel
theorem dX6_holders_38 : decode cX6_holders 38 = .ok (.iload 4, 2) := by decide +kernel
theorem dX6_holders_40 : decode cX6_holders 40 = .ok (.iconst 1, 1) := by decide +kernel
theorem dX6_holders_41 : decode cX6_holders 41 = .ok (.iadd, 1) := by decide +kernel
theorem dX6_holders_42 : decode cX6_holders 42 = .ok (.iaload, 1) := by decide +kernel
theorem dX6_holders_43 : decode cX6_holders 43 = .ok (.iload_n 1, 1) := by decide +kernel
theorem dX6_holders_44 : decode cX6_holders 44 = .ok (.if_icmp .gt 7, 3) := by decide +kernel
theorem dX6_holders_47 : decode cX6_holders 47 = .ok (.iconst 1, 1) := by decide +kernel
theorem dX6_holders_48 : decode cX6_holders 48 = .ok (.goto 4, 3) := by decide +kernel
theorem dX6_holders_51 : decode cX6_holders 51 = .ok (.iconst 0, 1) := by decide +kernel
theorem dX6_holders_52 : decode cX6_holders 52 = .ok (.iadd, 1) := by decide +kernel
theorem dX6_holders_53 : decode cX6_holders 53 = .ok (.istore_n 2, 1) := by decide +kernel
theorem dX6_holders_54 : decode cX6_holders 54 = .ok (.iinc 3 1, 3) := by decide +kernel
theorem dX6_holders_57 : decode cX6_holders 57 = .ok (.goto (-53), 3) := by decide +kernel
theorem dX6_holders_60 : decode cX6_holders 60 = .ok (.iload_n 2, 1) := by decide +kernel
theorem dX6_holders_61 : decode cX6_holders 61 = .ok (.ireturn, 1) := by decide +kernel
theorem dX6_isHeld_0 : decode cX6_isHeld 0 = .ok (.aload_n 0, 1) := by decide +kernel
theorem dX6_isHeld_1 : decode cX6_isHeld 1 = .ok (.aload_n 0, 1) := by decide +kernel
theorem dX6_isHeld_2 : decode cX6_isHeld 2 = .ok (.iload_n 1, 1) := by decide +kernel
theorem dX6_isHeld_3 : decode cX6_isHeld 3 = .ok (.invokestatic 77, 3) := by decide +kernel
theorem dX6_isHeld_6 : decode cX6_isHeld 6 = .ok (.iconst 1, 1) := by decide +kernel
theorem dX6_isHeld_7 : decode cX6_isHeld 7 = .ok (.isub, 1) := by decide +kernel
theorem dX6_isHeld_8 : decode cX6_isHeld 8 = .ok (.invokestatic 84, 3) := by decide +kernel
theorem dX6_isHeld_11 : decode cX6_isHeld 11 = .ok (.ifCond .le 7, 3) := by decide +kernel
theorem dX6_isHeld_14 : decode cX6_isHeld 14 = .ok (.iconst 1, 1) := by decide +kernel
theorem dX6_isHeld_15 : decode cX6_isHeld 15 = .ok (.goto 4, 3) := by decide +kernel
theorem dX6_isHeld_18 : decode cX6_isHeld 18 = .ok (.iconst 0, 1) := by decide +kernel
theorem dX6_isHeld_19 : decode cX6_isHeld 19 = .ok (.ireturn, 1) := by decide +kernel
theorem dX6_whyStays_0 : decode cX6_whyStays 0 = .ok (.aload_n 0, 1) := by decide +kernel
theorem dX6_whyStays_1 : decode cX6_whyStays 1 = .ok (.invokestatic 87, 3) := by decide +kernel
theorem dX6_whyStays_4 : decode cX6_whyStays 4 = .ok (.iconst 2, 1) := by decide +kernel
theorem dX6_whyStays_5 : decode cX6_whyStays 5 = .ok (.if_icmp .ge 5, 3) := by decide +kernel
theorem dX6_whyStays_8 : decode cX6_whyStays 8 = .ok (.iconst 1, 1) := by decide +kernel
theorem dX6_whyStays_9 : decode cX6_whyStays 9 = .ok (.ireturn, 1) := by decide +kernel
theorem dX6_whyStays_10 : decode cX6_whyStays 10 = .ok (.aload_n 0, 1) := by decide +kernel
theorem dX6_whyStays_11 : decode cX6_whyStays 11 = .ok (.aload_n 0, 1) := by decide +kernel
theorem dX6_whyStays_12 : decode cX6_whyStays 12 = .ok (.sipush 400, 3) := by decide +kernel
theorem dX6_whyStays_15 : decode cX6_whyStays 15 = .ok (.iaload, 1) := by decide +kernel
theorem dX6_whyStays_16 : decode cX6_whyStays 16 = .ok (.invokestatic 91, 3) := by decide +kernel
theorem dX6_whyStays_19 : decode cX6_whyStays 19 = .ok (.ifCond .ne 7, 3) := by decide +kernel
theorem dX6_whyStays_22 : decode cX6_whyStays 22 = .ok (.iconst 2, 1) := by decide +kernel
theorem dX6_whyStays_23 : decode cX6_whyStays 23 = .ok (.goto 20, 3) := by decide +kernel
theorem dX6_whyStays_26 : decode cX6_whyStays 26 = .ok (.aload_n 0, 1) := by decide +kernel
theorem dX6_whyStays_27 : decode cX6_whyStays 27 = .ok (.aload_n 0, 1) := by decide +kernel
theorem dX6_whyStays_28 : decode cX6_whyStays 28 = .ok (.sipush 400, 3) := by decide +kernel
theorem dX6_whyStays_31 : decode cX6_whyStays 31 = .ok (.iaload, 1) := by decide +kernel
theorem dX6_whyStays_32 : decode cX6_whyStays 32 = .ok (.invokestatic 94, 3) := by decide +kernel
theorem dX6_whyStays_35 : decode cX6_whyStays 35 = .ok (.ifCond .eq 7, 3) := by decide +kernel
theorem dX6_whyStays_38 : decode cX6_whyStays 38 = .ok (.iconst 3, 1) := by decide +kernel
theorem dX6_whyStays_39 : decode cX6_whyStays 39 = .ok (.goto 4, 3) := by decide +kernel
theorem dX6_whyStays_42 : decode cX6_whyStays 42 = .ok (.iconst 0, 1) := by decide +kernel
theorem dX6_whyStays_43 : decode cX6_whyStays 43 = .ok (.ireturn, 1) := by decide +kernel
theorem dX6_drop_0 : decode cX6_drop 0 = .ok (.aload_n 0, 1) := by decide +kernel
theorem dX6_drop_1 : decode cX6_drop 1 = .ok (.aload_n 0, 1) := by decide +kernel
theorem dX6_drop_2 : decode cX6_drop 2 = .ok (.sipush 400, 3) := by decide +kernel
theorem dX6_drop_5 : decode cX6_drop 5 = .ok (.iaload, 1) := by decide +kernel
theorem dX6_drop_6 : decode cX6_drop 6 = .ok (.invokestatic 77, 3) := by decide +kernel
theorem dX6_drop_9 : decode cX6_drop 9 = .ok (.istore_n 1, 1) := by decide +kernel
theorem dX6_drop_10 : decode cX6_drop 10 = .ok (.aload_n 0, 1) := by decide +kernel
theorem dX6_drop_11 : decode cX6_drop 11 = .ok (.sipush 400, 3) := by decide +kernel
theorem dX6_drop_14 : decode cX6_drop 14 = .ok (.iaload, 1) := by decide +kernel
theorem dX6_drop_15 : decode cX6_drop 15 = .ok (.istore_n 2, 1) := by decide +kernel
theorem dX6_drop_16 : decode cX6_drop 16 = .ok (.iload_n 2, 1) := by decide +kernel
theorem dX6_drop_17 : decode cX6_drop 17 = .ok (.iload_n 1, 1) := by decide +kernel
theorem dX6_drop_18 : decode cX6_drop 18 = .ok (.if_icmp .ge 25, 3) := by decide +kernel
theorem dX6_drop_21 : decode cX6_drop 21 = .ok (.aload_n 0, 1) := by decide +kernel
theorem dX6_drop_22 : decode cX6_drop 22 = .ok (.sipush 402, 3) := by decide +kernel
theorem dX6_drop_25 : decode cX6_drop 25 = .ok (.aload_n 0, 1) := by decide +kernel
theorem dX6_drop_26 : decode cX6_drop 26 = .ok (.iload_n 2, 1) := by decide +kernel
theorem dX6_drop_27 : decode cX6_drop 27 = .ok (.invokestatic 97, 3) := by decide +kernel
theorem dX6_drop_30 : decode cX6_drop 30 = .ok (.iadd, 1) := by decide +kernel
theorem dX6_drop_31 : decode cX6_drop 31 = .ok (.aload_n 0, 1) := by decide +kernel
theorem dX6_drop_32 : decode cX6_drop 32 = .ok (.iload_n 2, 1) := by decide +kernel
theorem dX6_drop_33 : decode cX6_drop 33 = .ok (.invokestatic 100, 3) := by decide +kernel
theorem dX6_drop_36 : decode cX6_drop 36 = .ok (.iastore, 1) := by decide +kernel
theorem dX6_drop_37 : decode cX6_drop 37 = .ok (.iinc 2 1, 3) := by decide +kernel
theorem dX6_drop_40 : decode cX6_drop 40 = .ok (.goto (-24), 3) := by decide +kernel
theorem dX6_drop_43 : decode cX6_drop 43 = .ok (.aload_n 0, 1) := by decide +kernel
theorem dX6_drop_44 : decode cX6_drop 44 = .ok (.sipush 400, 3) := by decide +kernel
theorem dX6_drop_47 : decode cX6_drop 47 = .ok (.iload_n 1, 1) := by decide +kernel
theorem dX6_drop_48 : decode cX6_drop 48 = .ok (.iastore, 1) := by decide +kernel
theorem dX6_drop_49 : decode cX6_drop 49 = .ok (.aload_n 0, 1) := by decide +kernel
theorem dX6_drop_50 : decode cX6_drop 50 = .ok (.sipush 617, 3) := by decide +kernel
theorem dX6_drop_53 : decode cX6_drop 53 = .ok (.dup2, 1) := by decide +kernel
theorem dX6_drop_54 : decode cX6_drop 54 = .ok (.iaload, 1) := by decide +kernel
theorem dX6_drop_55 : decode cX6_drop 55 = .ok (.iconst 1, 1) := by decide +kernel
theorem dX6_drop_56 : decode cX6_drop 56 = .ok (.iadd, 1) := by decide +kernel
theorem dX6_drop_57 : decode cX6_drop 57 = .ok (.iastore, 1) := by decide +kernel
theorem dX6_drop_58 : decode cX6_drop 58 = .ok (.return_, 1) := by decide +kernel
theorem dX6_told_0 : decode cX6_told 0 = .ok (.aload_n 0, 1) := by decide +kernel
theorem dX6_told_1 : decode cX6_told 1 = .ok (.sipush 402, 3) := by decide +kernel
theorem dX6_told_4 : decode cX6_told 4 = .ok (.iload_n 1, 1) := by decide +kernel
theorem dX6_told_5 : decode cX6_told 5 = .ok (.iadd, 1) := by decide +kernel
theorem dX6_told_6 : decode cX6_told 6 = .ok (.iaload, 1) := by decide +kernel
theorem dX6_told_7 : decode cX6_told 7 = .ok (.istore_n 3, 1) := by decide +kernel
theorem dX6_told_8 : decode cX6_told 8 = .ok (.aload_n 0, 1) := by decide +kernel
theorem dX6_told_9 : decode cX6_told 9 = .ok (.sipush 400, 3) := by decide +kernel
theorem dX6_told_12 : decode cX6_told 12 = .ok (.iaload, 1) := by decide +kernel
theorem dX6_told_13 : decode cX6_told 13 = .ok (.istore 4, 2) := by decide +kernel
theorem dX6_told_15 : decode cX6_told 15 = .ok (.iload 4, 2) := by decide +kernel
theorem dX6_told_17 : decode cX6_told 17 = .ok (.iload_n 2, 1) := by decide +kernel
theorem dX6_told_18 : decode cX6_told 18 = .ok (.if_icmp .ge 30, 3) := by decide +kernel
theorem dX6_told_21 : decode cX6_told 21 = .ok (.aload_n 0, 1) := by decide +kernel
theorem dX6_told_22 : decode cX6_told 22 = .ok (.iload 4, 2) := by decide +kernel
theorem dX6_told_24 : decode cX6_told 24 = .ok (.invokestatic 97, 3) := by decide +kernel
theorem dX6_told_27 : decode cX6_told 27 = .ok (.iload_n 1, 1) := by decide +kernel
theorem dX6_told_28 : decode cX6_told 28 = .ok (.if_icmp .ne 12, 3) := by decide +kernel
theorem dX6_told_31 : decode cX6_told 31 = .ok (.aload_n 0, 1) := by decide +kernel
theorem dX6_told_32 : decode cX6_told 32 = .ok (.iload 4, 2) := by decide +kernel
theorem dX6_told_34 : decode cX6_told 34 = .ok (.invokestatic 100, 3) := by decide +kernel
theorem dX6_told_37 : decode cX6_told 37 = .ok (.goto 4, 3) := by decide +kernel
theorem dX6_told_40 : decode cX6_told 40 = .ok (.iload_n 3, 1) := by decide +kernel
theorem dX6_told_41 : decode cX6_told 41 = .ok (.istore_n 3, 1) := by decide +kernel
theorem dX6_told_42 : decode cX6_told 42 = .ok (.iinc 4 1, 3) := by decide +kernel
theorem dX6_told_45 : decode cX6_told 45 = .ok (.goto (-30), 3) := by decide +kernel
theorem dX6_told_48 : decode cX6_told 48 = .ok (.iload_n 3, 1) := by decide +kernel
theorem dX6_told_49 : decode cX6_told 49 = .ok (.ireturn, 1) := by decide +kernel
theorem dX6_toldBack_0 : decode cX6_toldBack 0 = .ok (.iload_n 2, 1) := by decide +kernel
theorem dX6_toldBack_1 : decode cX6_toldBack 1 = .ok (.iconst 1, 1) := by decide +kernel
theorem dX6_toldBack_2 : decode cX6_toldBack 2 = .ok (.isub, 1) := by decide +kernel
theorem dX6_toldBack_3 : decode cX6_toldBack 3 = .ok (.istore_n 3, 1) := by decide +kernel
theorem dX6_toldBack_4 : decode cX6_toldBack 4 = .ok (.iload_n 3, 1) := by decide +kernel
theorem dX6_toldBack_5 : decode cX6_toldBack 5 = .ok (.aload_n 0, 1) := by decide +kernel
theorem dX6_toldBack_6 : decode cX6_toldBack 6 = .ok (.sipush 400, 3) := by decide +kernel
theorem dX6_toldBack_9 : decode cX6_toldBack 9 = .ok (.iaload, 1) := by decide +kernel
theorem dX6_toldBack_10 : decode cX6_toldBack 10 = .ok (.if_icmp .lt 18, 3) := by decide +kernel
theorem dX6_toldBack_13 : decode cX6_toldBack 13 = .ok (.aload_n 0, 1) := by decide +kernel
theorem dX6_toldBack_14 : decode cX6_toldBack 14 = .ok (.iload_n 3, 1) := by decide +kernel
theorem dX6_toldBack_15 : decode cX6_toldBack 15 = .ok (.invokestatic 97, 3) := by decide +kernel
theorem dX6_toldBack_18 : decode cX6_toldBack 18 = .ok (.iload_n 1, 1) := by decide +kernel
theorem dX6_toldBack_19 : decode cX6_toldBack 19 = .ok (.if_icmp .eq 9, 3) := by decide +kernel
theorem dX6_toldBack_22 : decode cX6_toldBack 22 = .ok (.iinc 3 (-1), 3) := by decide +kernel
theorem dX6_toldBack_25 : decode cX6_toldBack 25 = .ok (.goto (-21), 3) := by decide +kernel
theorem dX6_toldBack_28 : decode cX6_toldBack 28 = .ok (.iload_n 3, 1) := by decide +kernel
theorem dX6_toldBack_29 : decode cX6_toldBack 29 = .ok (.aload_n 0, 1) := by decide +kernel
theorem dX6_toldBack_30 : decode cX6_toldBack 30 = .ok (.sipush 400, 3) := by decide +kernel
theorem dX6_toldBack_33 : decode cX6_toldBack 33 = .ok (.iaload, 1) := by decide +kernel
theorem dX6_toldBack_34 : decode cX6_toldBack 34 = .ok (.if_icmp .lt 11, 3) := by decide +kernel
theorem dX6_toldBack_37 : decode cX6_toldBack 37 = .ok (.aload_n 0, 1) := by decide +kernel
theorem dX6_toldBack_38 : decode cX6_toldBack 38 = .ok (.iload_n 3, 1) := by decide +kernel
theorem dX6_toldBack_39 : decode cX6_toldBack 39 = .ok (.invokestatic 100, 3) := by decide +kernel
theorem dX6_toldBack_42 : decode cX6_toldBack 42 = .ok (.goto 10, 3) := by decide +kernel
theorem dX6_toldBack_45 : decode cX6_toldBack 45 = .ok (.aload_n 0, 1) := by decide +kernel
theorem dX6_toldBack_46 : decode cX6_toldBack 46 = .ok (.sipush 402, 3) := by decide +kernel
theorem dX6_toldBack_49 : decode cX6_toldBack 49 = .ok (.iload_n 1, 1) := by decide +kernel
theorem dX6_toldBack_50 : decode cX6_toldBack 50 = .ok (.iadd, 1) := by decide +kernel
theorem dX6_toldBack_51 : decode cX6_toldBack 51 = .ok (.iaload, 1) := by decide +kernel
theorem dX6_toldBack_52 : decode cX6_toldBack 52 = .ok (.ireturn, 1) := by decide +kernel
theorem dX6_lose_0 : decode cX6_lose 0 = .ok (.iload_n 1, 1) := by decide +kernel
theorem dX6_lose_1 : decode cX6_lose 1 = .ok (.invokestatic 65, 3) := by decide +kernel
theorem dX6_lose_4 : decode cX6_lose 4 = .ok (.istore_n 2, 1) := by decide +kernel
theorem dX6_lose_5 : decode cX6_lose 5 = .ok (.aload_n 0, 1) := by decide +kernel
theorem dX6_lose_6 : decode cX6_lose 6 = .ok (.iload_n 2, 1) := by decide +kernel
theorem dX6_lose_7 : decode cX6_lose 7 = .ok (.iconst 0, 1) := by decide +kernel
theorem dX6_lose_8 : decode cX6_lose 8 = .ok (.iadd, 1) := by decide +kernel
theorem dX6_lose_9 : decode cX6_lose 9 = .ok (.iaload, 1) := by decide +kernel
theorem dX6_lose_10 : decode cX6_lose 10 = .ok (.ifCond .eq 11, 3) := by decide +kernel
theorem dX6_lose_13 : decode cX6_lose 13 = .ok (.aload_n 0, 1) := by decide +kernel
theorem dX6_lose_14 : decode cX6_lose 14 = .ok (.iload_n 2, 1) := by decide +kernel
theorem dX6_lose_15 : decode cX6_lose 15 = .ok (.iconst 2, 1) := by decide +kernel
theorem dX6_lose_16 : decode cX6_lose 16 = .ok (.iadd, 1) := by decide +kernel
theorem dX6_lose_17 : decode cX6_lose 17 = .ok (.iaload, 1) := by decide +kernel
theorem dX6_lose_18 : decode cX6_lose 18 = .ok (.ifCond .ne 4, 3) := by decide +kernel
theorem dX6_lose_21 : decode cX6_lose 21 = .ok (.return_, 1) := by decide +kernel
theorem dX6_lose_22 : decode cX6_lose 22 = .ok (.aload_n 0, 1) := by decide +kernel
theorem dX6_lose_23 : decode cX6_lose 23 = .ok (.sipush 614, 3) := by decide +kernel
theorem dX6_lose_26 : decode cX6_lose 26 = .ok (.iaload, 1) := by decide +kernel
theorem dX6_lose_27 : decode cX6_lose 27 = .ok (.ifCond .le 29, 3) := by decide +kernel
theorem dX6_lose_30 : decode cX6_lose 30 = .ok (.aload_n 0, 1) := by decide +kernel
theorem dX6_lose_31 : decode cX6_lose 31 = .ok (.aload_n 0, 1) := by decide +kernel
theorem dX6_lose_32 : decode cX6_lose 32 = .ok (.iload_n 2, 1) := by decide +kernel
theorem dX6_lose_33 : decode cX6_lose 33 = .ok (.iconst 1, 1) := by decide +kernel
theorem dX6_lose_34 : decode cX6_lose 34 = .ok (.iadd, 1) := by decide +kernel
theorem dX6_lose_35 : decode cX6_lose 35 = .ok (.iaload, 1) := by decide +kernel
theorem dX6_lose_36 : decode cX6_lose 36 = .ok (.aload_n 0, 1) := by decide +kernel
theorem dX6_lose_37 : decode cX6_lose 37 = .ok (.sipush 401, 3) := by decide +kernel
theorem dX6_lose_40 : decode cX6_lose 40 = .ok (.iaload, 1) := by decide +kernel
theorem dX6_lose_41 : decode cX6_lose 41 = .ok (.invokestatic 80, 3) := by decide +kernel
theorem dX6_lose_44 : decode cX6_lose 44 = .ok (.aload_n 0, 1) := by decide +kernel
theorem dX6_lose_45 : decode cX6_lose 45 = .ok (.sipush 614, 3) := by decide +kernel
theorem dX6_lose_48 : decode cX6_lose 48 = .ok (.iaload, 1) := by decide +kernel
theorem dX6_lose_49 : decode cX6_lose 49 = .ok (.if_icmp .le 7, 3) := by decide +kernel
theorem dX6_lose_52 : decode cX6_lose 52 = .ok (.iconst 1, 1) := by decide +kernel
theorem dX6_lose_53 : decode cX6_lose 53 = .ok (.goto 4, 3) := by decide +kernel
theorem dX6_lose_56 : decode cX6_lose 56 = .ok (.iconst 0, 1) := by decide +kernel
theorem dX6_lose_57 : decode cX6_lose 57 = .ok (.istore_n 3, 1) := by decide +kernel
theorem dX6_lose_58 : decode cX6_lose 58 = .ok (.aload_n 0, 1) := by decide +kernel
theorem dX6_lose_59 : decode cX6_lose 59 = .ok (.sipush 615, 3) := by decide +kernel
theorem dX6_lose_62 : decode cX6_lose 62 = .ok (.iaload, 1) := by decide +kernel
theorem dX6_lose_63 : decode cX6_lose 63 = .ok (.ifCond .le 26, 3) := by decide +kernel
theorem dX6_lose_66 : decode cX6_lose 66 = .ok (.aload_n 0, 1) := by decide +kernel
theorem dX6_lose_67 : decode cX6_lose 67 = .ok (.sipush 616, 3) := by decide +kernel
theorem dX6_lose_70 : decode cX6_lose 70 = .ok (.iaload, 1) := by decide +kernel
theorem dX6_lose_71 : decode cX6_lose 71 = .ok (.aload_n 0, 1) := by decide +kernel
theorem dX6_lose_72 : decode cX6_lose 72 = .ok (.iload_n 2, 1) := by decide +kernel
theorem dX6_lose_73 : decode cX6_lose 73 = .ok (.iconst 5, 1) := by decide +kernel
theorem dX6_lose_74 : decode cX6_lose 74 = .ok (.iadd, 1) := by decide +kernel
theorem dX6_lose_75 : decode cX6_lose 75 = .ok (.iaload, 1) := by decide +kernel
theorem dX6_lose_76 : decode cX6_lose 76 = .ok (.isub, 1) := by decide +kernel
theorem dX6_lose_77 : decode cX6_lose 77 = .ok (.aload_n 0, 1) := by decide +kernel
theorem dX6_lose_78 : decode cX6_lose 78 = .ok (.sipush 615, 3) := by decide +kernel
theorem dX6_lose_81 : decode cX6_lose 81 = .ok (.iaload, 1) := by decide +kernel
theorem dX6_lose_82 : decode cX6_lose 82 = .ok (.if_icmp .lt 7, 3) := by decide +kernel
theorem dX6_lose_85 : decode cX6_lose 85 = .ok (.iconst 1, 1) := by decide +kernel
theorem dX6_lose_86 : decode cX6_lose 86 = .ok (.goto 4, 3) := by decide +kernel
theorem dX6_lose_89 : decode cX6_lose 89 = .ok (.iconst 0, 1) := by decide +kernel
theorem dX6_lose_90 : decode cX6_lose 90 = .ok (.istore 4, 2) := by decide +kernel
theorem dX6_lose_92 : decode cX6_lose 92 = .ok (.iload_n 3, 1) := by decide +kernel
theorem dX6_lose_93 : decode cX6_lose 93 = .ok (.ifCond .ne 8, 3) := by decide +kernel
theorem dX6_lose_96 : decode cX6_lose 96 = .ok (.iload 4, 2) := by decide +kernel
theorem dX6_lose_98 : decode cX6_lose 98 = .ok (.ifCond .eq 43, 3) := by decide +kernel
theorem dX6_lose_101 : decode cX6_lose 101 = .ok (.aload_n 0, 1) := by decide +kernel
theorem dX6_lose_102 : decode cX6_lose 102 = .ok (.iload_n 2, 1) := by decide +kernel
theorem dX6_lose_103 : decode cX6_lose 103 = .ok (.iconst 2, 1) := by decide +kernel
theorem dX6_lose_104 : decode cX6_lose 104 = .ok (.iadd, 1) := by decide +kernel
theorem dX6_lose_105 : decode cX6_lose 105 = .ok (.iconst 0, 1) := by decide +kernel
theorem dX6_lose_106 : decode cX6_lose 106 = .ok (.iastore, 1) := by decide +kernel
theorem dX6_lose_107 : decode cX6_lose 107 = .ok (.aload_n 0, 1) := by decide +kernel
theorem dX6_lose_108 : decode cX6_lose 108 = .ok (.iload_n 2, 1) := by decide +kernel
theorem dX6_lose_109 : decode cX6_lose 109 = .ok (.bipush 6, 2) := by decide +kernel
theorem dX6_lose_111 : decode cX6_lose 111 = .ok (.iadd, 1) := by decide +kernel
theorem dX6_lose_112 : decode cX6_lose 112 = .ok (.iload_n 3, 1) := by decide +kernel
theorem dX6_lose_113 : decode cX6_lose 113 = .ok (.ifCond .eq 7, 3) := by decide +kernel
theorem dX6_lose_116 : decode cX6_lose 116 = .ok (.iconst 1, 1) := by decide +kernel
theorem dX6_lose_117 : decode cX6_lose 117 = .ok (.goto 4, 3) := by decide +kernel
theorem dX6_lose_120 : decode cX6_lose 120 = .ok (.iconst 2, 1) := by decide +kernel
theorem dX6_lose_121 : decode cX6_lose 121 = .ok (.iastore, 1) := by decide +kernel
theorem dX6_lose_122 : decode cX6_lose 122 = .ok (.aload_n 0, 1) := by decide +kernel
theorem dX6_lose_123 : decode cX6_lose 123 = .ok (.sipush 618, 3) := by decide +kernel
theorem dX6_lose_126 : decode cX6_lose 126 = .ok (.iload_n 3, 1) := by decide +kernel
theorem dX6_lose_127 : decode cX6_lose 127 = .ok (.ifCond .eq 7, 3) := by decide +kernel
theorem dX6_lose_130 : decode cX6_lose 130 = .ok (.iconst 0, 1) := by decide +kernel
theorem dX6_lose_131 : decode cX6_lose 131 = .ok (.goto 4, 3) := by decide +kernel
theorem dX6_lose_134 : decode cX6_lose 134 = .ok (.iconst 1, 1) := by decide +kernel
theorem dX6_lose_135 : decode cX6_lose 135 = .ok (.iadd, 1) := by decide +kernel
theorem dX6_lose_136 : decode cX6_lose 136 = .ok (.dup2, 1) := by decide +kernel
theorem dX6_lose_137 : decode cX6_lose 137 = .ok (.iaload, 1) := by decide +kernel
theorem dX6_lose_138 : decode cX6_lose 138 = .ok (.iconst 1, 1) := by decide +kernel
theorem dX6_lose_139 : decode cX6_lose 139 = .ok (.iadd, 1) := by decide +kernel
theorem dX6_lose_140 : decode cX6_lose 140 = .ok (.iastore, 1) := by decide +kernel
theorem dX6_lose_141 : decode cX6_lose 141 = .ok (.return_, 1) := by decide +kernel
theorem dX6_tick_0 : decode cX6_tick 0 = .ok (.aload_n 0, 1) := by decide +kernel
theorem dX6_tick_1 : decode cX6_tick 1 = .ok (.sipush 616, 3) := by decide +kernel
theorem dX6_tick_4 : decode cX6_tick 4 = .ok (.dup2, 1) := by decide +kernel
theorem dX6_tick_5 : decode cX6_tick 5 = .ok (.iaload, 1) := by decide +kernel
theorem dX6_tick_6 : decode cX6_tick 6 = .ok (.iconst 1, 1) := by decide +kernel
theorem dX6_tick_7 : decode cX6_tick 7 = .ok (.iadd, 1) := by decide +kernel
theorem dX6_tick_8 : decode cX6_tick 8 = .ok (.iastore, 1) := by decide +kernel
theorem dX6_tick_9 : decode cX6_tick 9 = .ok (.iconst 0, 1) := by decide +kernel
theorem dX6_tick_10 : decode cX6_tick 10 = .ok (.istore_n 1, 1) := by decide +kernel
theorem dX6_tick_11 : decode cX6_tick 11 = .ok (.iload_n 1, 1) := by decide +kernel
theorem dX6_tick_12 : decode cX6_tick 12 = .ok (.bipush 8, 2) := by decide +kernel
theorem dX6_tick_14 : decode cX6_tick 14 = .ok (.if_icmp .ge 14, 3) := by decide +kernel
theorem dX6_tick_17 : decode cX6_tick 17 = .ok (.aload_n 0, 1) := by decide +kernel
theorem dX6_tick_18 : decode cX6_tick 18 = .ok (.iload_n 1, 1) := by decide +kernel
theorem dX6_tick_19 : decode cX6_tick 19 = .ok (.invokestatic 103, 3) := by decide +kernel
theorem dX6_tick_22 : decode cX6_tick 22 = .ok (.iinc 1 1, 3) := by decide +kernel
theorem dX6_tick_25 : decode cX6_tick 25 = .ok (.goto (-14), 3) := by decide +kernel
theorem dX6_tick_28 : decode cX6_tick 28 = .ok (.aload_n 0, 1) := by decide +kernel
theorem dX6_tick_29 : decode cX6_tick 29 = .ok (.invokestatic 107, 3) := by decide +kernel
theorem dX6_tick_32 : decode cX6_tick 32 = .ok (.ifCond .ne 10, 3) := by decide +kernel
theorem dX6_tick_35 : decode cX6_tick 35 = .ok (.aload_n 0, 1) := by decide +kernel
theorem dX6_tick_36 : decode cX6_tick 36 = .ok (.invokestatic 110, 3) := by decide +kernel
theorem dX6_tick_39 : decode cX6_tick 39 = .ok (.goto (-11), 3) := by decide +kernel
theorem dX6_tick_42 : decode cX6_tick 42 = .ok (.return_, 1) := by decide +kernel
theorem dX6_goTicks_0 : decode cX6_goTicks 0 = .ok (.aload_n 0, 1) := by decide +kernel
theorem dX6_goTicks_1 : decode cX6_goTicks 1 = .ok (.sipush 617, 3) := by decide +kernel
theorem dX6_goTicks_4 : decode cX6_goTicks 4 = .ok (.iaload, 1) := by decide +kernel
theorem dX6_goTicks_5 : decode cX6_goTicks 5 = .ok (.istore_n 2, 1) := by decide +kernel
theorem dX6_goTicks_6 : decode cX6_goTicks 6 = .ok (.iconst 0, 1) := by decide +kernel
theorem dX6_goTicks_7 : decode cX6_goTicks 7 = .ok (.istore_n 3, 1) := by decide +kernel
theorem dX6_goTicks_8 : decode cX6_goTicks 8 = .ok (.iload_n 3, 1) := by decide +kernel
theorem dX6_goTicks_9 : decode cX6_goTicks 9 = .ok (.iload_n 1, 1) := by decide +kernel
theorem dX6_goTicks_10 : decode cX6_goTicks 10 = .ok (.if_icmp .ge 13, 3) := by decide +kernel
theorem dX6_goTicks_13 : decode cX6_goTicks 13 = .ok (.aload_n 0, 1) := by decide +kernel
theorem dX6_goTicks_14 : decode cX6_goTicks 14 = .ok (.invokestatic 113, 3) := by decide +kernel
theorem dX6_goTicks_17 : decode cX6_goTicks 17 = .ok (.iinc 3 1, 3) := by decide +kernel
theorem dX6_goTicks_20 : decode cX6_goTicks 20 = .ok (.goto (-12), 3) := by decide +kernel
theorem dX6_goTicks_23 : decode cX6_goTicks 23 = .ok (.aload_n 0, 1) := by decide +kernel
theorem dX6_goTicks_24 : decode cX6_goTicks 24 = .ok (.sipush 617, 3) := by decide +kernel
theorem dX6_goTicks_27 : decode cX6_goTicks 27 = .ok (.iaload, 1) := by decide +kernel
theorem dX6_goTicks_28 : decode cX6_goTicks 28 = .ok (.iload_n 2, 1) := by decide +kernel
theorem dX6_goTicks_29 : decode cX6_goTicks 29 = .ok (.isub, 1) := by decide +kernel
theorem dX6_goTicks_30 : decode cX6_goTicks 30 = .ok (.ireturn, 1) := by decide +kernel
theorem dX6_goWrite_0 : decode cX6_goWrite 0 = .ok (.aload_n 0, 1) := by decide +kernel
theorem dX6_goWrite_1 : decode cX6_goWrite 1 = .ok (.sipush 401, 3) := by decide +kernel
theorem dX6_goWrite_4 : decode cX6_goWrite 4 = .ok (.iaload, 1) := by decide +kernel
theorem dX6_goWrite_5 : decode cX6_goWrite 5 = .ok (.istore 4, 2) := by decide +kernel
theorem dX6_goWrite_7 : decode cX6_goWrite 7 = .ok (.aload_n 0, 1) := by decide +kernel
theorem dX6_goWrite_8 : decode cX6_goWrite 8 = .ok (.sipush 400, 3) := by decide +kernel
theorem dX6_goWrite_11 : decode cX6_goWrite 11 = .ok (.iaload, 1) := by decide +kernel
theorem dX6_goWrite_12 : decode cX6_goWrite 12 = .ok (.iload 4, 2) := by decide +kernel
theorem dX6_goWrite_14 : decode cX6_goWrite 14 = .ok (.if_icmp .ne 7, 3) := by decide +kernel
theorem dX6_goWrite_17 : decode cX6_goWrite 17 = .ok (.iconst 1, 1) := by decide +kernel
theorem dX6_goWrite_18 : decode cX6_goWrite 18 = .ok (.goto 4, 3) := by decide +kernel
theorem dX6_goWrite_21 : decode cX6_goWrite 21 = .ok (.iconst 0, 1) := by decide +kernel
theorem dX6_goWrite_22 : decode cX6_goWrite 22 = .ok (.istore 5, 2) := by decide +kernel
theorem dX6_goWrite_24 : decode cX6_goWrite 24 = .ok (.iload 5, 2) := by decide +kernel
theorem dX6_goWrite_26 : decode cX6_goWrite 26 = .ok (.ifCond .ne 51, 3) := by decide +kernel
theorem dX6_goWrite_29 : decode cX6_goWrite 29 = .ok (.aload_n 0, 1) := by decide +kernel
theorem dX6_goWrite_30 : decode cX6_goWrite 30 = .ok (.iload 4, 2) := by decide +kernel
theorem dX6_goWrite_32 : decode cX6_goWrite 32 = .ok (.iconst 1, 1) := by decide +kernel
theorem dX6_goWrite_33 : decode cX6_goWrite 33 = .ok (.isub, 1) := by decide +kernel
theorem dX6_goWrite_34 : decode cX6_goWrite 34 = .ok (.invokestatic 116, 3) := by decide +kernel
theorem dX6_goWrite_37 : decode cX6_goWrite 37 = .ok (.istore 6, 2) := by decide +kernel
theorem dX6_goWrite_39 : decode cX6_goWrite 39 = .ok (.iload 4, 2) := by decide +kernel
theorem dX6_goWrite_41 : decode cX6_goWrite 41 = .ok (.iload 6, 2) := by decide +kernel
theorem dX6_goWrite_43 : decode cX6_goWrite 43 = .ok (.isub, 1) := by decide +kernel
theorem dX6_goWrite_44 : decode cX6_goWrite 44 = .ok (.aload_n 0, 1) := by decide +kernel
theorem dX6_goWrite_45 : decode cX6_goWrite 45 = .ok (.sipush 610, 3) := by decide +kernel
theorem dX6_goWrite_48 : decode cX6_goWrite 48 = .ok (.iaload, 1) := by decide +kernel
theorem dX6_goWrite_49 : decode cX6_goWrite 49 = .ok (.if_icmp .ge 21, 3) := by decide +kernel
theorem dX6_goWrite_52 : decode cX6_goWrite 52 = .ok (.aload_n 0, 1) := by decide +kernel
theorem dX6_goWrite_53 : decode cX6_goWrite 53 = .ok (.iload 6, 2) := by decide +kernel
theorem dX6_goWrite_55 : decode cX6_goWrite 55 = .ok (.iload 4, 2) := by decide +kernel
theorem dX6_goWrite_57 : decode cX6_goWrite 57 = .ok (.invokestatic 80, 3) := by decide +kernel
theorem dX6_goWrite_60 : decode cX6_goWrite 60 = .ok (.iload_n 3, 1) := by decide +kernel
theorem dX6_goWrite_61 : decode cX6_goWrite 61 = .ok (.iadd, 1) := by decide +kernel
theorem dX6_goWrite_62 : decode cX6_goWrite 62 = .ok (.aload_n 0, 1) := by decide +kernel
theorem dX6_goWrite_63 : decode cX6_goWrite 63 = .ok (.sipush 611, 3) := by decide +kernel
theorem dX6_goWrite_66 : decode cX6_goWrite 66 = .ok (.iaload, 1) := by decide +kernel
theorem dX6_goWrite_67 : decode cX6_goWrite 67 = .ok (.if_icmp .le 7, 3) := by decide +kernel
theorem dX6_goWrite_70 : decode cX6_goWrite 70 = .ok (.iconst 1, 1) := by decide +kernel
theorem dX6_goWrite_71 : decode cX6_goWrite 71 = .ok (.goto 4, 3) := by decide +kernel
theorem dX6_goWrite_74 : decode cX6_goWrite 74 = .ok (.iconst 0, 1) := by decide +kernel
theorem dX6_goWrite_75 : decode cX6_goWrite 75 = .ok (.istore 5, 2) := by decide +kernel
theorem dX6_goWrite_77 : decode cX6_goWrite 77 = .ok (.aload_n 0, 1) := by decide +kernel
theorem dX6_goWrite_78 : decode cX6_goWrite 78 = .ok (.iconst 0, 1) := by decide +kernel
theorem dX6_goWrite_79 : decode cX6_goWrite 79 = .ok (.iload 4, 2) := by decide +kernel
theorem dX6_goWrite_81 : decode cX6_goWrite 81 = .ok (.iadd, 1) := by decide +kernel
theorem dX6_goWrite_82 : decode cX6_goWrite 82 = .ok (.iload_n 1, 1) := by decide +kernel
theorem dX6_goWrite_83 : decode cX6_goWrite 83 = .ok (.iload 5, 2) := by decide +kernel
theorem dX6_goWrite_85 : decode cX6_goWrite 85 = .ok (.ifCond .eq 8, 3) := by decide +kernel
theorem dX6_goWrite_88 : decode cX6_goWrite 88 = .ok (.bipush 8, 2) := by decide +kernel
theorem dX6_goWrite_90 : decode cX6_goWrite 90 = .ok (.goto 4, 3) := by decide +kernel
theorem dX6_goWrite_93 : decode cX6_goWrite 93 = .ok (.iconst 0, 1) := by decide +kernel
theorem dX6_goWrite_94 : decode cX6_goWrite 94 = .ok (.iadd, 1) := by decide +kernel
theorem dX6_goWrite_95 : decode cX6_goWrite 95 = .ok (.bipush 16, 2) := by decide +kernel
theorem dX6_goWrite_97 : decode cX6_goWrite 97 = .ok (.iload_n 2, 1) := by decide +kernel
theorem dX6_goWrite_98 : decode cX6_goWrite 98 = .ok (.imul, 1) := by decide +kernel
theorem dX6_goWrite_99 : decode cX6_goWrite 99 = .ok (.iadd, 1) := by decide +kernel
theorem dX6_goWrite_100 : decode cX6_goWrite 100 = .ok (.sipush 1600, 3) := by decide +kernel
theorem dX6_goWrite_103 : decode cX6_goWrite 103 = .ok (.iload_n 3, 1) := by decide +kernel
theorem dX6_goWrite_104 : decode cX6_goWrite 104 = .ok (.imul, 1) := by decide +kernel
theorem dX6_goWrite_105 : decode cX6_goWrite 105 = .ok (.iadd, 1) := by decide +kernel
theorem dX6_goWrite_106 : decode cX6_goWrite 106 = .ok (.iastore, 1) := by decide +kernel
theorem dX6_goWrite_107 : decode cX6_goWrite 107 = .ok (.aload_n 0, 1) := by decide +kernel
theorem dX6_goWrite_108 : decode cX6_goWrite 108 = .ok (.sipush 200, 3) := by decide +kernel
theorem dX6_goWrite_111 : decode cX6_goWrite 111 = .ok (.iload 4, 2) := by decide +kernel
theorem dX6_goWrite_113 : decode cX6_goWrite 113 = .ok (.iadd, 1) := by decide +kernel
theorem dX6_goWrite_114 : decode cX6_goWrite 114 = .ok (.aload_n 0, 1) := by decide +kernel
theorem dX6_goWrite_115 : decode cX6_goWrite 115 = .ok (.sipush 616, 3) := by decide +kernel
theorem dX6_goWrite_118 : decode cX6_goWrite 118 = .ok (.iaload, 1) := by decide +kernel
theorem dX6_goWrite_119 : decode cX6_goWrite 119 = .ok (.iastore, 1) := by decide +kernel
theorem dX6_goWrite_120 : decode cX6_goWrite 120 = .ok (.aload_n 0, 1) := by decide +kernel
theorem dX6_goWrite_121 : decode cX6_goWrite 121 = .ok (.sipush 401, 3) := by decide +kernel
theorem dX6_goWrite_124 : decode cX6_goWrite 124 = .ok (.dup2, 1) := by decide +kernel
theorem dX6_goWrite_125 : decode cX6_goWrite 125 = .ok (.iaload, 1) := by decide +kernel
theorem dX6_goWrite_126 : decode cX6_goWrite 126 = .ok (.iconst 1, 1) := by decide +kernel
theorem dX6_goWrite_127 : decode cX6_goWrite 127 = .ok (.iadd, 1) := by decide +kernel
theorem dX6_goWrite_128 : decode cX6_goWrite 128 = .ok (.iastore, 1) := by decide +kernel
theorem dX6_goWrite_129 : decode cX6_goWrite 129 = .ok (.iload 4, 2) := by decide +kernel
theorem dX6_goWrite_131 : decode cX6_goWrite 131 = .ok (.ireturn, 1) := by decide +kernel
theorem dX6_canJoin_0 : decode cX6_canJoin 0 = .ok (.sipush 530, 3) := by decide +kernel
theorem dX6_canJoin_3 : decode cX6_canJoin 3 = .ok (.bipush 10, 2) := by decide +kernel
theorem dX6_canJoin_5 : decode cX6_canJoin 5 = .ok (.iload_n 1, 1) := by decide +kernel
theorem dX6_canJoin_6 : decode cX6_canJoin 6 = .ok (.imul, 1) := by decide +kernel
theorem dX6_canJoin_7 : decode cX6_canJoin 7 = .ok (.iadd, 1) := by decide +kernel
theorem dX6_canJoin_8 : decode cX6_canJoin 8 = .ok (.istore 4, 2) := by decide +kernel
theorem dX6_canJoin_10 : decode cX6_canJoin 10 = .ok (.aload_n 0, 1) := by decide +kernel
theorem dX6_canJoin_11 : decode cX6_canJoin 11 = .ok (.iload_n 1, 1) := by decide +kernel
theorem dX6_canJoin_12 : decode cX6_canJoin 12 = .ok (.invokestatic 65, 3) := by decide +kernel
theorem dX6_canJoin_15 : decode cX6_canJoin 15 = .ok (.iconst 0, 1) := by decide +kernel
theorem dX6_canJoin_16 : decode cX6_canJoin 16 = .ok (.iadd, 1) := by decide +kernel
theorem dX6_canJoin_17 : decode cX6_canJoin 17 = .ok (.iaload, 1) := by decide +kernel
theorem dX6_canJoin_18 : decode cX6_canJoin 18 = .ok (.ifCond .ne 7, 3) := by decide +kernel
theorem dX6_canJoin_21 : decode cX6_canJoin 21 = .ok (.iconst 1, 1) := by decide +kernel
theorem dX6_canJoin_22 : decode cX6_canJoin 22 = .ok (.goto 4, 3) := by decide +kernel
theorem dX6_canJoin_25 : decode cX6_canJoin 25 = .ok (.iconst 0, 1) := by decide +kernel
theorem dX6_canJoin_26 : decode cX6_canJoin 26 = .ok (.istore 5, 2) := by decide +kernel
theorem dX6_canJoin_28 : decode cX6_canJoin 28 = .ok (.iload 5, 2) := by decide +kernel
theorem dX6_canJoin_30 : decode cX6_canJoin 30 = .ok (.ifCond .eq 38, 3) := by decide +kernel
theorem dX6_canJoin_33 : decode cX6_canJoin 33 = .ok (.iload_n 2, 1) := by decide +kernel
theorem dX6_canJoin_34 : decode cX6_canJoin 34 = .ok (.iconst 2, 1) := by decide +kernel
theorem dX6_canJoin_35 : decode cX6_canJoin 35 = .ok (.if_icmp .lt 29, 3) := by decide +kernel
theorem dX6_canJoin_38 : decode cX6_canJoin 38 = .ok (.aload_n 0, 1) := by decide +kernel
theorem dX6_canJoin_39 : decode cX6_canJoin 39 = .ok (.iload 4, 2) := by decide +kernel
theorem dX6_canJoin_41 : decode cX6_canJoin 41 = .ok (.iaload, 1) := by decide +kernel
theorem dX6_canJoin_42 : decode cX6_canJoin 42 = .ok (.iconst 1, 1) := by decide +kernel
theorem dX6_canJoin_43 : decode cX6_canJoin 43 = .ok (.if_icmp .ne 25, 3) := by decide +kernel
theorem dX6_canJoin_46 : decode cX6_canJoin 46 = .ok (.iload_n 3, 1) := by decide +kernel
theorem dX6_canJoin_47 : decode cX6_canJoin 47 = .ok (.ifCond .eq 17, 3) := by decide +kernel
theorem dX6_canJoin_50 : decode cX6_canJoin 50 = .ok (.aload_n 0, 1) := by decide +kernel
theorem dX6_canJoin_51 : decode cX6_canJoin 51 = .ok (.iload 4, 2) := by decide +kernel
theorem dX6_canJoin_53 : decode cX6_canJoin 53 = .ok (.iconst 1, 1) := by decide +kernel
theorem dX6_canJoin_54 : decode cX6_canJoin 54 = .ok (.iadd, 1) := by decide +kernel
theorem dX6_canJoin_55 : decode cX6_canJoin 55 = .ok (.iaload, 1) := by decide +kernel
theorem dX6_canJoin_56 : decode cX6_canJoin 56 = .ok (.aload_n 0, 1) := by decide +kernel
theorem dX6_canJoin_57 : decode cX6_canJoin 57 = .ok (.sipush 400, 3) := by decide +kernel
theorem dX6_canJoin_60 : decode cX6_canJoin 60 = .ok (.iaload, 1) := by decide +kernel
theorem dX6_canJoin_61 : decode cX6_canJoin 61 = .ok (.if_icmp .lt 7, 3) := by decide +kernel
theorem dX6_canJoin_64 : decode cX6_canJoin 64 = .ok (.iconst 1, 1) := by decide +kernel
theorem dX6_canJoin_65 : decode cX6_canJoin 65 = .ok (.goto 4, 3) := by decide +kernel
theorem dX6_canJoin_68 : decode cX6_canJoin 68 = .ok (.iconst 0, 1) := by decide +kernel
theorem dX6_canJoin_69 : decode cX6_canJoin 69 = .ok (.ireturn, 1) := by decide +kernel
theorem dX6_goJoin_0 : decode cX6_goJoin 0 = .ok (.iload_n 1, 1) := by decide +kernel
theorem dX6_goJoin_1 : decode cX6_goJoin 1 = .ok (.invokestatic 65, 3) := by decide +kernel
theorem dX6_goJoin_4 : decode cX6_goJoin 4 = .ok (.istore 4, 2) := by decide +kernel
theorem dX6_goJoin_6 : decode cX6_goJoin 6 = .ok (.sipush 530, 3) := by decide +kernel
theorem dX6_goJoin_9 : decode cX6_goJoin 9 = .ok (.bipush 10, 2) := by decide +kernel
theorem dX6_goJoin_11 : decode cX6_goJoin 11 = .ok (.iload_n 1, 1) := by decide +kernel
theorem dX6_goJoin_12 : decode cX6_goJoin 12 = .ok (.imul, 1) := by decide +kernel
theorem dX6_goJoin_13 : decode cX6_goJoin 13 = .ok (.iadd, 1) := by decide +kernel
theorem dX6_goJoin_14 : decode cX6_goJoin 14 = .ok (.istore 5, 2) := by decide +kernel
theorem dX6_goJoin_16 : decode cX6_goJoin 16 = .ok (.aload_n 0, 1) := by decide +kernel
theorem dX6_goJoin_17 : decode cX6_goJoin 17 = .ok (.iload 4, 2) := by decide +kernel
theorem dX6_goJoin_19 : decode cX6_goJoin 19 = .ok (.iconst 0, 1) := by decide +kernel
theorem dX6_goJoin_20 : decode cX6_goJoin 20 = .ok (.iadd, 1) := by decide +kernel
theorem dX6_goJoin_21 : decode cX6_goJoin 21 = .ok (.iconst 1, 1) := by decide +kernel
theorem dX6_goJoin_22 : decode cX6_goJoin 22 = .ok (.iastore, 1) := by decide +kernel
theorem dX6_goJoin_23 : decode cX6_goJoin 23 = .ok (.aload_n 0, 1) := by decide +kernel
theorem dX6_goJoin_24 : decode cX6_goJoin 24 = .ok (.iload 4, 2) := by decide +kernel
theorem dX6_goJoin_26 : decode cX6_goJoin 26 = .ok (.iconst 1, 1) := by decide +kernel
theorem dX6_goJoin_27 : decode cX6_goJoin 27 = .ok (.iadd, 1) := by decide +kernel
theorem dX6_goJoin_28 : decode cX6_goJoin 28 = .ok (.iload_n 2, 1) := by decide +kernel
theorem dX6_goJoin_29 : decode cX6_goJoin 29 = .ok (.ifCond .ne 11, 3) := by decide +kernel
theorem dX6_goJoin_32 : decode cX6_goJoin 32 = .ok (.aload_n 0, 1) := by decide +kernel
theorem dX6_goJoin_33 : decode cX6_goJoin 33 = .ok (.sipush 400, 3) := by decide +kernel
theorem dX6_goJoin_36 : decode cX6_goJoin 36 = .ok (.iaload, 1) := by decide +kernel
theorem dX6_goJoin_37 : decode cX6_goJoin 37 = .ok (.goto 22, 3) := by decide +kernel
theorem dX6_goJoin_40 : decode cX6_goJoin 40 = .ok (.iload_n 2, 1) := by decide +kernel
theorem dX6_goJoin_41 : decode cX6_goJoin 41 = .ok (.iconst 1, 1) := by decide +kernel
theorem dX6_goJoin_42 : decode cX6_goJoin 42 = .ok (.if_icmp .ne 11, 3) := by decide +kernel
theorem dX6_goJoin_45 : decode cX6_goJoin 45 = .ok (.aload_n 0, 1) := by decide +kernel
theorem dX6_goJoin_46 : decode cX6_goJoin 46 = .ok (.sipush 401, 3) := by decide +kernel
theorem dX6_goJoin_49 : decode cX6_goJoin 49 = .ok (.iaload, 1) := by decide +kernel
theorem dX6_goJoin_50 : decode cX6_goJoin 50 = .ok (.goto 9, 3) := by decide +kernel
theorem dX6_goJoin_53 : decode cX6_goJoin 53 = .ok (.aload_n 0, 1) := by decide +kernel
theorem dX6_goJoin_54 : decode cX6_goJoin 54 = .ok (.iload 5, 2) := by decide +kernel
theorem dX6_goJoin_56 : decode cX6_goJoin 56 = .ok (.iconst 1, 1) := by decide +kernel
theorem dX6_goJoin_57 : decode cX6_goJoin 57 = .ok (.iadd, 1) := by decide +kernel
theorem dX6_goJoin_58 : decode cX6_goJoin 58 = .ok (.iaload, 1) := by decide +kernel
theorem dX6_goJoin_59 : decode cX6_goJoin 59 = .ok (.iastore, 1) := by decide +kernel
theorem dX6_goJoin_60 : decode cX6_goJoin 60 = .ok (.aload_n 0, 1) := by decide +kernel
theorem dX6_goJoin_61 : decode cX6_goJoin 61 = .ok (.iload 4, 2) := by decide +kernel
theorem dX6_goJoin_63 : decode cX6_goJoin 63 = .ok (.iconst 2, 1) := by decide +kernel
theorem dX6_goJoin_64 : decode cX6_goJoin 64 = .ok (.iadd, 1) := by decide +kernel
theorem dX6_goJoin_65 : decode cX6_goJoin 65 = .ok (.iload_n 3, 1) := by decide +kernel
theorem dX6_goJoin_66 : decode cX6_goJoin 66 = .ok (.ifCond .eq 7, 3) := by decide +kernel
theorem dX6_goJoin_69 : decode cX6_goJoin 69 = .ok (.iconst 1, 1) := by decide +kernel
theorem dX6_goJoin_70 : decode cX6_goJoin 70 = .ok (.goto 4, 3) := by decide +kernel
theorem dX6_goJoin_73 : decode cX6_goJoin 73 = .ok (.iconst 0, 1) := by decide +kernel
theorem dX6_goJoin_74 : decode cX6_goJoin 74 = .ok (.iastore, 1) := by decide +kernel
theorem dX6_goJoin_75 : decode cX6_goJoin 75 = .ok (.aload_n 0, 1) := by decide +kernel
theorem dX6_goJoin_76 : decode cX6_goJoin 76 = .ok (.iload 4, 2) := by decide +kernel
theorem dX6_goJoin_78 : decode cX6_goJoin 78 = .ok (.iconst 3, 1) := by decide +kernel
theorem dX6_goJoin_79 : decode cX6_goJoin 79 = .ok (.iadd, 1) := by decide +kernel
theorem dX6_goJoin_80 : decode cX6_goJoin 80 = .ok (.iconst 0, 1) := by decide +kernel
theorem dX6_goJoin_81 : decode cX6_goJoin 81 = .ok (.iastore, 1) := by decide +kernel
theorem dX6_goJoin_82 : decode cX6_goJoin 82 = .ok (.aload_n 0, 1) := by decide +kernel
theorem dX6_goJoin_83 : decode cX6_goJoin 83 = .ok (.iload 4, 2) := by decide +kernel
theorem dX6_goJoin_85 : decode cX6_goJoin 85 = .ok (.iconst 4, 1) := by decide +kernel
theorem dX6_goJoin_86 : decode cX6_goJoin 86 = .ok (.iadd, 1) := by decide +kernel
theorem dX6_goJoin_87 : decode cX6_goJoin 87 = .ok (.iconst 0, 1) := by decide +kernel
theorem dX6_goJoin_88 : decode cX6_goJoin 88 = .ok (.iastore, 1) := by decide +kernel
theorem dX6_goJoin_89 : decode cX6_goJoin 89 = .ok (.aload_n 0, 1) := by decide +kernel
theorem dX6_goJoin_90 : decode cX6_goJoin 90 = .ok (.iload 4, 2) := by decide +kernel
theorem dX6_goJoin_92 : decode cX6_goJoin 92 = .ok (.iconst 5, 1) := by decide +kernel
theorem dX6_goJoin_93 : decode cX6_goJoin 93 = .ok (.iadd, 1) := by decide +kernel
theorem dX6_goJoin_94 : decode cX6_goJoin 94 = .ok (.aload_n 0, 1) := by decide +kernel
theorem dX6_goJoin_95 : decode cX6_goJoin 95 = .ok (.sipush 616, 3) := by decide +kernel
theorem dX6_goJoin_98 : decode cX6_goJoin 98 = .ok (.iaload, 1) := by decide +kernel
theorem dX6_goJoin_99 : decode cX6_goJoin 99 = .ok (.iastore, 1) := by decide +kernel
theorem dX6_goJoin_100 : decode cX6_goJoin 100 = .ok (.aload_n 0, 1) := by decide +kernel
theorem dX6_goJoin_101 : decode cX6_goJoin 101 = .ok (.iload 4, 2) := by decide +kernel
theorem dX6_goJoin_103 : decode cX6_goJoin 103 = .ok (.bipush 6, 2) := by decide +kernel
theorem dX6_goJoin_105 : decode cX6_goJoin 105 = .ok (.iadd, 1) := by decide +kernel
theorem dX6_goJoin_106 : decode cX6_goJoin 106 = .ok (.iconst 0, 1) := by decide +kernel
theorem dX6_goJoin_107 : decode cX6_goJoin 107 = .ok (.iastore, 1) := by decide +kernel
theorem dX6_goJoin_108 : decode cX6_goJoin 108 = .ok (.iconst 0, 1) := by decide +kernel
theorem dX6_goJoin_109 : decode cX6_goJoin 109 = .ok (.istore 6, 2) := by decide +kernel
theorem dX6_goJoin_111 : decode cX6_goJoin 111 = .ok (.iload 6, 2) := by decide +kernel
theorem dX6_goJoin_113 : decode cX6_goJoin 113 = .ok (.bipush 8, 2) := by decide +kernel
theorem dX6_goJoin_115 : decode cX6_goJoin 115 = .ok (.if_icmp .ge 62, 3) := by decide +kernel
theorem dX6_goJoin_118 : decode cX6_goJoin 118 = .ok (.aload_n 0, 1) := by decide +kernel
theorem dX6_goJoin_119 : decode cX6_goJoin 119 = .ok (.iload 4, 2) := by decide +kernel
theorem dX6_goJoin_121 : decode cX6_goJoin 121 = .ok (.bipush 7, 2) := by decide +kernel
theorem dX6_goJoin_123 : decode cX6_goJoin 123 = .ok (.iadd, 1) := by decide +kernel
theorem dX6_goJoin_124 : decode cX6_goJoin 124 = .ok (.iload 6, 2) := by decide +kernel
theorem dX6_goJoin_126 : decode cX6_goJoin 126 = .ok (.iadd, 1) := by decide +kernel
theorem dX6_goJoin_127 : decode cX6_goJoin 127 = .ok (.iload_n 2, 1) := by decide +kernel
theorem dX6_goJoin_128 : decode cX6_goJoin 128 = .ok (.ifCond .ne 14, 3) := by decide +kernel
theorem dX6_goJoin_131 : decode cX6_goJoin 131 = .ok (.aload_n 0, 1) := by decide +kernel
theorem dX6_goJoin_132 : decode cX6_goJoin 132 = .ok (.sipush 402, 3) := by decide +kernel
theorem dX6_goJoin_135 : decode cX6_goJoin 135 = .ok (.iload 6, 2) := by decide +kernel
theorem dX6_goJoin_137 : decode cX6_goJoin 137 = .ok (.iadd, 1) := by decide +kernel
theorem dX6_goJoin_138 : decode cX6_goJoin 138 = .ok (.iaload, 1) := by decide +kernel
theorem dX6_goJoin_139 : decode cX6_goJoin 139 = .ok (.goto 31, 3) := by decide +kernel
theorem dX6_goJoin_142 : decode cX6_goJoin 142 = .ok (.iload_n 2, 1) := by decide +kernel
theorem dX6_goJoin_143 : decode cX6_goJoin 143 = .ok (.iconst 1, 1) := by decide +kernel
theorem dX6_goJoin_144 : decode cX6_goJoin 144 = .ok (.if_icmp .ne 17, 3) := by decide +kernel
theorem dX6_goJoin_147 : decode cX6_goJoin 147 = .ok (.aload_n 0, 1) := by decide +kernel
theorem dX6_goJoin_148 : decode cX6_goJoin 148 = .ok (.iload 6, 2) := by decide +kernel
theorem dX6_goJoin_150 : decode cX6_goJoin 150 = .ok (.aload_n 0, 1) := by decide +kernel
theorem dX6_goJoin_151 : decode cX6_goJoin 151 = .ok (.sipush 401, 3) := by decide +kernel
theorem dX6_goJoin_154 : decode cX6_goJoin 154 = .ok (.iaload, 1) := by decide +kernel
theorem dX6_goJoin_155 : decode cX6_goJoin 155 = .ok (.invokestatic 119, 3) := by decide +kernel
theorem dX6_goJoin_158 : decode cX6_goJoin 158 = .ok (.goto 12, 3) := by decide +kernel
theorem dX6_goJoin_161 : decode cX6_goJoin 161 = .ok (.aload_n 0, 1) := by decide +kernel
theorem dX6_goJoin_162 : decode cX6_goJoin 162 = .ok (.iload 5, 2) := by decide +kernel
theorem dX6_goJoin_164 : decode cX6_goJoin 164 = .ok (.iconst 2, 1) := by decide +kernel
theorem dX6_goJoin_165 : decode cX6_goJoin 165 = .ok (.iadd, 1) := by decide +kernel
theorem dX6_goJoin_166 : decode cX6_goJoin 166 = .ok (.iload 6, 2) := by decide +kernel
theorem dX6_goJoin_168 : decode cX6_goJoin 168 = .ok (.iadd, 1) := by decide +kernel
theorem dX6_goJoin_169 : decode cX6_goJoin 169 = .ok (.iaload, 1) := by decide +kernel
theorem dX6_goJoin_170 : decode cX6_goJoin 170 = .ok (.iastore, 1) := by decide +kernel
theorem dX6_goJoin_171 : decode cX6_goJoin 171 = .ok (.iinc 6 1, 3) := by decide +kernel
theorem dX6_goJoin_174 : decode cX6_goJoin 174 = .ok (.goto (-63), 3) := by decide +kernel
theorem dX6_goJoin_177 : decode cX6_goJoin 177 = .ok (.aload_n 0, 1) := by decide +kernel
theorem dX6_goJoin_178 : decode cX6_goJoin 178 = .ok (.iload 4, 2) := by decide +kernel
theorem dX6_goJoin_180 : decode cX6_goJoin 180 = .ok (.iconst 1, 1) := by decide +kernel
theorem dX6_goJoin_181 : decode cX6_goJoin 181 = .ok (.iadd, 1) := by decide +kernel
theorem dX6_goJoin_182 : decode cX6_goJoin 182 = .ok (.iaload, 1) := by decide +kernel
theorem dX6_goJoin_183 : decode cX6_goJoin 183 = .ok (.ireturn, 1) := by decide +kernel
theorem dX6_goRead_0 : decode cX6_goRead 0 = .ok (.iload_n 1, 1) := by decide +kernel
theorem dX6_goRead_1 : decode cX6_goRead 1 = .ok (.invokestatic 65, 3) := by decide +kernel
theorem dX6_goRead_4 : decode cX6_goRead 4 = .ok (.istore_n 3, 1) := by decide +kernel
theorem dX6_goRead_5 : decode cX6_goRead 5 = .ok (.aload_n 0, 1) := by decide +kernel
theorem dX6_goRead_6 : decode cX6_goRead 6 = .ok (.iload_n 3, 1) := by decide +kernel
theorem dX6_goRead_7 : decode cX6_goRead 7 = .ok (.iconst 5, 1) := by decide +kernel
theorem dX6_goRead_8 : decode cX6_goRead 8 = .ok (.iadd, 1) := by decide +kernel
theorem dX6_goRead_9 : decode cX6_goRead 9 = .ok (.aload_n 0, 1) := by decide +kernel
theorem dX6_goRead_10 : decode cX6_goRead 10 = .ok (.sipush 616, 3) := by decide +kernel
theorem dX6_goRead_13 : decode cX6_goRead 13 = .ok (.iaload, 1) := by decide +kernel
theorem dX6_goRead_14 : decode cX6_goRead 14 = .ok (.iastore, 1) := by decide +kernel
theorem dX6_goRead_15 : decode cX6_goRead 15 = .ok (.aload_n 0, 1) := by decide +kernel
theorem dX6_goRead_16 : decode cX6_goRead 16 = .ok (.sipush 400, 3) := by decide +kernel
theorem dX6_goRead_19 : decode cX6_goRead 19 = .ok (.iaload, 1) := by decide +kernel
theorem dX6_goRead_20 : decode cX6_goRead 20 = .ok (.aload_n 0, 1) := by decide +kernel
theorem dX6_goRead_21 : decode cX6_goRead 21 = .ok (.iload_n 3, 1) := by decide +kernel
theorem dX6_goRead_22 : decode cX6_goRead 22 = .ok (.iconst 1, 1) := by decide +kernel
theorem dX6_goRead_23 : decode cX6_goRead 23 = .ok (.iadd, 1) := by decide +kernel
theorem dX6_goRead_24 : decode cX6_goRead 24 = .ok (.iaload, 1) := by decide +kernel
theorem dX6_goRead_25 : decode cX6_goRead 25 = .ok (.isub, 1) := by decide +kernel
theorem dX6_goRead_26 : decode cX6_goRead 26 = .ok (.istore 4, 2) := by decide +kernel
theorem dX6_goRead_28 : decode cX6_goRead 28 = .ok (.iload 4, 2) := by decide +kernel
theorem dX6_goRead_30 : decode cX6_goRead 30 = .ok (.ifCond .le 70, 3) := by decide +kernel
theorem dX6_goRead_33 : decode cX6_goRead 33 = .ok (.aload_n 0, 1) := by decide +kernel
theorem dX6_goRead_34 : decode cX6_goRead 34 = .ok (.iload_n 3, 1) := by decide +kernel
theorem dX6_goRead_35 : decode cX6_goRead 35 = .ok (.iconst 4, 1) := by decide +kernel
theorem dX6_goRead_36 : decode cX6_goRead 36 = .ok (.iadd, 1) := by decide +kernel
theorem dX6_goRead_37 : decode cX6_goRead 37 = .ok (.dup2, 1) := by decide +kernel
theorem dX6_goRead_38 : decode cX6_goRead 38 = .ok (.iaload, 1) := by decide +kernel
theorem dX6_goRead_39 : decode cX6_goRead 39 = .ok (.iload 4, 2) := by decide +kernel
theorem dX6_goRead_41 : decode cX6_goRead 41 = .ok (.iadd, 1) := by decide +kernel
theorem dX6_goRead_42 : decode cX6_goRead 42 = .ok (.iastore, 1) := by decide +kernel
theorem dX6_goRead_43 : decode cX6_goRead 43 = .ok (.aload_n 0, 1) := by decide +kernel
theorem dX6_goRead_44 : decode cX6_goRead 44 = .ok (.sipush 620, 3) := by decide +kernel
theorem dX6_goRead_47 : decode cX6_goRead 47 = .ok (.dup2, 1) := by decide +kernel
theorem dX6_goRead_48 : decode cX6_goRead 48 = .ok (.iaload, 1) := by decide +kernel
theorem dX6_goRead_49 : decode cX6_goRead 49 = .ok (.iload 4, 2) := by decide +kernel
theorem dX6_goRead_51 : decode cX6_goRead 51 = .ok (.iadd, 1) := by decide +kernel
theorem dX6_goRead_52 : decode cX6_goRead 52 = .ok (.iastore, 1) := by decide +kernel
theorem dX6_goRead_53 : decode cX6_goRead 53 = .ok (.aload_n 0, 1) := by decide +kernel
theorem dX6_goRead_54 : decode cX6_goRead 54 = .ok (.iload_n 3, 1) := by decide +kernel
theorem dX6_goRead_55 : decode cX6_goRead 55 = .ok (.iconst 1, 1) := by decide +kernel
theorem dX6_goRead_56 : decode cX6_goRead 56 = .ok (.iadd, 1) := by decide +kernel
theorem dX6_goRead_57 : decode cX6_goRead 57 = .ok (.aload_n 0, 1) := by decide +kernel
theorem dX6_goRead_58 : decode cX6_goRead 58 = .ok (.sipush 400, 3) := by decide +kernel
theorem dX6_goRead_61 : decode cX6_goRead 61 = .ok (.iaload, 1) := by decide +kernel
theorem dX6_goRead_62 : decode cX6_goRead 62 = .ok (.iastore, 1) := by decide +kernel
theorem dX6_goRead_63 : decode cX6_goRead 63 = .ok (.iconst 0, 1) := by decide +kernel
theorem dX6_goRead_64 : decode cX6_goRead 64 = .ok (.istore 5, 2) := by decide +kernel
theorem dX6_goRead_66 : decode cX6_goRead 66 = .ok (.iload 5, 2) := by decide +kernel
theorem dX6_goRead_68 : decode cX6_goRead 68 = .ok (.bipush 8, 2) := by decide +kernel
theorem dX6_goRead_70 : decode cX6_goRead 70 = .ok (.if_icmp .ge 26, 3) := by decide +kernel
theorem dX6_goRead_73 : decode cX6_goRead 73 = .ok (.aload_n 0, 1) := by decide +kernel
theorem dX6_goRead_74 : decode cX6_goRead 74 = .ok (.iload_n 3, 1) := by decide +kernel
theorem dX6_goRead_75 : decode cX6_goRead 75 = .ok (.bipush 7, 2) := by decide +kernel
theorem dX6_goRead_77 : decode cX6_goRead 77 = .ok (.iadd, 1) := by decide +kernel
theorem dX6_goRead_78 : decode cX6_goRead 78 = .ok (.iload 5, 2) := by decide +kernel
theorem dX6_goRead_80 : decode cX6_goRead 80 = .ok (.iadd, 1) := by decide +kernel
theorem dX6_goRead_81 : decode cX6_goRead 81 = .ok (.aload_n 0, 1) := by decide +kernel
theorem dX6_goRead_82 : decode cX6_goRead 82 = .ok (.sipush 402, 3) := by decide +kernel
theorem dX6_goRead_85 : decode cX6_goRead 85 = .ok (.iload 5, 2) := by decide +kernel
theorem dX6_goRead_87 : decode cX6_goRead 87 = .ok (.iadd, 1) := by decide +kernel
theorem dX6_goRead_88 : decode cX6_goRead 88 = .ok (.iaload, 1) := by decide +kernel
theorem dX6_goRead_89 : decode cX6_goRead 89 = .ok (.iastore, 1) := by decide +kernel
theorem dX6_goRead_90 : decode cX6_goRead 90 = .ok (.iinc 5 1, 3) := by decide +kernel
theorem dX6_goRead_93 : decode cX6_goRead 93 = .ok (.goto (-27), 3) := by decide +kernel
theorem dX6_goRead_96 : decode cX6_goRead 96 = .ok (.iload 4, 2) := by decide +kernel
theorem dX6_goRead_98 : decode cX6_goRead 98 = .ok (.ineg, 1) := by decide +kernel
theorem dX6_goRead_99 : decode cX6_goRead 99 = .ok (.ireturn, 1) := by decide +kernel
theorem dX6_goRead_100 : decode cX6_goRead 100 = .ok (.iconst 0, 1) := by decide +kernel
theorem dX6_goRead_101 : decode cX6_goRead 101 = .ok (.istore 5, 2) := by decide +kernel
theorem dX6_goRead_103 : decode cX6_goRead 103 = .ok (.iload 5, 2) := by decide +kernel
theorem dX6_goRead_105 : decode cX6_goRead 105 = .ok (.iload_n 2, 1) := by decide +kernel
theorem dX6_goRead_106 : decode cX6_goRead 106 = .ok (.if_icmp .ge 65, 3) := by decide +kernel
theorem dX6_goRead_109 : decode cX6_goRead 109 = .ok (.aload_n 0, 1) := by decide +kernel
theorem dX6_goRead_110 : decode cX6_goRead 110 = .ok (.iload_n 3, 1) := by decide +kernel
theorem dX6_goRead_111 : decode cX6_goRead 111 = .ok (.iconst 1, 1) := by decide +kernel
theorem dX6_goRead_112 : decode cX6_goRead 112 = .ok (.iadd, 1) := by decide +kernel
theorem dX6_goRead_113 : decode cX6_goRead 113 = .ok (.iaload, 1) := by decide +kernel
theorem dX6_goRead_114 : decode cX6_goRead 114 = .ok (.aload_n 0, 1) := by decide +kernel
theorem dX6_goRead_115 : decode cX6_goRead 115 = .ok (.sipush 401, 3) := by decide +kernel
theorem dX6_goRead_118 : decode cX6_goRead 118 = .ok (.iaload, 1) := by decide +kernel
theorem dX6_goRead_119 : decode cX6_goRead 119 = .ok (.if_icmp .ge 52, 3) := by decide +kernel
theorem dX6_goRead_122 : decode cX6_goRead 122 = .ok (.aload_n 0, 1) := by decide +kernel
theorem dX6_goRead_123 : decode cX6_goRead 123 = .ok (.iload_n 3, 1) := by decide +kernel
theorem dX6_goRead_124 : decode cX6_goRead 124 = .ok (.bipush 7, 2) := by decide +kernel
theorem dX6_goRead_126 : decode cX6_goRead 126 = .ok (.iadd, 1) := by decide +kernel
theorem dX6_goRead_127 : decode cX6_goRead 127 = .ok (.aload_n 0, 1) := by decide +kernel
theorem dX6_goRead_128 : decode cX6_goRead 128 = .ok (.aload_n 0, 1) := by decide +kernel
theorem dX6_goRead_129 : decode cX6_goRead 129 = .ok (.iload_n 3, 1) := by decide +kernel
theorem dX6_goRead_130 : decode cX6_goRead 130 = .ok (.iconst 1, 1) := by decide +kernel
theorem dX6_goRead_131 : decode cX6_goRead 131 = .ok (.iadd, 1) := by decide +kernel
theorem dX6_goRead_132 : decode cX6_goRead 132 = .ok (.iaload, 1) := by decide +kernel
theorem dX6_goRead_133 : decode cX6_goRead 133 = .ok (.invokestatic 97, 3) := by decide +kernel
theorem dX6_goRead_136 : decode cX6_goRead 136 = .ok (.iadd, 1) := by decide +kernel
theorem dX6_goRead_137 : decode cX6_goRead 137 = .ok (.aload_n 0, 1) := by decide +kernel
theorem dX6_goRead_138 : decode cX6_goRead 138 = .ok (.aload_n 0, 1) := by decide +kernel
theorem dX6_goRead_139 : decode cX6_goRead 139 = .ok (.iload_n 3, 1) := by decide +kernel
theorem dX6_goRead_140 : decode cX6_goRead 140 = .ok (.iconst 1, 1) := by decide +kernel
theorem dX6_goRead_141 : decode cX6_goRead 141 = .ok (.iadd, 1) := by decide +kernel
theorem dX6_goRead_142 : decode cX6_goRead 142 = .ok (.iaload, 1) := by decide +kernel
theorem dX6_goRead_143 : decode cX6_goRead 143 = .ok (.invokestatic 100, 3) := by decide +kernel
theorem dX6_goRead_146 : decode cX6_goRead 146 = .ok (.iastore, 1) := by decide +kernel
theorem dX6_goRead_147 : decode cX6_goRead 147 = .ok (.aload_n 0, 1) := by decide +kernel
theorem dX6_goRead_148 : decode cX6_goRead 148 = .ok (.iload_n 3, 1) := by decide +kernel
theorem dX6_goRead_149 : decode cX6_goRead 149 = .ok (.iconst 1, 1) := by decide +kernel
theorem dX6_goRead_150 : decode cX6_goRead 150 = .ok (.iadd, 1) := by decide +kernel
theorem dX6_goRead_151 : decode cX6_goRead 151 = .ok (.dup2, 1) := by decide +kernel
theorem dX6_goRead_152 : decode cX6_goRead 152 = .ok (.iaload, 1) := by decide +kernel
theorem dX6_goRead_153 : decode cX6_goRead 153 = .ok (.iconst 1, 1) := by decide +kernel
theorem dX6_goRead_154 : decode cX6_goRead 154 = .ok (.iadd, 1) := by decide +kernel
theorem dX6_goRead_155 : decode cX6_goRead 155 = .ok (.iastore, 1) := by decide +kernel
theorem dX6_goRead_156 : decode cX6_goRead 156 = .ok (.aload_n 0, 1) := by decide +kernel
theorem dX6_goRead_157 : decode cX6_goRead 157 = .ok (.iload_n 3, 1) := by decide +kernel
theorem dX6_goRead_158 : decode cX6_goRead 158 = .ok (.iconst 3, 1) := by decide +kernel
theorem dX6_goRead_159 : decode cX6_goRead 159 = .ok (.iadd, 1) := by decide +kernel
theorem dX6_goRead_160 : decode cX6_goRead 160 = .ok (.dup2, 1) := by decide +kernel
theorem dX6_goRead_161 : decode cX6_goRead 161 = .ok (.iaload, 1) := by decide +kernel
theorem dX6_goRead_162 : decode cX6_goRead 162 = .ok (.iconst 1, 1) := by decide +kernel
theorem dX6_goRead_163 : decode cX6_goRead 163 = .ok (.iadd, 1) := by decide +kernel
theorem dX6_goRead_164 : decode cX6_goRead 164 = .ok (.iastore, 1) := by decide +kernel
theorem dX6_goRead_165 : decode cX6_goRead 165 = .ok (.iinc 5 1, 3) := by decide +kernel
theorem dX6_goRead_168 : decode cX6_goRead 168 = .ok (.goto (-65), 3) := by decide +kernel
theorem dX6_goRead_171 : decode cX6_goRead 171 = .ok (.iload 5, 2) := by decide +kernel
theorem dX6_goRead_173 : decode cX6_goRead 173 = .ok (.ireturn, 1) := by decide +kernel
theorem dX6_readers_0 : decode cX6_readers 0 = .ok (.iconst 0, 1) := by decide +kernel
theorem dX6_readers_1 : decode cX6_readers 1 = .ok (.istore_n 1, 1) := by decide +kernel
theorem dX6_readers_2 : decode cX6_readers 2 = .ok (.iconst 0, 1) := by decide +kernel
theorem dX6_readers_3 : decode cX6_readers 3 = .ok (.istore_n 2, 1) := by decide +kernel
theorem dX6_readers_4 : decode cX6_readers 4 = .ok (.iload_n 2, 1) := by decide +kernel
theorem dX6_readers_5 : decode cX6_readers 5 = .ok (.bipush 8, 2) := by decide +kernel
theorem dX6_readers_7 : decode cX6_readers 7 = .ok (.if_icmp .ge 20, 3) := by decide +kernel
theorem dX6_readers_10 : decode cX6_readers 10 = .ok (.iload_n 1, 1) := by decide +kernel
theorem dX6_readers_11 : decode cX6_readers 11 = .ok (.aload_n 0, 1) := by decide +kernel
theorem dX6_readers_12 : decode cX6_readers 12 = .ok (.iload_n 2, 1) := by decide +kernel
theorem dX6_readers_13 : decode cX6_readers 13 = .ok (.invokestatic 65, 3) := by decide +kernel
theorem dX6_readers_16 : decode cX6_readers 16 = .ok (.iconst 0, 1) := by decide +kernel
theorem dX6_readers_17 : decode cX6_readers 17 = .ok (.iadd, 1) := by decide +kernel
theorem dX6_readers_18 : decode cX6_readers 18 = .ok (.iaload, 1) := by decide +kernel
theorem dX6_readers_19 : decode cX6_readers 19 = .ok (.iadd, 1) := by decide +kernel
theorem dX6_readers_20 : decode cX6_readers 20 = .ok (.istore_n 1, 1) := by decide +kernel
theorem dX6_readers_21 : decode cX6_readers 21 = .ok (.iinc 2 1, 3) := by decide +kernel
theorem dX6_readers_24 : decode cX6_readers 24 = .ok (.goto (-20), 3) := by decide +kernel
theorem dX6_readers_27 : decode cX6_readers 27 = .ok (.iload_n 1, 1) := by decide +kernel
theorem dX6_readers_28 : decode cX6_readers 28 = .ok (.ireturn, 1) := by decide +kernel
theorem dX6_goLeave_0 : decode cX6_goLeave 0 = .ok (.iload_n 1, 1) := by decide +kernel
theorem dX6_goLeave_1 : decode cX6_goLeave 1 = .ok (.invokestatic 65, 3) := by decide +kernel
theorem dX6_goLeave_4 : decode cX6_goLeave 4 = .ok (.istore_n 2, 1) := by decide +kernel
theorem dX6_goLeave_5 : decode cX6_goLeave 5 = .ok (.sipush 530, 3) := by decide +kernel
theorem dX6_goLeave_8 : decode cX6_goLeave 8 = .ok (.bipush 10, 2) := by decide +kernel
theorem dX6_goLeave_10 : decode cX6_goLeave 10 = .ok (.iload_n 1, 1) := by decide +kernel
theorem dX6_goLeave_11 : decode cX6_goLeave 11 = .ok (.imul, 1) := by decide +kernel
theorem dX6_goLeave_12 : decode cX6_goLeave 12 = .ok (.iadd, 1) := by decide +kernel
theorem dX6_goLeave_13 : decode cX6_goLeave 13 = .ok (.istore_n 3, 1) := by decide +kernel
theorem dX6_goLeave_14 : decode cX6_goLeave 14 = .ok (.aload_n 0, 1) := by decide +kernel
theorem dX6_goLeave_15 : decode cX6_goLeave 15 = .ok (.iload_n 3, 1) := by decide +kernel
theorem dX6_goLeave_16 : decode cX6_goLeave 16 = .ok (.iconst 1, 1) := by decide +kernel
theorem dX6_goLeave_17 : decode cX6_goLeave 17 = .ok (.iastore, 1) := by decide +kernel
theorem dX6_goLeave_18 : decode cX6_goLeave 18 = .ok (.aload_n 0, 1) := by decide +kernel
theorem dX6_goLeave_19 : decode cX6_goLeave 19 = .ok (.iload_n 3, 1) := by decide +kernel
theorem dX6_goLeave_20 : decode cX6_goLeave 20 = .ok (.iconst 1, 1) := by decide +kernel
theorem dX6_goLeave_21 : decode cX6_goLeave 21 = .ok (.iadd, 1) := by decide +kernel
theorem dX6_goLeave_22 : decode cX6_goLeave 22 = .ok (.aload_n 0, 1) := by decide +kernel
theorem dX6_goLeave_23 : decode cX6_goLeave 23 = .ok (.iload_n 2, 1) := by decide +kernel
theorem dX6_goLeave_24 : decode cX6_goLeave 24 = .ok (.iconst 1, 1) := by decide +kernel
theorem dX6_goLeave_25 : decode cX6_goLeave 25 = .ok (.iadd, 1) := by decide +kernel
theorem dX6_goLeave_26 : decode cX6_goLeave 26 = .ok (.iaload, 1) := by decide +kernel
theorem dX6_goLeave_27 : decode cX6_goLeave 27 = .ok (.iastore, 1) := by decide +kernel
theorem dX6_goLeave_28 : decode cX6_goLeave 28 = .ok (.iconst 0, 1) := by decide +kernel
theorem dX6_goLeave_29 : decode cX6_goLeave 29 = .ok (.istore 4, 2) := by decide +kernel
theorem dX6_goLeave_31 : decode cX6_goLeave 31 = .ok (.iload 4, 2) := by decide +kernel
theorem dX6_goLeave_33 : decode cX6_goLeave 33 = .ok (.bipush 8, 2) := by decide +kernel
theorem dX6_goLeave_35 : decode cX6_goLeave 35 = .ok (.if_icmp .ge 26, 3) := by decide +kernel
theorem dX6_goLeave_38 : decode cX6_goLeave 38 = .ok (.aload_n 0, 1) := by decide +kernel
theorem dX6_goLeave_39 : decode cX6_goLeave 39 = .ok (.iload_n 3, 1) := by decide +kernel
theorem dX6_goLeave_40 : decode cX6_goLeave 40 = .ok (.iconst 2, 1) := by decide +kernel
theorem dX6_goLeave_41 : decode cX6_goLeave 41 = .ok (.iadd, 1) := by decide +kernel
theorem dX6_goLeave_42 : decode cX6_goLeave 42 = .ok (.iload 4, 2) := by decide +kernel
theorem dX6_goLeave_44 : decode cX6_goLeave 44 = .ok (.iadd, 1) := by decide +kernel
theorem dX6_goLeave_45 : decode cX6_goLeave 45 = .ok (.aload_n 0, 1) := by decide +kernel
theorem dX6_goLeave_46 : decode cX6_goLeave 46 = .ok (.iload_n 2, 1) := by decide +kernel
theorem dX6_goLeave_47 : decode cX6_goLeave 47 = .ok (.bipush 7, 2) := by decide +kernel
theorem dX6_goLeave_49 : decode cX6_goLeave 49 = .ok (.iadd, 1) := by decide +kernel
theorem dX6_goLeave_50 : decode cX6_goLeave 50 = .ok (.iload 4, 2) := by decide +kernel
theorem dX6_goLeave_52 : decode cX6_goLeave 52 = .ok (.iadd, 1) := by decide +kernel
theorem dX6_goLeave_53 : decode cX6_goLeave 53 = .ok (.iaload, 1) := by decide +kernel
theorem dX6_goLeave_54 : decode cX6_goLeave 54 = .ok (.iastore, 1) := by decide +kernel
theorem dX6_goLeave_55 : decode cX6_goLeave 55 = .ok (.iinc 4 1, 3) := by decide +kernel
theorem dX6_goLeave_58 : decode cX6_goLeave 58 = .ok (.goto (-27), 3) := by decide +kernel
theorem dX6_goLeave_61 : decode cX6_goLeave 61 = .ok (.iconst 0, 1) := by decide +kernel
theorem dX6_goLeave_62 : decode cX6_goLeave 62 = .ok (.istore 4, 2) := by decide +kernel
theorem dX6_goLeave_64 : decode cX6_goLeave 64 = .ok (.iload 4, 2) := by decide +kernel
theorem dX6_goLeave_66 : decode cX6_goLeave 66 = .ok (.bipush 15, 2) := by decide +kernel
theorem dX6_goLeave_68 : decode cX6_goLeave 68 = .ok (.if_icmp .ge 16, 3) := by decide +kernel
theorem dX6_goLeave_71 : decode cX6_goLeave 71 = .ok (.aload_n 0, 1) := by decide +kernel
theorem dX6_goLeave_72 : decode cX6_goLeave 72 = .ok (.iload_n 2, 1) := by decide +kernel
theorem dX6_goLeave_73 : decode cX6_goLeave 73 = .ok (.iload 4, 2) := by decide +kernel
theorem dX6_goLeave_75 : decode cX6_goLeave 75 = .ok (.iadd, 1) := by decide +kernel
theorem dX6_goLeave_76 : decode cX6_goLeave 76 = .ok (.iconst 0, 1) := by decide +kernel
theorem dX6_goLeave_77 : decode cX6_goLeave 77 = .ok (.iastore, 1) := by decide +kernel
theorem dX6_goLeave_78 : decode cX6_goLeave 78 = .ok (.iinc 4 1, 3) := by decide +kernel
theorem dX6_goLeave_81 : decode cX6_goLeave 81 = .ok (.goto (-17), 3) := by decide +kernel
theorem dX6_goLeave_84 : decode cX6_goLeave 84 = .ok (.aload_n 0, 1) := by decide +kernel
theorem dX6_goLeave_85 : decode cX6_goLeave 85 = .ok (.invokestatic 122, 3) := by decide +kernel
theorem dX6_goLeave_88 : decode cX6_goLeave 88 = .ok (.ireturn, 1) := by decide +kernel
theorem dX6_hasGap_0 : decode cX6_hasGap 0 = .ok (.aload_n 0, 1) := by decide +kernel
theorem dX6_hasGap_1 : decode cX6_hasGap 1 = .ok (.iload_n 1, 1) := by decide +kernel
theorem dX6_hasGap_2 : decode cX6_hasGap 2 = .ok (.invokestatic 65, 3) := by decide +kernel
theorem dX6_hasGap_5 : decode cX6_hasGap 5 = .ok (.iconst 1, 1) := by decide +kernel
theorem dX6_hasGap_6 : decode cX6_hasGap 6 = .ok (.iadd, 1) := by decide +kernel
theorem dX6_hasGap_7 : decode cX6_hasGap 7 = .ok (.iaload, 1) := by decide +kernel
theorem dX6_hasGap_8 : decode cX6_hasGap 8 = .ok (.aload_n 0, 1) := by decide +kernel
theorem dX6_hasGap_9 : decode cX6_hasGap 9 = .ok (.sipush 400, 3) := by decide +kernel
theorem dX6_hasGap_12 : decode cX6_hasGap 12 = .ok (.iaload, 1) := by decide +kernel
theorem dX6_hasGap_13 : decode cX6_hasGap 13 = .ok (.if_icmp .ge 7, 3) := by decide +kernel
theorem dX6_hasGap_16 : decode cX6_hasGap 16 = .ok (.iconst 1, 1) := by decide +kernel
theorem dX6_hasGap_17 : decode cX6_hasGap 17 = .ok (.goto 4, 3) := by decide +kernel
theorem dX6_hasGap_20 : decode cX6_hasGap 20 = .ok (.iconst 0, 1) := by decide +kernel
theorem dX6_hasGap_21 : decode cX6_hasGap 21 = .ok (.ireturn, 1) := by decide +kernel
theorem dX6_canHold_0 : decode cX6_canHold 0 = .ok (.iload_n 2, 1) := by decide +kernel
theorem dX6_canHold_1 : decode cX6_canHold 1 = .ok (.ifCond .eq 11, 3) := by decide +kernel
theorem dX6_canHold_4 : decode cX6_canHold 4 = .ok (.aload_n 0, 1) := by decide +kernel
theorem dX6_canHold_5 : decode cX6_canHold 5 = .ok (.iload_n 1, 1) := by decide +kernel
theorem dX6_canHold_6 : decode cX6_canHold 6 = .ok (.invokestatic 125, 3) := by decide +kernel
theorem dX6_canHold_9 : decode cX6_canHold 9 = .ok (.ifCond .ne 7, 3) := by decide +kernel
theorem dX6_canHold_12 : decode cX6_canHold 12 = .ok (.iconst 1, 1) := by decide +kernel
theorem dX6_canHold_13 : decode cX6_canHold 13 = .ok (.goto 4, 3) := by decide +kernel
theorem dX6_canHold_16 : decode cX6_canHold 16 = .ok (.iconst 0, 1) := by decide +kernel
theorem dX6_canHold_17 : decode cX6_canHold 17 = .ok (.ireturn, 1) := by decide +kernel
theorem dX6_goHold_0 : decode cX6_goHold 0 = .ok (.iload_n 1, 1) := by decide +kernel
theorem dX6_goHold_1 : decode cX6_goHold 1 = .ok (.invokestatic 65, 3) := by decide +kernel
theorem dX6_goHold_4 : decode cX6_goHold 4 = .ok (.istore_n 3, 1) := by decide +kernel
theorem dX6_goHold_5 : decode cX6_goHold 5 = .ok (.aload_n 0, 1) := by decide +kernel
theorem dX6_goHold_6 : decode cX6_goHold 6 = .ok (.iload_n 3, 1) := by decide +kernel
theorem dX6_goHold_7 : decode cX6_goHold 7 = .ok (.iconst 2, 1) := by decide +kernel
theorem dX6_goHold_8 : decode cX6_goHold 8 = .ok (.iadd, 1) := by decide +kernel
theorem dX6_goHold_9 : decode cX6_goHold 9 = .ok (.iaload, 1) := by decide +kernel
theorem dX6_goHold_10 : decode cX6_goHold 10 = .ok (.istore 4, 2) := by decide +kernel
theorem dX6_goHold_12 : decode cX6_goHold 12 = .ok (.aload_n 0, 1) := by decide +kernel
theorem dX6_goHold_13 : decode cX6_goHold 13 = .ok (.iload_n 3, 1) := by decide +kernel
theorem dX6_goHold_14 : decode cX6_goHold 14 = .ok (.iconst 2, 1) := by decide +kernel
theorem dX6_goHold_15 : decode cX6_goHold 15 = .ok (.iadd, 1) := by decide +kernel
theorem dX6_goHold_16 : decode cX6_goHold 16 = .ok (.iload_n 2, 1) := by decide +kernel
theorem dX6_goHold_17 : decode cX6_goHold 17 = .ok (.ifCond .eq 7, 3) := by decide +kernel
theorem dX6_goHold_20 : decode cX6_goHold 20 = .ok (.iconst 1, 1) := by decide +kernel
theorem dX6_goHold_21 : decode cX6_goHold 21 = .ok (.goto 4, 3) := by decide +kernel
theorem dX6_goHold_24 : decode cX6_goHold 24 = .ok (.iconst 0, 1) := by decide +kernel
theorem dX6_goHold_25 : decode cX6_goHold 25 = .ok (.iastore, 1) := by decide +kernel
theorem dX6_goHold_26 : decode cX6_goHold 26 = .ok (.aload_n 0, 1) := by decide +kernel
theorem dX6_goHold_27 : decode cX6_goHold 27 = .ok (.iload_n 3, 1) := by decide +kernel
theorem dX6_goHold_28 : decode cX6_goHold 28 = .ok (.bipush 6, 2) := by decide +kernel
theorem dX6_goHold_30 : decode cX6_goHold 30 = .ok (.iadd, 1) := by decide +kernel
theorem dX6_goHold_31 : decode cX6_goHold 31 = .ok (.iconst 0, 1) := by decide +kernel
theorem dX6_goHold_32 : decode cX6_goHold 32 = .ok (.iastore, 1) := by decide +kernel
theorem dX6_goHold_33 : decode cX6_goHold 33 = .ok (.iload 4, 2) := by decide +kernel
theorem dX6_goHold_35 : decode cX6_goHold 35 = .ok (.ireturn, 1) := by decide +kernel
theorem dX6_put_0 : decode cX6_put 0 = .ok (.aload_n 0, 1) := by decide +kernel
theorem dX6_put_1 : decode cX6_put 1 = .ok (.sipush 610, 3) := by decide +kernel
theorem dX6_put_4 : decode cX6_put 4 = .ok (.iload_n 1, 1) := by decide +kernel
theorem dX6_put_5 : decode cX6_put 5 = .ok (.iadd, 1) := by decide +kernel
theorem dX6_put_6 : decode cX6_put 6 = .ok (.iaload, 1) := by decide +kernel
theorem dX6_put_7 : decode cX6_put 7 = .ok (.istore_n 3, 1) := by decide +kernel
theorem dX6_put_8 : decode cX6_put 8 = .ok (.aload_n 0, 1) := by decide +kernel
theorem dX6_put_9 : decode cX6_put 9 = .ok (.sipush 610, 3) := by decide +kernel
theorem dX6_put_12 : decode cX6_put 12 = .ok (.iload_n 1, 1) := by decide +kernel
theorem dX6_put_13 : decode cX6_put 13 = .ok (.iadd, 1) := by decide +kernel
theorem dX6_put_14 : decode cX6_put 14 = .ok (.iload_n 2, 1) := by decide +kernel
theorem dX6_put_15 : decode cX6_put 15 = .ok (.iastore, 1) := by decide +kernel
theorem dX6_put_16 : decode cX6_put 16 = .ok (.iload_n 3, 1) := by decide +kernel
theorem dX6_put_17 : decode cX6_put 17 = .ok (.ireturn, 1) := by decide +kernel
theorem dX6_remember_0 : decode cX6_remember 0 = .ok (.aload_n 0, 1) := by decide +kernel
theorem dX6_remember_1 : decode cX6_remember 1 = .ok (.getfield 128, 3) := by decide +kernel
theorem dX6_remember_4 : decode cX6_remember 4 = .ok (.bipush 14, 2) := by decide +kernel
theorem dX6_remember_6 : decode cX6_remember 6 = .ok (.if_icmp .ne 44, 3) := by decide +kernel
theorem dX6_remember_9 : decode cX6_remember 9 = .ok (.iconst 0, 1) := by decide +kernel
theorem dX6_remember_10 : decode cX6_remember 10 = .ok (.istore_n 1, 1) := by decide +kernel
theorem dX6_remember_11 : decode cX6_remember 11 = .ok (.iload_n 1, 1) := by decide +kernel
theorem dX6_remember_12 : decode cX6_remember 12 = .ok (.sipush 8073, 3) := by decide +kernel
theorem dX6_remember_15 : decode cX6_remember 15 = .ok (.if_icmp .ge 25, 3) := by decide +kernel
theorem dX6_remember_18 : decode cX6_remember 18 = .ok (.aload_n 0, 1) := by decide +kernel
theorem dX6_remember_19 : decode cX6_remember 19 = .ok (.getfield 19, 3) := by decide +kernel
theorem dX6_remember_22 : decode cX6_remember 22 = .ok (.iload_n 1, 1) := by decide +kernel
theorem dX6_remember_23 : decode cX6_remember 23 = .ok (.aload_n 0, 1) := by decide +kernel
theorem dX6_remember_24 : decode cX6_remember 24 = .ok (.getfield 19, 3) := by decide +kernel
theorem dX6_remember_27 : decode cX6_remember 27 = .ok (.sipush 621, 3) := by decide +kernel
theorem dX6_remember_30 : decode cX6_remember 30 = .ok (.iload_n 1, 1) := by decide +kernel
theorem dX6_remember_31 : decode cX6_remember 31 = .ok (.iadd, 1) := by decide +kernel
theorem dX6_remember_32 : decode cX6_remember 32 = .ok (.iaload, 1) := by decide +kernel
theorem dX6_remember_33 : decode cX6_remember 33 = .ok (.iastore, 1) := by decide +kernel
theorem dX6_remember_34 : decode cX6_remember 34 = .ok (.iinc 1 1, 3) := by decide +kernel
theorem dX6_remember_37 : decode cX6_remember 37 = .ok (.goto (-26), 3) := by decide +kernel
theorem dX6_remember_40 : decode cX6_remember 40 = .ok (.aload_n 0, 1) := by decide +kernel
theorem dX6_remember_41 : decode cX6_remember 41 = .ok (.dup, 1) := by decide +kernel
theorem dX6_remember_42 : decode cX6_remember 42 = .ok (.getfield 128, 3) := by decide +kernel
theorem dX6_remember_45 : decode cX6_remember 45 = .ok (.iconst 1, 1) := by decide +kernel
theorem dX6_remember_46 : decode cX6_remember 46 = .ok (.isub, 1) := by decide +kernel
theorem dX6_remember_47 : decode cX6_remember 47 = .ok (.putfield 128, 3) := by decide +kernel
theorem dX6_remember_50 : decode cX6_remember 50 = .ok (.iconst 0, 1) := by decide +kernel
theorem dX6_remember_51 : decode cX6_remember 51 = .ok (.istore_n 1, 1) := by decide +kernel
theorem dX6_remember_52 : decode cX6_remember 52 = .ok (.iload_n 1, 1) := by decide +kernel
theorem dX6_remember_53 : decode cX6_remember 53 = .ok (.sipush 621, 3) := by decide +kernel
theorem dX6_remember_56 : decode cX6_remember 56 = .ok (.if_icmp .ge 30, 3) := by decide +kernel
theorem dX6_remember_59 : decode cX6_remember 59 = .ok (.aload_n 0, 1) := by decide +kernel
theorem dX6_remember_60 : decode cX6_remember 60 = .ok (.getfield 19, 3) := by decide +kernel
theorem dX6_remember_63 : decode cX6_remember 63 = .ok (.sipush 621, 3) := by decide +kernel
theorem dX6_remember_66 : decode cX6_remember 66 = .ok (.aload_n 0, 1) := by decide +kernel
theorem dX6_remember_67 : decode cX6_remember 67 = .ok (.getfield 128, 3) := by decide +kernel
theorem dX6_remember_70 : decode cX6_remember 70 = .ok (.imul, 1) := by decide +kernel
theorem dX6_remember_71 : decode cX6_remember 71 = .ok (.iload_n 1, 1) := by decide +kernel
theorem dX6_remember_72 : decode cX6_remember 72 = .ok (.iadd, 1) := by decide +kernel
theorem dX6_remember_73 : decode cX6_remember 73 = .ok (.aload_n 0, 1) := by decide +kernel
theorem dX6_remember_74 : decode cX6_remember 74 = .ok (.getfield 7, 3) := by decide +kernel
theorem dX6_remember_77 : decode cX6_remember 77 = .ok (.iload_n 1, 1) := by decide +kernel
theorem dX6_remember_78 : decode cX6_remember 78 = .ok (.iaload, 1) := by decide +kernel
theorem dX6_remember_79 : decode cX6_remember 79 = .ok (.iastore, 1) := by decide +kernel
theorem dX6_remember_80 : decode cX6_remember 80 = .ok (.iinc 1 1, 3) := by decide +kernel
theorem dX6_remember_83 : decode cX6_remember 83 = .ok (.goto (-31), 3) := by decide +kernel
theorem dX6_remember_86 : decode cX6_remember 86 = .ok (.aload_n 0, 1) := by decide +kernel
theorem dX6_remember_87 : decode cX6_remember 87 = .ok (.dup, 1) := by decide +kernel
theorem dX6_remember_88 : decode cX6_remember 88 = .ok (.getfield 128, 3) := by decide +kernel
theorem dX6_remember_91 : decode cX6_remember 91 = .ok (.iconst 1, 1) := by decide +kernel
theorem dX6_remember_92 : decode cX6_remember 92 = .ok (.iadd, 1) := by decide +kernel
theorem dX6_remember_93 : decode cX6_remember 93 = .ok (.putfield 128, 3) := by decide +kernel
theorem dX6_remember_96 : decode cX6_remember 96 = .ok (.return_, 1) := by decide +kernel
theorem dX6_append_0 : decode cX6_append 0 = .ok (.aload_n 0, 1) := by decide +kernel
theorem dX6_append_1 : decode cX6_append 1 = .ok (.iload_n 1, 1) := by decide +kernel
theorem dX6_append_2 : decode cX6_append 2 = .ok (.i2l, 1) := by decide +kernel
theorem dX6_append_3 : decode cX6_append 3 = .ok (.lconst 0, 1) := by decide +kernel
theorem dX6_append_4 : decode cX6_append 4 = .ok (.ldc2_w 131, 3) := by decide +kernel
theorem dX6_append_7 : decode cX6_append 7 = .ok (.invokestatic 44, 3) := by decide +kernel
theorem dX6_append_10 : decode cX6_append 10 = .ok (.ifCond .ne 7, 3) := by decide +kernel
theorem dX6_append_13 : decode cX6_append 13 = .ok (.iconst 1, 1) := by decide +kernel
theorem dX6_append_14 : decode cX6_append 14 = .ok (.goto 17, 3) := by decide +kernel
theorem dX6_append_17 : decode cX6_append 17 = .ok (.aload_n 0, 1) := by decide +kernel
theorem dX6_append_18 : decode cX6_append 18 = .ok (.getfield 133, 3) := by decide +kernel
theorem dX6_append_21 : decode cX6_append 21 = .ok (.bipush 120, 2) := by decide +kernel
theorem dX6_append_23 : decode cX6_append 23 = .ok (.if_icmp .ne 7, 3) := by decide +kernel
theorem dX6_append_26 : decode cX6_append 26 = .ok (.iconst 2, 1) := by decide +kernel
theorem dX6_append_27 : decode cX6_append 27 = .ok (.goto 4, 3) := by decide +kernel
theorem dX6_append_30 : decode cX6_append 30 = .ok (.iconst 0, 1) := by decide +kernel
theorem dX6_append_31 : decode cX6_append 31 = .ok (.invokevirtual 136, 3) := by decide +kernel
theorem dX6_append_34 : decode cX6_append 34 = .ok (.ifCond .eq 5, 3) := by decide +kernel
theorem dX6_append_37 : decode cX6_append 37 = .ok (.iconst 0, 1) := by decide +kernel
theorem dX6_append_38 : decode cX6_append 38 = .ok (.ireturn, 1) := by decide +kernel
theorem dX6_append_39 : decode cX6_append 39 = .ok (.aload_n 0, 1) := by decide +kernel
theorem dX6_append_40 : decode cX6_append 40 = .ok (.getfield 29, 3) := by decide +kernel
theorem dX6_append_43 : decode cX6_append 43 = .ok (.aload_n 0, 1) := by decide +kernel
theorem dX6_append_44 : decode cX6_append 44 = .ok (.getfield 133, 3) := by decide +kernel
theorem dX6_append_47 : decode cX6_append 47 = .ok (.iload_n 1, 1) := by decide +kernel
theorem dX6_append_48 : decode cX6_append 48 = .ok (.iastore, 1) := by decide +kernel
theorem dX6_append_49 : decode cX6_append 49 = .ok (.aload_n 0, 1) := by decide +kernel
theorem dX6_append_50 : decode cX6_append 50 = .ok (.dup, 1) := by decide +kernel
theorem dX6_append_51 : decode cX6_append 51 = .ok (.getfield 133, 3) := by decide +kernel
theorem dX6_append_54 : decode cX6_append 54 = .ok (.iconst 1, 1) := by decide +kernel
theorem dX6_append_55 : decode cX6_append 55 = .ok (.iadd, 1) := by decide +kernel
theorem dX6_append_56 : decode cX6_append 56 = .ok (.putfield 133, 3) := by decide +kernel
theorem dX6_append_59 : decode cX6_append 59 = .ok (.aload_n 0, 1) := by decide +kernel
theorem dX6_append_60 : decode cX6_append 60 = .ok (.getfield 133, 3) := by decide +kernel
theorem dX6_append_63 : decode cX6_append 63 = .ok (.ireturn, 1) := by decide +kernel
theorem dX6_clearText_0 : decode cX6_clearText 0 = .ok (.aload_n 0, 1) := by decide +kernel
theorem dX6_clearText_1 : decode cX6_clearText 1 = .ok (.iconst 0, 1) := by decide +kernel
theorem dX6_clearText_2 : decode cX6_clearText 2 = .ok (.putfield 36, 3) := by decide +kernel
theorem dX6_clearText_5 : decode cX6_clearText 5 = .ok (.aload_n 0, 1) := by decide +kernel
theorem dX6_clearText_6 : decode cX6_clearText 6 = .ok (.getfield 133, 3) := by decide +kernel
theorem dX6_clearText_9 : decode cX6_clearText 9 = .ok (.istore_n 1, 1) := by decide +kernel
theorem dX6_clearText_10 : decode cX6_clearText 10 = .ok (.aload_n 0, 1) := by decide +kernel
theorem dX6_clearText_11 : decode cX6_clearText 11 = .ok (.iconst 0, 1) := by decide +kernel
theorem dX6_clearText_12 : decode cX6_clearText 12 = .ok (.putfield 133, 3) := by decide +kernel
theorem dX6_clearText_15 : decode cX6_clearText 15 = .ok (.iload_n 1, 1) := by decide +kernel
theorem dX6_clearText_16 : decode cX6_clearText 16 = .ok (.ireturn, 1) := by decide +kernel
theorem dX6_here_0 : decode cX6_here 0 = .ok (.aload_n 0, 1) := by decide +kernel
theorem dX6_here_1 : decode cX6_here 1 = .ok (.getfield 139, 3) := by decide +kernel
theorem dX6_here_4 : decode cX6_here 4 = .ok (.aload_n 0, 1) := by decide +kernel
theorem dX6_here_5 : decode cX6_here 5 = .ok (.getfield 133, 3) := by decide +kernel
theorem dX6_here_8 : decode cX6_here 8 = .ok (.if_icmp .ge 15, 3) := by decide +kernel
theorem dX6_here_11 : decode cX6_here 11 = .ok (.aload_n 0, 1) := by decide +kernel
theorem dX6_here_12 : decode cX6_here 12 = .ok (.getfield 29, 3) := by decide +kernel
theorem dX6_here_15 : decode cX6_here 15 = .ok (.aload_n 0, 1) := by decide +kernel
theorem dX6_here_16 : decode cX6_here 16 = .ok (.getfield 139, 3) := by decide +kernel
theorem dX6_here_19 : decode cX6_here 19 = .ok (.iaload, 1) := by decide +kernel
theorem dX6_here_20 : decode cX6_here 20 = .ok (.goto 4, 3) := by decide +kernel
theorem dX6_here_23 : decode cX6_here 23 = .ok (.iconst (-1), 1) := by decide +kernel
theorem dX6_here_24 : decode cX6_here 24 = .ok (.ireturn, 1) := by decide +kernel
theorem dX6_take_0 : decode cX6_take 0 = .ok (.aload_n 0, 1) := by decide +kernel
theorem dX6_take_1 : decode cX6_take 1 = .ok (.aload_n 0, 1) := by decide +kernel
theorem dX6_take_2 : decode cX6_take 2 = .ok (.getfield 142, 3) := by decide +kernel
theorem dX6_take_5 : decode cX6_take 5 = .ok (.ifCond .eq 11, 3) := by decide +kernel
theorem dX6_take_8 : decode cX6_take 8 = .ok (.iload_n 1, 1) := by decide +kernel
theorem dX6_take_9 : decode cX6_take 9 = .ok (.ifCond .eq 7, 3) := by decide +kernel
theorem dX6_take_12 : decode cX6_take 12 = .ok (.iconst 1, 1) := by decide +kernel
theorem dX6_take_13 : decode cX6_take 13 = .ok (.goto 4, 3) := by decide +kernel
theorem dX6_take_16 : decode cX6_take 16 = .ok (.iconst 0, 1) := by decide +kernel
theorem dX6_take_17 : decode cX6_take 17 = .ok (.putfield 142, 3) := by decide +kernel
theorem dX6_take_20 : decode cX6_take 20 = .ok (.aload_n 0, 1) := by decide +kernel
theorem dX6_take_21 : decode cX6_take 21 = .ok (.dup, 1) := by decide +kernel
theorem dX6_take_22 : decode cX6_take 22 = .ok (.getfield 139, 3) := by decide +kernel
theorem dX6_take_25 : decode cX6_take 25 = .ok (.aload_n 0, 1) := by decide +kernel
theorem dX6_take_26 : decode cX6_take 26 = .ok (.getfield 142, 3) := by decide +kernel
theorem dX6_take_29 : decode cX6_take 29 = .ok (.ifCond .eq 7, 3) := by decide +kernel
theorem dX6_take_32 : decode cX6_take 32 = .ok (.iconst 1, 1) := by decide +kernel
theorem dX6_take_33 : decode cX6_take 33 = .ok (.goto 4, 3) := by decide +kernel
theorem dX6_take_36 : decode cX6_take 36 = .ok (.iconst 0, 1) := by decide +kernel
theorem dX6_take_37 : decode cX6_take 37 = .ok (.iadd, 1) := by decide +kernel
theorem dX6_take_38 : decode cX6_take 38 = .ok (.putfield 139, 3) := by decide +kernel
theorem dX6_take_41 : decode cX6_take 41 = .ok (.return_, 1) := by decide +kernel
theorem dX6_digit_0 : decode cX6_digit 0 = .ok (.aload_n 0, 1) := by decide +kernel
theorem dX6_digit_1 : decode cX6_digit 1 = .ok (.invokevirtual 146, 3) := by decide +kernel
theorem dX6_digit_4 : decode cX6_digit 4 = .ok (.bipush 48, 2) := by decide +kernel
theorem dX6_digit_6 : decode cX6_digit 6 = .ok (.isub, 1) := by decide +kernel
theorem dX6_digit_7 : decode cX6_digit 7 = .ok (.istore_n 3, 1) := by decide +kernel
theorem dX6_digit_8 : decode cX6_digit 8 = .ok (.aload_n 0, 1) := by decide +kernel
theorem dX6_digit_9 : decode cX6_digit 9 = .ok (.iload_n 3, 1) := by decide +kernel
theorem dX6_digit_10 : decode cX6_digit 10 = .ok (.i2l, 1) := by decide +kernel
theorem dX6_digit_11 : decode cX6_digit 11 = .ok (.iload_n 1, 1) := by decide +kernel
theorem dX6_digit_12 : decode cX6_digit 12 = .ok (.i2l, 1) := by decide +kernel
theorem dX6_digit_13 : decode cX6_digit 13 = .ok (.iload_n 2, 1) := by decide +kernel
theorem dX6_digit_14 : decode cX6_digit 14 = .ok (.i2l, 1) := by decide +kernel
theorem dX6_digit_15 : decode cX6_digit 15 = .ok (.invokestatic 44, 3) := by decide +kernel
theorem dX6_digit_18 : decode cX6_digit 18 = .ok (.invokevirtual 150, 3) := by decide +kernel
theorem dX6_digit_21 : decode cX6_digit 21 = .ok (.aload_n 0, 1) := by decide +kernel
theorem dX6_digit_22 : decode cX6_digit 22 = .ok (.getfield 142, 3) := by decide +kernel
theorem dX6_digit_25 : decode cX6_digit 25 = .ok (.ifCond .eq 7, 3) := by decide +kernel
theorem dX6_digit_28 : decode cX6_digit 28 = .ok (.iload_n 3, 1) := by decide +kernel
theorem dX6_digit_29 : decode cX6_digit 29 = .ok (.goto 4, 3) := by decide +kernel
theorem dX6_digit_32 : decode cX6_digit 32 = .ok (.iload_n 1, 1) := by decide +kernel
theorem dX6_digit_33 : decode cX6_digit 33 = .ok (.ireturn, 1) := by decide +kernel
theorem dX6_two_0 : decode cX6_two 0 = .ok (.aload_n 0, 1) := by decide +kernel
theorem dX6_two_1 : decode cX6_two 1 = .ok (.iload_n 1, 1) := by decide +kernel
theorem dX6_two_2 : decode cX6_two 2 = .ok (.bipush 10, 2) := by decide +kernel
theorem dX6_two_4 : decode cX6_two 4 = .ok (.idiv, 1) := by decide +kernel
theorem dX6_two_5 : decode cX6_two 5 = .ok (.iload_n 2, 1) := by decide +kernel
theorem dX6_two_6 : decode cX6_two 6 = .ok (.bipush 10, 2) := by decide +kernel
theorem dX6_two_8 : decode cX6_two 8 = .ok (.idiv, 1) := by decide +kernel
theorem dX6_two_9 : decode cX6_two 9 = .ok (.invokevirtual 154, 3) := by decide +kernel
theorem dX6_two_12 : decode cX6_two 12 = .ok (.istore_n 3, 1) := by decide +kernel
theorem dX6_two_13 : decode cX6_two 13 = .ok (.bipush 10, 2) := by decide +kernel
theorem dX6_two_15 : decode cX6_two 15 = .ok (.iload_n 3, 1) := by decide +kernel
theorem dX6_two_16 : decode cX6_two 16 = .ok (.imul, 1) := by decide +kernel
theorem dX6_two_17 : decode cX6_two 17 = .ok (.aload_n 0, 1) := by decide +kernel
theorem dX6_two_18 : decode cX6_two 18 = .ok (.iload_n 3, 1) := by decide +kernel
theorem dX6_two_19 : decode cX6_two 19 = .ok (.iload_n 1, 1) := by decide +kernel
theorem dX6_two_20 : decode cX6_two 20 = .ok (.bipush 10, 2) := by decide +kernel
theorem dX6_two_22 : decode cX6_two 22 = .ok (.idiv, 1) := by decide +kernel
theorem dX6_two_23 : decode cX6_two 23 = .ok (.if_icmp .ne 10, 3) := by decide +kernel
theorem dX6_two_26 : decode cX6_two 26 = .ok (.iload_n 1, 1) := by decide +kernel
theorem dX6_two_27 : decode cX6_two 27 = .ok (.bipush 10, 2) := by decide +kernel
theorem dX6_two_29 : decode cX6_two 29 = .ok (.irem, 1) := by decide +kernel
theorem dX6_two_30 : decode cX6_two 30 = .ok (.goto 4, 3) := by decide +kernel
theorem dX6_two_33 : decode cX6_two 33 = .ok (.iconst 0, 1) := by decide +kernel
theorem dX6_two_34 : decode cX6_two 34 = .ok (.iload_n 3, 1) := by decide +kernel
theorem dX6_two_35 : decode cX6_two 35 = .ok (.iload_n 2, 1) := by decide +kernel
theorem dX6_two_36 : decode cX6_two 36 = .ok (.bipush 10, 2) := by decide +kernel
theorem dX6_two_38 : decode cX6_two 38 = .ok (.idiv, 1) := by decide +kernel
theorem dX6_two_39 : decode cX6_two 39 = .ok (.if_icmp .ne 10, 3) := by decide +kernel
theorem dX6_two_42 : decode cX6_two 42 = .ok (.iload_n 2, 1) := by decide +kernel
theorem dX6_two_43 : decode cX6_two 43 = .ok (.bipush 10, 2) := by decide +kernel
theorem dX6_two_45 : decode cX6_two 45 = .ok (.irem, 1) := by decide +kernel
theorem dX6_two_46 : decode cX6_two 46 = .ok (.goto 5, 3) := by decide +kernel
theorem dX6_two_49 : decode cX6_two 49 = .ok (.bipush 9, 2) := by decide +kernel
theorem dX6_two_51 : decode cX6_two 51 = .ok (.invokevirtual 154, 3) := by decide +kernel
theorem dX6_two_54 : decode cX6_two 54 = .ok (.iadd, 1) := by decide +kernel
theorem dX6_two_55 : decode cX6_two 55 = .ok (.ireturn, 1) := by decide +kernel
theorem dX6_sign_0 : decode cX6_sign 0 = .ok (.aload_n 0, 1) := by decide +kernel
theorem dX6_sign_1 : decode cX6_sign 1 = .ok (.invokevirtual 146, 3) := by decide +kernel
theorem dX6_sign_4 : decode cX6_sign 4 = .ok (.istore_n 1, 1) := by decide +kernel
theorem dX6_sign_5 : decode cX6_sign 5 = .ok (.aload_n 0, 1) := by decide +kernel
theorem dX6_sign_6 : decode cX6_sign 6 = .ok (.iload_n 1, 1) := by decide +kernel
theorem dX6_sign_7 : decode cX6_sign 7 = .ok (.bipush 43, 2) := by decide +kernel
theorem dX6_sign_9 : decode cX6_sign 9 = .ok (.if_icmp .eq 9, 3) := by decide +kernel
theorem dX6_sign_12 : decode cX6_sign 12 = .ok (.iload_n 1, 1) := by decide +kernel
theorem dX6_sign_13 : decode cX6_sign 13 = .ok (.bipush 45, 2) := by decide +kernel
theorem dX6_sign_15 : decode cX6_sign 15 = .ok (.if_icmp .ne 7, 3) := by decide +kernel
theorem dX6_sign_18 : decode cX6_sign 18 = .ok (.iconst 1, 1) := by decide +kernel
theorem dX6_sign_19 : decode cX6_sign 19 = .ok (.goto 4, 3) := by decide +kernel
theorem dX6_sign_22 : decode cX6_sign 22 = .ok (.iconst 0, 1) := by decide +kernel
theorem dX6_sign_23 : decode cX6_sign 23 = .ok (.invokevirtual 150, 3) := by decide +kernel
theorem dX6_sign_26 : decode cX6_sign 26 = .ok (.iload_n 1, 1) := by decide +kernel
theorem dX6_sign_27 : decode cX6_sign 27 = .ok (.bipush 43, 2) := by decide +kernel
theorem dX6_sign_29 : decode cX6_sign 29 = .ok (.if_icmp .ne 7, 3) := by decide +kernel
theorem dX6_sign_32 : decode cX6_sign 32 = .ok (.iconst 1, 1) := by decide +kernel
theorem dX6_sign_33 : decode cX6_sign 33 = .ok (.goto 4, 3) := by decide +kernel
theorem dX6_sign_36 : decode cX6_sign 36 = .ok (.iconst 0, 1) := by decide +kernel
theorem dX6_sign_37 : decode cX6_sign 37 = .ok (.ireturn, 1) := by decide +kernel
theorem dX6_goes_0 : decode cX6_goes 0 = .ok (.aload_n 0, 1) := by decide +kernel
theorem dX6_goes_1 : decode cX6_goes 1 = .ok (.dup, 1) := by decide +kernel
theorem dX6_goes_2 : decode cX6_goes 2 = .ok (.getfield 158, 3) := by decide +kernel
theorem dX6_goes_5 : decode cX6_goes 5 = .ok (.aload_n 0, 1) := by decide +kernel
theorem dX6_goes_6 : decode cX6_goes 6 = .ok (.getfield 142, 3) := by decide +kernel
theorem dX6_goes_9 : decode cX6_goes 9 = .ok (.ifCond .eq 11, 3) := by decide +kernel
theorem dX6_goes_12 : decode cX6_goes 12 = .ok (.iload_n 1, 1) := by decide +kernel
theorem dX6_goes_13 : decode cX6_goes 13 = .ok (.ifCond .ne 7, 3) := by decide +kernel
theorem dX6_goes_16 : decode cX6_goes 16 = .ok (.iconst 1, 1) := by decide +kernel
theorem dX6_goes_17 : decode cX6_goes 17 = .ok (.goto 4, 3) := by decide +kernel
theorem dX6_goes_20 : decode cX6_goes 20 = .ok (.iconst 0, 1) := by decide +kernel
theorem dX6_goes_21 : decode cX6_goes 21 = .ok (.iadd, 1) := by decide +kernel
theorem dX6_goes_22 : decode cX6_goes 22 = .ok (.putfield 158, 3) := by decide +kernel
theorem dX6_goes_25 : decode cX6_goes 25 = .ok (.aload_n 0, 1) := by decide +kernel
theorem dX6_goes_26 : decode cX6_goes 26 = .ok (.getfield 142, 3) := by decide +kernel
theorem dX6_goes_29 : decode cX6_goes 29 = .ok (.ifCond .eq 11, 3) := by decide +kernel
theorem dX6_goes_32 : decode cX6_goes 32 = .ok (.iload_n 1, 1) := by decide +kernel
theorem dX6_goes_33 : decode cX6_goes 33 = .ok (.ifCond .eq 7, 3) := by decide +kernel
theorem dX6_goes_36 : decode cX6_goes 36 = .ok (.iconst 1, 1) := by decide +kernel
theorem dX6_goes_37 : decode cX6_goes 37 = .ok (.goto 4, 3) := by decide +kernel
theorem dX6_goes_40 : decode cX6_goes 40 = .ok (.iconst 0, 1) := by decide +kernel
theorem dX6_goes_41 : decode cX6_goes 41 = .ok (.ireturn, 1) := by decide +kernel
theorem dX6_readWrite_0 : decode cX6_readWrite 0 = .ok (.aload_n 0, 1) := by decide +kernel
theorem dX6_readWrite_1 : decode cX6_readWrite 1 = .ok (.iconst 0, 1) := by decide +kernel
theorem dX6_readWrite_2 : decode cX6_readWrite 2 = .ok (.bipush 7, 2) := by decide +kernel
theorem dX6_readWrite_4 : decode cX6_readWrite 4 = .ok (.invokevirtual 154, 3) := by decide +kernel
theorem dX6_readWrite_7 : decode cX6_readWrite 7 = .ok (.istore_n 1, 1) := by decide +kernel
theorem dX6_readWrite_8 : decode cX6_readWrite 8 = .ok (.aload_n 0, 1) := by decide +kernel
theorem dX6_readWrite_9 : decode cX6_readWrite 9 = .ok (.iconst 0, 1) := by decide +kernel
theorem dX6_readWrite_10 : decode cX6_readWrite 10 = .ok (.bipush 99, 2) := by decide +kernel
theorem dX6_readWrite_12 : decode cX6_readWrite 12 = .ok (.invokevirtual 161, 3) := by decide +kernel
theorem dX6_readWrite_15 : decode cX6_readWrite 15 = .ok (.istore_n 2, 1) := by decide +kernel
theorem dX6_readWrite_16 : decode cX6_readWrite 16 = .ok (.aload_n 0, 1) := by decide +kernel
theorem dX6_readWrite_17 : decode cX6_readWrite 17 = .ok (.iconst 1, 1) := by decide +kernel
theorem dX6_readWrite_18 : decode cX6_readWrite 18 = .ok (.bipush 40, 2) := by decide +kernel
theorem dX6_readWrite_20 : decode cX6_readWrite 20 = .ok (.invokevirtual 161, 3) := by decide +kernel
theorem dX6_readWrite_23 : decode cX6_readWrite 23 = .ok (.istore_n 3, 1) := by decide +kernel
theorem dX6_readWrite_24 : decode cX6_readWrite 24 = .ok (.aload_n 0, 1) := by decide +kernel
theorem dX6_readWrite_25 : decode cX6_readWrite 25 = .ok (.aload_n 0, 1) := by decide +kernel
theorem dX6_readWrite_26 : decode cX6_readWrite 26 = .ok (.getfield 16, 3) := by decide +kernel
theorem dX6_readWrite_29 : decode cX6_readWrite 29 = .ok (.sipush 401, 3) := by decide +kernel
theorem dX6_readWrite_32 : decode cX6_readWrite 32 = .ok (.iaload, 1) := by decide +kernel
theorem dX6_readWrite_33 : decode cX6_readWrite 33 = .ok (.sipush 200, 3) := by decide +kernel
theorem dX6_readWrite_36 : decode cX6_readWrite 36 = .ok (.if_icmp .ge 7, 3) := by decide +kernel
theorem dX6_readWrite_39 : decode cX6_readWrite 39 = .ok (.iconst 1, 1) := by decide +kernel
theorem dX6_readWrite_40 : decode cX6_readWrite 40 = .ok (.goto 4, 3) := by decide +kernel
theorem dX6_readWrite_43 : decode cX6_readWrite 43 = .ok (.iconst 0, 1) := by decide +kernel
theorem dX6_readWrite_44 : decode cX6_readWrite 44 = .ok (.invokevirtual 164, 3) := by decide +kernel
theorem dX6_readWrite_47 : decode cX6_readWrite 47 = .ok (.ifCond .eq 14, 3) := by decide +kernel
theorem dX6_readWrite_50 : decode cX6_readWrite 50 = .ok (.aload_n 0, 1) := by decide +kernel
theorem dX6_readWrite_51 : decode cX6_readWrite 51 = .ok (.getfield 16, 3) := by decide +kernel
theorem dX6_readWrite_54 : decode cX6_readWrite 54 = .ok (.iload_n 1, 1) := by decide +kernel
theorem dX6_readWrite_55 : decode cX6_readWrite 55 = .ok (.iload_n 2, 1) := by decide +kernel
theorem dX6_readWrite_56 : decode cX6_readWrite 56 = .ok (.iload_n 3, 1) := by decide +kernel
theorem dX6_readWrite_57 : decode cX6_readWrite 57 = .ok (.invokestatic 168, 3) := by decide +kernel
theorem dX6_readWrite_60 : decode cX6_readWrite 60 = .ok (.pop, 1) := by decide +kernel
theorem dX6_readWrite_61 : decode cX6_readWrite 61 = .ok (.return_, 1) := by decide +kernel
theorem dX6_readJoin_0 : decode cX6_readJoin 0 = .ok (.aload_n 0, 1) := by decide +kernel
theorem dX6_readJoin_1 : decode cX6_readJoin 1 = .ok (.iconst 0, 1) := by decide +kernel
theorem dX6_readJoin_2 : decode cX6_readJoin 2 = .ok (.bipush 7, 2) := by decide +kernel
theorem dX6_readJoin_4 : decode cX6_readJoin 4 = .ok (.invokevirtual 154, 3) := by decide +kernel
theorem dX6_readJoin_7 : decode cX6_readJoin 7 = .ok (.istore_n 1, 1) := by decide +kernel
theorem dX6_readJoin_8 : decode cX6_readJoin 8 = .ok (.aload_n 0, 1) := by decide +kernel
theorem dX6_readJoin_9 : decode cX6_readJoin 9 = .ok (.iconst 0, 1) := by decide +kernel
theorem dX6_readJoin_10 : decode cX6_readJoin 10 = .ok (.iconst 2, 1) := by decide +kernel
theorem dX6_readJoin_11 : decode cX6_readJoin 11 = .ok (.invokevirtual 154, 3) := by decide +kernel
theorem dX6_readJoin_14 : decode cX6_readJoin 14 = .ok (.istore_n 2, 1) := by decide +kernel
theorem dX6_readJoin_15 : decode cX6_readJoin 15 = .ok (.aload_n 0, 1) := by decide +kernel
theorem dX6_readJoin_16 : decode cX6_readJoin 16 = .ok (.invokevirtual 172, 3) := by decide +kernel
theorem dX6_readJoin_19 : decode cX6_readJoin 19 = .ok (.istore_n 3, 1) := by decide +kernel
theorem dX6_readJoin_20 : decode cX6_readJoin 20 = .ok (.aload_n 0, 1) := by decide +kernel
theorem dX6_readJoin_21 : decode cX6_readJoin 21 = .ok (.aload_n 0, 1) := by decide +kernel
theorem dX6_readJoin_22 : decode cX6_readJoin 22 = .ok (.getfield 16, 3) := by decide +kernel
theorem dX6_readJoin_25 : decode cX6_readJoin 25 = .ok (.iload_n 1, 1) := by decide +kernel
theorem dX6_readJoin_26 : decode cX6_readJoin 26 = .ok (.iload_n 2, 1) := by decide +kernel
theorem dX6_readJoin_27 : decode cX6_readJoin 27 = .ok (.iload_n 3, 1) := by decide +kernel
theorem dX6_readJoin_28 : decode cX6_readJoin 28 = .ok (.invokestatic 176, 3) := by decide +kernel
theorem dX6_readJoin_31 : decode cX6_readJoin 31 = .ok (.invokevirtual 164, 3) := by decide +kernel
theorem dX6_readJoin_34 : decode cX6_readJoin 34 = .ok (.ifCond .eq 14, 3) := by decide +kernel
theorem dX6_readJoin_37 : decode cX6_readJoin 37 = .ok (.aload_n 0, 1) := by decide +kernel
theorem dX6_readJoin_38 : decode cX6_readJoin 38 = .ok (.getfield 16, 3) := by decide +kernel
theorem dX6_readJoin_41 : decode cX6_readJoin 41 = .ok (.iload_n 1, 1) := by decide +kernel
theorem dX6_readJoin_42 : decode cX6_readJoin 42 = .ok (.iload_n 2, 1) := by decide +kernel
theorem dX6_readJoin_43 : decode cX6_readJoin 43 = .ok (.iload_n 3, 1) := by decide +kernel
theorem dX6_readJoin_44 : decode cX6_readJoin 44 = .ok (.invokestatic 180, 3) := by decide +kernel
theorem dX6_readJoin_47 : decode cX6_readJoin 47 = .ok (.pop, 1) := by decide +kernel
theorem dX6_readJoin_48 : decode cX6_readJoin 48 = .ok (.return_, 1) := by decide +kernel
theorem dX6_readHold_0 : decode cX6_readHold 0 = .ok (.aload_n 0, 1) := by decide +kernel
theorem dX6_readHold_1 : decode cX6_readHold 1 = .ok (.iconst 0, 1) := by decide +kernel
theorem dX6_readHold_2 : decode cX6_readHold 2 = .ok (.bipush 7, 2) := by decide +kernel
theorem dX6_readHold_4 : decode cX6_readHold 4 = .ok (.invokevirtual 154, 3) := by decide +kernel
theorem dX6_readHold_7 : decode cX6_readHold 7 = .ok (.istore_n 1, 1) := by decide +kernel
theorem dX6_readHold_8 : decode cX6_readHold 8 = .ok (.aload_n 0, 1) := by decide +kernel
theorem dX6_readHold_9 : decode cX6_readHold 9 = .ok (.invokevirtual 172, 3) := by decide +kernel
theorem dX6_readHold_12 : decode cX6_readHold 12 = .ok (.istore_n 2, 1) := by decide +kernel
theorem dX6_readHold_13 : decode cX6_readHold 13 = .ok (.aload_n 0, 1) := by decide +kernel
theorem dX6_readHold_14 : decode cX6_readHold 14 = .ok (.aload_n 0, 1) := by decide +kernel
theorem dX6_readHold_15 : decode cX6_readHold 15 = .ok (.getfield 16, 3) := by decide +kernel
theorem dX6_readHold_18 : decode cX6_readHold 18 = .ok (.iload_n 1, 1) := by decide +kernel
theorem dX6_readHold_19 : decode cX6_readHold 19 = .ok (.invokestatic 184, 3) := by decide +kernel
theorem dX6_readHold_22 : decode cX6_readHold 22 = .ok (.ifCond .eq 19, 3) := by decide +kernel
theorem dX6_readHold_25 : decode cX6_readHold 25 = .ok (.aload_n 0, 1) := by decide +kernel
theorem dX6_readHold_26 : decode cX6_readHold 26 = .ok (.getfield 16, 3) := by decide +kernel
theorem dX6_readHold_29 : decode cX6_readHold 29 = .ok (.iload_n 1, 1) := by decide +kernel
theorem dX6_readHold_30 : decode cX6_readHold 30 = .ok (.iload_n 2, 1) := by decide +kernel
theorem dX6_readHold_31 : decode cX6_readHold 31 = .ok (.invokestatic 187, 3) := by decide +kernel
theorem dX6_readHold_34 : decode cX6_readHold 34 = .ok (.ifCond .eq 7, 3) := by decide +kernel
theorem dX6_readHold_37 : decode cX6_readHold 37 = .ok (.iconst 1, 1) := by decide +kernel
theorem dX6_readHold_38 : decode cX6_readHold 38 = .ok (.goto 4, 3) := by decide +kernel
theorem dX6_readHold_41 : decode cX6_readHold 41 = .ok (.iconst 0, 1) := by decide +kernel
theorem dX6_readHold_42 : decode cX6_readHold 42 = .ok (.invokevirtual 164, 3) := by decide +kernel
theorem dX6_readHold_45 : decode cX6_readHold 45 = .ok (.ifCond .eq 13, 3) := by decide +kernel
theorem dX6_readHold_48 : decode cX6_readHold 48 = .ok (.aload_n 0, 1) := by decide +kernel
theorem dX6_readHold_49 : decode cX6_readHold 49 = .ok (.getfield 16, 3) := by decide +kernel
theorem dX6_readHold_52 : decode cX6_readHold 52 = .ok (.iload_n 1, 1) := by decide +kernel
theorem dX6_readHold_53 : decode cX6_readHold 53 = .ok (.iload_n 2, 1) := by decide +kernel
theorem dX6_readHold_54 : decode cX6_readHold 54 = .ok (.invokestatic 191, 3) := by decide +kernel
theorem dX6_readHold_57 : decode cX6_readHold 57 = .ok (.pop, 1) := by decide +kernel
theorem dX6_readHold_58 : decode cX6_readHold 58 = .ok (.return_, 1) := by decide +kernel
theorem dX6_readSet_0 : decode cX6_readSet 0 = .ok (.aload_n 0, 1) := by decide +kernel
theorem dX6_readSet_1 : decode cX6_readSet 1 = .ok (.iconst 0, 1) := by decide +kernel
theorem dX6_readSet_2 : decode cX6_readSet 2 = .ok (.iconst 5, 1) := by decide +kernel
theorem dX6_readSet_3 : decode cX6_readSet 3 = .ok (.invokevirtual 154, 3) := by decide +kernel
theorem dX6_readSet_6 : decode cX6_readSet 6 = .ok (.istore_n 1, 1) := by decide +kernel
theorem dX6_readSet_7 : decode cX6_readSet 7 = .ok (.aload_n 0, 1) := by decide +kernel
theorem dX6_readSet_8 : decode cX6_readSet 8 = .ok (.iconst 0, 1) := by decide +kernel
theorem dX6_readSet_9 : decode cX6_readSet 9 = .ok (.iconst 4, 1) := by decide +kernel
theorem dX6_readSet_10 : decode cX6_readSet 10 = .ok (.invokevirtual 154, 3) := by decide +kernel
theorem dX6_readSet_13 : decode cX6_readSet 13 = .ok (.istore_n 2, 1) := by decide +kernel
theorem dX6_readSet_14 : decode cX6_readSet 14 = .ok (.iload_n 2, 1) := by decide +kernel
theorem dX6_readSet_15 : decode cX6_readSet 15 = .ok (.iconst 4, 1) := by decide +kernel
theorem dX6_readSet_16 : decode cX6_readSet 16 = .ok (.if_icmp .ne 7, 3) := by decide +kernel
theorem dX6_readSet_19 : decode cX6_readSet 19 = .ok (.iconst 0, 1) := by decide +kernel
theorem dX6_readSet_20 : decode cX6_readSet 20 = .ok (.goto 5, 3) := by decide +kernel
theorem dX6_readSet_23 : decode cX6_readSet 23 = .ok (.bipush 9, 2) := by decide +kernel
theorem dX6_readSet_25 : decode cX6_readSet 25 = .ok (.istore_n 3, 1) := by decide +kernel
theorem dX6_readSet_26 : decode cX6_readSet 26 = .ok (.iconst 0, 1) := by decide +kernel
theorem dX6_readSet_27 : decode cX6_readSet 27 = .ok (.istore 4, 2) := by decide +kernel
theorem dX6_readSet_29 : decode cX6_readSet 29 = .ok (.iload 4, 2) := by decide +kernel
theorem dX6_readSet_31 : decode cX6_readSet 31 = .ok (.iconst 3, 1) := by decide +kernel
theorem dX6_readSet_32 : decode cX6_readSet 32 = .ok (.if_icmp .ge 21, 3) := by decide +kernel
theorem dX6_readSet_35 : decode cX6_readSet 35 = .ok (.bipush 10, 2) := by decide +kernel
theorem dX6_readSet_37 : decode cX6_readSet 37 = .ok (.iload_n 2, 1) := by decide +kernel
theorem dX6_readSet_38 : decode cX6_readSet 38 = .ok (.imul, 1) := by decide +kernel
theorem dX6_readSet_39 : decode cX6_readSet 39 = .ok (.aload_n 0, 1) := by decide +kernel
theorem dX6_readSet_40 : decode cX6_readSet 40 = .ok (.iconst 0, 1) := by decide +kernel
theorem dX6_readSet_41 : decode cX6_readSet 41 = .ok (.iload_n 3, 1) := by decide +kernel
theorem dX6_readSet_42 : decode cX6_readSet 42 = .ok (.invokevirtual 154, 3) := by decide +kernel
theorem dX6_readSet_45 : decode cX6_readSet 45 = .ok (.iadd, 1) := by decide +kernel
theorem dX6_readSet_46 : decode cX6_readSet 46 = .ok (.istore_n 2, 1) := by decide +kernel
theorem dX6_readSet_47 : decode cX6_readSet 47 = .ok (.iinc 4 1, 3) := by decide +kernel
theorem dX6_readSet_50 : decode cX6_readSet 50 = .ok (.goto (-21), 3) := by decide +kernel
theorem dX6_readSet_53 : decode cX6_readSet 53 = .ok (.aload_n 0, 1) := by decide +kernel
theorem dX6_readSet_54 : decode cX6_readSet 54 = .ok (.iload_n 1, 1) := by decide +kernel
theorem dX6_readSet_55 : decode cX6_readSet 55 = .ok (.iload_n 2, 1) := by decide +kernel
theorem dX6_readSet_56 : decode cX6_readSet 56 = .ok (.invokestatic 195, 3) := by decide +kernel
theorem dX6_readSet_59 : decode cX6_readSet 59 = .ok (.invokevirtual 164, 3) := by decide +kernel
theorem dX6_readSet_62 : decode cX6_readSet 62 = .ok (.ifCond .eq 13, 3) := by decide +kernel
theorem dX6_readSet_65 : decode cX6_readSet 65 = .ok (.aload_n 0, 1) := by decide +kernel
theorem dX6_readSet_66 : decode cX6_readSet 66 = .ok (.getfield 16, 3) := by decide +kernel
theorem dX6_readSet_69 : decode cX6_readSet 69 = .ok (.iload_n 1, 1) := by decide +kernel
theorem dX6_readSet_70 : decode cX6_readSet 70 = .ok (.iload_n 2, 1) := by decide +kernel
theorem dX6_readSet_71 : decode cX6_readSet 71 = .ok (.invokestatic 199, 3) := by decide +kernel
theorem dX6_readSet_74 : decode cX6_readSet 74 = .ok (.pop, 1) := by decide +kernel
theorem dX6_readSet_75 : decode cX6_readSet 75 = .ok (.return_, 1) := by decide +kernel
theorem dX6_readNumber_0 : decode cX6_readNumber 0 = .ok (.iload_n 1, 1) := by decide +kernel
theorem dX6_readNumber_1 : decode cX6_readNumber 1 = .ok (.lookupswitch 106 #[(108, 71), (114, 27)], 27) := by decide +kernel
theorem dX6_readNumber_28 : decode cX6_readNumber 28 = .ok (.aload_n 0, 1) := by decide +kernel
theorem dX6_readNumber_29 : decode cX6_readNumber 29 = .ok (.iconst 0, 1) := by decide +kernel
theorem dX6_readNumber_30 : decode cX6_readNumber 30 = .ok (.bipush 7, 2) := by decide +kernel
theorem dX6_readNumber_32 : decode cX6_readNumber 32 = .ok (.invokevirtual 154, 3) := by decide +kernel
theorem dX6_readNumber_35 : decode cX6_readNumber 35 = .ok (.istore_n 2, 1) := by decide +kernel
theorem dX6_readNumber_36 : decode cX6_readNumber 36 = .ok (.aload_n 0, 1) := by decide +kernel
theorem dX6_readNumber_37 : decode cX6_readNumber 37 = .ok (.iconst 1, 1) := by decide +kernel
theorem dX6_readNumber_38 : decode cX6_readNumber 38 = .ok (.bipush 50, 2) := by decide +kernel
theorem dX6_readNumber_40 : decode cX6_readNumber 40 = .ok (.invokevirtual 161, 3) := by decide +kernel
theorem dX6_readNumber_43 : decode cX6_readNumber 43 = .ok (.istore_n 3, 1) := by decide +kernel
theorem dX6_readNumber_44 : decode cX6_readNumber 44 = .ok (.aload_n 0, 1) := by decide +kernel
theorem dX6_readNumber_45 : decode cX6_readNumber 45 = .ok (.aload_n 0, 1) := by decide +kernel
theorem dX6_readNumber_46 : decode cX6_readNumber 46 = .ok (.getfield 16, 3) := by decide +kernel
theorem dX6_readNumber_49 : decode cX6_readNumber 49 = .ok (.iload_n 2, 1) := by decide +kernel
theorem dX6_readNumber_50 : decode cX6_readNumber 50 = .ok (.invokestatic 184, 3) := by decide +kernel
theorem dX6_readNumber_53 : decode cX6_readNumber 53 = .ok (.invokevirtual 164, 3) := by decide +kernel
theorem dX6_readNumber_56 : decode cX6_readNumber 56 = .ok (.ifCond .eq 75, 3) := by decide +kernel
theorem dX6_readNumber_59 : decode cX6_readNumber 59 = .ok (.aload_n 0, 1) := by decide +kernel
theorem dX6_readNumber_60 : decode cX6_readNumber 60 = .ok (.getfield 16, 3) := by decide +kernel
theorem dX6_readNumber_63 : decode cX6_readNumber 63 = .ok (.iload_n 2, 1) := by decide +kernel
theorem dX6_readNumber_64 : decode cX6_readNumber 64 = .ok (.iload_n 3, 1) := by decide +kernel
theorem dX6_readNumber_65 : decode cX6_readNumber 65 = .ok (.invokestatic 202, 3) := by decide +kernel
theorem dX6_readNumber_68 : decode cX6_readNumber 68 = .ok (.pop, 1) := by decide +kernel
theorem dX6_readNumber_69 : decode cX6_readNumber 69 = .ok (.goto 62, 3) := by decide +kernel
theorem dX6_readNumber_72 : decode cX6_readNumber 72 = .ok (.aload_n 0, 1) := by decide +kernel
theorem dX6_readNumber_73 : decode cX6_readNumber 73 = .ok (.iconst 0, 1) := by decide +kernel
theorem dX6_readNumber_74 : decode cX6_readNumber 74 = .ok (.bipush 7, 2) := by decide +kernel
theorem dX6_readNumber_76 : decode cX6_readNumber 76 = .ok (.invokevirtual 154, 3) := by decide +kernel
theorem dX6_readNumber_79 : decode cX6_readNumber 79 = .ok (.istore_n 2, 1) := by decide +kernel
theorem dX6_readNumber_80 : decode cX6_readNumber 80 = .ok (.aload_n 0, 1) := by decide +kernel
theorem dX6_readNumber_81 : decode cX6_readNumber 81 = .ok (.aload_n 0, 1) := by decide +kernel
theorem dX6_readNumber_82 : decode cX6_readNumber 82 = .ok (.getfield 16, 3) := by decide +kernel
theorem dX6_readNumber_85 : decode cX6_readNumber 85 = .ok (.iload_n 2, 1) := by decide +kernel
theorem dX6_readNumber_86 : decode cX6_readNumber 86 = .ok (.invokestatic 184, 3) := by decide +kernel
theorem dX6_readNumber_89 : decode cX6_readNumber 89 = .ok (.invokevirtual 164, 3) := by decide +kernel
theorem dX6_readNumber_92 : decode cX6_readNumber 92 = .ok (.ifCond .eq 39, 3) := by decide +kernel
theorem dX6_readNumber_95 : decode cX6_readNumber 95 = .ok (.aload_n 0, 1) := by decide +kernel
theorem dX6_readNumber_96 : decode cX6_readNumber 96 = .ok (.getfield 16, 3) := by decide +kernel
theorem dX6_readNumber_99 : decode cX6_readNumber 99 = .ok (.iload_n 2, 1) := by decide +kernel
theorem dX6_readNumber_100 : decode cX6_readNumber 100 = .ok (.invokestatic 205, 3) := by decide +kernel
theorem dX6_readNumber_103 : decode cX6_readNumber 103 = .ok (.pop, 1) := by decide +kernel
theorem dX6_readNumber_104 : decode cX6_readNumber 104 = .ok (.goto 27, 3) := by decide +kernel
theorem dX6_readNumber_107 : decode cX6_readNumber 107 = .ok (.aload_n 0, 1) := by decide +kernel
theorem dX6_readNumber_108 : decode cX6_readNumber 108 = .ok (.iconst 1, 1) := by decide +kernel
theorem dX6_readNumber_109 : decode cX6_readNumber 109 = .ok (.bipush 99, 2) := by decide +kernel
theorem dX6_readNumber_111 : decode cX6_readNumber 111 = .ok (.invokevirtual 161, 3) := by decide +kernel
theorem dX6_readNumber_114 : decode cX6_readNumber 114 = .ok (.istore_n 3, 1) := by decide +kernel
theorem dX6_readNumber_115 : decode cX6_readNumber 115 = .ok (.aload_n 0, 1) := by decide +kernel
theorem dX6_readNumber_116 : decode cX6_readNumber 116 = .ok (.getfield 142, 3) := by decide +kernel
theorem dX6_readNumber_119 : decode cX6_readNumber 119 = .ok (.ifCond .eq 12, 3) := by decide +kernel
theorem dX6_readNumber_122 : decode cX6_readNumber 122 = .ok (.aload_n 0, 1) := by decide +kernel
theorem dX6_readNumber_123 : decode cX6_readNumber 123 = .ok (.getfield 16, 3) := by decide +kernel
theorem dX6_readNumber_126 : decode cX6_readNumber 126 = .ok (.iload_n 3, 1) := by decide +kernel
theorem dX6_readNumber_127 : decode cX6_readNumber 127 = .ok (.invokestatic 208, 3) := by decide +kernel
theorem dX6_readNumber_130 : decode cX6_readNumber 130 = .ok (.pop, 1) := by decide +kernel
theorem dX6_readNumber_131 : decode cX6_readNumber 131 = .ok (.return_, 1) := by decide +kernel
theorem dX6_readCommand_0 : decode cX6_readCommand 0 = .ok (.aload_n 0, 1) := by decide +kernel
theorem dX6_readCommand_1 : decode cX6_readCommand 1 = .ok (.invokevirtual 146, 3) := by decide +kernel
theorem dX6_readCommand_4 : decode cX6_readCommand 4 = .ok (.istore_n 1, 1) := by decide +kernel
theorem dX6_readCommand_5 : decode cX6_readCommand 5 = .ok (.aload_n 0, 1) := by decide +kernel
theorem dX6_readCommand_6 : decode cX6_readCommand 6 = .ok (.iload_n 1, 1) := by decide +kernel
theorem dX6_readCommand_7 : decode cX6_readCommand 7 = .ok (.bipush 119, 2) := by decide +kernel
theorem dX6_readCommand_9 : decode cX6_readCommand 9 = .ok (.if_icmp .eq 39, 3) := by decide +kernel
theorem dX6_readCommand_12 : decode cX6_readCommand 12 = .ok (.iload_n 1, 1) := by decide +kernel
theorem dX6_readCommand_13 : decode cX6_readCommand 13 = .ok (.bipush 106, 2) := by decide +kernel
theorem dX6_readCommand_15 : decode cX6_readCommand 15 = .ok (.if_icmp .eq 33, 3) := by decide +kernel
theorem dX6_readCommand_18 : decode cX6_readCommand 18 = .ok (.iload_n 1, 1) := by decide +kernel
theorem dX6_readCommand_19 : decode cX6_readCommand 19 = .ok (.bipush 114, 2) := by decide +kernel
theorem dX6_readCommand_21 : decode cX6_readCommand 21 = .ok (.if_icmp .eq 27, 3) := by decide +kernel
theorem dX6_readCommand_24 : decode cX6_readCommand 24 = .ok (.iload_n 1, 1) := by decide +kernel
theorem dX6_readCommand_25 : decode cX6_readCommand 25 = .ok (.bipush 108, 2) := by decide +kernel
theorem dX6_readCommand_27 : decode cX6_readCommand 27 = .ok (.if_icmp .eq 21, 3) := by decide +kernel
theorem dX6_readCommand_30 : decode cX6_readCommand 30 = .ok (.iload_n 1, 1) := by decide +kernel
theorem dX6_readCommand_31 : decode cX6_readCommand 31 = .ok (.bipush 104, 2) := by decide +kernel
theorem dX6_readCommand_33 : decode cX6_readCommand 33 = .ok (.if_icmp .eq 15, 3) := by decide +kernel
theorem dX6_readCommand_36 : decode cX6_readCommand 36 = .ok (.iload_n 1, 1) := by decide +kernel
theorem dX6_readCommand_37 : decode cX6_readCommand 37 = .ok (.bipush 115, 2) := by decide +kernel
theorem dX6_readCommand_39 : decode cX6_readCommand 39 = .ok (.if_icmp .eq 9, 3) := by decide +kernel
theorem dX6_readCommand_42 : decode cX6_readCommand 42 = .ok (.iload_n 1, 1) := by decide +kernel
theorem dX6_readCommand_43 : decode cX6_readCommand 43 = .ok (.bipush 116, 2) := by decide +kernel
theorem dX6_readCommand_45 : decode cX6_readCommand 45 = .ok (.if_icmp .ne 7, 3) := by decide +kernel
theorem dX6_readCommand_48 : decode cX6_readCommand 48 = .ok (.iconst 1, 1) := by decide +kernel
theorem dX6_readCommand_49 : decode cX6_readCommand 49 = .ok (.goto 4, 3) := by decide +kernel
theorem dX6_readCommand_52 : decode cX6_readCommand 52 = .ok (.iconst 0, 1) := by decide +kernel
theorem dX6_readCommand_53 : decode cX6_readCommand 53 = .ok (.invokevirtual 150, 3) := by decide +kernel
theorem dX6_readCommand_56 : decode cX6_readCommand 56 = .ok (.aload_n 0, 1) := by decide +kernel
theorem dX6_readCommand_57 : decode cX6_readCommand 57 = .ok (.getfield 142, 3) := by decide +kernel
theorem dX6_readCommand_60 : decode cX6_readCommand 60 = .ok (.ifCond .ne 4, 3) := by decide +kernel
theorem dX6_readCommand_63 : decode cX6_readCommand 63 = .ok (.return_, 1) := by decide +kernel
theorem dX6_readCommand_64 : decode cX6_readCommand 64 = .ok (.iload_n 1, 1) := by decide +kernel
theorem dX6_readCommand_65 : decode cX6_readCommand 65 = .ok (.lookupswitch 71 #[(104, 57), (106, 50), (115, 64), (119, 43)], 43) := by decide +kernel
theorem dX6_readCommand_108 : decode cX6_readCommand 108 = .ok (.aload_n 0, 1) := by decide +kernel
theorem dX6_readCommand_109 : decode cX6_readCommand 109 = .ok (.invokevirtual 211, 3) := by decide +kernel
theorem dX6_readCommand_112 : decode cX6_readCommand 112 = .ok (.goto 29, 3) := by decide +kernel
theorem dX6_readCommand_115 : decode cX6_readCommand 115 = .ok (.aload_n 0, 1) := by decide +kernel
theorem dX6_readCommand_116 : decode cX6_readCommand 116 = .ok (.invokevirtual 214, 3) := by decide +kernel
theorem dX6_readCommand_119 : decode cX6_readCommand 119 = .ok (.goto 22, 3) := by decide +kernel
theorem dX6_readCommand_122 : decode cX6_readCommand 122 = .ok (.aload_n 0, 1) := by decide +kernel
theorem dX6_readCommand_123 : decode cX6_readCommand 123 = .ok (.invokevirtual 217, 3) := by decide +kernel
theorem dX6_readCommand_126 : decode cX6_readCommand 126 = .ok (.goto 15, 3) := by decide +kernel
theorem dX6_readCommand_129 : decode cX6_readCommand 129 = .ok (.aload_n 0, 1) := by decide +kernel
theorem dX6_readCommand_130 : decode cX6_readCommand 130 = .ok (.invokevirtual 220, 3) := by decide +kernel
theorem dX6_readCommand_133 : decode cX6_readCommand 133 = .ok (.goto 8, 3) := by decide +kernel
theorem dX6_readCommand_136 : decode cX6_readCommand 136 = .ok (.aload_n 0, 1) := by decide +kernel
theorem dX6_readCommand_137 : decode cX6_readCommand 137 = .ok (.iload_n 1, 1) := by decide +kernel
theorem dX6_readCommand_138 : decode cX6_readCommand 138 = .ok (.invokevirtual 223, 3) := by decide +kernel
theorem dX6_readCommand_141 : decode cX6_readCommand 141 = .ok (.return_, 1) := by decide +kernel
theorem dX6_readAll_0 : decode cX6_readAll 0 = .ok (.aload_n 0, 1) := by decide +kernel
theorem dX6_readAll_1 : decode cX6_readAll 1 = .ok (.iconst 0, 1) := by decide +kernel
theorem dX6_readAll_2 : decode cX6_readAll 2 = .ok (.putfield 139, 3) := by decide +kernel
theorem dX6_readAll_5 : decode cX6_readAll 5 = .ok (.aload_n 0, 1) := by decide +kernel
theorem dX6_readAll_6 : decode cX6_readAll 6 = .ok (.iconst 1, 1) := by decide +kernel
theorem dX6_readAll_7 : decode cX6_readAll 7 = .ok (.putfield 142, 3) := by decide +kernel
theorem dX6_readAll_10 : decode cX6_readAll 10 = .ok (.aload_n 0, 1) := by decide +kernel
theorem dX6_readAll_11 : decode cX6_readAll 11 = .ok (.iconst 0, 1) := by decide +kernel
theorem dX6_readAll_12 : decode cX6_readAll 12 = .ok (.putfield 158, 3) := by decide +kernel
theorem dX6_readAll_15 : decode cX6_readAll 15 = .ok (.aload_n 0, 1) := by decide +kernel
theorem dX6_readAll_16 : decode cX6_readAll 16 = .ok (.getfield 16, 3) := by decide +kernel
theorem dX6_readAll_19 : decode cX6_readAll 19 = .ok (.invokestatic 32, 3) := by decide +kernel
theorem dX6_readAll_22 : decode cX6_readAll 22 = .ok (.aload_n 0, 1) := by decide +kernel
theorem dX6_readAll_23 : decode cX6_readAll 23 = .ok (.aload_n 0, 1) := by decide +kernel
theorem dX6_readAll_24 : decode cX6_readAll 24 = .ok (.invokevirtual 146, 3) := by decide +kernel
theorem dX6_readAll_27 : decode cX6_readAll 27 = .ok (.bipush 71, 2) := by decide +kernel
theorem dX6_readAll_29 : decode cX6_readAll 29 = .ok (.if_icmp .ne 7, 3) := by decide +kernel
theorem dX6_readAll_32 : decode cX6_readAll 32 = .ok (.iconst 1, 1) := by decide +kernel
theorem dX6_readAll_33 : decode cX6_readAll 33 = .ok (.goto 4, 3) := by decide +kernel
theorem dX6_readAll_36 : decode cX6_readAll 36 = .ok (.iconst 0, 1) := by decide +kernel
theorem dX6_readAll_37 : decode cX6_readAll 37 = .ok (.invokevirtual 150, 3) := by decide +kernel
theorem dX6_readAll_40 : decode cX6_readAll 40 = .ok (.aload_n 0, 1) := by decide +kernel
theorem dX6_readAll_41 : decode cX6_readAll 41 = .ok (.getfield 142, 3) := by decide +kernel
theorem dX6_readAll_44 : decode cX6_readAll 44 = .ok (.ifCond .eq 21, 3) := by decide +kernel
theorem dX6_readAll_47 : decode cX6_readAll 47 = .ok (.aload_n 0, 1) := by decide +kernel
theorem dX6_readAll_48 : decode cX6_readAll 48 = .ok (.getfield 139, 3) := by decide +kernel
theorem dX6_readAll_51 : decode cX6_readAll 51 = .ok (.aload_n 0, 1) := by decide +kernel
theorem dX6_readAll_52 : decode cX6_readAll 52 = .ok (.getfield 133, 3) := by decide +kernel
theorem dX6_readAll_55 : decode cX6_readAll 55 = .ok (.if_icmp .ge 10, 3) := by decide +kernel
theorem dX6_readAll_58 : decode cX6_readAll 58 = .ok (.aload_n 0, 1) := by decide +kernel
theorem dX6_readAll_59 : decode cX6_readAll 59 = .ok (.invokevirtual 227, 3) := by decide +kernel
theorem dX6_readAll_62 : decode cX6_readAll 62 = .ok (.goto (-22), 3) := by decide +kernel
theorem dX6_readAll_65 : decode cX6_readAll 65 = .ok (.aload_n 0, 1) := by decide +kernel
theorem dX6_readAll_66 : decode cX6_readAll 66 = .ok (.getfield 142, 3) := by decide +kernel
theorem dX6_readAll_69 : decode cX6_readAll 69 = .ok (.ifCond .eq 7, 3) := by decide +kernel
theorem dX6_readAll_72 : decode cX6_readAll 72 = .ok (.iconst (-1), 1) := by decide +kernel
theorem dX6_readAll_73 : decode cX6_readAll 73 = .ok (.goto 7, 3) := by decide +kernel
theorem dX6_readAll_76 : decode cX6_readAll 76 = .ok (.aload_n 0, 1) := by decide +kernel
theorem dX6_readAll_77 : decode cX6_readAll 77 = .ok (.getfield 139, 3) := by decide +kernel
theorem dX6_readAll_80 : decode cX6_readAll 80 = .ok (.ireturn, 1) := by decide +kernel
theorem dX6_errorPosition_0 : decode cX6_errorPosition 0 = .ok (.aload_n 0, 1) := by decide +kernel
theorem dX6_errorPosition_1 : decode cX6_errorPosition 1 = .ok (.iconst 0, 1) := by decide +kernel
theorem dX6_errorPosition_2 : decode cX6_errorPosition 2 = .ok (.putfield 36, 3) := by decide +kernel
theorem dX6_errorPosition_5 : decode cX6_errorPosition 5 = .ok (.aload_n 0, 1) := by decide +kernel
theorem dX6_errorPosition_6 : decode cX6_errorPosition 6 = .ok (.invokevirtual 230, 3) := by decide +kernel
theorem dX6_errorPosition_9 : decode cX6_errorPosition 9 = .ok (.ireturn, 1) := by decide +kernel
theorem dX6_load_0 : decode cX6_load 0 = .ok (.aload_n 0, 1) := by decide +kernel
theorem dX6_load_1 : decode cX6_load 1 = .ok (.aload_n 0, 1) := by decide +kernel
theorem dX6_load_2 : decode cX6_load 2 = .ok (.invokevirtual 230, 3) := by decide +kernel
theorem dX6_load_5 : decode cX6_load 5 = .ok (.iconst (-1), 1) := by decide +kernel
theorem dX6_load_6 : decode cX6_load 6 = .ok (.if_icmp .ne 7, 3) := by decide +kernel
theorem dX6_load_9 : decode cX6_load 9 = .ok (.iconst 0, 1) := by decide +kernel
theorem dX6_load_10 : decode cX6_load 10 = .ok (.goto 4, 3) := by decide +kernel
theorem dX6_load_13 : decode cX6_load 13 = .ok (.iconst 1, 1) := by decide +kernel
theorem dX6_load_14 : decode cX6_load 14 = .ok (.invokevirtual 136, 3) := by decide +kernel
theorem dX6_load_17 : decode cX6_load 17 = .ok (.ifCond .eq 5, 3) := by decide +kernel
theorem dX6_load_20 : decode cX6_load 20 = .ok (.iconst 0, 1) := by decide +kernel
theorem dX6_load_21 : decode cX6_load 21 = .ok (.ireturn, 1) := by decide +kernel
theorem dX6_load_22 : decode cX6_load 22 = .ok (.aload_n 0, 1) := by decide +kernel
theorem dX6_load_23 : decode cX6_load 23 = .ok (.getfield 16, 3) := by decide +kernel
theorem dX6_load_26 : decode cX6_load 26 = .ok (.aload_n 0, 1) := by decide +kernel
theorem dX6_load_27 : decode cX6_load 27 = .ok (.getfield 7, 3) := by decide +kernel
theorem dX6_load_30 : decode cX6_load 30 = .ok (.invokestatic 233, 3) := by decide +kernel
theorem dX6_load_33 : decode cX6_load 33 = .ok (.aload_n 0, 1) := by decide +kernel
theorem dX6_load_34 : decode cX6_load 34 = .ok (.iconst 0, 1) := by decide +kernel
theorem dX6_load_35 : decode cX6_load 35 = .ok (.putfield 128, 3) := by decide +kernel
theorem dX6_load_38 : decode cX6_load 38 = .ok (.aload_n 0, 1) := by decide +kernel
theorem dX6_load_39 : decode cX6_load 39 = .ok (.getfield 25, 3) := by decide +kernel
theorem dX6_load_42 : decode cX6_load 42 = .ok (.iconst 0, 1) := by decide +kernel
theorem dX6_load_43 : decode cX6_load 43 = .ok (.iconst 0, 1) := by decide +kernel
theorem dX6_load_44 : decode cX6_load 44 = .ok (.bastore, 1) := by decide +kernel
theorem dX6_load_45 : decode cX6_load 45 = .ok (.aload_n 0, 1) := by decide +kernel
theorem dX6_load_46 : decode cX6_load 46 = .ok (.getfield 25, 3) := by decide +kernel
theorem dX6_load_49 : decode cX6_load 49 = .ok (.iconst 1, 1) := by decide +kernel
theorem dX6_load_50 : decode cX6_load 50 = .ok (.iconst 0, 1) := by decide +kernel
theorem dX6_load_51 : decode cX6_load 51 = .ok (.bastore, 1) := by decide +kernel
theorem dX6_load_52 : decode cX6_load 52 = .ok (.aload_n 0, 1) := by decide +kernel
theorem dX6_load_53 : decode cX6_load 53 = .ok (.getfield 158, 3) := by decide +kernel
theorem dX6_load_56 : decode cX6_load 56 = .ok (.ireturn, 1) := by decide +kernel
theorem dX6_holds_0 : decode cX6_holds 0 = .ok (.iconst 0, 1) := by decide +kernel
theorem dX6_holds_1 : decode cX6_holds 1 = .ok (.istore_n 1, 1) := by decide +kernel
theorem dX6_holds_2 : decode cX6_holds 2 = .ok (.iconst 0, 1) := by decide +kernel
theorem dX6_holds_3 : decode cX6_holds 3 = .ok (.istore_n 2, 1) := by decide +kernel
theorem dX6_holds_4 : decode cX6_holds 4 = .ok (.iload_n 2, 1) := by decide +kernel
theorem dX6_holds_5 : decode cX6_holds 5 = .ok (.bipush 8, 2) := by decide +kernel
theorem dX6_holds_7 : decode cX6_holds 7 = .ok (.if_icmp .ge 32, 3) := by decide +kernel
theorem dX6_holds_10 : decode cX6_holds 10 = .ok (.iload_n 1, 1) := by decide +kernel
theorem dX6_holds_11 : decode cX6_holds 11 = .ok (.aload_n 0, 1) := by decide +kernel
theorem dX6_holds_12 : decode cX6_holds 12 = .ok (.iload_n 2, 1) := by decide +kernel
theorem dX6_holds_13 : decode cX6_holds 13 = .ok (.invokestatic 184, 3) := by decide +kernel
theorem dX6_holds_16 : decode cX6_holds 16 = .ok (.ifCond .eq 14, 3) := by decide +kernel
theorem dX6_holds_19 : decode cX6_holds 19 = .ok (.aload_n 0, 1) := by decide +kernel
theorem dX6_holds_20 : decode cX6_holds 20 = .ok (.iload_n 2, 1) := by decide +kernel
theorem dX6_holds_21 : decode cX6_holds 21 = .ok (.invokestatic 65, 3) := by decide +kernel
theorem dX6_holds_24 : decode cX6_holds 24 = .ok (.iconst 2, 1) := by decide +kernel
theorem dX6_holds_25 : decode cX6_holds 25 = .ok (.iadd, 1) := by decide +kernel
theorem dX6_holds_26 : decode cX6_holds 26 = .ok (.iaload, 1) := by decide +kernel
theorem dX6_holds_27 : decode cX6_holds 27 = .ok (.goto 4, 3) := by decide +kernel
theorem dX6_holds_30 : decode cX6_holds 30 = .ok (.iconst 0, 1) := by decide +kernel
theorem dX6_holds_31 : decode cX6_holds 31 = .ok (.iadd, 1) := by decide +kernel
theorem dX6_holds_32 : decode cX6_holds 32 = .ok (.istore_n 1, 1) := by decide +kernel
theorem dX6_holds_33 : decode cX6_holds 33 = .ok (.iinc 2 1, 3) := by decide +kernel
theorem dX6_holds_36 : decode cX6_holds 36 = .ok (.goto (-32), 3) := by decide +kernel
theorem dX6_holds_39 : decode cX6_holds 39 = .ok (.iload_n 1, 1) := by decide +kernel
theorem dX6_holds_40 : decode cX6_holds 40 = .ok (.ireturn, 1) := by decide +kernel
theorem dX6_gaps_0 : decode cX6_gaps 0 = .ok (.iconst 0, 1) := by decide +kernel
theorem dX6_gaps_1 : decode cX6_gaps 1 = .ok (.istore_n 1, 1) := by decide +kernel
theorem dX6_gaps_2 : decode cX6_gaps 2 = .ok (.iconst 0, 1) := by decide +kernel
theorem dX6_gaps_3 : decode cX6_gaps 3 = .ok (.istore_n 2, 1) := by decide +kernel
theorem dX6_gaps_4 : decode cX6_gaps 4 = .ok (.iload_n 2, 1) := by decide +kernel
theorem dX6_gaps_5 : decode cX6_gaps 5 = .ok (.bipush 8, 2) := by decide +kernel
theorem dX6_gaps_7 : decode cX6_gaps 7 = .ok (.if_icmp .ge 33, 3) := by decide +kernel
theorem dX6_gaps_10 : decode cX6_gaps 10 = .ok (.iload_n 1, 1) := by decide +kernel
theorem dX6_gaps_11 : decode cX6_gaps 11 = .ok (.aload_n 0, 1) := by decide +kernel
theorem dX6_gaps_12 : decode cX6_gaps 12 = .ok (.iload_n 2, 1) := by decide +kernel
theorem dX6_gaps_13 : decode cX6_gaps 13 = .ok (.invokestatic 184, 3) := by decide +kernel
theorem dX6_gaps_16 : decode cX6_gaps 16 = .ok (.ifCond .eq 15, 3) := by decide +kernel
theorem dX6_gaps_19 : decode cX6_gaps 19 = .ok (.aload_n 0, 1) := by decide +kernel
theorem dX6_gaps_20 : decode cX6_gaps 20 = .ok (.iload_n 2, 1) := by decide +kernel
theorem dX6_gaps_21 : decode cX6_gaps 21 = .ok (.invokestatic 125, 3) := by decide +kernel
theorem dX6_gaps_24 : decode cX6_gaps 24 = .ok (.ifCond .eq 7, 3) := by decide +kernel
theorem dX6_gaps_27 : decode cX6_gaps 27 = .ok (.iconst 1, 1) := by decide +kernel
theorem dX6_gaps_28 : decode cX6_gaps 28 = .ok (.goto 4, 3) := by decide +kernel
theorem dX6_gaps_31 : decode cX6_gaps 31 = .ok (.iconst 0, 1) := by decide +kernel
theorem dX6_gaps_32 : decode cX6_gaps 32 = .ok (.iadd, 1) := by decide +kernel
theorem dX6_gaps_33 : decode cX6_gaps 33 = .ok (.istore_n 1, 1) := by decide +kernel
theorem dX6_gaps_34 : decode cX6_gaps 34 = .ok (.iinc 2 1, 3) := by decide +kernel
theorem dX6_gaps_37 : decode cX6_gaps 37 = .ok (.goto (-33), 3) := by decide +kernel
theorem dX6_gaps_40 : decode cX6_gaps 40 = .ok (.iload_n 1, 1) := by decide +kernel
theorem dX6_gaps_41 : decode cX6_gaps 41 = .ok (.ireturn, 1) := by decide +kernel
theorem dX6_about_0 : decode cX6_about 0 = .ok (.aload_n 0, 1) := by decide +kernel
theorem dX6_about_1 : decode cX6_about 1 = .ok (.iload_n 1, 1) := by decide +kernel
theorem dX6_about_2 : decode cX6_about 2 = .ok (.i2l, 1) := by decide +kernel
theorem dX6_about_3 : decode cX6_about 3 = .ok (.lconst 0, 1) := by decide +kernel
theorem dX6_about_4 : decode cX6_about 4 = .ok (.ldc2_w 237, 3) := by decide +kernel
theorem dX6_about_7 : decode cX6_about 7 = .ok (.invokestatic 44, 3) := by decide +kernel
theorem dX6_about_10 : decode cX6_about 10 = .ok (.ifCond .eq 7, 3) := by decide +kernel
theorem dX6_about_13 : decode cX6_about 13 = .ok (.iconst 0, 1) := by decide +kernel
theorem dX6_about_14 : decode cX6_about 14 = .ok (.goto 4, 3) := by decide +kernel
theorem dX6_about_17 : decode cX6_about 17 = .ok (.iconst 1, 1) := by decide +kernel
theorem dX6_about_18 : decode cX6_about 18 = .ok (.invokevirtual 136, 3) := by decide +kernel
theorem dX6_about_21 : decode cX6_about 21 = .ok (.ifCond .eq 5, 3) := by decide +kernel
theorem dX6_about_24 : decode cX6_about 24 = .ok (.iconst 0, 1) := by decide +kernel
theorem dX6_about_25 : decode cX6_about 25 = .ok (.ireturn, 1) := by decide +kernel
theorem dX6_about_26 : decode cX6_about 26 = .ok (.iload_n 1, 1) := by decide +kernel
theorem dX6_about_27 : decode cX6_about 27 = .ok (.tableswitch 167 0 10 #[57, 66, 75, 83, 107, 115, 123, 131, 140, 149, 158], 57) := by decide +kernel
theorem dX6_about_84 : decode cX6_about 84 = .ok (.aload_n 0, 1) := by decide +kernel
theorem dX6_about_85 : decode cX6_about 85 = .ok (.getfield 7, 3) := by decide +kernel
theorem dX6_about_88 : decode cX6_about 88 = .ok (.sipush 401, 3) := by decide +kernel
theorem dX6_about_91 : decode cX6_about 91 = .ok (.iaload, 1) := by decide +kernel
theorem dX6_about_92 : decode cX6_about 92 = .ok (.ireturn, 1) := by decide +kernel
theorem dX6_about_93 : decode cX6_about 93 = .ok (.aload_n 0, 1) := by decide +kernel
theorem dX6_about_94 : decode cX6_about 94 = .ok (.getfield 7, 3) := by decide +kernel
theorem dX6_about_97 : decode cX6_about 97 = .ok (.sipush 400, 3) := by decide +kernel
theorem dX6_about_100 : decode cX6_about 100 = .ok (.iaload, 1) := by decide +kernel
theorem dX6_about_101 : decode cX6_about 101 = .ok (.ireturn, 1) := by decide +kernel
theorem dX6_about_102 : decode cX6_about 102 = .ok (.aload_n 0, 1) := by decide +kernel
theorem dX6_about_103 : decode cX6_about 103 = .ok (.getfield 7, 3) := by decide +kernel
theorem dX6_about_106 : decode cX6_about 106 = .ok (.invokestatic 87, 3) := by decide +kernel
theorem dX6_about_109 : decode cX6_about 109 = .ok (.ireturn, 1) := by decide +kernel
theorem dX6_about_110 : decode cX6_about 110 = .ok (.aload_n 0, 1) := by decide +kernel
theorem dX6_about_111 : decode cX6_about 111 = .ok (.getfield 7, 3) := by decide +kernel
theorem dX6_about_114 : decode cX6_about 114 = .ok (.aload_n 0, 1) := by decide +kernel
theorem dX6_about_115 : decode cX6_about 115 = .ok (.getfield 7, 3) := by decide +kernel
theorem dX6_about_118 : decode cX6_about 118 = .ok (.sipush 400, 3) := by decide +kernel
theorem dX6_about_121 : decode cX6_about 121 = .ok (.iaload, 1) := by decide +kernel
theorem dX6_about_122 : decode cX6_about 122 = .ok (.aload_n 0, 1) := by decide +kernel
theorem dX6_about_123 : decode cX6_about 123 = .ok (.getfield 7, 3) := by decide +kernel
theorem dX6_about_126 : decode cX6_about 126 = .ok (.sipush 401, 3) := by decide +kernel
theorem dX6_about_129 : decode cX6_about 129 = .ok (.iaload, 1) := by decide +kernel
theorem dX6_about_130 : decode cX6_about 130 = .ok (.invokestatic 80, 3) := by decide +kernel
theorem dX6_about_133 : decode cX6_about 133 = .ok (.ireturn, 1) := by decide +kernel
theorem dX6_about_134 : decode cX6_about 134 = .ok (.aload_n 0, 1) := by decide +kernel
theorem dX6_about_135 : decode cX6_about 135 = .ok (.getfield 7, 3) := by decide +kernel
theorem dX6_about_138 : decode cX6_about 138 = .ok (.invokestatic 122, 3) := by decide +kernel
theorem dX6_about_141 : decode cX6_about 141 = .ok (.ireturn, 1) := by decide +kernel
theorem dX6_about_142 : decode cX6_about 142 = .ok (.aload_n 0, 1) := by decide +kernel
theorem dX6_about_143 : decode cX6_about 143 = .ok (.getfield 7, 3) := by decide +kernel
theorem dX6_about_146 : decode cX6_about 146 = .ok (.invokestatic 239, 3) := by decide +kernel
theorem dX6_about_149 : decode cX6_about 149 = .ok (.ireturn, 1) := by decide +kernel
theorem dX6_about_150 : decode cX6_about 150 = .ok (.aload_n 0, 1) := by decide +kernel
theorem dX6_about_151 : decode cX6_about 151 = .ok (.getfield 7, 3) := by decide +kernel
theorem dX6_about_154 : decode cX6_about 154 = .ok (.invokestatic 242, 3) := by decide +kernel
theorem dX6_about_157 : decode cX6_about 157 = .ok (.ireturn, 1) := by decide +kernel
theorem dX6_about_158 : decode cX6_about 158 = .ok (.aload_n 0, 1) := by decide +kernel
theorem dX6_about_159 : decode cX6_about 159 = .ok (.getfield 7, 3) := by decide +kernel
theorem dX6_about_162 : decode cX6_about 162 = .ok (.sipush 616, 3) := by decide +kernel
theorem dX6_about_165 : decode cX6_about 165 = .ok (.iaload, 1) := by decide +kernel
theorem dX6_about_166 : decode cX6_about 166 = .ok (.ireturn, 1) := by decide +kernel
theorem dX6_about_167 : decode cX6_about 167 = .ok (.aload_n 0, 1) := by decide +kernel
theorem dX6_about_168 : decode cX6_about 168 = .ok (.getfield 7, 3) := by decide +kernel
theorem dX6_about_171 : decode cX6_about 171 = .ok (.sipush 617, 3) := by decide +kernel
theorem dX6_about_174 : decode cX6_about 174 = .ok (.iaload, 1) := by decide +kernel
theorem dX6_about_175 : decode cX6_about 175 = .ok (.ireturn, 1) := by decide +kernel
theorem dX6_about_176 : decode cX6_about 176 = .ok (.aload_n 0, 1) := by decide +kernel
theorem dX6_about_177 : decode cX6_about 177 = .ok (.getfield 7, 3) := by decide +kernel
theorem dX6_about_180 : decode cX6_about 180 = .ok (.sipush 618, 3) := by decide +kernel
theorem dX6_about_183 : decode cX6_about 183 = .ok (.iaload, 1) := by decide +kernel
theorem dX6_about_184 : decode cX6_about 184 = .ok (.ireturn, 1) := by decide +kernel
theorem dX6_about_185 : decode cX6_about 185 = .ok (.aload_n 0, 1) := by decide +kernel
theorem dX6_about_186 : decode cX6_about 186 = .ok (.getfield 7, 3) := by decide +kernel
theorem dX6_about_189 : decode cX6_about 189 = .ok (.sipush 619, 3) := by decide +kernel
theorem dX6_about_192 : decode cX6_about 192 = .ok (.iaload, 1) := by decide +kernel
theorem dX6_about_193 : decode cX6_about 193 = .ok (.ireturn, 1) := by decide +kernel
theorem dX6_about_194 : decode cX6_about 194 = .ok (.aload_n 0, 1) := by decide +kernel
theorem dX6_about_195 : decode cX6_about 195 = .ok (.getfield 7, 3) := by decide +kernel
theorem dX6_about_198 : decode cX6_about 198 = .ok (.sipush 620, 3) := by decide +kernel
theorem dX6_about_201 : decode cX6_about 201 = .ok (.iaload, 1) := by decide +kernel
theorem dX6_about_202 : decode cX6_about 202 = .ok (.ireturn, 1) := by decide +kernel
theorem dX6_rowOf_0 : decode cX6_rowOf 0 = .ok (.aload_n 0, 1) := by decide +kernel
theorem dX6_rowOf_1 : decode cX6_rowOf 1 = .ok (.iload_n 1, 1) := by decide +kernel
theorem dX6_rowOf_2 : decode cX6_rowOf 2 = .ok (.i2l, 1) := by decide +kernel
theorem dX6_rowOf_3 : decode cX6_rowOf 3 = .ok (.aload_n 0, 1) := by decide +kernel
theorem dX6_rowOf_4 : decode cX6_rowOf 4 = .ok (.getfield 7, 3) := by decide +kernel
theorem dX6_rowOf_7 : decode cX6_rowOf 7 = .ok (.sipush 400, 3) := by decide +kernel
theorem dX6_rowOf_10 : decode cX6_rowOf 10 = .ok (.iaload, 1) := by decide +kernel
theorem dX6_rowOf_11 : decode cX6_rowOf 11 = .ok (.i2l, 1) := by decide +kernel
theorem dX6_rowOf_12 : decode cX6_rowOf 12 = .ok (.aload_n 0, 1) := by decide +kernel
theorem dX6_rowOf_13 : decode cX6_rowOf 13 = .ok (.getfield 7, 3) := by decide +kernel
theorem dX6_rowOf_16 : decode cX6_rowOf 16 = .ok (.sipush 401, 3) := by decide +kernel
theorem dX6_rowOf_19 : decode cX6_rowOf 19 = .ok (.iaload, 1) := by decide +kernel
theorem dX6_rowOf_20 : decode cX6_rowOf 20 = .ok (.iconst 1, 1) := by decide +kernel
theorem dX6_rowOf_21 : decode cX6_rowOf 21 = .ok (.isub, 1) := by decide +kernel
theorem dX6_rowOf_22 : decode cX6_rowOf 22 = .ok (.i2l, 1) := by decide +kernel
theorem dX6_rowOf_23 : decode cX6_rowOf 23 = .ok (.invokestatic 44, 3) := by decide +kernel
theorem dX6_rowOf_26 : decode cX6_rowOf 26 = .ok (.ifCond .ne 7, 3) := by decide +kernel
theorem dX6_rowOf_29 : decode cX6_rowOf 29 = .ok (.iconst 1, 1) := by decide +kernel
theorem dX6_rowOf_30 : decode cX6_rowOf 30 = .ok (.goto 20, 3) := by decide +kernel
theorem dX6_rowOf_33 : decode cX6_rowOf 33 = .ok (.iload_n 2, 1) := by decide +kernel
theorem dX6_rowOf_34 : decode cX6_rowOf 34 = .ok (.i2l, 1) := by decide +kernel
theorem dX6_rowOf_35 : decode cX6_rowOf 35 = .ok (.lconst 0, 1) := by decide +kernel
theorem dX6_rowOf_36 : decode cX6_rowOf 36 = .ok (.ldc2_w 245, 3) := by decide +kernel
theorem dX6_rowOf_39 : decode cX6_rowOf 39 = .ok (.invokestatic 44, 3) := by decide +kernel
theorem dX6_rowOf_42 : decode cX6_rowOf 42 = .ok (.ifCond .ne 7, 3) := by decide +kernel
theorem dX6_rowOf_45 : decode cX6_rowOf 45 = .ok (.iconst 2, 1) := by decide +kernel
theorem dX6_rowOf_46 : decode cX6_rowOf 46 = .ok (.goto 4, 3) := by decide +kernel
theorem dX6_rowOf_49 : decode cX6_rowOf 49 = .ok (.iconst 0, 1) := by decide +kernel
theorem dX6_rowOf_50 : decode cX6_rowOf 50 = .ok (.invokevirtual 136, 3) := by decide +kernel
theorem dX6_rowOf_53 : decode cX6_rowOf 53 = .ok (.ifCond .eq 5, 3) := by decide +kernel
theorem dX6_rowOf_56 : decode cX6_rowOf 56 = .ok (.iconst 0, 1) := by decide +kernel
theorem dX6_rowOf_57 : decode cX6_rowOf 57 = .ok (.ireturn, 1) := by decide +kernel
theorem dX6_rowOf_58 : decode cX6_rowOf 58 = .ok (.iload_n 2, 1) := by decide +kernel
theorem dX6_rowOf_59 : decode cX6_rowOf 59 = .ok (.tableswitch 80 0 4 #[33, 42, 51, 60, 71], 33) := by decide +kernel
theorem dX6_rowOf_92 : decode cX6_rowOf 92 = .ok (.aload_n 0, 1) := by decide +kernel
theorem dX6_rowOf_93 : decode cX6_rowOf 93 = .ok (.getfield 7, 3) := by decide +kernel
theorem dX6_rowOf_96 : decode cX6_rowOf 96 = .ok (.iload_n 1, 1) := by decide +kernel
theorem dX6_rowOf_97 : decode cX6_rowOf 97 = .ok (.invokestatic 97, 3) := by decide +kernel
theorem dX6_rowOf_100 : decode cX6_rowOf 100 = .ok (.ireturn, 1) := by decide +kernel
theorem dX6_rowOf_101 : decode cX6_rowOf 101 = .ok (.aload_n 0, 1) := by decide +kernel
theorem dX6_rowOf_102 : decode cX6_rowOf 102 = .ok (.getfield 7, 3) := by decide +kernel
theorem dX6_rowOf_105 : decode cX6_rowOf 105 = .ok (.iload_n 1, 1) := by decide +kernel
theorem dX6_rowOf_106 : decode cX6_rowOf 106 = .ok (.invokestatic 100, 3) := by decide +kernel
theorem dX6_rowOf_109 : decode cX6_rowOf 109 = .ok (.ireturn, 1) := by decide +kernel
theorem dX6_rowOf_110 : decode cX6_rowOf 110 = .ok (.aload_n 0, 1) := by decide +kernel
theorem dX6_rowOf_111 : decode cX6_rowOf 111 = .ok (.getfield 7, 3) := by decide +kernel
theorem dX6_rowOf_114 : decode cX6_rowOf 114 = .ok (.iload_n 1, 1) := by decide +kernel
theorem dX6_rowOf_115 : decode cX6_rowOf 115 = .ok (.invokestatic 69, 3) := by decide +kernel
theorem dX6_rowOf_118 : decode cX6_rowOf 118 = .ok (.ireturn, 1) := by decide +kernel
theorem dX6_rowOf_119 : decode cX6_rowOf 119 = .ok (.aload_n 0, 1) := by decide +kernel
theorem dX6_rowOf_120 : decode cX6_rowOf 120 = .ok (.getfield 7, 3) := by decide +kernel
theorem dX6_rowOf_123 : decode cX6_rowOf 123 = .ok (.sipush 200, 3) := by decide +kernel
theorem dX6_rowOf_126 : decode cX6_rowOf 126 = .ok (.iload_n 1, 1) := by decide +kernel
theorem dX6_rowOf_127 : decode cX6_rowOf 127 = .ok (.iadd, 1) := by decide +kernel
theorem dX6_rowOf_128 : decode cX6_rowOf 128 = .ok (.iaload, 1) := by decide +kernel
theorem dX6_rowOf_129 : decode cX6_rowOf 129 = .ok (.ireturn, 1) := by decide +kernel
theorem dX6_rowOf_130 : decode cX6_rowOf 130 = .ok (.aload_n 0, 1) := by decide +kernel
theorem dX6_rowOf_131 : decode cX6_rowOf 131 = .ok (.getfield 7, 3) := by decide +kernel
theorem dX6_rowOf_134 : decode cX6_rowOf 134 = .ok (.iload_n 1, 1) := by decide +kernel
theorem dX6_rowOf_135 : decode cX6_rowOf 135 = .ok (.invokestatic 116, 3) := by decide +kernel
theorem dX6_rowOf_138 : decode cX6_rowOf 138 = .ok (.ireturn, 1) := by decide +kernel
theorem dX6_rowOf_139 : decode cX6_rowOf 139 = .ok (.aload_n 0, 1) := by decide +kernel
theorem dX6_rowOf_140 : decode cX6_rowOf 140 = .ok (.getfield 7, 3) := by decide +kernel
theorem dX6_rowOf_143 : decode cX6_rowOf 143 = .ok (.iload_n 1, 1) := by decide +kernel
theorem dX6_rowOf_144 : decode cX6_rowOf 144 = .ok (.invokestatic 84, 3) := by decide +kernel
theorem dX6_rowOf_147 : decode cX6_rowOf 147 = .ok (.ireturn, 1) := by decide +kernel
theorem dX6_segmentOf_0 : decode cX6_segmentOf 0 = .ok (.aload_n 0, 1) := by decide +kernel
theorem dX6_segmentOf_1 : decode cX6_segmentOf 1 = .ok (.iload_n 1, 1) := by decide +kernel
theorem dX6_segmentOf_2 : decode cX6_segmentOf 2 = .ok (.i2l, 1) := by decide +kernel
theorem dX6_segmentOf_3 : decode cX6_segmentOf 3 = .ok (.lconst 0, 1) := by decide +kernel
theorem dX6_segmentOf_4 : decode cX6_segmentOf 4 = .ok (.aload_n 0, 1) := by decide +kernel
theorem dX6_segmentOf_5 : decode cX6_segmentOf 5 = .ok (.getfield 7, 3) := by decide +kernel
theorem dX6_segmentOf_8 : decode cX6_segmentOf 8 = .ok (.invokestatic 87, 3) := by decide +kernel
theorem dX6_segmentOf_11 : decode cX6_segmentOf 11 = .ok (.iconst 1, 1) := by decide +kernel
theorem dX6_segmentOf_12 : decode cX6_segmentOf 12 = .ok (.isub, 1) := by decide +kernel
theorem dX6_segmentOf_13 : decode cX6_segmentOf 13 = .ok (.i2l, 1) := by decide +kernel
theorem dX6_segmentOf_14 : decode cX6_segmentOf 14 = .ok (.invokestatic 44, 3) := by decide +kernel
theorem dX6_segmentOf_17 : decode cX6_segmentOf 17 = .ok (.ifCond .ne 7, 3) := by decide +kernel
theorem dX6_segmentOf_20 : decode cX6_segmentOf 20 = .ok (.iconst 1, 1) := by decide +kernel
theorem dX6_segmentOf_21 : decode cX6_segmentOf 21 = .ok (.goto 20, 3) := by decide +kernel
theorem dX6_segmentOf_24 : decode cX6_segmentOf 24 = .ok (.iload_n 2, 1) := by decide +kernel
theorem dX6_segmentOf_25 : decode cX6_segmentOf 25 = .ok (.i2l, 1) := by decide +kernel
theorem dX6_segmentOf_26 : decode cX6_segmentOf 26 = .ok (.lconst 0, 1) := by decide +kernel
theorem dX6_segmentOf_27 : decode cX6_segmentOf 27 = .ok (.ldc2_w 245, 3) := by decide +kernel
theorem dX6_segmentOf_30 : decode cX6_segmentOf 30 = .ok (.invokestatic 44, 3) := by decide +kernel
theorem dX6_segmentOf_33 : decode cX6_segmentOf 33 = .ok (.ifCond .ne 7, 3) := by decide +kernel
theorem dX6_segmentOf_36 : decode cX6_segmentOf 36 = .ok (.iconst 2, 1) := by decide +kernel
theorem dX6_segmentOf_37 : decode cX6_segmentOf 37 = .ok (.goto 4, 3) := by decide +kernel
theorem dX6_segmentOf_40 : decode cX6_segmentOf 40 = .ok (.iconst 0, 1) := by decide +kernel
theorem dX6_segmentOf_41 : decode cX6_segmentOf 41 = .ok (.invokevirtual 136, 3) := by decide +kernel
theorem dX6_segmentOf_44 : decode cX6_segmentOf 44 = .ok (.ifCond .eq 5, 3) := by decide +kernel
theorem dX6_segmentOf_47 : decode cX6_segmentOf 47 = .ok (.iconst 0, 1) := by decide +kernel
theorem dX6_segmentOf_48 : decode cX6_segmentOf 48 = .ok (.ireturn, 1) := by decide +kernel
theorem dX6_segmentOf_49 : decode cX6_segmentOf 49 = .ok (.aload_n 0, 1) := by decide +kernel
theorem dX6_segmentOf_50 : decode cX6_segmentOf 50 = .ok (.getfield 7, 3) := by decide +kernel
theorem dX6_segmentOf_53 : decode cX6_segmentOf 53 = .ok (.iload_n 1, 1) := by decide +kernel
theorem dX6_segmentOf_54 : decode cX6_segmentOf 54 = .ok (.invokestatic 247, 3) := by decide +kernel
theorem dX6_segmentOf_57 : decode cX6_segmentOf 57 = .ok (.istore_n 3, 1) := by decide +kernel
theorem dX6_segmentOf_58 : decode cX6_segmentOf 58 = .ok (.aload_n 0, 1) := by decide +kernel
theorem dX6_segmentOf_59 : decode cX6_segmentOf 59 = .ok (.getfield 7, 3) := by decide +kernel
theorem dX6_segmentOf_62 : decode cX6_segmentOf 62 = .ok (.iload_n 3, 1) := by decide +kernel
theorem dX6_segmentOf_63 : decode cX6_segmentOf 63 = .ok (.invokestatic 77, 3) := by decide +kernel
theorem dX6_segmentOf_66 : decode cX6_segmentOf 66 = .ok (.istore 4, 2) := by decide +kernel
theorem dX6_segmentOf_68 : decode cX6_segmentOf 68 = .ok (.iload_n 2, 1) := by decide +kernel
theorem dX6_segmentOf_69 : decode cX6_segmentOf 69 = .ok (.tableswitch 89 0 4 #[35, 37, 42, 53, 72], 35) := by decide +kernel
theorem dX6_segmentOf_104 : decode cX6_segmentOf 104 = .ok (.iload_n 3, 1) := by decide +kernel
theorem dX6_segmentOf_105 : decode cX6_segmentOf 105 = .ok (.ireturn, 1) := by decide +kernel
theorem dX6_segmentOf_106 : decode cX6_segmentOf 106 = .ok (.iload 4, 2) := by decide +kernel
theorem dX6_segmentOf_108 : decode cX6_segmentOf 108 = .ok (.iload_n 3, 1) := by decide +kernel
theorem dX6_segmentOf_109 : decode cX6_segmentOf 109 = .ok (.isub, 1) := by decide +kernel
theorem dX6_segmentOf_110 : decode cX6_segmentOf 110 = .ok (.ireturn, 1) := by decide +kernel
theorem dX6_segmentOf_111 : decode cX6_segmentOf 111 = .ok (.aload_n 0, 1) := by decide +kernel
theorem dX6_segmentOf_112 : decode cX6_segmentOf 112 = .ok (.getfield 7, 3) := by decide +kernel
theorem dX6_segmentOf_115 : decode cX6_segmentOf 115 = .ok (.iload_n 3, 1) := by decide +kernel
theorem dX6_segmentOf_116 : decode cX6_segmentOf 116 = .ok (.iload 4, 2) := by decide +kernel
theorem dX6_segmentOf_118 : decode cX6_segmentOf 118 = .ok (.invokestatic 80, 3) := by decide +kernel
theorem dX6_segmentOf_121 : decode cX6_segmentOf 121 = .ok (.ireturn, 1) := by decide +kernel
theorem dX6_segmentOf_122 : decode cX6_segmentOf 122 = .ok (.iload 4, 2) := by decide +kernel
theorem dX6_segmentOf_124 : decode cX6_segmentOf 124 = .ok (.aload_n 0, 1) := by decide +kernel
theorem dX6_segmentOf_125 : decode cX6_segmentOf 125 = .ok (.getfield 7, 3) := by decide +kernel
theorem dX6_segmentOf_128 : decode cX6_segmentOf 128 = .ok (.sipush 401, 3) := by decide +kernel
theorem dX6_segmentOf_131 : decode cX6_segmentOf 131 = .ok (.iaload, 1) := by decide +kernel
theorem dX6_segmentOf_132 : decode cX6_segmentOf 132 = .ok (.if_icmp .ge 7, 3) := by decide +kernel
theorem dX6_segmentOf_135 : decode cX6_segmentOf 135 = .ok (.iconst 1, 1) := by decide +kernel
theorem dX6_segmentOf_136 : decode cX6_segmentOf 136 = .ok (.goto 4, 3) := by decide +kernel
theorem dX6_segmentOf_139 : decode cX6_segmentOf 139 = .ok (.iconst 0, 1) := by decide +kernel
theorem dX6_segmentOf_140 : decode cX6_segmentOf 140 = .ok (.ireturn, 1) := by decide +kernel
theorem dX6_segmentOf_141 : decode cX6_segmentOf 141 = .ok (.aload_n 0, 1) := by decide +kernel
theorem dX6_segmentOf_142 : decode cX6_segmentOf 142 = .ok (.getfield 7, 3) := by decide +kernel
theorem dX6_segmentOf_145 : decode cX6_segmentOf 145 = .ok (.iload_n 3, 1) := by decide +kernel
theorem dX6_segmentOf_146 : decode cX6_segmentOf 146 = .ok (.invokestatic 91, 3) := by decide +kernel
theorem dX6_segmentOf_149 : decode cX6_segmentOf 149 = .ok (.ifCond .eq 7, 3) := by decide +kernel
theorem dX6_segmentOf_152 : decode cX6_segmentOf 152 = .ok (.iconst 1, 1) := by decide +kernel
theorem dX6_segmentOf_153 : decode cX6_segmentOf 153 = .ok (.goto 4, 3) := by decide +kernel
theorem dX6_segmentOf_156 : decode cX6_segmentOf 156 = .ok (.iconst 0, 1) := by decide +kernel
theorem dX6_segmentOf_157 : decode cX6_segmentOf 157 = .ok (.ireturn, 1) := by decide +kernel
theorem dX6_segmentOf_158 : decode cX6_segmentOf 158 = .ok (.aload_n 0, 1) := by decide +kernel
theorem dX6_segmentOf_159 : decode cX6_segmentOf 159 = .ok (.getfield 7, 3) := by decide +kernel
theorem dX6_segmentOf_162 : decode cX6_segmentOf 162 = .ok (.iload_n 3, 1) := by decide +kernel
theorem dX6_segmentOf_163 : decode cX6_segmentOf 163 = .ok (.invokestatic 94, 3) := by decide +kernel
theorem dX6_segmentOf_166 : decode cX6_segmentOf 166 = .ok (.ifCond .eq 7, 3) := by decide +kernel
theorem dX6_segmentOf_169 : decode cX6_segmentOf 169 = .ok (.iconst 1, 1) := by decide +kernel
theorem dX6_segmentOf_170 : decode cX6_segmentOf 170 = .ok (.goto 4, 3) := by decide +kernel
theorem dX6_segmentOf_173 : decode cX6_segmentOf 173 = .ok (.iconst 0, 1) := by decide +kernel
theorem dX6_segmentOf_174 : decode cX6_segmentOf 174 = .ok (.ireturn, 1) := by decide +kernel
theorem dX6_readerOf_0 : decode cX6_readerOf 0 = .ok (.aload_n 0, 1) := by decide +kernel
theorem dX6_readerOf_1 : decode cX6_readerOf 1 = .ok (.aload_n 0, 1) := by decide +kernel
theorem dX6_readerOf_2 : decode cX6_readerOf 2 = .ok (.getfield 7, 3) := by decide +kernel
theorem dX6_readerOf_5 : decode cX6_readerOf 5 = .ok (.iload_n 1, 1) := by decide +kernel
theorem dX6_readerOf_6 : decode cX6_readerOf 6 = .ok (.invokestatic 184, 3) := by decide +kernel
theorem dX6_readerOf_9 : decode cX6_readerOf 9 = .ok (.ifCond .ne 7, 3) := by decide +kernel
theorem dX6_readerOf_12 : decode cX6_readerOf 12 = .ok (.iconst 1, 1) := by decide +kernel
theorem dX6_readerOf_13 : decode cX6_readerOf 13 = .ok (.goto 20, 3) := by decide +kernel
theorem dX6_readerOf_16 : decode cX6_readerOf 16 = .ok (.iload_n 2, 1) := by decide +kernel
theorem dX6_readerOf_17 : decode cX6_readerOf 17 = .ok (.i2l, 1) := by decide +kernel
theorem dX6_readerOf_18 : decode cX6_readerOf 18 = .ok (.lconst 0, 1) := by decide +kernel
theorem dX6_readerOf_19 : decode cX6_readerOf 19 = .ok (.ldc2_w 56, 3) := by decide +kernel
theorem dX6_readerOf_22 : decode cX6_readerOf 22 = .ok (.invokestatic 44, 3) := by decide +kernel
theorem dX6_readerOf_25 : decode cX6_readerOf 25 = .ok (.ifCond .ne 7, 3) := by decide +kernel
theorem dX6_readerOf_28 : decode cX6_readerOf 28 = .ok (.iconst 2, 1) := by decide +kernel
theorem dX6_readerOf_29 : decode cX6_readerOf 29 = .ok (.goto 4, 3) := by decide +kernel
theorem dX6_readerOf_32 : decode cX6_readerOf 32 = .ok (.iconst 0, 1) := by decide +kernel
theorem dX6_readerOf_33 : decode cX6_readerOf 33 = .ok (.invokevirtual 136, 3) := by decide +kernel
theorem dX6_readerOf_36 : decode cX6_readerOf 36 = .ok (.ifCond .eq 5, 3) := by decide +kernel
theorem dX6_readerOf_39 : decode cX6_readerOf 39 = .ok (.iconst 0, 1) := by decide +kernel
theorem dX6_readerOf_40 : decode cX6_readerOf 40 = .ok (.ireturn, 1) := by decide +kernel
theorem dX6_readerOf_41 : decode cX6_readerOf 41 = .ok (.iload_n 1, 1) := by decide +kernel
theorem dX6_readerOf_42 : decode cX6_readerOf 42 = .ok (.invokestatic 65, 3) := by decide +kernel
theorem dX6_readerOf_45 : decode cX6_readerOf 45 = .ok (.istore_n 3, 1) := by decide +kernel
theorem dX6_readerOf_46 : decode cX6_readerOf 46 = .ok (.aload_n 0, 1) := by decide +kernel
theorem dX6_readerOf_47 : decode cX6_readerOf 47 = .ok (.getfield 7, 3) := by decide +kernel
theorem dX6_readerOf_50 : decode cX6_readerOf 50 = .ok (.iload_n 1, 1) := by decide +kernel
theorem dX6_readerOf_51 : decode cX6_readerOf 51 = .ok (.invokestatic 125, 3) := by decide +kernel
theorem dX6_readerOf_54 : decode cX6_readerOf 54 = .ok (.ifCond .eq 14, 3) := by decide +kernel
theorem dX6_readerOf_57 : decode cX6_readerOf 57 = .ok (.aload_n 0, 1) := by decide +kernel
theorem dX6_readerOf_58 : decode cX6_readerOf 58 = .ok (.getfield 7, 3) := by decide +kernel
theorem dX6_readerOf_61 : decode cX6_readerOf 61 = .ok (.sipush 400, 3) := by decide +kernel
theorem dX6_readerOf_64 : decode cX6_readerOf 64 = .ok (.iaload, 1) := by decide +kernel
theorem dX6_readerOf_65 : decode cX6_readerOf 65 = .ok (.goto 11, 3) := by decide +kernel
theorem dX6_readerOf_68 : decode cX6_readerOf 68 = .ok (.aload_n 0, 1) := by decide +kernel
theorem dX6_readerOf_69 : decode cX6_readerOf 69 = .ok (.getfield 7, 3) := by decide +kernel
theorem dX6_readerOf_72 : decode cX6_readerOf 72 = .ok (.iload_n 3, 1) := by decide +kernel
theorem dX6_readerOf_73 : decode cX6_readerOf 73 = .ok (.iconst 1, 1) := by decide +kernel
theorem dX6_readerOf_74 : decode cX6_readerOf 74 = .ok (.iadd, 1) := by decide +kernel
theorem dX6_readerOf_75 : decode cX6_readerOf 75 = .ok (.iaload, 1) := by decide +kernel
theorem dX6_readerOf_76 : decode cX6_readerOf 76 = .ok (.istore 4, 2) := by decide +kernel
theorem dX6_readerOf_78 : decode cX6_readerOf 78 = .ok (.iload_n 2, 1) := by decide +kernel
theorem dX6_readerOf_79 : decode cX6_readerOf 79 = .ok (.tableswitch 132 0 7 #[45, 54, 63, 72, 81, 90, 102, 120], 45) := by decide +kernel
theorem dX6_readerOf_124 : decode cX6_readerOf 124 = .ok (.aload_n 0, 1) := by decide +kernel
theorem dX6_readerOf_125 : decode cX6_readerOf 125 = .ok (.getfield 7, 3) := by decide +kernel
theorem dX6_readerOf_128 : decode cX6_readerOf 128 = .ok (.iload_n 3, 1) := by decide +kernel
theorem dX6_readerOf_129 : decode cX6_readerOf 129 = .ok (.iconst 1, 1) := by decide +kernel
theorem dX6_readerOf_130 : decode cX6_readerOf 130 = .ok (.iadd, 1) := by decide +kernel
theorem dX6_readerOf_131 : decode cX6_readerOf 131 = .ok (.iaload, 1) := by decide +kernel
theorem dX6_readerOf_132 : decode cX6_readerOf 132 = .ok (.ireturn, 1) := by decide +kernel
theorem dX6_readerOf_133 : decode cX6_readerOf 133 = .ok (.aload_n 0, 1) := by decide +kernel
theorem dX6_readerOf_134 : decode cX6_readerOf 134 = .ok (.getfield 7, 3) := by decide +kernel
theorem dX6_readerOf_137 : decode cX6_readerOf 137 = .ok (.iload_n 3, 1) := by decide +kernel
theorem dX6_readerOf_138 : decode cX6_readerOf 138 = .ok (.iconst 2, 1) := by decide +kernel
theorem dX6_readerOf_139 : decode cX6_readerOf 139 = .ok (.iadd, 1) := by decide +kernel
theorem dX6_readerOf_140 : decode cX6_readerOf 140 = .ok (.iaload, 1) := by decide +kernel
theorem dX6_readerOf_141 : decode cX6_readerOf 141 = .ok (.ireturn, 1) := by decide +kernel
theorem dX6_readerOf_142 : decode cX6_readerOf 142 = .ok (.aload_n 0, 1) := by decide +kernel
theorem dX6_readerOf_143 : decode cX6_readerOf 143 = .ok (.getfield 7, 3) := by decide +kernel
theorem dX6_readerOf_146 : decode cX6_readerOf 146 = .ok (.iload_n 3, 1) := by decide +kernel
theorem dX6_readerOf_147 : decode cX6_readerOf 147 = .ok (.iconst 3, 1) := by decide +kernel
theorem dX6_readerOf_148 : decode cX6_readerOf 148 = .ok (.iadd, 1) := by decide +kernel
theorem dX6_readerOf_149 : decode cX6_readerOf 149 = .ok (.iaload, 1) := by decide +kernel
theorem dX6_readerOf_150 : decode cX6_readerOf 150 = .ok (.ireturn, 1) := by decide +kernel
theorem dX6_readerOf_151 : decode cX6_readerOf 151 = .ok (.aload_n 0, 1) := by decide +kernel
theorem dX6_readerOf_152 : decode cX6_readerOf 152 = .ok (.getfield 7, 3) := by decide +kernel
theorem dX6_readerOf_155 : decode cX6_readerOf 155 = .ok (.iload_n 3, 1) := by decide +kernel
theorem dX6_readerOf_156 : decode cX6_readerOf 156 = .ok (.iconst 4, 1) := by decide +kernel
theorem dX6_readerOf_157 : decode cX6_readerOf 157 = .ok (.iadd, 1) := by decide +kernel
theorem dX6_readerOf_158 : decode cX6_readerOf 158 = .ok (.iaload, 1) := by decide +kernel
theorem dX6_readerOf_159 : decode cX6_readerOf 159 = .ok (.ireturn, 1) := by decide +kernel
theorem dX6_readerOf_160 : decode cX6_readerOf 160 = .ok (.aload_n 0, 1) := by decide +kernel
theorem dX6_readerOf_161 : decode cX6_readerOf 161 = .ok (.getfield 7, 3) := by decide +kernel
theorem dX6_readerOf_164 : decode cX6_readerOf 164 = .ok (.iload_n 3, 1) := by decide +kernel
theorem dX6_readerOf_165 : decode cX6_readerOf 165 = .ok (.iconst 5, 1) := by decide +kernel
theorem dX6_readerOf_166 : decode cX6_readerOf 166 = .ok (.iadd, 1) := by decide +kernel
theorem dX6_readerOf_167 : decode cX6_readerOf 167 = .ok (.iaload, 1) := by decide +kernel
theorem dX6_readerOf_168 : decode cX6_readerOf 168 = .ok (.ireturn, 1) := by decide +kernel
theorem dX6_readerOf_169 : decode cX6_readerOf 169 = .ok (.aload_n 0, 1) := by decide +kernel
theorem dX6_readerOf_170 : decode cX6_readerOf 170 = .ok (.getfield 7, 3) := by decide +kernel
theorem dX6_readerOf_173 : decode cX6_readerOf 173 = .ok (.sipush 401, 3) := by decide +kernel
theorem dX6_readerOf_176 : decode cX6_readerOf 176 = .ok (.iaload, 1) := by decide +kernel
theorem dX6_readerOf_177 : decode cX6_readerOf 177 = .ok (.iload 4, 2) := by decide +kernel
theorem dX6_readerOf_179 : decode cX6_readerOf 179 = .ok (.isub, 1) := by decide +kernel
theorem dX6_readerOf_180 : decode cX6_readerOf 180 = .ok (.ireturn, 1) := by decide +kernel
theorem dX6_readerOf_181 : decode cX6_readerOf 181 = .ok (.aload_n 0, 1) := by decide +kernel
theorem dX6_readerOf_182 : decode cX6_readerOf 182 = .ok (.getfield 7, 3) := by decide +kernel
theorem dX6_readerOf_185 : decode cX6_readerOf 185 = .ok (.iload 4, 2) := by decide +kernel
theorem dX6_readerOf_187 : decode cX6_readerOf 187 = .ok (.aload_n 0, 1) := by decide +kernel
theorem dX6_readerOf_188 : decode cX6_readerOf 188 = .ok (.getfield 7, 3) := by decide +kernel
theorem dX6_readerOf_191 : decode cX6_readerOf 191 = .ok (.sipush 401, 3) := by decide +kernel
theorem dX6_readerOf_194 : decode cX6_readerOf 194 = .ok (.iaload, 1) := by decide +kernel
theorem dX6_readerOf_195 : decode cX6_readerOf 195 = .ok (.invokestatic 80, 3) := by decide +kernel
theorem dX6_readerOf_198 : decode cX6_readerOf 198 = .ok (.ireturn, 1) := by decide +kernel
theorem dX6_readerOf_199 : decode cX6_readerOf 199 = .ok (.iload 4, 2) := by decide +kernel
theorem dX6_readerOf_201 : decode cX6_readerOf 201 = .ok (.aload_n 0, 1) := by decide +kernel
theorem dX6_readerOf_202 : decode cX6_readerOf 202 = .ok (.getfield 7, 3) := by decide +kernel
theorem dX6_readerOf_205 : decode cX6_readerOf 205 = .ok (.iload_n 3, 1) := by decide +kernel
theorem dX6_readerOf_206 : decode cX6_readerOf 206 = .ok (.iconst 1, 1) := by decide +kernel
theorem dX6_readerOf_207 : decode cX6_readerOf 207 = .ok (.iadd, 1) := by decide +kernel
theorem dX6_readerOf_208 : decode cX6_readerOf 208 = .ok (.iaload, 1) := by decide +kernel
theorem dX6_readerOf_209 : decode cX6_readerOf 209 = .ok (.isub, 1) := by decide +kernel
theorem dX6_readerOf_210 : decode cX6_readerOf 210 = .ok (.ireturn, 1) := by decide +kernel
theorem dX6_readerOf_211 : decode cX6_readerOf 211 = .ok (.aload_n 0, 1) := by decide +kernel
theorem dX6_readerOf_212 : decode cX6_readerOf 212 = .ok (.getfield 7, 3) := by decide +kernel
theorem dX6_readerOf_215 : decode cX6_readerOf 215 = .ok (.iload_n 3, 1) := by decide +kernel
theorem dX6_readerOf_216 : decode cX6_readerOf 216 = .ok (.bipush 6, 2) := by decide +kernel
theorem dX6_readerOf_218 : decode cX6_readerOf 218 = .ok (.iadd, 1) := by decide +kernel
theorem dX6_readerOf_219 : decode cX6_readerOf 219 = .ok (.iaload, 1) := by decide +kernel
theorem dX6_readerOf_220 : decode cX6_readerOf 220 = .ok (.ireturn, 1) := by decide +kernel
theorem dX6_table_0 : decode cX6_table 0 = .ok (.aload_n 0, 1) := by decide +kernel
theorem dX6_table_1 : decode cX6_table 1 = .ok (.aload_n 0, 1) := by decide +kernel
theorem dX6_table_2 : decode cX6_table 2 = .ok (.getfield 7, 3) := by decide +kernel
theorem dX6_table_5 : decode cX6_table 5 = .ok (.iload_n 1, 1) := by decide +kernel
theorem dX6_table_6 : decode cX6_table 6 = .ok (.invokestatic 184, 3) := by decide +kernel
theorem dX6_table_9 : decode cX6_table 9 = .ok (.ifCond .ne 7, 3) := by decide +kernel
theorem dX6_table_12 : decode cX6_table 12 = .ok (.iconst 1, 1) := by decide +kernel
theorem dX6_table_13 : decode cX6_table 13 = .ok (.goto 15, 3) := by decide +kernel
theorem dX6_table_16 : decode cX6_table 16 = .ok (.iload_n 2, 1) := by decide +kernel
theorem dX6_table_17 : decode cX6_table 17 = .ok (.invokestatic 48, 3) := by decide +kernel
theorem dX6_table_20 : decode cX6_table 20 = .ok (.ifCond .ne 7, 3) := by decide +kernel
theorem dX6_table_23 : decode cX6_table 23 = .ok (.iconst 2, 1) := by decide +kernel
theorem dX6_table_24 : decode cX6_table 24 = .ok (.goto 4, 3) := by decide +kernel
theorem dX6_table_27 : decode cX6_table 27 = .ok (.iconst 0, 1) := by decide +kernel
theorem dX6_table_28 : decode cX6_table 28 = .ok (.invokevirtual 136, 3) := by decide +kernel
theorem dX6_table_31 : decode cX6_table 31 = .ok (.ifCond .eq 5, 3) := by decide +kernel
theorem dX6_table_34 : decode cX6_table 34 = .ok (.iconst 0, 1) := by decide +kernel
theorem dX6_table_35 : decode cX6_table 35 = .ok (.ireturn, 1) := by decide +kernel
theorem dX6_table_36 : decode cX6_table 36 = .ok (.aload_n 0, 1) := by decide +kernel
theorem dX6_table_37 : decode cX6_table 37 = .ok (.getfield 7, 3) := by decide +kernel
theorem dX6_table_40 : decode cX6_table 40 = .ok (.iload_n 1, 1) := by decide +kernel
theorem dX6_table_41 : decode cX6_table 41 = .ok (.invokestatic 65, 3) := by decide +kernel
theorem dX6_table_44 : decode cX6_table 44 = .ok (.bipush 7, 2) := by decide +kernel
theorem dX6_table_46 : decode cX6_table 46 = .ok (.iadd, 1) := by decide +kernel
theorem dX6_table_47 : decode cX6_table 47 = .ok (.iload_n 2, 1) := by decide +kernel
theorem dX6_table_48 : decode cX6_table 48 = .ok (.iadd, 1) := by decide +kernel
theorem dX6_table_49 : decode cX6_table 49 = .ok (.iaload, 1) := by decide +kernel
theorem dX6_table_50 : decode cX6_table 50 = .ok (.ireturn, 1) := by decide +kernel
theorem dX6_base_0 : decode cX6_base 0 = .ok (.aload_n 0, 1) := by decide +kernel
theorem dX6_base_1 : decode cX6_base 1 = .ok (.iload_n 1, 1) := by decide +kernel
theorem dX6_base_2 : decode cX6_base 2 = .ok (.invokestatic 48, 3) := by decide +kernel
theorem dX6_base_5 : decode cX6_base 5 = .ok (.ifCond .eq 7, 3) := by decide +kernel
theorem dX6_base_8 : decode cX6_base 8 = .ok (.iconst 0, 1) := by decide +kernel
theorem dX6_base_9 : decode cX6_base 9 = .ok (.goto 4, 3) := by decide +kernel
theorem dX6_base_12 : decode cX6_base 12 = .ok (.iconst 1, 1) := by decide +kernel
theorem dX6_base_13 : decode cX6_base 13 = .ok (.invokevirtual 136, 3) := by decide +kernel
theorem dX6_base_16 : decode cX6_base 16 = .ok (.ifCond .eq 5, 3) := by decide +kernel
theorem dX6_base_19 : decode cX6_base 19 = .ok (.iconst 0, 1) := by decide +kernel
theorem dX6_base_20 : decode cX6_base 20 = .ok (.ireturn, 1) := by decide +kernel
theorem dX6_base_21 : decode cX6_base 21 = .ok (.aload_n 0, 1) := by decide +kernel
theorem dX6_base_22 : decode cX6_base 22 = .ok (.getfield 7, 3) := by decide +kernel
theorem dX6_base_25 : decode cX6_base 25 = .ok (.sipush 402, 3) := by decide +kernel
theorem dX6_base_28 : decode cX6_base 28 = .ok (.iload_n 1, 1) := by decide +kernel
theorem dX6_base_29 : decode cX6_base 29 = .ok (.iadd, 1) := by decide +kernel
theorem dX6_base_30 : decode cX6_base 30 = .ok (.iaload, 1) := by decide +kernel
theorem dX6_base_31 : decode cX6_base 31 = .ok (.ireturn, 1) := by decide +kernel
theorem dX6_setting_0 : decode cX6_setting 0 = .ok (.aload_n 0, 1) := by decide +kernel
theorem dX6_setting_1 : decode cX6_setting 1 = .ok (.iload_n 1, 1) := by decide +kernel
theorem dX6_setting_2 : decode cX6_setting 2 = .ok (.i2l, 1) := by decide +kernel
theorem dX6_setting_3 : decode cX6_setting 3 = .ok (.lconst 0, 1) := by decide +kernel
theorem dX6_setting_4 : decode cX6_setting 4 = .ok (.ldc2_w 245, 3) := by decide +kernel
theorem dX6_setting_7 : decode cX6_setting 7 = .ok (.invokestatic 44, 3) := by decide +kernel
theorem dX6_setting_10 : decode cX6_setting 10 = .ok (.ifCond .eq 7, 3) := by decide +kernel
theorem dX6_setting_13 : decode cX6_setting 13 = .ok (.iconst 0, 1) := by decide +kernel
theorem dX6_setting_14 : decode cX6_setting 14 = .ok (.goto 4, 3) := by decide +kernel
theorem dX6_setting_17 : decode cX6_setting 17 = .ok (.iconst 1, 1) := by decide +kernel
theorem dX6_setting_18 : decode cX6_setting 18 = .ok (.invokevirtual 136, 3) := by decide +kernel
theorem dX6_setting_21 : decode cX6_setting 21 = .ok (.ifCond .eq 5, 3) := by decide +kernel
theorem dX6_setting_24 : decode cX6_setting 24 = .ok (.iconst 0, 1) := by decide +kernel
theorem dX6_setting_25 : decode cX6_setting 25 = .ok (.ireturn, 1) := by decide +kernel
theorem dX6_setting_26 : decode cX6_setting 26 = .ok (.aload_n 0, 1) := by decide +kernel
theorem dX6_setting_27 : decode cX6_setting 27 = .ok (.getfield 7, 3) := by decide +kernel
theorem dX6_setting_30 : decode cX6_setting 30 = .ok (.sipush 610, 3) := by decide +kernel
theorem dX6_setting_33 : decode cX6_setting 33 = .ok (.iload_n 1, 1) := by decide +kernel
theorem dX6_setting_34 : decode cX6_setting 34 = .ok (.iadd, 1) := by decide +kernel
theorem dX6_setting_35 : decode cX6_setting 35 = .ok (.iaload, 1) := by decide +kernel
theorem dX6_setting_36 : decode cX6_setting 36 = .ok (.ireturn, 1) := by decide +kernel
theorem dX6_write_0 : decode cX6_write 0 = .ok (.aload_n 0, 1) := by decide +kernel
theorem dX6_write_1 : decode cX6_write 1 = .ok (.iload_n 1, 1) := by decide +kernel
theorem dX6_write_2 : decode cX6_write 2 = .ok (.iload_n 2, 1) := by decide +kernel
theorem dX6_write_3 : decode cX6_write 3 = .ok (.iload_n 3, 1) := by decide +kernel
theorem dX6_write_4 : decode cX6_write 4 = .ok (.invokestatic 250, 3) := by decide +kernel
theorem dX6_write_7 : decode cX6_write 7 = .ok (.ifCond .ne 7, 3) := by decide +kernel
theorem dX6_write_10 : decode cX6_write 10 = .ok (.iconst 1, 1) := by decide +kernel
theorem dX6_write_11 : decode cX6_write 11 = .ok (.goto 22, 3) := by decide +kernel
theorem dX6_write_14 : decode cX6_write 14 = .ok (.aload_n 0, 1) := by decide +kernel
theorem dX6_write_15 : decode cX6_write 15 = .ok (.getfield 7, 3) := by decide +kernel
theorem dX6_write_18 : decode cX6_write 18 = .ok (.sipush 401, 3) := by decide +kernel
theorem dX6_write_21 : decode cX6_write 21 = .ok (.iaload, 1) := by decide +kernel
theorem dX6_write_22 : decode cX6_write 22 = .ok (.sipush 200, 3) := by decide +kernel
theorem dX6_write_25 : decode cX6_write 25 = .ok (.if_icmp .ne 7, 3) := by decide +kernel
theorem dX6_write_28 : decode cX6_write 28 = .ok (.iconst 2, 1) := by decide +kernel
theorem dX6_write_29 : decode cX6_write 29 = .ok (.goto 4, 3) := by decide +kernel
theorem dX6_write_32 : decode cX6_write 32 = .ok (.iconst 0, 1) := by decide +kernel
theorem dX6_write_33 : decode cX6_write 33 = .ok (.invokevirtual 136, 3) := by decide +kernel
theorem dX6_write_36 : decode cX6_write 36 = .ok (.ifCond .eq 5, 3) := by decide +kernel
theorem dX6_write_39 : decode cX6_write 39 = .ok (.iconst 0, 1) := by decide +kernel
theorem dX6_write_40 : decode cX6_write 40 = .ok (.ireturn, 1) := by decide +kernel
theorem dX6_write_41 : decode cX6_write 41 = .ok (.aload_n 0, 1) := by decide +kernel
theorem dX6_write_42 : decode cX6_write 42 = .ok (.invokevirtual 254, 3) := by decide +kernel
theorem dX6_write_45 : decode cX6_write 45 = .ok (.aload_n 0, 1) := by decide +kernel
theorem dX6_write_46 : decode cX6_write 46 = .ok (.getfield 7, 3) := by decide +kernel
theorem dX6_write_49 : decode cX6_write 49 = .ok (.iload_n 1, 1) := by decide +kernel
theorem dX6_write_50 : decode cX6_write 50 = .ok (.iload_n 2, 1) := by decide +kernel
theorem dX6_write_51 : decode cX6_write 51 = .ok (.iload_n 3, 1) := by decide +kernel
theorem dX6_write_52 : decode cX6_write 52 = .ok (.invokestatic 168, 3) := by decide +kernel
theorem dX6_write_55 : decode cX6_write 55 = .ok (.ireturn, 1) := by decide +kernel
theorem dX6_join_0 : decode cX6_join 0 = .ok (.aload_n 0, 1) := by decide +kernel
theorem dX6_join_1 : decode cX6_join 1 = .ok (.iload_n 1, 1) := by decide +kernel
theorem dX6_join_2 : decode cX6_join 2 = .ok (.invokestatic 62, 3) := by decide +kernel
theorem dX6_join_5 : decode cX6_join 5 = .ok (.ifCond .eq 15, 3) := by decide +kernel
theorem dX6_join_8 : decode cX6_join 8 = .ok (.iload_n 2, 1) := by decide +kernel
theorem dX6_join_9 : decode cX6_join 9 = .ok (.i2l, 1) := by decide +kernel
theorem dX6_join_10 : decode cX6_join 10 = .ok (.lconst 0, 1) := by decide +kernel
theorem dX6_join_11 : decode cX6_join 11 = .ok (.ldc2_w 257, 3) := by decide +kernel
theorem dX6_join_14 : decode cX6_join 14 = .ok (.invokestatic 44, 3) := by decide +kernel
theorem dX6_join_17 : decode cX6_join 17 = .ok (.ifCond .ne 7, 3) := by decide +kernel
theorem dX6_join_20 : decode cX6_join 20 = .ok (.iconst 1, 1) := by decide +kernel
theorem dX6_join_21 : decode cX6_join 21 = .ok (.goto 21, 3) := by decide +kernel
theorem dX6_join_24 : decode cX6_join 24 = .ok (.aload_n 0, 1) := by decide +kernel
theorem dX6_join_25 : decode cX6_join 25 = .ok (.getfield 7, 3) := by decide +kernel
theorem dX6_join_28 : decode cX6_join 28 = .ok (.iload_n 1, 1) := by decide +kernel
theorem dX6_join_29 : decode cX6_join 29 = .ok (.iload_n 2, 1) := by decide +kernel
theorem dX6_join_30 : decode cX6_join 30 = .ok (.iload_n 3, 1) := by decide +kernel
theorem dX6_join_31 : decode cX6_join 31 = .ok (.invokestatic 176, 3) := by decide +kernel
theorem dX6_join_34 : decode cX6_join 34 = .ok (.ifCond .ne 7, 3) := by decide +kernel
theorem dX6_join_37 : decode cX6_join 37 = .ok (.iconst 2, 1) := by decide +kernel
theorem dX6_join_38 : decode cX6_join 38 = .ok (.goto 4, 3) := by decide +kernel
theorem dX6_join_41 : decode cX6_join 41 = .ok (.iconst 0, 1) := by decide +kernel
theorem dX6_join_42 : decode cX6_join 42 = .ok (.invokevirtual 136, 3) := by decide +kernel
theorem dX6_join_45 : decode cX6_join 45 = .ok (.ifCond .eq 5, 3) := by decide +kernel
theorem dX6_join_48 : decode cX6_join 48 = .ok (.iconst 0, 1) := by decide +kernel
theorem dX6_join_49 : decode cX6_join 49 = .ok (.ireturn, 1) := by decide +kernel
theorem dX6_join_50 : decode cX6_join 50 = .ok (.aload_n 0, 1) := by decide +kernel
theorem dX6_join_51 : decode cX6_join 51 = .ok (.invokevirtual 254, 3) := by decide +kernel
theorem dX6_join_54 : decode cX6_join 54 = .ok (.aload_n 0, 1) := by decide +kernel
theorem dX6_join_55 : decode cX6_join 55 = .ok (.getfield 7, 3) := by decide +kernel
theorem dX6_join_58 : decode cX6_join 58 = .ok (.iload_n 1, 1) := by decide +kernel
theorem dX6_join_59 : decode cX6_join 59 = .ok (.iload_n 2, 1) := by decide +kernel
theorem dX6_join_60 : decode cX6_join 60 = .ok (.iload_n 3, 1) := by decide +kernel
theorem dX6_join_61 : decode cX6_join 61 = .ok (.invokestatic 180, 3) := by decide +kernel
theorem dX6_join_64 : decode cX6_join 64 = .ok (.ireturn, 1) := by decide +kernel
theorem dX6_read_0 : decode cX6_read 0 = .ok (.aload_n 0, 1) := by decide +kernel
theorem dX6_read_1 : decode cX6_read 1 = .ok (.aload_n 0, 1) := by decide +kernel
theorem dX6_read_2 : decode cX6_read 2 = .ok (.getfield 7, 3) := by decide +kernel
theorem dX6_read_5 : decode cX6_read 5 = .ok (.iload_n 1, 1) := by decide +kernel
theorem dX6_read_6 : decode cX6_read 6 = .ok (.invokestatic 184, 3) := by decide +kernel
theorem dX6_read_9 : decode cX6_read 9 = .ok (.ifCond .ne 7, 3) := by decide +kernel
theorem dX6_read_12 : decode cX6_read 12 = .ok (.iconst 1, 1) := by decide +kernel
theorem dX6_read_13 : decode cX6_read 13 = .ok (.goto 20, 3) := by decide +kernel
theorem dX6_read_16 : decode cX6_read 16 = .ok (.iload_n 2, 1) := by decide +kernel
theorem dX6_read_17 : decode cX6_read 17 = .ok (.i2l, 1) := by decide +kernel
theorem dX6_read_18 : decode cX6_read 18 = .ok (.lconst 1, 1) := by decide +kernel
theorem dX6_read_19 : decode cX6_read 19 = .ok (.ldc2_w 259, 3) := by decide +kernel
theorem dX6_read_22 : decode cX6_read 22 = .ok (.invokestatic 44, 3) := by decide +kernel
theorem dX6_read_25 : decode cX6_read 25 = .ok (.ifCond .ne 7, 3) := by decide +kernel
theorem dX6_read_28 : decode cX6_read 28 = .ok (.iconst 2, 1) := by decide +kernel
theorem dX6_read_29 : decode cX6_read 29 = .ok (.goto 4, 3) := by decide +kernel
theorem dX6_read_32 : decode cX6_read 32 = .ok (.iconst 0, 1) := by decide +kernel
theorem dX6_read_33 : decode cX6_read 33 = .ok (.invokevirtual 136, 3) := by decide +kernel
theorem dX6_read_36 : decode cX6_read 36 = .ok (.ifCond .eq 5, 3) := by decide +kernel
theorem dX6_read_39 : decode cX6_read 39 = .ok (.iconst 0, 1) := by decide +kernel
theorem dX6_read_40 : decode cX6_read 40 = .ok (.ireturn, 1) := by decide +kernel
theorem dX6_read_41 : decode cX6_read 41 = .ok (.aload_n 0, 1) := by decide +kernel
theorem dX6_read_42 : decode cX6_read 42 = .ok (.invokevirtual 254, 3) := by decide +kernel
theorem dX6_read_45 : decode cX6_read 45 = .ok (.aload_n 0, 1) := by decide +kernel
theorem dX6_read_46 : decode cX6_read 46 = .ok (.getfield 7, 3) := by decide +kernel
theorem dX6_read_49 : decode cX6_read 49 = .ok (.iload_n 1, 1) := by decide +kernel
theorem dX6_read_50 : decode cX6_read 50 = .ok (.iload_n 2, 1) := by decide +kernel
theorem dX6_read_51 : decode cX6_read 51 = .ok (.invokestatic 202, 3) := by decide +kernel
theorem dX6_read_54 : decode cX6_read 54 = .ok (.ireturn, 1) := by decide +kernel
theorem dX6_leave_0 : decode cX6_leave 0 = .ok (.aload_n 0, 1) := by decide +kernel
theorem dX6_leave_1 : decode cX6_leave 1 = .ok (.aload_n 0, 1) := by decide +kernel
theorem dX6_leave_2 : decode cX6_leave 2 = .ok (.getfield 7, 3) := by decide +kernel
theorem dX6_leave_5 : decode cX6_leave 5 = .ok (.iload_n 1, 1) := by decide +kernel
theorem dX6_leave_6 : decode cX6_leave 6 = .ok (.invokestatic 184, 3) := by decide +kernel
theorem dX6_leave_9 : decode cX6_leave 9 = .ok (.ifCond .eq 7, 3) := by decide +kernel
theorem dX6_leave_12 : decode cX6_leave 12 = .ok (.iconst 0, 1) := by decide +kernel
theorem dX6_leave_13 : decode cX6_leave 13 = .ok (.goto 4, 3) := by decide +kernel
theorem dX6_leave_16 : decode cX6_leave 16 = .ok (.iconst 1, 1) := by decide +kernel
theorem dX6_leave_17 : decode cX6_leave 17 = .ok (.invokevirtual 136, 3) := by decide +kernel
theorem dX6_leave_20 : decode cX6_leave 20 = .ok (.ifCond .eq 5, 3) := by decide +kernel
theorem dX6_leave_23 : decode cX6_leave 23 = .ok (.iconst 0, 1) := by decide +kernel
theorem dX6_leave_24 : decode cX6_leave 24 = .ok (.ireturn, 1) := by decide +kernel
theorem dX6_leave_25 : decode cX6_leave 25 = .ok (.aload_n 0, 1) := by decide +kernel
theorem dX6_leave_26 : decode cX6_leave 26 = .ok (.invokevirtual 254, 3) := by decide +kernel
theorem dX6_leave_29 : decode cX6_leave 29 = .ok (.aload_n 0, 1) := by decide +kernel
theorem dX6_leave_30 : decode cX6_leave 30 = .ok (.getfield 7, 3) := by decide +kernel
theorem dX6_leave_33 : decode cX6_leave 33 = .ok (.iload_n 1, 1) := by decide +kernel
theorem dX6_leave_34 : decode cX6_leave 34 = .ok (.invokestatic 205, 3) := by decide +kernel
theorem dX6_leave_37 : decode cX6_leave 37 = .ok (.ireturn, 1) := by decide +kernel
theorem dX6_hold_0 : decode cX6_hold 0 = .ok (.aload_n 0, 1) := by decide +kernel
theorem dX6_hold_1 : decode cX6_hold 1 = .ok (.aload_n 0, 1) := by decide +kernel
theorem dX6_hold_2 : decode cX6_hold 2 = .ok (.getfield 7, 3) := by decide +kernel
theorem dX6_hold_5 : decode cX6_hold 5 = .ok (.iload_n 1, 1) := by decide +kernel
theorem dX6_hold_6 : decode cX6_hold 6 = .ok (.invokestatic 184, 3) := by decide +kernel
theorem dX6_hold_9 : decode cX6_hold 9 = .ok (.ifCond .ne 7, 3) := by decide +kernel
theorem dX6_hold_12 : decode cX6_hold 12 = .ok (.iconst 1, 1) := by decide +kernel
theorem dX6_hold_13 : decode cX6_hold 13 = .ok (.goto 20, 3) := by decide +kernel
theorem dX6_hold_16 : decode cX6_hold 16 = .ok (.aload_n 0, 1) := by decide +kernel
theorem dX6_hold_17 : decode cX6_hold 17 = .ok (.getfield 7, 3) := by decide +kernel
theorem dX6_hold_20 : decode cX6_hold 20 = .ok (.iload_n 1, 1) := by decide +kernel
theorem dX6_hold_21 : decode cX6_hold 21 = .ok (.iload_n 2, 1) := by decide +kernel
theorem dX6_hold_22 : decode cX6_hold 22 = .ok (.invokestatic 187, 3) := by decide +kernel
theorem dX6_hold_25 : decode cX6_hold 25 = .ok (.ifCond .ne 7, 3) := by decide +kernel
theorem dX6_hold_28 : decode cX6_hold 28 = .ok (.iconst 2, 1) := by decide +kernel
theorem dX6_hold_29 : decode cX6_hold 29 = .ok (.goto 4, 3) := by decide +kernel
theorem dX6_hold_32 : decode cX6_hold 32 = .ok (.iconst 0, 1) := by decide +kernel
theorem dX6_hold_33 : decode cX6_hold 33 = .ok (.invokevirtual 136, 3) := by decide +kernel
theorem dX6_hold_36 : decode cX6_hold 36 = .ok (.ifCond .eq 5, 3) := by decide +kernel
theorem dX6_hold_39 : decode cX6_hold 39 = .ok (.iconst 0, 1) := by decide +kernel
theorem dX6_hold_40 : decode cX6_hold 40 = .ok (.ireturn, 1) := by decide +kernel
theorem dX6_hold_41 : decode cX6_hold 41 = .ok (.aload_n 0, 1) := by decide +kernel
theorem dX6_hold_42 : decode cX6_hold 42 = .ok (.invokevirtual 254, 3) := by decide +kernel
theorem dX6_hold_45 : decode cX6_hold 45 = .ok (.aload_n 0, 1) := by decide +kernel
theorem dX6_hold_46 : decode cX6_hold 46 = .ok (.getfield 7, 3) := by decide +kernel
theorem dX6_hold_49 : decode cX6_hold 49 = .ok (.iload_n 1, 1) := by decide +kernel
theorem dX6_hold_50 : decode cX6_hold 50 = .ok (.iload_n 2, 1) := by decide +kernel
theorem dX6_hold_51 : decode cX6_hold 51 = .ok (.invokestatic 191, 3) := by decide +kernel
theorem dX6_hold_54 : decode cX6_hold 54 = .ok (.ireturn, 1) := by decide +kernel
theorem dX6_set_0 : decode cX6_set 0 = .ok (.aload_n 0, 1) := by decide +kernel
theorem dX6_set_1 : decode cX6_set 1 = .ok (.iload_n 1, 1) := by decide +kernel
theorem dX6_set_2 : decode cX6_set 2 = .ok (.iload_n 2, 1) := by decide +kernel
theorem dX6_set_3 : decode cX6_set 3 = .ok (.invokestatic 195, 3) := by decide +kernel
theorem dX6_set_6 : decode cX6_set 6 = .ok (.ifCond .eq 7, 3) := by decide +kernel
theorem dX6_set_9 : decode cX6_set 9 = .ok (.iconst 0, 1) := by decide +kernel
theorem dX6_set_10 : decode cX6_set 10 = .ok (.goto 4, 3) := by decide +kernel
theorem dX6_set_13 : decode cX6_set 13 = .ok (.iconst 1, 1) := by decide +kernel
theorem dX6_set_14 : decode cX6_set 14 = .ok (.invokevirtual 136, 3) := by decide +kernel
theorem dX6_set_17 : decode cX6_set 17 = .ok (.ifCond .eq 5, 3) := by decide +kernel
theorem dX6_set_20 : decode cX6_set 20 = .ok (.iconst 0, 1) := by decide +kernel
theorem dX6_set_21 : decode cX6_set 21 = .ok (.ireturn, 1) := by decide +kernel
theorem dX6_set_22 : decode cX6_set 22 = .ok (.aload_n 0, 1) := by decide +kernel
theorem dX6_set_23 : decode cX6_set 23 = .ok (.invokevirtual 254, 3) := by decide +kernel
theorem dX6_set_26 : decode cX6_set 26 = .ok (.aload_n 0, 1) := by decide +kernel
theorem dX6_set_27 : decode cX6_set 27 = .ok (.getfield 7, 3) := by decide +kernel
theorem dX6_set_30 : decode cX6_set 30 = .ok (.iload_n 1, 1) := by decide +kernel
theorem dX6_set_31 : decode cX6_set 31 = .ok (.iload_n 2, 1) := by decide +kernel
theorem dX6_set_32 : decode cX6_set 32 = .ok (.invokestatic 199, 3) := by decide +kernel
theorem dX6_set_35 : decode cX6_set 35 = .ok (.ireturn, 1) := by decide +kernel
theorem dX6_ticks_0 : decode cX6_ticks 0 = .ok (.aload_n 0, 1) := by decide +kernel
theorem dX6_ticks_1 : decode cX6_ticks 1 = .ok (.iload_n 1, 1) := by decide +kernel
theorem dX6_ticks_2 : decode cX6_ticks 2 = .ok (.i2l, 1) := by decide +kernel
theorem dX6_ticks_3 : decode cX6_ticks 3 = .ok (.lconst 1, 1) := by decide +kernel
theorem dX6_ticks_4 : decode cX6_ticks 4 = .ok (.ldc2_w 52, 3) := by decide +kernel
theorem dX6_ticks_7 : decode cX6_ticks 7 = .ok (.invokestatic 44, 3) := by decide +kernel
theorem dX6_ticks_10 : decode cX6_ticks 10 = .ok (.ifCond .eq 7, 3) := by decide +kernel
theorem dX6_ticks_13 : decode cX6_ticks 13 = .ok (.iconst 0, 1) := by decide +kernel
theorem dX6_ticks_14 : decode cX6_ticks 14 = .ok (.goto 4, 3) := by decide +kernel
theorem dX6_ticks_17 : decode cX6_ticks 17 = .ok (.iconst 1, 1) := by decide +kernel
theorem dX6_ticks_18 : decode cX6_ticks 18 = .ok (.invokevirtual 136, 3) := by decide +kernel
theorem dX6_ticks_21 : decode cX6_ticks 21 = .ok (.ifCond .eq 5, 3) := by decide +kernel
theorem dX6_ticks_24 : decode cX6_ticks 24 = .ok (.iconst 0, 1) := by decide +kernel
theorem dX6_ticks_25 : decode cX6_ticks 25 = .ok (.ireturn, 1) := by decide +kernel
theorem dX6_ticks_26 : decode cX6_ticks 26 = .ok (.aload_n 0, 1) := by decide +kernel
theorem dX6_ticks_27 : decode cX6_ticks 27 = .ok (.invokevirtual 254, 3) := by decide +kernel
theorem dX6_ticks_30 : decode cX6_ticks 30 = .ok (.aload_n 0, 1) := by decide +kernel
theorem dX6_ticks_31 : decode cX6_ticks 31 = .ok (.getfield 7, 3) := by decide +kernel
theorem dX6_ticks_34 : decode cX6_ticks 34 = .ok (.iload_n 1, 1) := by decide +kernel
theorem dX6_ticks_35 : decode cX6_ticks 35 = .ok (.invokestatic 208, 3) := by decide +kernel
theorem dX6_ticks_38 : decode cX6_ticks 38 = .ok (.ireturn, 1) := by decide +kernel
theorem dX6_undo_0 : decode cX6_undo 0 = .ok (.aload_n 0, 1) := by decide +kernel
theorem dX6_undo_1 : decode cX6_undo 1 = .ok (.aload_n 0, 1) := by decide +kernel
theorem dX6_undo_2 : decode cX6_undo 2 = .ok (.getfield 128, 3) := by decide +kernel
theorem dX6_undo_5 : decode cX6_undo 5 = .ok (.ifCond .ne 7, 3) := by decide +kernel
theorem dX6_undo_8 : decode cX6_undo 8 = .ok (.iconst 1, 1) := by decide +kernel
theorem dX6_undo_9 : decode cX6_undo 9 = .ok (.goto 4, 3) := by decide +kernel
theorem dX6_undo_12 : decode cX6_undo 12 = .ok (.iconst 0, 1) := by decide +kernel
theorem dX6_undo_13 : decode cX6_undo 13 = .ok (.invokevirtual 136, 3) := by decide +kernel
theorem dX6_undo_16 : decode cX6_undo 16 = .ok (.ifCond .eq 5, 3) := by decide +kernel
theorem dX6_undo_19 : decode cX6_undo 19 = .ok (.iconst 0, 1) := by decide +kernel
theorem dX6_undo_20 : decode cX6_undo 20 = .ok (.ireturn, 1) := by decide +kernel
theorem dX6_undo_21 : decode cX6_undo 21 = .ok (.aload_n 0, 1) := by decide +kernel
theorem dX6_undo_22 : decode cX6_undo 22 = .ok (.dup, 1) := by decide +kernel
theorem dX6_undo_23 : decode cX6_undo 23 = .ok (.getfield 128, 3) := by decide +kernel
theorem dX6_undo_26 : decode cX6_undo 26 = .ok (.iconst 1, 1) := by decide +kernel
theorem dX6_undo_27 : decode cX6_undo 27 = .ok (.isub, 1) := by decide +kernel
theorem dX6_undo_28 : decode cX6_undo 28 = .ok (.putfield 128, 3) := by decide +kernel
theorem dX6_undo_31 : decode cX6_undo 31 = .ok (.iconst 0, 1) := by decide +kernel
theorem dX6_undo_32 : decode cX6_undo 32 = .ok (.istore_n 1, 1) := by decide +kernel
theorem dX6_undo_33 : decode cX6_undo 33 = .ok (.iload_n 1, 1) := by decide +kernel
theorem dX6_undo_34 : decode cX6_undo 34 = .ok (.sipush 621, 3) := by decide +kernel
theorem dX6_undo_37 : decode cX6_undo 37 = .ok (.if_icmp .ge 30, 3) := by decide +kernel
theorem dX6_undo_40 : decode cX6_undo 40 = .ok (.aload_n 0, 1) := by decide +kernel
theorem dX6_undo_41 : decode cX6_undo 41 = .ok (.getfield 7, 3) := by decide +kernel
theorem dX6_undo_44 : decode cX6_undo 44 = .ok (.iload_n 1, 1) := by decide +kernel
theorem dX6_undo_45 : decode cX6_undo 45 = .ok (.aload_n 0, 1) := by decide +kernel
theorem dX6_undo_46 : decode cX6_undo 46 = .ok (.getfield 19, 3) := by decide +kernel
theorem dX6_undo_49 : decode cX6_undo 49 = .ok (.sipush 621, 3) := by decide +kernel
theorem dX6_undo_52 : decode cX6_undo 52 = .ok (.aload_n 0, 1) := by decide +kernel
theorem dX6_undo_53 : decode cX6_undo 53 = .ok (.getfield 128, 3) := by decide +kernel
theorem dX6_undo_56 : decode cX6_undo 56 = .ok (.imul, 1) := by decide +kernel
theorem dX6_undo_57 : decode cX6_undo 57 = .ok (.iload_n 1, 1) := by decide +kernel
theorem dX6_undo_58 : decode cX6_undo 58 = .ok (.iadd, 1) := by decide +kernel
theorem dX6_undo_59 : decode cX6_undo 59 = .ok (.iaload, 1) := by decide +kernel
theorem dX6_undo_60 : decode cX6_undo 60 = .ok (.iastore, 1) := by decide +kernel
theorem dX6_undo_61 : decode cX6_undo 61 = .ok (.iinc 1 1, 3) := by decide +kernel
theorem dX6_undo_64 : decode cX6_undo 64 = .ok (.goto (-31), 3) := by decide +kernel
theorem dX6_undo_67 : decode cX6_undo 67 = .ok (.aload_n 0, 1) := by decide +kernel
theorem dX6_undo_68 : decode cX6_undo 68 = .ok (.getfield 128, 3) := by decide +kernel
theorem dX6_undo_71 : decode cX6_undo 71 = .ok (.ireturn, 1) := by decide +kernel
theorem dX6_why_0 : decode cX6_why 0 = .ok (.aload_n 0, 1) := by decide +kernel
theorem dX6_why_1 : decode cX6_why 1 = .ok (.iconst 0, 1) := by decide +kernel
theorem dX6_why_2 : decode cX6_why 2 = .ok (.putfield 36, 3) := by decide +kernel
theorem dX6_why_5 : decode cX6_why 5 = .ok (.aload_n 0, 1) := by decide +kernel
theorem dX6_why_6 : decode cX6_why 6 = .ok (.getfield 7, 3) := by decide +kernel
theorem dX6_why_9 : decode cX6_why 9 = .ok (.invokestatic 107, 3) := by decide +kernel
theorem dX6_why_12 : decode cX6_why 12 = .ok (.ireturn, 1) := by decide +kernel
theorem dX6_slowest_0 : decode cX6_slowest 0 = .ok (.aload_n 0, 1) := by decide +kernel
theorem dX6_slowest_1 : decode cX6_slowest 1 = .ok (.iconst 0, 1) := by decide +kernel
theorem dX6_slowest_2 : decode cX6_slowest 2 = .ok (.putfield 36, 3) := by decide +kernel
theorem dX6_slowest_5 : decode cX6_slowest 5 = .ok (.iconst (-1), 1) := by decide +kernel
theorem dX6_slowest_6 : decode cX6_slowest 6 = .ok (.istore_n 1, 1) := by decide +kernel
theorem dX6_slowest_7 : decode cX6_slowest 7 = .ok (.iconst 0, 1) := by decide +kernel
theorem dX6_slowest_8 : decode cX6_slowest 8 = .ok (.istore_n 2, 1) := by decide +kernel
theorem dX6_slowest_9 : decode cX6_slowest 9 = .ok (.iload_n 2, 1) := by decide +kernel
theorem dX6_slowest_10 : decode cX6_slowest 10 = .ok (.bipush 8, 2) := by decide +kernel
theorem dX6_slowest_12 : decode cX6_slowest 12 = .ok (.if_icmp .ge 81, 3) := by decide +kernel
theorem dX6_slowest_15 : decode cX6_slowest 15 = .ok (.aload_n 0, 1) := by decide +kernel
theorem dX6_slowest_16 : decode cX6_slowest 16 = .ok (.getfield 7, 3) := by decide +kernel
theorem dX6_slowest_19 : decode cX6_slowest 19 = .ok (.iload_n 2, 1) := by decide +kernel
theorem dX6_slowest_20 : decode cX6_slowest 20 = .ok (.invokestatic 184, 3) := by decide +kernel
theorem dX6_slowest_23 : decode cX6_slowest 23 = .ok (.ifCond .eq 22, 3) := by decide +kernel
theorem dX6_slowest_26 : decode cX6_slowest 26 = .ok (.aload_n 0, 1) := by decide +kernel
theorem dX6_slowest_27 : decode cX6_slowest 27 = .ok (.getfield 7, 3) := by decide +kernel
theorem dX6_slowest_30 : decode cX6_slowest 30 = .ok (.iload_n 2, 1) := by decide +kernel
theorem dX6_slowest_31 : decode cX6_slowest 31 = .ok (.invokestatic 65, 3) := by decide +kernel
theorem dX6_slowest_34 : decode cX6_slowest 34 = .ok (.iconst 2, 1) := by decide +kernel
theorem dX6_slowest_35 : decode cX6_slowest 35 = .ok (.iadd, 1) := by decide +kernel
theorem dX6_slowest_36 : decode cX6_slowest 36 = .ok (.iaload, 1) := by decide +kernel
theorem dX6_slowest_37 : decode cX6_slowest 37 = .ok (.iconst 1, 1) := by decide +kernel
theorem dX6_slowest_38 : decode cX6_slowest 38 = .ok (.if_icmp .ne 7, 3) := by decide +kernel
theorem dX6_slowest_41 : decode cX6_slowest 41 = .ok (.iconst 1, 1) := by decide +kernel
theorem dX6_slowest_42 : decode cX6_slowest 42 = .ok (.goto 4, 3) := by decide +kernel
theorem dX6_slowest_45 : decode cX6_slowest 45 = .ok (.iconst 0, 1) := by decide +kernel
theorem dX6_slowest_46 : decode cX6_slowest 46 = .ok (.istore_n 3, 1) := by decide +kernel
theorem dX6_slowest_47 : decode cX6_slowest 47 = .ok (.iload_n 3, 1) := by decide +kernel
theorem dX6_slowest_48 : decode cX6_slowest 48 = .ok (.ifCond .eq 37, 3) := by decide +kernel
theorem dX6_slowest_51 : decode cX6_slowest 51 = .ok (.iload_n 1, 1) := by decide +kernel
theorem dX6_slowest_52 : decode cX6_slowest 52 = .ok (.iconst (-1), 1) := by decide +kernel
theorem dX6_slowest_53 : decode cX6_slowest 53 = .ok (.if_icmp .eq 28, 3) := by decide +kernel
theorem dX6_slowest_56 : decode cX6_slowest 56 = .ok (.aload_n 0, 1) := by decide +kernel
theorem dX6_slowest_57 : decode cX6_slowest 57 = .ok (.getfield 7, 3) := by decide +kernel
theorem dX6_slowest_60 : decode cX6_slowest 60 = .ok (.iload_n 2, 1) := by decide +kernel
theorem dX6_slowest_61 : decode cX6_slowest 61 = .ok (.invokestatic 65, 3) := by decide +kernel
theorem dX6_slowest_64 : decode cX6_slowest 64 = .ok (.iconst 1, 1) := by decide +kernel
theorem dX6_slowest_65 : decode cX6_slowest 65 = .ok (.iadd, 1) := by decide +kernel
theorem dX6_slowest_66 : decode cX6_slowest 66 = .ok (.iaload, 1) := by decide +kernel
theorem dX6_slowest_67 : decode cX6_slowest 67 = .ok (.aload_n 0, 1) := by decide +kernel
theorem dX6_slowest_68 : decode cX6_slowest 68 = .ok (.getfield 7, 3) := by decide +kernel
theorem dX6_slowest_71 : decode cX6_slowest 71 = .ok (.iload_n 1, 1) := by decide +kernel
theorem dX6_slowest_72 : decode cX6_slowest 72 = .ok (.invokestatic 65, 3) := by decide +kernel
theorem dX6_slowest_75 : decode cX6_slowest 75 = .ok (.iconst 1, 1) := by decide +kernel
theorem dX6_slowest_76 : decode cX6_slowest 76 = .ok (.iadd, 1) := by decide +kernel
theorem dX6_slowest_77 : decode cX6_slowest 77 = .ok (.iaload, 1) := by decide +kernel
theorem dX6_slowest_78 : decode cX6_slowest 78 = .ok (.if_icmp .ge 7, 3) := by decide +kernel
theorem dX6_slowest_81 : decode cX6_slowest 81 = .ok (.iload_n 2, 1) := by decide +kernel
theorem dX6_slowest_82 : decode cX6_slowest 82 = .ok (.goto 4, 3) := by decide +kernel
theorem dX6_slowest_85 : decode cX6_slowest 85 = .ok (.iload_n 1, 1) := by decide +kernel
theorem dX6_slowest_86 : decode cX6_slowest 86 = .ok (.istore_n 1, 1) := by decide +kernel
theorem dX6_slowest_87 : decode cX6_slowest 87 = .ok (.iinc 2 1, 3) := by decide +kernel
theorem dX6_slowest_90 : decode cX6_slowest 90 = .ok (.goto (-81), 3) := by decide +kernel
theorem dX6_slowest_93 : decode cX6_slowest 93 = .ok (.iload_n 1, 1) := by decide +kernel
theorem dX6_slowest_94 : decode cX6_slowest 94 = .ok (.ireturn, 1) := by decide +kernel
theorem dX6_truth_0 : decode cX6_truth 0 = .ok (.aload_n 0, 1) := by decide +kernel
theorem dX6_truth_1 : decode cX6_truth 1 = .ok (.iload_n 2, 1) := by decide +kernel
theorem dX6_truth_2 : decode cX6_truth 2 = .ok (.i2l, 1) := by decide +kernel
theorem dX6_truth_3 : decode cX6_truth 3 = .ok (.aload_n 0, 1) := by decide +kernel
theorem dX6_truth_4 : decode cX6_truth 4 = .ok (.getfield 7, 3) := by decide +kernel
theorem dX6_truth_7 : decode cX6_truth 7 = .ok (.sipush 400, 3) := by decide +kernel
theorem dX6_truth_10 : decode cX6_truth 10 = .ok (.iaload, 1) := by decide +kernel
theorem dX6_truth_11 : decode cX6_truth 11 = .ok (.i2l, 1) := by decide +kernel
theorem dX6_truth_12 : decode cX6_truth 12 = .ok (.aload_n 0, 1) := by decide +kernel
theorem dX6_truth_13 : decode cX6_truth 13 = .ok (.getfield 7, 3) := by decide +kernel
theorem dX6_truth_16 : decode cX6_truth 16 = .ok (.sipush 401, 3) := by decide +kernel
theorem dX6_truth_19 : decode cX6_truth 19 = .ok (.iaload, 1) := by decide +kernel
theorem dX6_truth_20 : decode cX6_truth 20 = .ok (.i2l, 1) := by decide +kernel
theorem dX6_truth_21 : decode cX6_truth 21 = .ok (.invokestatic 44, 3) := by decide +kernel
theorem dX6_truth_24 : decode cX6_truth 24 = .ok (.ifCond .ne 7, 3) := by decide +kernel
theorem dX6_truth_27 : decode cX6_truth 27 = .ok (.iconst 1, 1) := by decide +kernel
theorem dX6_truth_28 : decode cX6_truth 28 = .ok (.goto 25, 3) := by decide +kernel
theorem dX6_truth_31 : decode cX6_truth 31 = .ok (.iload_n 1, 1) := by decide +kernel
theorem dX6_truth_32 : decode cX6_truth 32 = .ok (.invokestatic 48, 3) := by decide +kernel
theorem dX6_truth_35 : decode cX6_truth 35 = .ok (.ifCond .eq 13, 3) := by decide +kernel
theorem dX6_truth_38 : decode cX6_truth 38 = .ok (.iload_n 3, 1) := by decide +kernel
theorem dX6_truth_39 : decode cX6_truth 39 = .ok (.i2l, 1) := by decide +kernel
theorem dX6_truth_40 : decode cX6_truth 40 = .ok (.lconst 0, 1) := by decide +kernel
theorem dX6_truth_41 : decode cX6_truth 41 = .ok (.lconst 1, 1) := by decide +kernel
theorem dX6_truth_42 : decode cX6_truth 42 = .ok (.invokestatic 44, 3) := by decide +kernel
theorem dX6_truth_45 : decode cX6_truth 45 = .ok (.ifCond .ne 7, 3) := by decide +kernel
theorem dX6_truth_48 : decode cX6_truth 48 = .ok (.iconst 2, 1) := by decide +kernel
theorem dX6_truth_49 : decode cX6_truth 49 = .ok (.goto 4, 3) := by decide +kernel
theorem dX6_truth_52 : decode cX6_truth 52 = .ok (.iconst 0, 1) := by decide +kernel
theorem dX6_truth_53 : decode cX6_truth 53 = .ok (.invokevirtual 136, 3) := by decide +kernel
theorem dX6_truth_56 : decode cX6_truth 56 = .ok (.ifCond .eq 5, 3) := by decide +kernel
theorem dX6_truth_59 : decode cX6_truth 59 = .ok (.iconst 0, 1) := by decide +kernel
theorem dX6_truth_60 : decode cX6_truth 60 = .ok (.ireturn, 1) := by decide +kernel
theorem dX6_truth_61 : decode cX6_truth 61 = .ok (.iload_n 3, 1) := by decide +kernel
theorem dX6_truth_62 : decode cX6_truth 62 = .ok (.ifCond .ne 15, 3) := by decide +kernel
theorem dX6_truth_65 : decode cX6_truth 65 = .ok (.aload_n 0, 1) := by decide +kernel
theorem dX6_truth_66 : decode cX6_truth 66 = .ok (.getfield 7, 3) := by decide +kernel
theorem dX6_truth_69 : decode cX6_truth 69 = .ok (.iload_n 1, 1) := by decide +kernel
theorem dX6_truth_70 : decode cX6_truth 70 = .ok (.iload_n 2, 1) := by decide +kernel
theorem dX6_truth_71 : decode cX6_truth 71 = .ok (.invokestatic 119, 3) := by decide +kernel
theorem dX6_truth_74 : decode cX6_truth 74 = .ok (.goto 12, 3) := by decide +kernel
theorem dX6_truth_77 : decode cX6_truth 77 = .ok (.aload_n 0, 1) := by decide +kernel
theorem dX6_truth_78 : decode cX6_truth 78 = .ok (.getfield 7, 3) := by decide +kernel
theorem dX6_truth_81 : decode cX6_truth 81 = .ok (.iload_n 1, 1) := by decide +kernel
theorem dX6_truth_82 : decode cX6_truth 82 = .ok (.iload_n 2, 1) := by decide +kernel
theorem dX6_truth_83 : decode cX6_truth 83 = .ok (.invokestatic 261, 3) := by decide +kernel
theorem dX6_truth_86 : decode cX6_truth 86 = .ok (.ireturn, 1) := by decide +kernel
theorem dX6_droppedIn_0 : decode cX6_droppedIn 0 = .ok (.aload_n 0, 1) := by decide +kernel
theorem dX6_droppedIn_1 : decode cX6_droppedIn 1 = .ok (.iconst 0, 1) := by decide +kernel
theorem dX6_droppedIn_2 : decode cX6_droppedIn 2 = .ok (.putfield 36, 3) := by decide +kernel
theorem dX6_droppedIn_5 : decode cX6_droppedIn 5 = .ok (.aload_n 0, 1) := by decide +kernel
theorem dX6_droppedIn_6 : decode cX6_droppedIn 6 = .ok (.getfield 7, 3) := by decide +kernel
theorem dX6_droppedIn_9 : decode cX6_droppedIn 9 = .ok (.aload_n 0, 1) := by decide +kernel
theorem dX6_droppedIn_10 : decode cX6_droppedIn 10 = .ok (.getfield 13, 3) := by decide +kernel
theorem dX6_droppedIn_13 : decode cX6_droppedIn 13 = .ok (.invokestatic 233, 3) := by decide +kernel
theorem dX6_droppedIn_16 : decode cX6_droppedIn 16 = .ok (.iconst 1, 1) := by decide +kernel
theorem dX6_droppedIn_17 : decode cX6_droppedIn 17 = .ok (.istore_n 1, 1) := by decide +kernel
theorem dX6_droppedIn_18 : decode cX6_droppedIn 18 = .ok (.iload_n 1, 1) := by decide +kernel
theorem dX6_droppedIn_19 : decode cX6_droppedIn 19 = .ok (.sipush 300, 3) := by decide +kernel
theorem dX6_droppedIn_22 : decode cX6_droppedIn 22 = .ok (.if_icmp .gt 37, 3) := by decide +kernel
theorem dX6_droppedIn_25 : decode cX6_droppedIn 25 = .ok (.aload_n 0, 1) := by decide +kernel
theorem dX6_droppedIn_26 : decode cX6_droppedIn 26 = .ok (.getfield 13, 3) := by decide +kernel
theorem dX6_droppedIn_29 : decode cX6_droppedIn 29 = .ok (.invokestatic 113, 3) := by decide +kernel
theorem dX6_droppedIn_32 : decode cX6_droppedIn 32 = .ok (.aload_n 0, 1) := by decide +kernel
theorem dX6_droppedIn_33 : decode cX6_droppedIn 33 = .ok (.getfield 13, 3) := by decide +kernel
theorem dX6_droppedIn_36 : decode cX6_droppedIn 36 = .ok (.sipush 617, 3) := by decide +kernel
theorem dX6_droppedIn_39 : decode cX6_droppedIn 39 = .ok (.iaload, 1) := by decide +kernel
theorem dX6_droppedIn_40 : decode cX6_droppedIn 40 = .ok (.aload_n 0, 1) := by decide +kernel
theorem dX6_droppedIn_41 : decode cX6_droppedIn 41 = .ok (.getfield 7, 3) := by decide +kernel
theorem dX6_droppedIn_44 : decode cX6_droppedIn 44 = .ok (.sipush 617, 3) := by decide +kernel
theorem dX6_droppedIn_47 : decode cX6_droppedIn 47 = .ok (.iaload, 1) := by decide +kernel
theorem dX6_droppedIn_48 : decode cX6_droppedIn 48 = .ok (.if_icmp .le 5, 3) := by decide +kernel
theorem dX6_droppedIn_51 : decode cX6_droppedIn 51 = .ok (.iload_n 1, 1) := by decide +kernel
theorem dX6_droppedIn_52 : decode cX6_droppedIn 52 = .ok (.ireturn, 1) := by decide +kernel
theorem dX6_droppedIn_53 : decode cX6_droppedIn 53 = .ok (.iinc 1 1, 3) := by decide +kernel
theorem dX6_droppedIn_56 : decode cX6_droppedIn 56 = .ok (.goto (-38), 3) := by decide +kernel
theorem dX6_droppedIn_59 : decode cX6_droppedIn 59 = .ok (.iconst (-1), 1) := by decide +kernel
theorem dX6_droppedIn_60 : decode cX6_droppedIn 60 = .ok (.ireturn, 1) := by decide +kernel
theorem dX6_lostIn_0 : decode cX6_lostIn 0 = .ok (.aload_n 0, 1) := by decide +kernel
theorem dX6_lostIn_1 : decode cX6_lostIn 1 = .ok (.aload_n 0, 1) := by decide +kernel
theorem dX6_lostIn_2 : decode cX6_lostIn 2 = .ok (.getfield 7, 3) := by decide +kernel
theorem dX6_lostIn_5 : decode cX6_lostIn 5 = .ok (.iload_n 1, 1) := by decide +kernel
theorem dX6_lostIn_6 : decode cX6_lostIn 6 = .ok (.invokestatic 184, 3) := by decide +kernel
theorem dX6_lostIn_9 : decode cX6_lostIn 9 = .ok (.ifCond .eq 7, 3) := by decide +kernel
theorem dX6_lostIn_12 : decode cX6_lostIn 12 = .ok (.iconst 0, 1) := by decide +kernel
theorem dX6_lostIn_13 : decode cX6_lostIn 13 = .ok (.goto 4, 3) := by decide +kernel
theorem dX6_lostIn_16 : decode cX6_lostIn 16 = .ok (.iconst 1, 1) := by decide +kernel
theorem dX6_lostIn_17 : decode cX6_lostIn 17 = .ok (.invokevirtual 136, 3) := by decide +kernel
theorem dX6_lostIn_20 : decode cX6_lostIn 20 = .ok (.ifCond .eq 5, 3) := by decide +kernel
theorem dX6_lostIn_23 : decode cX6_lostIn 23 = .ok (.iconst 0, 1) := by decide +kernel
theorem dX6_lostIn_24 : decode cX6_lostIn 24 = .ok (.ireturn, 1) := by decide +kernel
theorem dX6_lostIn_25 : decode cX6_lostIn 25 = .ok (.aload_n 0, 1) := by decide +kernel
theorem dX6_lostIn_26 : decode cX6_lostIn 26 = .ok (.getfield 7, 3) := by decide +kernel
theorem dX6_lostIn_29 : decode cX6_lostIn 29 = .ok (.iload_n 1, 1) := by decide +kernel
theorem dX6_lostIn_30 : decode cX6_lostIn 30 = .ok (.invokestatic 65, 3) := by decide +kernel
theorem dX6_lostIn_33 : decode cX6_lostIn 33 = .ok (.iconst 2, 1) := by decide +kernel
theorem dX6_lostIn_34 : decode cX6_lostIn 34 = .ok (.iadd, 1) := by decide +kernel
theorem dX6_lostIn_35 : decode cX6_lostIn 35 = .ok (.iaload, 1) := by decide +kernel
theorem dX6_lostIn_36 : decode cX6_lostIn 36 = .ok (.ifCond .ne 5, 3) := by decide +kernel
theorem dX6_lostIn_39 : decode cX6_lostIn 39 = .ok (.iconst (-1), 1) := by decide +kernel
theorem dX6_lostIn_40 : decode cX6_lostIn 40 = .ok (.ireturn, 1) := by decide +kernel
theorem dX6_lostIn_41 : decode cX6_lostIn 41 = .ok (.aload_n 0, 1) := by decide +kernel
theorem dX6_lostIn_42 : decode cX6_lostIn 42 = .ok (.getfield 7, 3) := by decide +kernel
theorem dX6_lostIn_45 : decode cX6_lostIn 45 = .ok (.aload_n 0, 1) := by decide +kernel
theorem dX6_lostIn_46 : decode cX6_lostIn 46 = .ok (.getfield 13, 3) := by decide +kernel
theorem dX6_lostIn_49 : decode cX6_lostIn 49 = .ok (.invokestatic 233, 3) := by decide +kernel
theorem dX6_lostIn_52 : decode cX6_lostIn 52 = .ok (.iconst 1, 1) := by decide +kernel
theorem dX6_lostIn_53 : decode cX6_lostIn 53 = .ok (.istore_n 2, 1) := by decide +kernel
theorem dX6_lostIn_54 : decode cX6_lostIn 54 = .ok (.iload_n 2, 1) := by decide +kernel
theorem dX6_lostIn_55 : decode cX6_lostIn 55 = .ok (.sipush 300, 3) := by decide +kernel
theorem dX6_lostIn_58 : decode cX6_lostIn 58 = .ok (.if_icmp .gt 32, 3) := by decide +kernel
theorem dX6_lostIn_61 : decode cX6_lostIn 61 = .ok (.aload_n 0, 1) := by decide +kernel
theorem dX6_lostIn_62 : decode cX6_lostIn 62 = .ok (.getfield 13, 3) := by decide +kernel
theorem dX6_lostIn_65 : decode cX6_lostIn 65 = .ok (.invokestatic 113, 3) := by decide +kernel
theorem dX6_lostIn_68 : decode cX6_lostIn 68 = .ok (.aload_n 0, 1) := by decide +kernel
theorem dX6_lostIn_69 : decode cX6_lostIn 69 = .ok (.getfield 13, 3) := by decide +kernel
theorem dX6_lostIn_72 : decode cX6_lostIn 72 = .ok (.iload_n 1, 1) := by decide +kernel
theorem dX6_lostIn_73 : decode cX6_lostIn 73 = .ok (.invokestatic 65, 3) := by decide +kernel
theorem dX6_lostIn_76 : decode cX6_lostIn 76 = .ok (.iconst 2, 1) := by decide +kernel
theorem dX6_lostIn_77 : decode cX6_lostIn 77 = .ok (.iadd, 1) := by decide +kernel
theorem dX6_lostIn_78 : decode cX6_lostIn 78 = .ok (.iaload, 1) := by decide +kernel
theorem dX6_lostIn_79 : decode cX6_lostIn 79 = .ok (.ifCond .ne 5, 3) := by decide +kernel
theorem dX6_lostIn_82 : decode cX6_lostIn 82 = .ok (.iload_n 2, 1) := by decide +kernel
theorem dX6_lostIn_83 : decode cX6_lostIn 83 = .ok (.ireturn, 1) := by decide +kernel
theorem dX6_lostIn_84 : decode cX6_lostIn 84 = .ok (.iinc 2 1, 3) := by decide +kernel
theorem dX6_lostIn_87 : decode cX6_lostIn 87 = .ok (.goto (-33), 3) := by decide +kernel
theorem dX6_lostIn_90 : decode cX6_lostIn 90 = .ok (.iconst (-1), 1) := by decide +kernel
theorem dX6_lostIn_91 : decode cX6_lostIn 91 = .ok (.ireturn, 1) := by decide +kernel
theorem dX6_ifFree_0 : decode cX6_ifFree 0 = .ok (.aload_n 0, 1) := by decide +kernel
theorem dX6_ifFree_1 : decode cX6_ifFree 1 = .ok (.aload_n 0, 1) := by decide +kernel
theorem dX6_ifFree_2 : decode cX6_ifFree 2 = .ok (.getfield 7, 3) := by decide +kernel
theorem dX6_ifFree_5 : decode cX6_ifFree 5 = .ok (.iload_n 1, 1) := by decide +kernel
theorem dX6_ifFree_6 : decode cX6_ifFree 6 = .ok (.invokestatic 184, 3) := by decide +kernel
theorem dX6_ifFree_9 : decode cX6_ifFree 9 = .ok (.ifCond .eq 7, 3) := by decide +kernel
theorem dX6_ifFree_12 : decode cX6_ifFree 12 = .ok (.iconst 0, 1) := by decide +kernel
theorem dX6_ifFree_13 : decode cX6_ifFree 13 = .ok (.goto 4, 3) := by decide +kernel
theorem dX6_ifFree_16 : decode cX6_ifFree 16 = .ok (.iconst 1, 1) := by decide +kernel
theorem dX6_ifFree_17 : decode cX6_ifFree 17 = .ok (.invokevirtual 136, 3) := by decide +kernel
theorem dX6_ifFree_20 : decode cX6_ifFree 20 = .ok (.ifCond .eq 5, 3) := by decide +kernel
theorem dX6_ifFree_23 : decode cX6_ifFree 23 = .ok (.iconst 0, 1) := by decide +kernel
theorem dX6_ifFree_24 : decode cX6_ifFree 24 = .ok (.ireturn, 1) := by decide +kernel
theorem dX6_ifFree_25 : decode cX6_ifFree 25 = .ok (.aload_n 0, 1) := by decide +kernel
theorem dX6_ifFree_26 : decode cX6_ifFree 26 = .ok (.getfield 7, 3) := by decide +kernel
theorem dX6_ifFree_29 : decode cX6_ifFree 29 = .ok (.aload_n 0, 1) := by decide +kernel
theorem dX6_ifFree_30 : decode cX6_ifFree 30 = .ok (.getfield 13, 3) := by decide +kernel
theorem dX6_ifFree_33 : decode cX6_ifFree 33 = .ok (.invokestatic 233, 3) := by decide +kernel
theorem dX6_ifFree_36 : decode cX6_ifFree 36 = .ok (.aload_n 0, 1) := by decide +kernel
theorem dX6_ifFree_37 : decode cX6_ifFree 37 = .ok (.getfield 13, 3) := by decide +kernel
theorem dX6_ifFree_40 : decode cX6_ifFree 40 = .ok (.iload_n 1, 1) := by decide +kernel
theorem dX6_ifFree_41 : decode cX6_ifFree 41 = .ok (.invokestatic 65, 3) := by decide +kernel
theorem dX6_ifFree_44 : decode cX6_ifFree 44 = .ok (.iconst 2, 1) := by decide +kernel
theorem dX6_ifFree_45 : decode cX6_ifFree 45 = .ok (.iadd, 1) := by decide +kernel
theorem dX6_ifFree_46 : decode cX6_ifFree 46 = .ok (.iconst 0, 1) := by decide +kernel
theorem dX6_ifFree_47 : decode cX6_ifFree 47 = .ok (.iastore, 1) := by decide +kernel
theorem dX6_ifFree_48 : decode cX6_ifFree 48 = .ok (.aload_n 0, 1) := by decide +kernel
theorem dX6_ifFree_49 : decode cX6_ifFree 49 = .ok (.getfield 13, 3) := by decide +kernel
theorem dX6_ifFree_52 : decode cX6_ifFree 52 = .ok (.iconst 1, 1) := by decide +kernel
theorem dX6_ifFree_53 : decode cX6_ifFree 53 = .ok (.invokestatic 208, 3) := by decide +kernel
theorem dX6_ifFree_56 : decode cX6_ifFree 56 = .ok (.ireturn, 1) := by decide +kernel
theorem dX6_keepsAll_0 : decode cX6_keepsAll 0 = .ok (.aload_n 0, 1) := by decide +kernel
theorem dX6_keepsAll_1 : decode cX6_keepsAll 1 = .ok (.getfield 7, 3) := by decide +kernel
theorem dX6_keepsAll_4 : decode cX6_keepsAll 4 = .ok (.aload_n 0, 1) := by decide +kernel
theorem dX6_keepsAll_5 : decode cX6_keepsAll 5 = .ok (.getfield 13, 3) := by decide +kernel
theorem dX6_keepsAll_8 : decode cX6_keepsAll 8 = .ok (.invokestatic 233, 3) := by decide +kernel
theorem dX6_keepsAll_11 : decode cX6_keepsAll 11 = .ok (.aload_n 0, 1) := by decide +kernel
theorem dX6_keepsAll_12 : decode cX6_keepsAll 12 = .ok (.getfield 13, 3) := by decide +kernel
theorem dX6_keepsAll_15 : decode cX6_keepsAll 15 = .ok (.sipush 613, 3) := by decide +kernel
theorem dX6_keepsAll_18 : decode cX6_keepsAll 18 = .ok (.iload_n 1, 1) := by decide +kernel
theorem dX6_keepsAll_19 : decode cX6_keepsAll 19 = .ok (.iastore, 1) := by decide +kernel
theorem dX6_keepsAll_20 : decode cX6_keepsAll 20 = .ok (.aload_n 0, 1) := by decide +kernel
theorem dX6_keepsAll_21 : decode cX6_keepsAll 21 = .ok (.getfield 13, 3) := by decide +kernel
theorem dX6_keepsAll_24 : decode cX6_keepsAll 24 = .ok (.iload_n 2, 1) := by decide +kernel
theorem dX6_keepsAll_25 : decode cX6_keepsAll 25 = .ok (.invokestatic 208, 3) := by decide +kernel
theorem dX6_keepsAll_28 : decode cX6_keepsAll 28 = .ok (.ifCond .ne 7, 3) := by decide +kernel
theorem dX6_keepsAll_31 : decode cX6_keepsAll 31 = .ok (.iconst 1, 1) := by decide +kernel
theorem dX6_keepsAll_32 : decode cX6_keepsAll 32 = .ok (.goto 4, 3) := by decide +kernel
theorem dX6_keepsAll_35 : decode cX6_keepsAll 35 = .ok (.iconst 0, 1) := by decide +kernel
theorem dX6_keepsAll_36 : decode cX6_keepsAll 36 = .ok (.ireturn, 1) := by decide +kernel
theorem dX6_leastRoom_0 : decode cX6_leastRoom 0 = .ok (.aload_n 0, 1) := by decide +kernel
theorem dX6_leastRoom_1 : decode cX6_leastRoom 1 = .ok (.iload_n 1, 1) := by decide +kernel
theorem dX6_leastRoom_2 : decode cX6_leastRoom 2 = .ok (.i2l, 1) := by decide +kernel
theorem dX6_leastRoom_3 : decode cX6_leastRoom 3 = .ok (.lconst 1, 1) := by decide +kernel
theorem dX6_leastRoom_4 : decode cX6_leastRoom 4 = .ok (.ldc2_w 58, 3) := by decide +kernel
theorem dX6_leastRoom_7 : decode cX6_leastRoom 7 = .ok (.invokestatic 44, 3) := by decide +kernel
theorem dX6_leastRoom_10 : decode cX6_leastRoom 10 = .ok (.ifCond .eq 7, 3) := by decide +kernel
theorem dX6_leastRoom_13 : decode cX6_leastRoom 13 = .ok (.iconst 0, 1) := by decide +kernel
theorem dX6_leastRoom_14 : decode cX6_leastRoom 14 = .ok (.goto 4, 3) := by decide +kernel
theorem dX6_leastRoom_17 : decode cX6_leastRoom 17 = .ok (.iconst 1, 1) := by decide +kernel
theorem dX6_leastRoom_18 : decode cX6_leastRoom 18 = .ok (.invokevirtual 136, 3) := by decide +kernel
theorem dX6_leastRoom_21 : decode cX6_leastRoom 21 = .ok (.ifCond .eq 5, 3) := by decide +kernel
theorem dX6_leastRoom_24 : decode cX6_leastRoom 24 = .ok (.iconst 0, 1) := by decide +kernel
theorem dX6_leastRoom_25 : decode cX6_leastRoom 25 = .ok (.ireturn, 1) := by decide +kernel
theorem dX6_leastRoom_26 : decode cX6_leastRoom 26 = .ok (.aload_n 0, 1) := by decide +kernel
theorem dX6_leastRoom_27 : decode cX6_leastRoom 27 = .ok (.getfield 7, 3) := by decide +kernel
theorem dX6_leastRoom_30 : decode cX6_leastRoom 30 = .ok (.aload_n 0, 1) := by decide +kernel
theorem dX6_leastRoom_31 : decode cX6_leastRoom 31 = .ok (.getfield 7, 3) := by decide +kernel
theorem dX6_leastRoom_34 : decode cX6_leastRoom 34 = .ok (.sipush 400, 3) := by decide +kernel
theorem dX6_leastRoom_37 : decode cX6_leastRoom 37 = .ok (.iaload, 1) := by decide +kernel
theorem dX6_leastRoom_38 : decode cX6_leastRoom 38 = .ok (.aload_n 0, 1) := by decide +kernel
theorem dX6_leastRoom_39 : decode cX6_leastRoom 39 = .ok (.getfield 7, 3) := by decide +kernel
theorem dX6_leastRoom_42 : decode cX6_leastRoom 42 = .ok (.sipush 401, 3) := by decide +kernel
theorem dX6_leastRoom_45 : decode cX6_leastRoom 45 = .ok (.iaload, 1) := by decide +kernel
theorem dX6_leastRoom_46 : decode cX6_leastRoom 46 = .ok (.invokestatic 80, 3) := by decide +kernel
theorem dX6_leastRoom_49 : decode cX6_leastRoom 49 = .ok (.istore_n 2, 1) := by decide +kernel
theorem dX6_leastRoom_50 : decode cX6_leastRoom 50 = .ok (.aload_n 0, 1) := by decide +kernel
theorem dX6_leastRoom_51 : decode cX6_leastRoom 51 = .ok (.iconst 0, 1) := by decide +kernel
theorem dX6_leastRoom_52 : decode cX6_leastRoom 52 = .ok (.iload_n 1, 1) := by decide +kernel
theorem dX6_leastRoom_53 : decode cX6_leastRoom 53 = .ok (.invokevirtual 264, 3) := by decide +kernel
theorem dX6_leastRoom_56 : decode cX6_leastRoom 56 = .ok (.ifCond .eq 5, 3) := by decide +kernel
theorem dX6_leastRoom_59 : decode cX6_leastRoom 59 = .ok (.iconst 0, 1) := by decide +kernel
theorem dX6_leastRoom_60 : decode cX6_leastRoom 60 = .ok (.ireturn, 1) := by decide +kernel
theorem dX6_leastRoom_61 : decode cX6_leastRoom 61 = .ok (.iload_n 2, 1) := by decide +kernel
theorem dX6_leastRoom_62 : decode cX6_leastRoom 62 = .ok (.sipush 4000, 3) := by decide +kernel
theorem dX6_leastRoom_65 : decode cX6_leastRoom 65 = .ok (.if_icmp .gt 16, 3) := by decide +kernel
theorem dX6_leastRoom_68 : decode cX6_leastRoom 68 = .ok (.aload_n 0, 1) := by decide +kernel
theorem dX6_leastRoom_69 : decode cX6_leastRoom 69 = .ok (.iload_n 2, 1) := by decide +kernel
theorem dX6_leastRoom_70 : decode cX6_leastRoom 70 = .ok (.iload_n 1, 1) := by decide +kernel
theorem dX6_leastRoom_71 : decode cX6_leastRoom 71 = .ok (.invokevirtual 264, 3) := by decide +kernel
theorem dX6_leastRoom_74 : decode cX6_leastRoom 74 = .ok (.ifCond .eq 7, 3) := by decide +kernel
theorem dX6_leastRoom_77 : decode cX6_leastRoom 77 = .ok (.iload_n 2, 1) := by decide +kernel
theorem dX6_leastRoom_78 : decode cX6_leastRoom 78 = .ok (.goto 4, 3) := by decide +kernel
theorem dX6_leastRoom_81 : decode cX6_leastRoom 81 = .ok (.iconst (-1), 1) := by decide +kernel
theorem dX6_leastRoom_82 : decode cX6_leastRoom 82 = .ok (.ireturn, 1) := by decide +kernel
theorem dX6_runWrite_0 : decode cX6_runWrite 0 = .ok (.iload_n 1, 1) := by decide +kernel
theorem dX6_runWrite_1 : decode cX6_runWrite 1 = .ok (.iload_n 2, 1) := by decide +kernel
theorem dX6_runWrite_2 : decode cX6_runWrite 2 = .ok (.iload_n 3, 1) := by decide +kernel
theorem dX6_runWrite_3 : decode cX6_runWrite 3 = .ok (.invokestatic 250, 3) := by decide +kernel
theorem dX6_runWrite_6 : decode cX6_runWrite 6 = .ok (.ifCond .eq 34, 3) := by decide +kernel
theorem dX6_runWrite_9 : decode cX6_runWrite 9 = .ok (.aload_n 0, 1) := by decide +kernel
theorem dX6_runWrite_10 : decode cX6_runWrite 10 = .ok (.getfield 13, 3) := by decide +kernel
theorem dX6_runWrite_13 : decode cX6_runWrite 13 = .ok (.sipush 401, 3) := by decide +kernel
theorem dX6_runWrite_16 : decode cX6_runWrite 16 = .ok (.iaload, 1) := by decide +kernel
theorem dX6_runWrite_17 : decode cX6_runWrite 17 = .ok (.sipush 200, 3) := by decide +kernel
theorem dX6_runWrite_20 : decode cX6_runWrite 20 = .ok (.if_icmp .ge 20, 3) := by decide +kernel
theorem dX6_runWrite_23 : decode cX6_runWrite 23 = .ok (.aload_n 0, 1) := by decide +kernel
theorem dX6_runWrite_24 : decode cX6_runWrite 24 = .ok (.getfield 13, 3) := by decide +kernel
theorem dX6_runWrite_27 : decode cX6_runWrite 27 = .ok (.iload_n 1, 1) := by decide +kernel
theorem dX6_runWrite_28 : decode cX6_runWrite 28 = .ok (.iload_n 2, 1) := by decide +kernel
theorem dX6_runWrite_29 : decode cX6_runWrite 29 = .ok (.iload_n 3, 1) := by decide +kernel
theorem dX6_runWrite_30 : decode cX6_runWrite 30 = .ok (.invokestatic 168, 3) := by decide +kernel
theorem dX6_runWrite_33 : decode cX6_runWrite 33 = .ok (.ifCond .lt 7, 3) := by decide +kernel
theorem dX6_runWrite_36 : decode cX6_runWrite 36 = .ok (.iconst 1, 1) := by decide +kernel
theorem dX6_runWrite_37 : decode cX6_runWrite 37 = .ok (.goto 4, 3) := by decide +kernel
theorem dX6_runWrite_40 : decode cX6_runWrite 40 = .ok (.iconst 0, 1) := by decide +kernel
theorem dX6_runWrite_41 : decode cX6_runWrite 41 = .ok (.ireturn, 1) := by decide +kernel
theorem dX6_runRead_0 : decode cX6_runRead 0 = .ok (.aload_n 0, 1) := by decide +kernel
theorem dX6_runRead_1 : decode cX6_runRead 1 = .ok (.getfield 13, 3) := by decide +kernel
theorem dX6_runRead_4 : decode cX6_runRead 4 = .ok (.iload_n 1, 1) := by decide +kernel
theorem dX6_runRead_5 : decode cX6_runRead 5 = .ok (.invokestatic 184, 3) := by decide +kernel
theorem dX6_runRead_8 : decode cX6_runRead 8 = .ok (.ifCond .eq 31, 3) := by decide +kernel
theorem dX6_runRead_11 : decode cX6_runRead 11 = .ok (.iload_n 2, 1) := by decide +kernel
theorem dX6_runRead_12 : decode cX6_runRead 12 = .ok (.i2l, 1) := by decide +kernel
theorem dX6_runRead_13 : decode cX6_runRead 13 = .ok (.lconst 1, 1) := by decide +kernel
theorem dX6_runRead_14 : decode cX6_runRead 14 = .ok (.ldc2_w 259, 3) := by decide +kernel
theorem dX6_runRead_17 : decode cX6_runRead 17 = .ok (.invokestatic 44, 3) := by decide +kernel
theorem dX6_runRead_20 : decode cX6_runRead 20 = .ok (.ifCond .eq 19, 3) := by decide +kernel
theorem dX6_runRead_23 : decode cX6_runRead 23 = .ok (.aload_n 0, 1) := by decide +kernel
theorem dX6_runRead_24 : decode cX6_runRead 24 = .ok (.getfield 13, 3) := by decide +kernel
theorem dX6_runRead_27 : decode cX6_runRead 27 = .ok (.iload_n 1, 1) := by decide +kernel
theorem dX6_runRead_28 : decode cX6_runRead 28 = .ok (.iload_n 2, 1) := by decide +kernel
theorem dX6_runRead_29 : decode cX6_runRead 29 = .ok (.invokestatic 202, 3) := by decide +kernel
theorem dX6_runRead_32 : decode cX6_runRead 32 = .ok (.ifCond .eq 7, 3) := by decide +kernel
theorem dX6_runRead_35 : decode cX6_runRead 35 = .ok (.iconst 1, 1) := by decide +kernel
theorem dX6_runRead_36 : decode cX6_runRead 36 = .ok (.goto 4, 3) := by decide +kernel
theorem dX6_runRead_39 : decode cX6_runRead 39 = .ok (.iconst 0, 1) := by decide +kernel
theorem dX6_runRead_40 : decode cX6_runRead 40 = .ok (.ireturn, 1) := by decide +kernel
theorem dX6_runJoin_0 : decode cX6_runJoin 0 = .ok (.iload_n 1, 1) := by decide +kernel
theorem dX6_runJoin_1 : decode cX6_runJoin 1 = .ok (.invokestatic 62, 3) := by decide +kernel
theorem dX6_runJoin_4 : decode cX6_runJoin 4 = .ok (.ifCond .eq 45, 3) := by decide +kernel
theorem dX6_runJoin_7 : decode cX6_runJoin 7 = .ok (.iload_n 2, 1) := by decide +kernel
theorem dX6_runJoin_8 : decode cX6_runJoin 8 = .ok (.i2l, 1) := by decide +kernel
theorem dX6_runJoin_9 : decode cX6_runJoin 9 = .ok (.lconst 0, 1) := by decide +kernel
theorem dX6_runJoin_10 : decode cX6_runJoin 10 = .ok (.ldc2_w 257, 3) := by decide +kernel
theorem dX6_runJoin_13 : decode cX6_runJoin 13 = .ok (.invokestatic 44, 3) := by decide +kernel
theorem dX6_runJoin_16 : decode cX6_runJoin 16 = .ok (.ifCond .eq 33, 3) := by decide +kernel
theorem dX6_runJoin_19 : decode cX6_runJoin 19 = .ok (.aload_n 0, 1) := by decide +kernel
theorem dX6_runJoin_20 : decode cX6_runJoin 20 = .ok (.getfield 13, 3) := by decide +kernel
theorem dX6_runJoin_23 : decode cX6_runJoin 23 = .ok (.iload_n 1, 1) := by decide +kernel
theorem dX6_runJoin_24 : decode cX6_runJoin 24 = .ok (.iload_n 2, 1) := by decide +kernel
theorem dX6_runJoin_25 : decode cX6_runJoin 25 = .ok (.iload_n 3, 1) := by decide +kernel
theorem dX6_runJoin_26 : decode cX6_runJoin 26 = .ok (.invokestatic 176, 3) := by decide +kernel
theorem dX6_runJoin_29 : decode cX6_runJoin 29 = .ok (.ifCond .eq 20, 3) := by decide +kernel
theorem dX6_runJoin_32 : decode cX6_runJoin 32 = .ok (.aload_n 0, 1) := by decide +kernel
theorem dX6_runJoin_33 : decode cX6_runJoin 33 = .ok (.getfield 13, 3) := by decide +kernel
theorem dX6_runJoin_36 : decode cX6_runJoin 36 = .ok (.iload_n 1, 1) := by decide +kernel
theorem dX6_runJoin_37 : decode cX6_runJoin 37 = .ok (.iload_n 2, 1) := by decide +kernel
theorem dX6_runJoin_38 : decode cX6_runJoin 38 = .ok (.iload_n 3, 1) := by decide +kernel
theorem dX6_runJoin_39 : decode cX6_runJoin 39 = .ok (.invokestatic 180, 3) := by decide +kernel
theorem dX6_runJoin_42 : decode cX6_runJoin 42 = .ok (.ifCond .lt 7, 3) := by decide +kernel
theorem dX6_runJoin_45 : decode cX6_runJoin 45 = .ok (.iconst 1, 1) := by decide +kernel
theorem dX6_runJoin_46 : decode cX6_runJoin 46 = .ok (.goto 4, 3) := by decide +kernel
theorem dX6_runJoin_49 : decode cX6_runJoin 49 = .ok (.iconst 0, 1) := by decide +kernel
theorem dX6_runJoin_50 : decode cX6_runJoin 50 = .ok (.ireturn, 1) := by decide +kernel
theorem dX6_runLeave_0 : decode cX6_runLeave 0 = .ok (.aload_n 0, 1) := by decide +kernel
theorem dX6_runLeave_1 : decode cX6_runLeave 1 = .ok (.getfield 13, 3) := by decide +kernel
theorem dX6_runLeave_4 : decode cX6_runLeave 4 = .ok (.iload_n 1, 1) := by decide +kernel
theorem dX6_runLeave_5 : decode cX6_runLeave 5 = .ok (.invokestatic 184, 3) := by decide +kernel
theorem dX6_runLeave_8 : decode cX6_runLeave 8 = .ok (.ifCond .eq 18, 3) := by decide +kernel
theorem dX6_runLeave_11 : decode cX6_runLeave 11 = .ok (.aload_n 0, 1) := by decide +kernel
theorem dX6_runLeave_12 : decode cX6_runLeave 12 = .ok (.getfield 13, 3) := by decide +kernel
theorem dX6_runLeave_15 : decode cX6_runLeave 15 = .ok (.iload_n 1, 1) := by decide +kernel
theorem dX6_runLeave_16 : decode cX6_runLeave 16 = .ok (.invokestatic 205, 3) := by decide +kernel
theorem dX6_runLeave_19 : decode cX6_runLeave 19 = .ok (.ifCond .lt 7, 3) := by decide +kernel
theorem dX6_runLeave_22 : decode cX6_runLeave 22 = .ok (.iconst 1, 1) := by decide +kernel
theorem dX6_runLeave_23 : decode cX6_runLeave 23 = .ok (.goto 4, 3) := by decide +kernel
theorem dX6_runLeave_26 : decode cX6_runLeave 26 = .ok (.iconst 0, 1) := by decide +kernel
theorem dX6_runLeave_27 : decode cX6_runLeave 27 = .ok (.ireturn, 1) := by decide +kernel
theorem dX6_runTicks_0 : decode cX6_runTicks 0 = .ok (.iload_n 1, 1) := by decide +kernel
theorem dX6_runTicks_1 : decode cX6_runTicks 1 = .ok (.i2l, 1) := by decide +kernel
theorem dX6_runTicks_2 : decode cX6_runTicks 2 = .ok (.lconst 1, 1) := by decide +kernel
theorem dX6_runTicks_3 : decode cX6_runTicks 3 = .ok (.ldc2_w 52, 3) := by decide +kernel
theorem dX6_runTicks_6 : decode cX6_runTicks 6 = .ok (.invokestatic 44, 3) := by decide +kernel
theorem dX6_runTicks_9 : decode cX6_runTicks 9 = .ok (.ifCond .eq 18, 3) := by decide +kernel
theorem dX6_runTicks_12 : decode cX6_runTicks 12 = .ok (.aload_n 0, 1) := by decide +kernel
theorem dX6_runTicks_13 : decode cX6_runTicks 13 = .ok (.getfield 13, 3) := by decide +kernel
theorem dX6_runTicks_16 : decode cX6_runTicks 16 = .ok (.iload_n 1, 1) := by decide +kernel
theorem dX6_runTicks_17 : decode cX6_runTicks 17 = .ok (.invokestatic 208, 3) := by decide +kernel
theorem dX6_runTicks_20 : decode cX6_runTicks 20 = .ok (.ifCond .lt 7, 3) := by decide +kernel
theorem dX6_runTicks_23 : decode cX6_runTicks 23 = .ok (.iconst 1, 1) := by decide +kernel
theorem dX6_runTicks_24 : decode cX6_runTicks 24 = .ok (.goto 4, 3) := by decide +kernel
theorem dX6_runTicks_27 : decode cX6_runTicks 27 = .ok (.iconst 0, 1) := by decide +kernel
theorem dX6_runTicks_28 : decode cX6_runTicks 28 = .ok (.ireturn, 1) := by decide +kernel
theorem dX6_command_0 : decode cX6_command 0 = .ok (.iload_n 1, 1) := by decide +kernel
theorem dX6_command_1 : decode cX6_command 1 = .ok (.sipush 10000, 3) := by decide +kernel
theorem dX6_command_4 : decode cX6_command 4 = .ok (.idiv, 1) := by decide +kernel
theorem dX6_command_5 : decode cX6_command 5 = .ok (.bipush 10, 2) := by decide +kernel
theorem dX6_command_7 : decode cX6_command 7 = .ok (.irem, 1) := by decide +kernel
theorem dX6_command_8 : decode cX6_command 8 = .ok (.istore_n 2, 1) := by decide +kernel
theorem dX6_command_9 : decode cX6_command 9 = .ok (.iload_n 1, 1) := by decide +kernel
theorem dX6_command_10 : decode cX6_command 10 = .ok (.sipush 1000, 3) := by decide +kernel
theorem dX6_command_13 : decode cX6_command 13 = .ok (.idiv, 1) := by decide +kernel
theorem dX6_command_14 : decode cX6_command 14 = .ok (.bipush 10, 2) := by decide +kernel
theorem dX6_command_16 : decode cX6_command 16 = .ok (.irem, 1) := by decide +kernel
theorem dX6_command_17 : decode cX6_command 17 = .ok (.istore_n 3, 1) := by decide +kernel
theorem dX6_command_18 : decode cX6_command 18 = .ok (.iload_n 1, 1) := by decide +kernel
theorem dX6_command_19 : decode cX6_command 19 = .ok (.bipush 100, 2) := by decide +kernel
theorem dX6_command_21 : decode cX6_command 21 = .ok (.idiv, 1) := by decide +kernel
theorem dX6_command_22 : decode cX6_command 22 = .ok (.bipush 100, 2) := by decide +kernel
theorem dX6_command_24 : decode cX6_command 24 = .ok (.irem, 1) := by decide +kernel
theorem dX6_command_25 : decode cX6_command 25 = .ok (.istore 4, 2) := by decide +kernel
theorem dX6_command_27 : decode cX6_command 27 = .ok (.iload_n 1, 1) := by decide +kernel
theorem dX6_command_28 : decode cX6_command 28 = .ok (.bipush 100, 2) := by decide +kernel
theorem dX6_command_30 : decode cX6_command 30 = .ok (.irem, 1) := by decide +kernel
theorem dX6_command_31 : decode cX6_command 31 = .ok (.istore 5, 2) := by decide +kernel
theorem dX6_command_33 : decode cX6_command 33 = .ok (.iload_n 1, 1) := by decide +kernel
theorem dX6_command_34 : decode cX6_command 34 = .ok (.bipush 10, 2) := by decide +kernel
theorem dX6_command_36 : decode cX6_command 36 = .ok (.irem, 1) := by decide +kernel
theorem dX6_command_37 : decode cX6_command 37 = .ok (.istore 6, 2) := by decide +kernel
theorem dX6_command_39 : decode cX6_command 39 = .ok (.iload_n 1, 1) := by decide +kernel
theorem dX6_command_40 : decode cX6_command 40 = .ok (.sipush 10000, 3) := by decide +kernel
theorem dX6_command_43 : decode cX6_command 43 = .ok (.irem, 1) := by decide +kernel
theorem dX6_command_44 : decode cX6_command 44 = .ok (.istore 7, 2) := by decide +kernel
theorem dX6_command_46 : decode cX6_command 46 = .ok (.iload_n 1, 1) := by decide +kernel
theorem dX6_command_47 : decode cX6_command 47 = .ok (.ldc_w 267, 3) := by decide +kernel
theorem dX6_command_50 : decode cX6_command 50 = .ok (.irem, 1) := by decide +kernel
theorem dX6_command_51 : decode cX6_command 51 = .ok (.istore 8, 2) := by decide +kernel
theorem dX6_command_53 : decode cX6_command 53 = .ok (.iload_n 1, 1) := by decide +kernel
theorem dX6_command_54 : decode cX6_command 54 = .ok (.ldc_w 267, 3) := by decide +kernel
theorem dX6_command_57 : decode cX6_command 57 = .ok (.idiv, 1) := by decide +kernel
theorem dX6_command_58 : decode cX6_command 58 = .ok (.tableswitch 307 1 9 #[50, 60, 83, 118, 137, 159, 200, 241, 268], 50) := by decide +kernel
theorem dX6_command_108 : decode cX6_command 108 = .ok (.aload_n 0, 1) := by decide +kernel
theorem dX6_command_109 : decode cX6_command 109 = .ok (.iload_n 2, 1) := by decide +kernel
theorem dX6_command_110 : decode cX6_command 110 = .ok (.iload 4, 2) := by decide +kernel
theorem dX6_command_112 : decode cX6_command 112 = .ok (.iload 5, 2) := by decide +kernel
theorem dX6_command_114 : decode cX6_command 114 = .ok (.invokevirtual 268, 3) := by decide +kernel
theorem dX6_command_117 : decode cX6_command 117 = .ok (.ireturn, 1) := by decide +kernel
theorem dX6_command_118 : decode cX6_command 118 = .ok (.iload 7, 2) := by decide +kernel
theorem dX6_command_120 : decode cX6_command 120 = .ok (.bipush 100, 2) := by decide +kernel
theorem dX6_command_122 : decode cX6_command 122 = .ok (.if_icmp .ge 17, 3) := by decide +kernel
theorem dX6_command_125 : decode cX6_command 125 = .ok (.aload_n 0, 1) := by decide +kernel
theorem dX6_command_126 : decode cX6_command 126 = .ok (.iload_n 2, 1) := by decide +kernel
theorem dX6_command_127 : decode cX6_command 127 = .ok (.iload 5, 2) := by decide +kernel
theorem dX6_command_129 : decode cX6_command 129 = .ok (.invokevirtual 271, 3) := by decide +kernel
theorem dX6_command_132 : decode cX6_command 132 = .ok (.ifCond .eq 7, 3) := by decide +kernel
theorem dX6_command_135 : decode cX6_command 135 = .ok (.iconst 1, 1) := by decide +kernel
theorem dX6_command_136 : decode cX6_command 136 = .ok (.goto 4, 3) := by decide +kernel
theorem dX6_command_139 : decode cX6_command 139 = .ok (.iconst 0, 1) := by decide +kernel
theorem dX6_command_140 : decode cX6_command 140 = .ok (.ireturn, 1) := by decide +kernel
theorem dX6_command_141 : decode cX6_command 141 = .ok (.iload_n 1, 1) := by decide +kernel
theorem dX6_command_142 : decode cX6_command 142 = .ok (.sipush 1000, 3) := by decide +kernel
theorem dX6_command_145 : decode cX6_command 145 = .ok (.irem, 1) := by decide +kernel
theorem dX6_command_146 : decode cX6_command 146 = .ok (.iconst 2, 1) := by decide +kernel
theorem dX6_command_147 : decode cX6_command 147 = .ok (.if_icmp .ge 27, 3) := by decide +kernel
theorem dX6_command_150 : decode cX6_command 150 = .ok (.aload_n 0, 1) := by decide +kernel
theorem dX6_command_151 : decode cX6_command 151 = .ok (.iload_n 2, 1) := by decide +kernel
theorem dX6_command_152 : decode cX6_command 152 = .ok (.iload_n 3, 1) := by decide +kernel
theorem dX6_command_153 : decode cX6_command 153 = .ok (.iload 6, 2) := by decide +kernel
theorem dX6_command_155 : decode cX6_command 155 = .ok (.iconst 1, 1) := by decide +kernel
theorem dX6_command_156 : decode cX6_command 156 = .ok (.if_icmp .ne 7, 3) := by decide +kernel
theorem dX6_command_159 : decode cX6_command 159 = .ok (.iconst 1, 1) := by decide +kernel
theorem dX6_command_160 : decode cX6_command 160 = .ok (.goto 4, 3) := by decide +kernel
theorem dX6_command_163 : decode cX6_command 163 = .ok (.iconst 0, 1) := by decide +kernel
theorem dX6_command_164 : decode cX6_command 164 = .ok (.invokevirtual 274, 3) := by decide +kernel
theorem dX6_command_167 : decode cX6_command 167 = .ok (.ifCond .eq 7, 3) := by decide +kernel
theorem dX6_command_170 : decode cX6_command 170 = .ok (.iconst 1, 1) := by decide +kernel
theorem dX6_command_171 : decode cX6_command 171 = .ok (.goto 4, 3) := by decide +kernel
theorem dX6_command_174 : decode cX6_command 174 = .ok (.iconst 0, 1) := by decide +kernel
theorem dX6_command_175 : decode cX6_command 175 = .ok (.ireturn, 1) := by decide +kernel
theorem dX6_command_176 : decode cX6_command 176 = .ok (.iload 7, 2) := by decide +kernel
theorem dX6_command_178 : decode cX6_command 178 = .ok (.ifCond .ne 15, 3) := by decide +kernel
theorem dX6_command_181 : decode cX6_command 181 = .ok (.aload_n 0, 1) := by decide +kernel
theorem dX6_command_182 : decode cX6_command 182 = .ok (.iload_n 2, 1) := by decide +kernel
theorem dX6_command_183 : decode cX6_command 183 = .ok (.invokevirtual 278, 3) := by decide +kernel
theorem dX6_command_186 : decode cX6_command 186 = .ok (.ifCond .eq 7, 3) := by decide +kernel
theorem dX6_command_189 : decode cX6_command 189 = .ok (.iconst 1, 1) := by decide +kernel
theorem dX6_command_190 : decode cX6_command 190 = .ok (.goto 4, 3) := by decide +kernel
theorem dX6_command_193 : decode cX6_command 193 = .ok (.iconst 0, 1) := by decide +kernel
theorem dX6_command_194 : decode cX6_command 194 = .ok (.ireturn, 1) := by decide +kernel
theorem dX6_command_195 : decode cX6_command 195 = .ok (.iload 8, 2) := by decide +kernel
theorem dX6_command_197 : decode cX6_command 197 = .ok (.bipush 100, 2) := by decide +kernel
theorem dX6_command_199 : decode cX6_command 199 = .ok (.if_icmp .ge 16, 3) := by decide +kernel
theorem dX6_command_202 : decode cX6_command 202 = .ok (.aload_n 0, 1) := by decide +kernel
theorem dX6_command_203 : decode cX6_command 203 = .ok (.iload 5, 2) := by decide +kernel
theorem dX6_command_205 : decode cX6_command 205 = .ok (.invokevirtual 281, 3) := by decide +kernel
theorem dX6_command_208 : decode cX6_command 208 = .ok (.ifCond .eq 7, 3) := by decide +kernel
theorem dX6_command_211 : decode cX6_command 211 = .ok (.iconst 1, 1) := by decide +kernel
theorem dX6_command_212 : decode cX6_command 212 = .ok (.goto 4, 3) := by decide +kernel
theorem dX6_command_215 : decode cX6_command 215 = .ok (.iconst 0, 1) := by decide +kernel
theorem dX6_command_216 : decode cX6_command 216 = .ok (.ireturn, 1) := by decide +kernel
theorem dX6_command_217 : decode cX6_command 217 = .ok (.iload 7, 2) := by decide +kernel
theorem dX6_command_219 : decode cX6_command 219 = .ok (.sipush 1000, 3) := by decide +kernel
theorem dX6_command_222 : decode cX6_command 222 = .ok (.if_icmp .ge 34, 3) := by decide +kernel
theorem dX6_command_225 : decode cX6_command 225 = .ok (.aload_n 0, 1) := by decide +kernel
theorem dX6_command_226 : decode cX6_command 226 = .ok (.getfield 13, 3) := by decide +kernel
theorem dX6_command_229 : decode cX6_command 229 = .ok (.iload_n 2, 1) := by decide +kernel
theorem dX6_command_230 : decode cX6_command 230 = .ok (.invokestatic 184, 3) := by decide +kernel
theorem dX6_command_233 : decode cX6_command 233 = .ok (.ifCond .eq 23, 3) := by decide +kernel
theorem dX6_command_236 : decode cX6_command 236 = .ok (.aload_n 0, 1) := by decide +kernel
theorem dX6_command_237 : decode cX6_command 237 = .ok (.getfield 13, 3) := by decide +kernel
theorem dX6_command_240 : decode cX6_command 240 = .ok (.iload_n 2, 1) := by decide +kernel
theorem dX6_command_241 : decode cX6_command 241 = .ok (.invokestatic 65, 3) := by decide +kernel
theorem dX6_command_244 : decode cX6_command 244 = .ok (.iconst 1, 1) := by decide +kernel
theorem dX6_command_245 : decode cX6_command 245 = .ok (.iadd, 1) := by decide +kernel
theorem dX6_command_246 : decode cX6_command 246 = .ok (.iaload, 1) := by decide +kernel
theorem dX6_command_247 : decode cX6_command 247 = .ok (.iload 7, 2) := by decide +kernel
theorem dX6_command_249 : decode cX6_command 249 = .ok (.if_icmp .lt 7, 3) := by decide +kernel
theorem dX6_command_252 : decode cX6_command 252 = .ok (.iconst 1, 1) := by decide +kernel
theorem dX6_command_253 : decode cX6_command 253 = .ok (.goto 4, 3) := by decide +kernel
theorem dX6_command_256 : decode cX6_command 256 = .ok (.iconst 0, 1) := by decide +kernel
theorem dX6_command_257 : decode cX6_command 257 = .ok (.ireturn, 1) := by decide +kernel
theorem dX6_command_258 : decode cX6_command 258 = .ok (.iload 7, 2) := by decide +kernel
theorem dX6_command_260 : decode cX6_command 260 = .ok (.bipush 100, 2) := by decide +kernel
theorem dX6_command_262 : decode cX6_command 262 = .ok (.if_icmp .ge 35, 3) := by decide +kernel
theorem dX6_command_265 : decode cX6_command 265 = .ok (.iload_n 2, 1) := by decide +kernel
theorem dX6_command_266 : decode cX6_command 266 = .ok (.invokestatic 48, 3) := by decide +kernel
theorem dX6_command_269 : decode cX6_command 269 = .ok (.ifCond .eq 28, 3) := by decide +kernel
theorem dX6_command_272 : decode cX6_command 272 = .ok (.aload_n 0, 1) := by decide +kernel
theorem dX6_command_273 : decode cX6_command 273 = .ok (.getfield 13, 3) := by decide +kernel
theorem dX6_command_276 : decode cX6_command 276 = .ok (.iload_n 2, 1) := by decide +kernel
theorem dX6_command_277 : decode cX6_command 277 = .ok (.aload_n 0, 1) := by decide +kernel
theorem dX6_command_278 : decode cX6_command 278 = .ok (.getfield 13, 3) := by decide +kernel
theorem dX6_command_281 : decode cX6_command 281 = .ok (.sipush 401, 3) := by decide +kernel
theorem dX6_command_284 : decode cX6_command 284 = .ok (.iaload, 1) := by decide +kernel
theorem dX6_command_285 : decode cX6_command 285 = .ok (.invokestatic 119, 3) := by decide +kernel
theorem dX6_command_288 : decode cX6_command 288 = .ok (.iload 5, 2) := by decide +kernel
theorem dX6_command_290 : decode cX6_command 290 = .ok (.if_icmp .ne 7, 3) := by decide +kernel
theorem dX6_command_293 : decode cX6_command 293 = .ok (.iconst 1, 1) := by decide +kernel
theorem dX6_command_294 : decode cX6_command 294 = .ok (.goto 4, 3) := by decide +kernel
theorem dX6_command_297 : decode cX6_command 297 = .ok (.iconst 0, 1) := by decide +kernel
theorem dX6_command_298 : decode cX6_command 298 = .ok (.ireturn, 1) := by decide +kernel
theorem dX6_command_299 : decode cX6_command 299 = .ok (.iload 8, 2) := by decide +kernel
theorem dX6_command_301 : decode cX6_command 301 = .ok (.sipush 1000, 3) := by decide +kernel
theorem dX6_command_304 : decode cX6_command 304 = .ok (.if_icmp .ge 20, 3) := by decide +kernel
theorem dX6_command_307 : decode cX6_command 307 = .ok (.aload_n 0, 1) := by decide +kernel
theorem dX6_command_308 : decode cX6_command 308 = .ok (.getfield 13, 3) := by decide +kernel
theorem dX6_command_311 : decode cX6_command 311 = .ok (.sipush 400, 3) := by decide +kernel
theorem dX6_command_314 : decode cX6_command 314 = .ok (.iaload, 1) := by decide +kernel
theorem dX6_command_315 : decode cX6_command 315 = .ok (.iload 8, 2) := by decide +kernel
theorem dX6_command_317 : decode cX6_command 317 = .ok (.if_icmp .lt 7, 3) := by decide +kernel
theorem dX6_command_320 : decode cX6_command 320 = .ok (.iconst 1, 1) := by decide +kernel
theorem dX6_command_321 : decode cX6_command 321 = .ok (.goto 4, 3) := by decide +kernel
theorem dX6_command_324 : decode cX6_command 324 = .ok (.iconst 0, 1) := by decide +kernel
theorem dX6_command_325 : decode cX6_command 325 = .ok (.ireturn, 1) := by decide +kernel
theorem dX6_command_326 : decode cX6_command 326 = .ok (.iload 7, 2) := by decide +kernel
theorem dX6_command_328 : decode cX6_command 328 = .ok (.iconst 2, 1) := by decide +kernel
theorem dX6_command_329 : decode cX6_command 329 = .ok (.if_icmp .ge 34, 3) := by decide +kernel
theorem dX6_command_332 : decode cX6_command 332 = .ok (.aload_n 0, 1) := by decide +kernel
theorem dX6_command_333 : decode cX6_command 333 = .ok (.getfield 13, 3) := by decide +kernel
theorem dX6_command_336 : decode cX6_command 336 = .ok (.iload_n 2, 1) := by decide +kernel
theorem dX6_command_337 : decode cX6_command 337 = .ok (.invokestatic 184, 3) := by decide +kernel
theorem dX6_command_340 : decode cX6_command 340 = .ok (.ifCond .eq 23, 3) := by decide +kernel
theorem dX6_command_343 : decode cX6_command 343 = .ok (.aload_n 0, 1) := by decide +kernel
theorem dX6_command_344 : decode cX6_command 344 = .ok (.getfield 13, 3) := by decide +kernel
theorem dX6_command_347 : decode cX6_command 347 = .ok (.iload_n 2, 1) := by decide +kernel
theorem dX6_command_348 : decode cX6_command 348 = .ok (.invokestatic 65, 3) := by decide +kernel
theorem dX6_command_351 : decode cX6_command 351 = .ok (.iconst 2, 1) := by decide +kernel
theorem dX6_command_352 : decode cX6_command 352 = .ok (.iadd, 1) := by decide +kernel
theorem dX6_command_353 : decode cX6_command 353 = .ok (.iaload, 1) := by decide +kernel
theorem dX6_command_354 : decode cX6_command 354 = .ok (.iload 6, 2) := by decide +kernel
theorem dX6_command_356 : decode cX6_command 356 = .ok (.if_icmp .ne 7, 3) := by decide +kernel
theorem dX6_command_359 : decode cX6_command 359 = .ok (.iconst 1, 1) := by decide +kernel
theorem dX6_command_360 : decode cX6_command 360 = .ok (.goto 4, 3) := by decide +kernel
theorem dX6_command_363 : decode cX6_command 363 = .ok (.iconst 0, 1) := by decide +kernel
theorem dX6_command_364 : decode cX6_command 364 = .ok (.ireturn, 1) := by decide +kernel
theorem dX6_command_365 : decode cX6_command 365 = .ok (.iconst 0, 1) := by decide +kernel
theorem dX6_command_366 : decode cX6_command 366 = .ok (.ireturn, 1) := by decide +kernel
theorem dX6_runScript_0 : decode cX6_runScript 0 = .ok (.aload_n 0, 1) := by decide +kernel
theorem dX6_runScript_1 : decode cX6_runScript 1 = .ok (.iload_n 1, 1) := by decide +kernel
theorem dX6_runScript_2 : decode cX6_runScript 2 = .ok (.i2l, 1) := by decide +kernel
theorem dX6_runScript_3 : decode cX6_runScript 3 = .ok (.lconst 1, 1) := by decide +kernel
theorem dX6_runScript_4 : decode cX6_runScript 4 = .ok (.ldc2_w 284, 3) := by decide +kernel
theorem dX6_runScript_7 : decode cX6_runScript 7 = .ok (.invokestatic 44, 3) := by decide +kernel
theorem dX6_runScript_10 : decode cX6_runScript 10 = .ok (.ifCond .eq 24, 3) := by decide +kernel
theorem dX6_runScript_13 : decode cX6_runScript 13 = .ok (.lload_n 2, 1) := by decide +kernel
theorem dX6_runScript_14 : decode cX6_runScript 14 = .ok (.lconst 0, 1) := by decide +kernel
theorem dX6_runScript_15 : decode cX6_runScript 15 = .ok (.bipush 6, 2) := by decide +kernel
theorem dX6_runScript_17 : decode cX6_runScript 17 = .ok (.iload_n 1, 1) := by decide +kernel
theorem dX6_runScript_18 : decode cX6_runScript 18 = .ok (.imul, 1) := by decide +kernel
theorem dX6_runScript_19 : decode cX6_runScript 19 = .ok (.invokestatic 286, 3) := by decide +kernel
theorem dX6_runScript_22 : decode cX6_runScript 22 = .ok (.lconst 1, 1) := by decide +kernel
theorem dX6_runScript_23 : decode cX6_runScript 23 = .ok (.lsub, 1) := by decide +kernel
theorem dX6_runScript_24 : decode cX6_runScript 24 = .ok (.invokestatic 44, 3) := by decide +kernel
theorem dX6_runScript_27 : decode cX6_runScript 27 = .ok (.ifCond .eq 7, 3) := by decide +kernel
theorem dX6_runScript_30 : decode cX6_runScript 30 = .ok (.iconst 0, 1) := by decide +kernel
theorem dX6_runScript_31 : decode cX6_runScript 31 = .ok (.goto 4, 3) := by decide +kernel
theorem dX6_runScript_34 : decode cX6_runScript 34 = .ok (.iconst 1, 1) := by decide +kernel
theorem dX6_runScript_35 : decode cX6_runScript 35 = .ok (.invokevirtual 136, 3) := by decide +kernel
theorem dX6_runScript_38 : decode cX6_runScript 38 = .ok (.ifCond .eq 5, 3) := by decide +kernel
theorem dX6_runScript_41 : decode cX6_runScript 41 = .ok (.iconst 0, 1) := by decide +kernel
theorem dX6_runScript_42 : decode cX6_runScript 42 = .ok (.ireturn, 1) := by decide +kernel
theorem dX6_runScript_43 : decode cX6_runScript 43 = .ok (.aload_n 0, 1) := by decide +kernel
theorem dX6_runScript_44 : decode cX6_runScript 44 = .ok (.getfield 7, 3) := by decide +kernel
theorem dX6_runScript_47 : decode cX6_runScript 47 = .ok (.aload_n 0, 1) := by decide +kernel
theorem dX6_runScript_48 : decode cX6_runScript 48 = .ok (.getfield 13, 3) := by decide +kernel
theorem dX6_runScript_51 : decode cX6_runScript 51 = .ok (.invokestatic 233, 3) := by decide +kernel
theorem dX6_runScript_54 : decode cX6_runScript 54 = .ok (.iconst 0, 1) := by decide +kernel
theorem dX6_runScript_55 : decode cX6_runScript 55 = .ok (.istore 4, 2) := by decide +kernel
theorem dX6_runScript_57 : decode cX6_runScript 57 = .ok (.iload 4, 2) := by decide +kernel
theorem dX6_runScript_59 : decode cX6_runScript 59 = .ok (.iload_n 1, 1) := by decide +kernel
theorem dX6_runScript_60 : decode cX6_runScript 60 = .ok (.if_icmp .ge 38, 3) := by decide +kernel
theorem dX6_runScript_63 : decode cX6_runScript 63 = .ok (.aload_n 0, 1) := by decide +kernel
theorem dX6_runScript_64 : decode cX6_runScript 64 = .ok (.lload_n 2, 1) := by decide +kernel
theorem dX6_runScript_65 : decode cX6_runScript 65 = .ok (.bipush 6, 2) := by decide +kernel
theorem dX6_runScript_67 : decode cX6_runScript 67 = .ok (.iload_n 1, 1) := by decide +kernel
theorem dX6_runScript_68 : decode cX6_runScript 68 = .ok (.iconst 1, 1) := by decide +kernel
theorem dX6_runScript_69 : decode cX6_runScript 69 = .ok (.isub, 1) := by decide +kernel
theorem dX6_runScript_70 : decode cX6_runScript 70 = .ok (.iload 4, 2) := by decide +kernel
theorem dX6_runScript_72 : decode cX6_runScript 72 = .ok (.isub, 1) := by decide +kernel
theorem dX6_runScript_73 : decode cX6_runScript 73 = .ok (.imul, 1) := by decide +kernel
theorem dX6_runScript_74 : decode cX6_runScript 74 = .ok (.invokestatic 286, 3) := by decide +kernel
theorem dX6_runScript_77 : decode cX6_runScript 77 = .ok (.ldiv, 1) := by decide +kernel
theorem dX6_runScript_78 : decode cX6_runScript 78 = .ok (.ldc2_w 290, 3) := by decide +kernel
theorem dX6_runScript_81 : decode cX6_runScript 81 = .ok (.lrem, 1) := by decide +kernel
theorem dX6_runScript_82 : decode cX6_runScript 82 = .ok (.l2i, 1) := by decide +kernel
theorem dX6_runScript_83 : decode cX6_runScript 83 = .ok (.invokevirtual 292, 3) := by decide +kernel
theorem dX6_runScript_86 : decode cX6_runScript 86 = .ok (.ifCond .ne 6, 3) := by decide +kernel
theorem dX6_runScript_89 : decode cX6_runScript 89 = .ok (.iload 4, 2) := by decide +kernel
theorem dX6_runScript_91 : decode cX6_runScript 91 = .ok (.ireturn, 1) := by decide +kernel
theorem dX6_runScript_92 : decode cX6_runScript 92 = .ok (.iinc 4 1, 3) := by decide +kernel
theorem dX6_runScript_95 : decode cX6_runScript 95 = .ok (.goto (-38), 3) := by decide +kernel
theorem dX6_runScript_98 : decode cX6_runScript 98 = .ok (.iconst (-1), 1) := by decide +kernel
theorem dX6_runScript_99 : decode cX6_runScript 99 = .ok (.ireturn, 1) := by decide +kernel
theorem dX6_runHold_0 : decode cX6_runHold 0 = .ok (.aload_n 0, 1) := by decide +kernel
theorem dX6_runHold_1 : decode cX6_runHold 1 = .ok (.getfield 13, 3) := by decide +kernel
theorem dX6_runHold_4 : decode cX6_runHold 4 = .ok (.iload_n 1, 1) := by decide +kernel
theorem dX6_runHold_5 : decode cX6_runHold 5 = .ok (.invokestatic 184, 3) := by decide +kernel
theorem dX6_runHold_8 : decode cX6_runHold 8 = .ok (.ifCond .eq 31, 3) := by decide +kernel
theorem dX6_runHold_11 : decode cX6_runHold 11 = .ok (.aload_n 0, 1) := by decide +kernel
theorem dX6_runHold_12 : decode cX6_runHold 12 = .ok (.getfield 13, 3) := by decide +kernel
theorem dX6_runHold_15 : decode cX6_runHold 15 = .ok (.iload_n 1, 1) := by decide +kernel
theorem dX6_runHold_16 : decode cX6_runHold 16 = .ok (.iload_n 2, 1) := by decide +kernel
theorem dX6_runHold_17 : decode cX6_runHold 17 = .ok (.invokestatic 187, 3) := by decide +kernel
theorem dX6_runHold_20 : decode cX6_runHold 20 = .ok (.ifCond .eq 19, 3) := by decide +kernel
theorem dX6_runHold_23 : decode cX6_runHold 23 = .ok (.aload_n 0, 1) := by decide +kernel
theorem dX6_runHold_24 : decode cX6_runHold 24 = .ok (.getfield 13, 3) := by decide +kernel
theorem dX6_runHold_27 : decode cX6_runHold 27 = .ok (.iload_n 1, 1) := by decide +kernel
theorem dX6_runHold_28 : decode cX6_runHold 28 = .ok (.iload_n 2, 1) := by decide +kernel
theorem dX6_runHold_29 : decode cX6_runHold 29 = .ok (.invokestatic 191, 3) := by decide +kernel
theorem dX6_runHold_32 : decode cX6_runHold 32 = .ok (.ifCond .lt 7, 3) := by decide +kernel
theorem dX6_runHold_35 : decode cX6_runHold 35 = .ok (.iconst 1, 1) := by decide +kernel
theorem dX6_runHold_36 : decode cX6_runHold 36 = .ok (.goto 4, 3) := by decide +kernel
theorem dX6_runHold_39 : decode cX6_runHold 39 = .ok (.iconst 0, 1) := by decide +kernel
theorem dX6_runHold_40 : decode cX6_runHold 40 = .ok (.ireturn, 1) := by decide +kernel
theorem dX6_stir_0 : decode cX6_stir 0 = .ok (.iload_n 1, 1) := by decide +kernel
theorem dX6_stir_1 : decode cX6_stir 1 = .ok (.bipush 16, 2) := by decide +kernel
theorem dX6_stir_3 : decode cX6_stir 3 = .ok (.idiv, 1) := by decide +kernel
theorem dX6_stir_4 : decode cX6_stir 4 = .ok (.istore_n 2, 1) := by decide +kernel
theorem dX6_stir_5 : decode cX6_stir 5 = .ok (.iload_n 1, 1) := by decide +kernel
theorem dX6_stir_6 : decode cX6_stir 6 = .ok (.bipush 16, 2) := by decide +kernel
theorem dX6_stir_8 : decode cX6_stir 8 = .ok (.irem, 1) := by decide +kernel
theorem dX6_stir_9 : decode cX6_stir 9 = .ok (.tableswitch 239 0 11 #[63, 63, 63, 63, 63, 63, 93, 93, 127, 127, 149, 197], 63) := by decide +kernel
theorem dX6_stir_72 : decode cX6_stir 72 = .ok (.aload_n 0, 1) := by decide +kernel
theorem dX6_stir_73 : decode cX6_stir 73 = .ok (.iload_n 2, 1) := by decide +kernel
theorem dX6_stir_74 : decode cX6_stir 74 = .ok (.bipush 8, 2) := by decide +kernel
theorem dX6_stir_76 : decode cX6_stir 76 = .ok (.irem, 1) := by decide +kernel
theorem dX6_stir_77 : decode cX6_stir 77 = .ok (.iload_n 2, 1) := by decide +kernel
theorem dX6_stir_78 : decode cX6_stir 78 = .ok (.bipush 8, 2) := by decide +kernel
theorem dX6_stir_80 : decode cX6_stir 80 = .ok (.idiv, 1) := by decide +kernel
theorem dX6_stir_81 : decode cX6_stir 81 = .ok (.bipush 100, 2) := by decide +kernel
theorem dX6_stir_83 : decode cX6_stir 83 = .ok (.irem, 1) := by decide +kernel
theorem dX6_stir_84 : decode cX6_stir 84 = .ok (.iconst 1, 1) := by decide +kernel
theorem dX6_stir_85 : decode cX6_stir 85 = .ok (.iload_n 2, 1) := by decide +kernel
theorem dX6_stir_86 : decode cX6_stir 86 = .ok (.sipush 1024, 3) := by decide +kernel
theorem dX6_stir_89 : decode cX6_stir 89 = .ok (.idiv, 1) := by decide +kernel
theorem dX6_stir_90 : decode cX6_stir 90 = .ok (.bipush 40, 2) := by decide +kernel
theorem dX6_stir_92 : decode cX6_stir 92 = .ok (.irem, 1) := by decide +kernel
theorem dX6_stir_93 : decode cX6_stir 93 = .ok (.iadd, 1) := by decide +kernel
theorem dX6_stir_94 : decode cX6_stir 94 = .ok (.invokevirtual 268, 3) := by decide +kernel
theorem dX6_stir_97 : decode cX6_stir 97 = .ok (.istore 4, 2) := by decide +kernel
theorem dX6_stir_99 : decode cX6_stir 99 = .ok (.goto 161, 3) := by decide +kernel
theorem dX6_stir_102 : decode cX6_stir 102 = .ok (.aload_n 0, 1) := by decide +kernel
theorem dX6_stir_103 : decode cX6_stir 103 = .ok (.iload_n 2, 1) := by decide +kernel
theorem dX6_stir_104 : decode cX6_stir 104 = .ok (.bipush 8, 2) := by decide +kernel
theorem dX6_stir_106 : decode cX6_stir 106 = .ok (.irem, 1) := by decide +kernel
theorem dX6_stir_107 : decode cX6_stir 107 = .ok (.iload_n 2, 1) := by decide +kernel
theorem dX6_stir_108 : decode cX6_stir 108 = .ok (.bipush 8, 2) := by decide +kernel
theorem dX6_stir_110 : decode cX6_stir 110 = .ok (.idiv, 1) := by decide +kernel
theorem dX6_stir_111 : decode cX6_stir 111 = .ok (.iconst 3, 1) := by decide +kernel
theorem dX6_stir_112 : decode cX6_stir 112 = .ok (.irem, 1) := by decide +kernel
theorem dX6_stir_113 : decode cX6_stir 113 = .ok (.iload_n 2, 1) := by decide +kernel
theorem dX6_stir_114 : decode cX6_stir 114 = .ok (.bipush 32, 2) := by decide +kernel
theorem dX6_stir_116 : decode cX6_stir 116 = .ok (.idiv, 1) := by decide +kernel
theorem dX6_stir_117 : decode cX6_stir 117 = .ok (.iconst 2, 1) := by decide +kernel
theorem dX6_stir_118 : decode cX6_stir 118 = .ok (.irem, 1) := by decide +kernel
theorem dX6_stir_119 : decode cX6_stir 119 = .ok (.iconst 1, 1) := by decide +kernel
theorem dX6_stir_120 : decode cX6_stir 120 = .ok (.if_icmp .ne 7, 3) := by decide +kernel
theorem dX6_stir_123 : decode cX6_stir 123 = .ok (.iconst 1, 1) := by decide +kernel
theorem dX6_stir_124 : decode cX6_stir 124 = .ok (.goto 4, 3) := by decide +kernel
theorem dX6_stir_127 : decode cX6_stir 127 = .ok (.iconst 0, 1) := by decide +kernel
theorem dX6_stir_128 : decode cX6_stir 128 = .ok (.invokevirtual 274, 3) := by decide +kernel
theorem dX6_stir_131 : decode cX6_stir 131 = .ok (.istore 4, 2) := by decide +kernel
theorem dX6_stir_133 : decode cX6_stir 133 = .ok (.goto 127, 3) := by decide +kernel
theorem dX6_stir_136 : decode cX6_stir 136 = .ok (.aload_n 0, 1) := by decide +kernel
theorem dX6_stir_137 : decode cX6_stir 137 = .ok (.iload_n 2, 1) := by decide +kernel
theorem dX6_stir_138 : decode cX6_stir 138 = .ok (.bipush 8, 2) := by decide +kernel
theorem dX6_stir_140 : decode cX6_stir 140 = .ok (.irem, 1) := by decide +kernel
theorem dX6_stir_141 : decode cX6_stir 141 = .ok (.iconst 1, 1) := by decide +kernel
theorem dX6_stir_142 : decode cX6_stir 142 = .ok (.iload_n 2, 1) := by decide +kernel
theorem dX6_stir_143 : decode cX6_stir 143 = .ok (.bipush 8, 2) := by decide +kernel
theorem dX6_stir_145 : decode cX6_stir 145 = .ok (.idiv, 1) := by decide +kernel
theorem dX6_stir_146 : decode cX6_stir 146 = .ok (.bipush 12, 2) := by decide +kernel
theorem dX6_stir_148 : decode cX6_stir 148 = .ok (.irem, 1) := by decide +kernel
theorem dX6_stir_149 : decode cX6_stir 149 = .ok (.iadd, 1) := by decide +kernel
theorem dX6_stir_150 : decode cX6_stir 150 = .ok (.invokevirtual 271, 3) := by decide +kernel
theorem dX6_stir_153 : decode cX6_stir 153 = .ok (.istore 4, 2) := by decide +kernel
theorem dX6_stir_155 : decode cX6_stir 155 = .ok (.goto 105, 3) := by decide +kernel
theorem dX6_stir_158 : decode cX6_stir 158 = .ok (.iload_n 2, 1) := by decide +kernel
theorem dX6_stir_159 : decode cX6_stir 159 = .ok (.bipush 8, 2) := by decide +kernel
theorem dX6_stir_161 : decode cX6_stir 161 = .ok (.idiv, 1) := by decide +kernel
theorem dX6_stir_162 : decode cX6_stir 162 = .ok (.iconst 4, 1) := by decide +kernel
theorem dX6_stir_163 : decode cX6_stir 163 = .ok (.irem, 1) := by decide +kernel
theorem dX6_stir_164 : decode cX6_stir 164 = .ok (.ifCond .ne 14, 3) := by decide +kernel
theorem dX6_stir_167 : decode cX6_stir 167 = .ok (.aload_n 0, 1) := by decide +kernel
theorem dX6_stir_168 : decode cX6_stir 168 = .ok (.iload_n 2, 1) := by decide +kernel
theorem dX6_stir_169 : decode cX6_stir 169 = .ok (.bipush 8, 2) := by decide +kernel
theorem dX6_stir_171 : decode cX6_stir 171 = .ok (.irem, 1) := by decide +kernel
theorem dX6_stir_172 : decode cX6_stir 172 = .ok (.invokevirtual 278, 3) := by decide +kernel
theorem dX6_stir_175 : decode cX6_stir 175 = .ok (.goto 26, 3) := by decide +kernel
theorem dX6_stir_178 : decode cX6_stir 178 = .ok (.aload_n 0, 1) := by decide +kernel
theorem dX6_stir_179 : decode cX6_stir 179 = .ok (.iload_n 2, 1) := by decide +kernel
theorem dX6_stir_180 : decode cX6_stir 180 = .ok (.bipush 8, 2) := by decide +kernel
theorem dX6_stir_182 : decode cX6_stir 182 = .ok (.irem, 1) := by decide +kernel
theorem dX6_stir_183 : decode cX6_stir 183 = .ok (.iload_n 2, 1) := by decide +kernel
theorem dX6_stir_184 : decode cX6_stir 184 = .ok (.bipush 32, 2) := by decide +kernel
theorem dX6_stir_186 : decode cX6_stir 186 = .ok (.idiv, 1) := by decide +kernel
theorem dX6_stir_187 : decode cX6_stir 187 = .ok (.iconst 2, 1) := by decide +kernel
theorem dX6_stir_188 : decode cX6_stir 188 = .ok (.irem, 1) := by decide +kernel
theorem dX6_stir_189 : decode cX6_stir 189 = .ok (.iconst 1, 1) := by decide +kernel
theorem dX6_stir_190 : decode cX6_stir 190 = .ok (.if_icmp .ne 7, 3) := by decide +kernel
theorem dX6_stir_193 : decode cX6_stir 193 = .ok (.iconst 1, 1) := by decide +kernel
theorem dX6_stir_194 : decode cX6_stir 194 = .ok (.goto 4, 3) := by decide +kernel
theorem dX6_stir_197 : decode cX6_stir 197 = .ok (.iconst 0, 1) := by decide +kernel
theorem dX6_stir_198 : decode cX6_stir 198 = .ok (.invokevirtual 295, 3) := by decide +kernel
theorem dX6_stir_201 : decode cX6_stir 201 = .ok (.istore 4, 2) := by decide +kernel
theorem dX6_stir_203 : decode cX6_stir 203 = .ok (.goto 57, 3) := by decide +kernel
theorem dX6_stir_206 : decode cX6_stir 206 = .ok (.iload_n 2, 1) := by decide +kernel
theorem dX6_stir_207 : decode cX6_stir 207 = .ok (.sipush 1024, 3) := by decide +kernel
theorem dX6_stir_210 : decode cX6_stir 210 = .ok (.idiv, 1) := by decide +kernel
theorem dX6_stir_211 : decode cX6_stir 211 = .ok (.iconst 2, 1) := by decide +kernel
theorem dX6_stir_212 : decode cX6_stir 212 = .ok (.irem, 1) := by decide +kernel
theorem dX6_stir_213 : decode cX6_stir 213 = .ok (.ifCond .ne 19, 3) := by decide +kernel
theorem dX6_stir_216 : decode cX6_stir 216 = .ok (.aload_n 0, 1) := by decide +kernel
theorem dX6_stir_217 : decode cX6_stir 217 = .ok (.getfield 13, 3) := by decide +kernel
theorem dX6_stir_220 : decode cX6_stir 220 = .ok (.iconst 3, 1) := by decide +kernel
theorem dX6_stir_221 : decode cX6_stir 221 = .ok (.iload_n 2, 1) := by decide +kernel
theorem dX6_stir_222 : decode cX6_stir 222 = .ok (.sipush 600, 3) := by decide +kernel
theorem dX6_stir_225 : decode cX6_stir 225 = .ok (.irem, 1) := by decide +kernel
theorem dX6_stir_226 : decode cX6_stir 226 = .ok (.invokestatic 199, 3) := by decide +kernel
theorem dX6_stir_229 : decode cX6_stir 229 = .ok (.goto 15, 3) := by decide +kernel
theorem dX6_stir_232 : decode cX6_stir 232 = .ok (.aload_n 0, 1) := by decide +kernel
theorem dX6_stir_233 : decode cX6_stir 233 = .ok (.getfield 13, 3) := by decide +kernel
theorem dX6_stir_236 : decode cX6_stir 236 = .ok (.iconst 2, 1) := by decide +kernel
theorem dX6_stir_237 : decode cX6_stir 237 = .ok (.iload_n 2, 1) := by decide +kernel
theorem dX6_stir_238 : decode cX6_stir 238 = .ok (.bipush 20, 2) := by decide +kernel
theorem dX6_stir_240 : decode cX6_stir 240 = .ok (.irem, 1) := by decide +kernel
theorem dX6_stir_241 : decode cX6_stir 241 = .ok (.invokestatic 199, 3) := by decide +kernel
theorem dX6_stir_244 : decode cX6_stir 244 = .ok (.istore_n 3, 1) := by decide +kernel
theorem dX6_stir_245 : decode cX6_stir 245 = .ok (.goto 15, 3) := by decide +kernel
theorem dX6_stir_248 : decode cX6_stir 248 = .ok (.aload_n 0, 1) := by decide +kernel
theorem dX6_stir_249 : decode cX6_stir 249 = .ok (.iconst 1, 1) := by decide +kernel
theorem dX6_stir_250 : decode cX6_stir 250 = .ok (.iload_n 2, 1) := by decide +kernel
theorem dX6_stir_251 : decode cX6_stir 251 = .ok (.bipush 8, 2) := by decide +kernel
theorem dX6_stir_253 : decode cX6_stir 253 = .ok (.irem, 1) := by decide +kernel
theorem dX6_stir_254 : decode cX6_stir 254 = .ok (.iadd, 1) := by decide +kernel
theorem dX6_stir_255 : decode cX6_stir 255 = .ok (.invokevirtual 281, 3) := by decide +kernel
theorem dX6_stir_258 : decode cX6_stir 258 = .ok (.istore 4, 2) := by decide +kernel
theorem dX6_stir_260 : decode cX6_stir 260 = .ok (.return_, 1) := by decide +kernel
theorem dX6_simulate_0 : decode cX6_simulate 0 = .ok (.aload_n 0, 1) := by decide +kernel
theorem dX6_simulate_1 : decode cX6_simulate 1 = .ok (.iload_n 3, 1) := by decide +kernel
theorem dX6_simulate_2 : decode cX6_simulate 2 = .ok (.i2l, 1) := by decide +kernel
theorem dX6_simulate_3 : decode cX6_simulate 3 = .ok (.lconst 1, 1) := by decide +kernel
theorem dX6_simulate_4 : decode cX6_simulate 4 = .ok (.ldc2_w 299, 3) := by decide +kernel
theorem dX6_simulate_7 : decode cX6_simulate 7 = .ok (.invokestatic 44, 3) := by decide +kernel
theorem dX6_simulate_10 : decode cX6_simulate 10 = .ok (.ifCond .eq 7, 3) := by decide +kernel
theorem dX6_simulate_13 : decode cX6_simulate 13 = .ok (.iconst 0, 1) := by decide +kernel
theorem dX6_simulate_14 : decode cX6_simulate 14 = .ok (.goto 4, 3) := by decide +kernel
theorem dX6_simulate_17 : decode cX6_simulate 17 = .ok (.iconst 1, 1) := by decide +kernel
theorem dX6_simulate_18 : decode cX6_simulate 18 = .ok (.invokevirtual 136, 3) := by decide +kernel
theorem dX6_simulate_21 : decode cX6_simulate 21 = .ok (.ifCond .eq 5, 3) := by decide +kernel
theorem dX6_simulate_24 : decode cX6_simulate 24 = .ok (.iconst 0, 1) := by decide +kernel
theorem dX6_simulate_25 : decode cX6_simulate 25 = .ok (.ireturn, 1) := by decide +kernel
theorem dX6_simulate_26 : decode cX6_simulate 26 = .ok (.aload_n 0, 1) := by decide +kernel
theorem dX6_simulate_27 : decode cX6_simulate 27 = .ok (.getfield 7, 3) := by decide +kernel
theorem dX6_simulate_30 : decode cX6_simulate 30 = .ok (.aload_n 0, 1) := by decide +kernel
theorem dX6_simulate_31 : decode cX6_simulate 31 = .ok (.getfield 13, 3) := by decide +kernel
theorem dX6_simulate_34 : decode cX6_simulate 34 = .ok (.invokestatic 233, 3) := by decide +kernel
theorem dX6_simulate_37 : decode cX6_simulate 37 = .ok (.lload_n 1, 1) := by decide +kernel
theorem dX6_simulate_38 : decode cX6_simulate 38 = .ok (.lstore 4, 2) := by decide +kernel
theorem dX6_simulate_40 : decode cX6_simulate 40 = .ok (.iconst 0, 1) := by decide +kernel
theorem dX6_simulate_41 : decode cX6_simulate 41 = .ok (.istore 6, 2) := by decide +kernel
theorem dX6_simulate_43 : decode cX6_simulate 43 = .ok (.iload 6, 2) := by decide +kernel
theorem dX6_simulate_45 : decode cX6_simulate 45 = .ok (.iload_n 3, 1) := by decide +kernel
theorem dX6_simulate_46 : decode cX6_simulate 46 = .ok (.if_icmp .ge 31, 3) := by decide +kernel
theorem dX6_simulate_49 : decode cX6_simulate 49 = .ok (.lload 4, 2) := by decide +kernel
theorem dX6_simulate_51 : decode cX6_simulate 51 = .ok (.ldc2_w 301, 3) := by decide +kernel
theorem dX6_simulate_54 : decode cX6_simulate 54 = .ok (.lmul, 1) := by decide +kernel
theorem dX6_simulate_55 : decode cX6_simulate 55 = .ok (.ldc2_w 303, 3) := by decide +kernel
theorem dX6_simulate_58 : decode cX6_simulate 58 = .ok (.ladd, 1) := by decide +kernel
theorem dX6_simulate_59 : decode cX6_simulate 59 = .ok (.lstore 4, 2) := by decide +kernel
theorem dX6_simulate_61 : decode cX6_simulate 61 = .ok (.aload_n 0, 1) := by decide +kernel
theorem dX6_simulate_62 : decode cX6_simulate 62 = .ok (.lload 4, 2) := by decide +kernel
theorem dX6_simulate_64 : decode cX6_simulate 64 = .ok (.bipush 33, 2) := by decide +kernel
theorem dX6_simulate_66 : decode cX6_simulate 66 = .ok (.lushr, 1) := by decide +kernel
theorem dX6_simulate_67 : decode cX6_simulate 67 = .ok (.l2i, 1) := by decide +kernel
theorem dX6_simulate_68 : decode cX6_simulate 68 = .ok (.invokevirtual 305, 3) := by decide +kernel
theorem dX6_simulate_71 : decode cX6_simulate 71 = .ok (.iinc 6 1, 3) := by decide +kernel
theorem dX6_simulate_74 : decode cX6_simulate 74 = .ok (.goto (-31), 3) := by decide +kernel
theorem dX6_simulate_77 : decode cX6_simulate 77 = .ok (.aload_n 0, 1) := by decide +kernel
theorem dX6_simulate_78 : decode cX6_simulate 78 = .ok (.getfield 13, 3) := by decide +kernel
theorem dX6_simulate_81 : decode cX6_simulate 81 = .ok (.sipush 620, 3) := by decide +kernel
theorem dX6_simulate_84 : decode cX6_simulate 84 = .ok (.iaload, 1) := by decide +kernel
theorem dX6_simulate_85 : decode cX6_simulate 85 = .ok (.aload_n 0, 1) := by decide +kernel
theorem dX6_simulate_86 : decode cX6_simulate 86 = .ok (.getfield 7, 3) := by decide +kernel
theorem dX6_simulate_89 : decode cX6_simulate 89 = .ok (.sipush 620, 3) := by decide +kernel
theorem dX6_simulate_92 : decode cX6_simulate 92 = .ok (.iaload, 1) := by decide +kernel
theorem dX6_simulate_93 : decode cX6_simulate 93 = .ok (.isub, 1) := by decide +kernel
theorem dX6_simulate_94 : decode cX6_simulate 94 = .ok (.istore 6, 2) := by decide +kernel
theorem dX6_simulate_96 : decode cX6_simulate 96 = .ok (.sipush 10000, 3) := by decide +kernel
theorem dX6_simulate_99 : decode cX6_simulate 99 = .ok (.aload_n 0, 1) := by decide +kernel
theorem dX6_simulate_100 : decode cX6_simulate 100 = .ok (.getfield 13, 3) := by decide +kernel
theorem dX6_simulate_103 : decode cX6_simulate 103 = .ok (.sipush 617, 3) := by decide +kernel
theorem dX6_simulate_106 : decode cX6_simulate 106 = .ok (.iaload, 1) := by decide +kernel
theorem dX6_simulate_107 : decode cX6_simulate 107 = .ok (.aload_n 0, 1) := by decide +kernel
theorem dX6_simulate_108 : decode cX6_simulate 108 = .ok (.getfield 7, 3) := by decide +kernel
theorem dX6_simulate_111 : decode cX6_simulate 111 = .ok (.sipush 617, 3) := by decide +kernel
theorem dX6_simulate_114 : decode cX6_simulate 114 = .ok (.iaload, 1) := by decide +kernel
theorem dX6_simulate_115 : decode cX6_simulate 115 = .ok (.isub, 1) := by decide +kernel
theorem dX6_simulate_116 : decode cX6_simulate 116 = .ok (.imul, 1) := by decide +kernel
theorem dX6_simulate_117 : decode cX6_simulate 117 = .ok (.bipush 100, 2) := by decide +kernel
theorem dX6_simulate_119 : decode cX6_simulate 119 = .ok (.iload 6, 2) := by decide +kernel
theorem dX6_simulate_121 : decode cX6_simulate 121 = .ok (.bipush 99, 2) := by decide +kernel
theorem dX6_simulate_123 : decode cX6_simulate 123 = .ok (.if_icmp .le 8, 3) := by decide +kernel
theorem dX6_simulate_126 : decode cX6_simulate 126 = .ok (.bipush 99, 2) := by decide +kernel
theorem dX6_simulate_128 : decode cX6_simulate 128 = .ok (.goto 5, 3) := by decide +kernel
theorem dX6_simulate_131 : decode cX6_simulate 131 = .ok (.iload 6, 2) := by decide +kernel
theorem dX6_simulate_133 : decode cX6_simulate 133 = .ok (.imul, 1) := by decide +kernel
theorem dX6_simulate_134 : decode cX6_simulate 134 = .ok (.iadd, 1) := by decide +kernel
theorem dX6_simulate_135 : decode cX6_simulate 135 = .ok (.aload_n 0, 1) := by decide +kernel
theorem dX6_simulate_136 : decode cX6_simulate 136 = .ok (.getfield 13, 3) := by decide +kernel
theorem dX6_simulate_139 : decode cX6_simulate 139 = .ok (.invokestatic 122, 3) := by decide +kernel
theorem dX6_simulate_142 : decode cX6_simulate 142 = .ok (.iadd, 1) := by decide +kernel
theorem dX6_simulate_143 : decode cX6_simulate 143 = .ok (.ireturn, 1) := by decide +kernel
theorem dX6_save_0 : decode cX6_save 0 = .ok (.aload_n 0, 1) := by decide +kernel
theorem dX6_save_1 : decode cX6_save 1 = .ok (.iload_n 1, 1) := by decide +kernel
theorem dX6_save_2 : decode cX6_save 2 = .ok (.i2l, 1) := by decide +kernel
theorem dX6_save_3 : decode cX6_save 3 = .ok (.lconst 0, 1) := by decide +kernel
theorem dX6_save_4 : decode cX6_save 4 = .ok (.lconst 1, 1) := by decide +kernel
theorem dX6_save_5 : decode cX6_save 5 = .ok (.invokestatic 44, 3) := by decide +kernel
theorem dX6_save_8 : decode cX6_save 8 = .ok (.ifCond .eq 7, 3) := by decide +kernel
theorem dX6_save_11 : decode cX6_save 11 = .ok (.iconst 0, 1) := by decide +kernel
theorem dX6_save_12 : decode cX6_save 12 = .ok (.goto 4, 3) := by decide +kernel
theorem dX6_save_15 : decode cX6_save 15 = .ok (.iconst 1, 1) := by decide +kernel
theorem dX6_save_16 : decode cX6_save 16 = .ok (.invokevirtual 136, 3) := by decide +kernel
theorem dX6_save_19 : decode cX6_save 19 = .ok (.ifCond .eq 5, 3) := by decide +kernel
theorem dX6_save_22 : decode cX6_save 22 = .ok (.iconst 0, 1) := by decide +kernel
theorem dX6_save_23 : decode cX6_save 23 = .ok (.ireturn, 1) := by decide +kernel
theorem dX6_save_24 : decode cX6_save 24 = .ok (.iconst 0, 1) := by decide +kernel
theorem dX6_save_25 : decode cX6_save 25 = .ok (.istore_n 2, 1) := by decide +kernel
theorem dX6_save_26 : decode cX6_save 26 = .ok (.iload_n 2, 1) := by decide +kernel
theorem dX6_save_27 : decode cX6_save 27 = .ok (.sipush 621, 3) := by decide +kernel
theorem dX6_save_30 : decode cX6_save 30 = .ok (.if_icmp .ge 27, 3) := by decide +kernel
theorem dX6_save_33 : decode cX6_save 33 = .ok (.aload_n 0, 1) := by decide +kernel
theorem dX6_save_34 : decode cX6_save 34 = .ok (.getfield 22, 3) := by decide +kernel
theorem dX6_save_37 : decode cX6_save 37 = .ok (.sipush 621, 3) := by decide +kernel
theorem dX6_save_40 : decode cX6_save 40 = .ok (.iload_n 1, 1) := by decide +kernel
theorem dX6_save_41 : decode cX6_save 41 = .ok (.imul, 1) := by decide +kernel
theorem dX6_save_42 : decode cX6_save 42 = .ok (.iload_n 2, 1) := by decide +kernel
theorem dX6_save_43 : decode cX6_save 43 = .ok (.iadd, 1) := by decide +kernel
theorem dX6_save_44 : decode cX6_save 44 = .ok (.aload_n 0, 1) := by decide +kernel
theorem dX6_save_45 : decode cX6_save 45 = .ok (.getfield 7, 3) := by decide +kernel
theorem dX6_save_48 : decode cX6_save 48 = .ok (.iload_n 2, 1) := by decide +kernel
theorem dX6_save_49 : decode cX6_save 49 = .ok (.iaload, 1) := by decide +kernel
theorem dX6_save_50 : decode cX6_save 50 = .ok (.iastore, 1) := by decide +kernel
theorem dX6_save_51 : decode cX6_save 51 = .ok (.iinc 2 1, 3) := by decide +kernel
theorem dX6_save_54 : decode cX6_save 54 = .ok (.goto (-28), 3) := by decide +kernel
theorem dX6_save_57 : decode cX6_save 57 = .ok (.aload_n 0, 1) := by decide +kernel
theorem dX6_save_58 : decode cX6_save 58 = .ok (.getfield 25, 3) := by decide +kernel
theorem dX6_save_61 : decode cX6_save 61 = .ok (.iload_n 1, 1) := by decide +kernel
theorem dX6_save_62 : decode cX6_save 62 = .ok (.iconst 1, 1) := by decide +kernel
theorem dX6_save_63 : decode cX6_save 63 = .ok (.bastore, 1) := by decide +kernel
theorem dX6_save_64 : decode cX6_save 64 = .ok (.aload_n 0, 1) := by decide +kernel
theorem dX6_save_65 : decode cX6_save 65 = .ok (.getfield 7, 3) := by decide +kernel
theorem dX6_save_68 : decode cX6_save 68 = .ok (.sipush 616, 3) := by decide +kernel
theorem dX6_save_71 : decode cX6_save 71 = .ok (.iaload, 1) := by decide +kernel
theorem dX6_save_72 : decode cX6_save 72 = .ok (.ireturn, 1) := by decide +kernel
theorem dX6_restore_0 : decode cX6_restore 0 = .ok (.aload_n 0, 1) := by decide +kernel
theorem dX6_restore_1 : decode cX6_restore 1 = .ok (.iload_n 1, 1) := by decide +kernel
theorem dX6_restore_2 : decode cX6_restore 2 = .ok (.i2l, 1) := by decide +kernel
theorem dX6_restore_3 : decode cX6_restore 3 = .ok (.lconst 0, 1) := by decide +kernel
theorem dX6_restore_4 : decode cX6_restore 4 = .ok (.lconst 1, 1) := by decide +kernel
theorem dX6_restore_5 : decode cX6_restore 5 = .ok (.invokestatic 44, 3) := by decide +kernel
theorem dX6_restore_8 : decode cX6_restore 8 = .ok (.ifCond .ne 7, 3) := by decide +kernel
theorem dX6_restore_11 : decode cX6_restore 11 = .ok (.iconst 1, 1) := by decide +kernel
theorem dX6_restore_12 : decode cX6_restore 12 = .ok (.goto 17, 3) := by decide +kernel
theorem dX6_restore_15 : decode cX6_restore 15 = .ok (.aload_n 0, 1) := by decide +kernel
theorem dX6_restore_16 : decode cX6_restore 16 = .ok (.getfield 25, 3) := by decide +kernel
theorem dX6_restore_19 : decode cX6_restore 19 = .ok (.iload_n 1, 1) := by decide +kernel
theorem dX6_restore_20 : decode cX6_restore 20 = .ok (.baload, 1) := by decide +kernel
theorem dX6_restore_21 : decode cX6_restore 21 = .ok (.ifCond .ne 7, 3) := by decide +kernel
theorem dX6_restore_24 : decode cX6_restore 24 = .ok (.iconst 2, 1) := by decide +kernel
theorem dX6_restore_25 : decode cX6_restore 25 = .ok (.goto 4, 3) := by decide +kernel
theorem dX6_restore_28 : decode cX6_restore 28 = .ok (.iconst 0, 1) := by decide +kernel
theorem dX6_restore_29 : decode cX6_restore 29 = .ok (.invokevirtual 136, 3) := by decide +kernel
theorem dX6_restore_32 : decode cX6_restore 32 = .ok (.ifCond .eq 5, 3) := by decide +kernel
theorem dX6_restore_35 : decode cX6_restore 35 = .ok (.iconst 0, 1) := by decide +kernel
theorem dX6_restore_36 : decode cX6_restore 36 = .ok (.ireturn, 1) := by decide +kernel
theorem dX6_restore_37 : decode cX6_restore 37 = .ok (.iconst 0, 1) := by decide +kernel
theorem dX6_restore_38 : decode cX6_restore 38 = .ok (.istore_n 2, 1) := by decide +kernel
theorem dX6_restore_39 : decode cX6_restore 39 = .ok (.iload_n 2, 1) := by decide +kernel
theorem dX6_restore_40 : decode cX6_restore 40 = .ok (.sipush 621, 3) := by decide +kernel
theorem dX6_restore_43 : decode cX6_restore 43 = .ok (.if_icmp .ge 27, 3) := by decide +kernel
theorem dX6_restore_46 : decode cX6_restore 46 = .ok (.aload_n 0, 1) := by decide +kernel
theorem dX6_restore_47 : decode cX6_restore 47 = .ok (.getfield 7, 3) := by decide +kernel
theorem dX6_restore_50 : decode cX6_restore 50 = .ok (.iload_n 2, 1) := by decide +kernel
theorem dX6_restore_51 : decode cX6_restore 51 = .ok (.aload_n 0, 1) := by decide +kernel
theorem dX6_restore_52 : decode cX6_restore 52 = .ok (.getfield 22, 3) := by decide +kernel
theorem dX6_restore_55 : decode cX6_restore 55 = .ok (.sipush 621, 3) := by decide +kernel
theorem dX6_restore_58 : decode cX6_restore 58 = .ok (.iload_n 1, 1) := by decide +kernel
theorem dX6_restore_59 : decode cX6_restore 59 = .ok (.imul, 1) := by decide +kernel
theorem dX6_restore_60 : decode cX6_restore 60 = .ok (.iload_n 2, 1) := by decide +kernel
theorem dX6_restore_61 : decode cX6_restore 61 = .ok (.iadd, 1) := by decide +kernel
theorem dX6_restore_62 : decode cX6_restore 62 = .ok (.iaload, 1) := by decide +kernel
theorem dX6_restore_63 : decode cX6_restore 63 = .ok (.iastore, 1) := by decide +kernel
theorem dX6_restore_64 : decode cX6_restore 64 = .ok (.iinc 2 1, 3) := by decide +kernel
theorem dX6_restore_67 : decode cX6_restore 67 = .ok (.goto (-28), 3) := by decide +kernel
theorem dX6_restore_70 : decode cX6_restore 70 = .ok (.aload_n 0, 1) := by decide +kernel
theorem dX6_restore_71 : decode cX6_restore 71 = .ok (.iconst 0, 1) := by decide +kernel
theorem dX6_restore_72 : decode cX6_restore 72 = .ok (.putfield 128, 3) := by decide +kernel
theorem dX6_restore_75 : decode cX6_restore 75 = .ok (.aload_n 0, 1) := by decide +kernel
theorem dX6_restore_76 : decode cX6_restore 76 = .ok (.getfield 7, 3) := by decide +kernel
theorem dX6_restore_79 : decode cX6_restore 79 = .ok (.sipush 616, 3) := by decide +kernel
theorem dX6_restore_82 : decode cX6_restore 82 = .ok (.iaload, 1) := by decide +kernel
theorem dX6_restore_83 : decode cX6_restore 83 = .ok (.ireturn, 1) := by decide +kernel
theorem dL_append_0 : decode cL_append 0 = .ok (.aload_n 2, 1) := by decide +kernel
theorem dL_append_1 : decode cL_append 1 = .ok (.iconst 0, 1) := by decide +kernel
theorem dL_append_2 : decode cL_append 2 = .ok (.aload_n 0, 1) := by decide +kernel
theorem dL_append_3 : decode cL_append 3 = .ok (.iload_n 1, 1) := by decide +kernel
theorem dL_append_4 : decode cL_append 4 = .ok (.invokevirtual 7, 3) := by decide +kernel
theorem dL_append_7 : decode cL_append 7 = .ok (.i2l, 1) := by decide +kernel
theorem dL_append_8 : decode cL_append 8 = .ok (.lastore, 1) := by decide +kernel
theorem dL_append_9 : decode cL_append 9 = .ok (.goto 9, 3) := by decide +kernel
theorem dL_append_12 : decode cL_append 12 = .ok (.astore_n 3, 1) := by decide +kernel
theorem dL_append_13 : decode cL_append 13 = .ok (.iconst 1, 1) := by decide +kernel
theorem dL_append_14 : decode cL_append 14 = .ok (.ireturn, 1) := by decide +kernel
theorem dL_append_15 : decode cL_append 15 = .ok (.astore_n 3, 1) := by decide +kernel
theorem dL_append_16 : decode cL_append 16 = .ok (.iconst 2, 1) := by decide +kernel
theorem dL_append_17 : decode cL_append 17 = .ok (.ireturn, 1) := by decide +kernel
theorem dL_append_18 : decode cL_append 18 = .ok (.iconst 0, 1) := by decide +kernel
theorem dL_append_19 : decode cL_append 19 = .ok (.ireturn, 1) := by decide +kernel
theorem dL_load_0 : decode cL_load 0 = .ok (.aload_n 1, 1) := by decide +kernel
theorem dL_load_1 : decode cL_load 1 = .ok (.iconst 0, 1) := by decide +kernel
theorem dL_load_2 : decode cL_load 2 = .ok (.aload_n 0, 1) := by decide +kernel
theorem dL_load_3 : decode cL_load 3 = .ok (.invokevirtual 17, 3) := by decide +kernel
theorem dL_load_6 : decode cL_load 6 = .ok (.i2l, 1) := by decide +kernel
theorem dL_load_7 : decode cL_load 7 = .ok (.lastore, 1) := by decide +kernel
theorem dL_load_8 : decode cL_load 8 = .ok (.goto 6, 3) := by decide +kernel
theorem dL_load_11 : decode cL_load 11 = .ok (.astore_n 2, 1) := by decide +kernel
theorem dL_load_12 : decode cL_load 12 = .ok (.iconst 1, 1) := by decide +kernel
theorem dL_load_13 : decode cL_load 13 = .ok (.ireturn, 1) := by decide +kernel
theorem dL_load_14 : decode cL_load 14 = .ok (.iconst 0, 1) := by decide +kernel
theorem dL_load_15 : decode cL_load 15 = .ok (.ireturn, 1) := by decide +kernel
theorem dL_about_0 : decode cL_about 0 = .ok (.aload_n 2, 1) := by decide +kernel
theorem dL_about_1 : decode cL_about 1 = .ok (.iconst 0, 1) := by decide +kernel
theorem dL_about_2 : decode cL_about 2 = .ok (.aload_n 0, 1) := by decide +kernel
theorem dL_about_3 : decode cL_about 3 = .ok (.iload_n 1, 1) := by decide +kernel
theorem dL_about_4 : decode cL_about 4 = .ok (.invokevirtual 21, 3) := by decide +kernel
theorem dL_about_7 : decode cL_about 7 = .ok (.i2l, 1) := by decide +kernel
theorem dL_about_8 : decode cL_about 8 = .ok (.lastore, 1) := by decide +kernel
theorem dL_about_9 : decode cL_about 9 = .ok (.goto 6, 3) := by decide +kernel
theorem dL_about_12 : decode cL_about 12 = .ok (.astore_n 3, 1) := by decide +kernel
theorem dL_about_13 : decode cL_about 13 = .ok (.iconst 1, 1) := by decide +kernel
theorem dL_about_14 : decode cL_about 14 = .ok (.ireturn, 1) := by decide +kernel
theorem dL_about_15 : decode cL_about 15 = .ok (.iconst 0, 1) := by decide +kernel
theorem dL_about_16 : decode cL_about 16 = .ok (.ireturn, 1) := by decide +kernel
theorem dL_rowOf_0 : decode cL_rowOf 0 = .ok (.aload_n 3, 1) := by decide +kernel
theorem dL_rowOf_1 : decode cL_rowOf 1 = .ok (.iconst 0, 1) := by decide +kernel
theorem dL_rowOf_2 : decode cL_rowOf 2 = .ok (.aload_n 0, 1) := by decide +kernel
theorem dL_rowOf_3 : decode cL_rowOf 3 = .ok (.iload_n 1, 1) := by decide +kernel
theorem dL_rowOf_4 : decode cL_rowOf 4 = .ok (.iload_n 2, 1) := by decide +kernel
theorem dL_rowOf_5 : decode cL_rowOf 5 = .ok (.invokevirtual 24, 3) := by decide +kernel
theorem dL_rowOf_8 : decode cL_rowOf 8 = .ok (.i2l, 1) := by decide +kernel
theorem dL_rowOf_9 : decode cL_rowOf 9 = .ok (.lastore, 1) := by decide +kernel
theorem dL_rowOf_10 : decode cL_rowOf 10 = .ok (.goto 11, 3) := by decide +kernel
theorem dL_rowOf_13 : decode cL_rowOf 13 = .ok (.astore 4, 2) := by decide +kernel
theorem dL_rowOf_15 : decode cL_rowOf 15 = .ok (.iconst 1, 1) := by decide +kernel
theorem dL_rowOf_16 : decode cL_rowOf 16 = .ok (.ireturn, 1) := by decide +kernel
theorem dL_rowOf_17 : decode cL_rowOf 17 = .ok (.astore 4, 2) := by decide +kernel
theorem dL_rowOf_19 : decode cL_rowOf 19 = .ok (.iconst 2, 1) := by decide +kernel
theorem dL_rowOf_20 : decode cL_rowOf 20 = .ok (.ireturn, 1) := by decide +kernel
theorem dL_rowOf_21 : decode cL_rowOf 21 = .ok (.iconst 0, 1) := by decide +kernel
theorem dL_rowOf_22 : decode cL_rowOf 22 = .ok (.ireturn, 1) := by decide +kernel
theorem dL_segmentOf_0 : decode cL_segmentOf 0 = .ok (.aload_n 3, 1) := by decide +kernel
theorem dL_segmentOf_1 : decode cL_segmentOf 1 = .ok (.iconst 0, 1) := by decide +kernel
theorem dL_segmentOf_2 : decode cL_segmentOf 2 = .ok (.aload_n 0, 1) := by decide +kernel
theorem dL_segmentOf_3 : decode cL_segmentOf 3 = .ok (.iload_n 1, 1) := by decide +kernel
theorem dL_segmentOf_4 : decode cL_segmentOf 4 = .ok (.iload_n 2, 1) := by decide +kernel
theorem dL_segmentOf_5 : decode cL_segmentOf 5 = .ok (.invokevirtual 30, 3) := by decide +kernel
theorem dL_segmentOf_8 : decode cL_segmentOf 8 = .ok (.i2l, 1) := by decide +kernel
theorem dL_segmentOf_9 : decode cL_segmentOf 9 = .ok (.lastore, 1) := by decide +kernel
theorem dL_segmentOf_10 : decode cL_segmentOf 10 = .ok (.goto 11, 3) := by decide +kernel
theorem dL_segmentOf_13 : decode cL_segmentOf 13 = .ok (.astore 4, 2) := by decide +kernel
theorem dL_segmentOf_15 : decode cL_segmentOf 15 = .ok (.iconst 1, 1) := by decide +kernel
theorem dL_segmentOf_16 : decode cL_segmentOf 16 = .ok (.ireturn, 1) := by decide +kernel
theorem dL_segmentOf_17 : decode cL_segmentOf 17 = .ok (.astore 4, 2) := by decide +kernel
theorem dL_segmentOf_19 : decode cL_segmentOf 19 = .ok (.iconst 2, 1) := by decide +kernel
theorem dL_segmentOf_20 : decode cL_segmentOf 20 = .ok (.ireturn, 1) := by decide +kernel
theorem dL_segmentOf_21 : decode cL_segmentOf 21 = .ok (.iconst 0, 1) := by decide +kernel
theorem dL_segmentOf_22 : decode cL_segmentOf 22 = .ok (.ireturn, 1) := by decide +kernel
theorem dL_readerOf_0 : decode cL_readerOf 0 = .ok (.aload_n 3, 1) := by decide +kernel
theorem dL_readerOf_1 : decode cL_readerOf 1 = .ok (.iconst 0, 1) := by decide +kernel
theorem dL_readerOf_2 : decode cL_readerOf 2 = .ok (.aload_n 0, 1) := by decide +kernel
theorem dL_readerOf_3 : decode cL_readerOf 3 = .ok (.iload_n 1, 1) := by decide +kernel
theorem dL_readerOf_4 : decode cL_readerOf 4 = .ok (.iload_n 2, 1) := by decide +kernel
theorem dL_readerOf_5 : decode cL_readerOf 5 = .ok (.invokevirtual 33, 3) := by decide +kernel
theorem dL_readerOf_8 : decode cL_readerOf 8 = .ok (.i2l, 1) := by decide +kernel
theorem dL_readerOf_9 : decode cL_readerOf 9 = .ok (.lastore, 1) := by decide +kernel
theorem dL_readerOf_10 : decode cL_readerOf 10 = .ok (.goto 11, 3) := by decide +kernel
theorem dL_readerOf_13 : decode cL_readerOf 13 = .ok (.astore 4, 2) := by decide +kernel
theorem dL_readerOf_15 : decode cL_readerOf 15 = .ok (.iconst 1, 1) := by decide +kernel
theorem dL_readerOf_16 : decode cL_readerOf 16 = .ok (.ireturn, 1) := by decide +kernel
theorem dL_readerOf_17 : decode cL_readerOf 17 = .ok (.astore 4, 2) := by decide +kernel
theorem dL_readerOf_19 : decode cL_readerOf 19 = .ok (.iconst 2, 1) := by decide +kernel
theorem dL_readerOf_20 : decode cL_readerOf 20 = .ok (.ireturn, 1) := by decide +kernel
theorem dL_readerOf_21 : decode cL_readerOf 21 = .ok (.iconst 0, 1) := by decide +kernel
theorem dL_readerOf_22 : decode cL_readerOf 22 = .ok (.ireturn, 1) := by decide +kernel
theorem dL_table_0 : decode cL_table 0 = .ok (.aload_n 3, 1) := by decide +kernel
theorem dL_table_1 : decode cL_table 1 = .ok (.iconst 0, 1) := by decide +kernel
theorem dL_table_2 : decode cL_table 2 = .ok (.aload_n 0, 1) := by decide +kernel
theorem dL_table_3 : decode cL_table 3 = .ok (.iload_n 1, 1) := by decide +kernel
theorem dL_table_4 : decode cL_table 4 = .ok (.iload_n 2, 1) := by decide +kernel
theorem dL_table_5 : decode cL_table 5 = .ok (.invokevirtual 36, 3) := by decide +kernel
theorem dL_table_8 : decode cL_table 8 = .ok (.i2l, 1) := by decide +kernel
theorem dL_table_9 : decode cL_table 9 = .ok (.lastore, 1) := by decide +kernel
theorem dL_table_10 : decode cL_table 10 = .ok (.goto 11, 3) := by decide +kernel
theorem dL_table_13 : decode cL_table 13 = .ok (.astore 4, 2) := by decide +kernel
theorem dL_table_15 : decode cL_table 15 = .ok (.iconst 1, 1) := by decide +kernel
theorem dL_table_16 : decode cL_table 16 = .ok (.ireturn, 1) := by decide +kernel
theorem dL_table_17 : decode cL_table 17 = .ok (.astore 4, 2) := by decide +kernel
theorem dL_table_19 : decode cL_table 19 = .ok (.iconst 2, 1) := by decide +kernel
theorem dL_table_20 : decode cL_table 20 = .ok (.ireturn, 1) := by decide +kernel
theorem dL_table_21 : decode cL_table 21 = .ok (.iconst 0, 1) := by decide +kernel
theorem dL_table_22 : decode cL_table 22 = .ok (.ireturn, 1) := by decide +kernel
theorem dL_base_0 : decode cL_base 0 = .ok (.aload_n 2, 1) := by decide +kernel
theorem dL_base_1 : decode cL_base 1 = .ok (.iconst 0, 1) := by decide +kernel
theorem dL_base_2 : decode cL_base 2 = .ok (.aload_n 0, 1) := by decide +kernel
theorem dL_base_3 : decode cL_base 3 = .ok (.iload_n 1, 1) := by decide +kernel
theorem dL_base_4 : decode cL_base 4 = .ok (.invokevirtual 39, 3) := by decide +kernel
theorem dL_base_7 : decode cL_base 7 = .ok (.i2l, 1) := by decide +kernel
theorem dL_base_8 : decode cL_base 8 = .ok (.lastore, 1) := by decide +kernel
theorem dL_base_9 : decode cL_base 9 = .ok (.goto 6, 3) := by decide +kernel
theorem dL_base_12 : decode cL_base 12 = .ok (.astore_n 3, 1) := by decide +kernel
theorem dL_base_13 : decode cL_base 13 = .ok (.iconst 1, 1) := by decide +kernel
theorem dL_base_14 : decode cL_base 14 = .ok (.ireturn, 1) := by decide +kernel
theorem dL_base_15 : decode cL_base 15 = .ok (.iconst 0, 1) := by decide +kernel
theorem dL_base_16 : decode cL_base 16 = .ok (.ireturn, 1) := by decide +kernel
theorem dL_setting_0 : decode cL_setting 0 = .ok (.aload_n 2, 1) := by decide +kernel
theorem dL_setting_1 : decode cL_setting 1 = .ok (.iconst 0, 1) := by decide +kernel
theorem dL_setting_2 : decode cL_setting 2 = .ok (.aload_n 0, 1) := by decide +kernel
theorem dL_setting_3 : decode cL_setting 3 = .ok (.iload_n 1, 1) := by decide +kernel
theorem dL_setting_4 : decode cL_setting 4 = .ok (.invokevirtual 42, 3) := by decide +kernel
theorem dL_setting_7 : decode cL_setting 7 = .ok (.i2l, 1) := by decide +kernel
theorem dL_setting_8 : decode cL_setting 8 = .ok (.lastore, 1) := by decide +kernel
theorem dL_setting_9 : decode cL_setting 9 = .ok (.goto 6, 3) := by decide +kernel
theorem dL_setting_12 : decode cL_setting 12 = .ok (.astore_n 3, 1) := by decide +kernel
theorem dL_setting_13 : decode cL_setting 13 = .ok (.iconst 1, 1) := by decide +kernel
theorem dL_setting_14 : decode cL_setting 14 = .ok (.ireturn, 1) := by decide +kernel
theorem dL_setting_15 : decode cL_setting 15 = .ok (.iconst 0, 1) := by decide +kernel
theorem dL_setting_16 : decode cL_setting 16 = .ok (.ireturn, 1) := by decide +kernel
theorem dL_write_0 : decode cL_write 0 = .ok (.aload 4, 2) := by decide +kernel
theorem dL_write_2 : decode cL_write 2 = .ok (.iconst 0, 1) := by decide +kernel
theorem dL_write_3 : decode cL_write 3 = .ok (.aload_n 0, 1) := by decide +kernel
theorem dL_write_4 : decode cL_write 4 = .ok (.iload_n 1, 1) := by decide +kernel
theorem dL_write_5 : decode cL_write 5 = .ok (.iload_n 2, 1) := by decide +kernel
theorem dL_write_6 : decode cL_write 6 = .ok (.iload_n 3, 1) := by decide +kernel
theorem dL_write_7 : decode cL_write 7 = .ok (.invokevirtual 45, 3) := by decide +kernel
theorem dL_write_10 : decode cL_write 10 = .ok (.i2l, 1) := by decide +kernel
theorem dL_write_11 : decode cL_write 11 = .ok (.lastore, 1) := by decide +kernel
theorem dL_write_12 : decode cL_write 12 = .ok (.goto 11, 3) := by decide +kernel
theorem dL_write_15 : decode cL_write 15 = .ok (.astore 5, 2) := by decide +kernel
theorem dL_write_17 : decode cL_write 17 = .ok (.iconst 1, 1) := by decide +kernel
theorem dL_write_18 : decode cL_write 18 = .ok (.ireturn, 1) := by decide +kernel
theorem dL_write_19 : decode cL_write 19 = .ok (.astore 5, 2) := by decide +kernel
theorem dL_write_21 : decode cL_write 21 = .ok (.iconst 2, 1) := by decide +kernel
theorem dL_write_22 : decode cL_write 22 = .ok (.ireturn, 1) := by decide +kernel
theorem dL_write_23 : decode cL_write 23 = .ok (.iconst 0, 1) := by decide +kernel
theorem dL_write_24 : decode cL_write 24 = .ok (.ireturn, 1) := by decide +kernel
theorem dL_join_0 : decode cL_join 0 = .ok (.aload 4, 2) := by decide +kernel
theorem dL_join_2 : decode cL_join 2 = .ok (.iconst 0, 1) := by decide +kernel
theorem dL_join_3 : decode cL_join 3 = .ok (.aload_n 0, 1) := by decide +kernel
theorem dL_join_4 : decode cL_join 4 = .ok (.iload_n 1, 1) := by decide +kernel
theorem dL_join_5 : decode cL_join 5 = .ok (.iload_n 2, 1) := by decide +kernel
theorem dL_join_6 : decode cL_join 6 = .ok (.iload_n 3, 1) := by decide +kernel
theorem dL_join_7 : decode cL_join 7 = .ok (.invokevirtual 49, 3) := by decide +kernel
theorem dL_join_10 : decode cL_join 10 = .ok (.i2l, 1) := by decide +kernel
theorem dL_join_11 : decode cL_join 11 = .ok (.lastore, 1) := by decide +kernel
theorem dL_join_12 : decode cL_join 12 = .ok (.goto 11, 3) := by decide +kernel
theorem dL_join_15 : decode cL_join 15 = .ok (.astore 5, 2) := by decide +kernel
theorem dL_join_17 : decode cL_join 17 = .ok (.iconst 1, 1) := by decide +kernel
theorem dL_join_18 : decode cL_join 18 = .ok (.ireturn, 1) := by decide +kernel
theorem dL_join_19 : decode cL_join 19 = .ok (.astore 5, 2) := by decide +kernel
theorem dL_join_21 : decode cL_join 21 = .ok (.iconst 2, 1) := by decide +kernel
theorem dL_join_22 : decode cL_join 22 = .ok (.ireturn, 1) := by decide +kernel
theorem dL_join_23 : decode cL_join 23 = .ok (.iconst 0, 1) := by decide +kernel
theorem dL_join_24 : decode cL_join 24 = .ok (.ireturn, 1) := by decide +kernel
theorem dL_read_0 : decode cL_read 0 = .ok (.aload_n 3, 1) := by decide +kernel
theorem dL_read_1 : decode cL_read 1 = .ok (.iconst 0, 1) := by decide +kernel
theorem dL_read_2 : decode cL_read 2 = .ok (.aload_n 0, 1) := by decide +kernel
theorem dL_read_3 : decode cL_read 3 = .ok (.iload_n 1, 1) := by decide +kernel
theorem dL_read_4 : decode cL_read 4 = .ok (.iload_n 2, 1) := by decide +kernel
theorem dL_read_5 : decode cL_read 5 = .ok (.invokevirtual 53, 3) := by decide +kernel
theorem dL_read_8 : decode cL_read 8 = .ok (.i2l, 1) := by decide +kernel
theorem dL_read_9 : decode cL_read 9 = .ok (.lastore, 1) := by decide +kernel
theorem dL_read_10 : decode cL_read 10 = .ok (.goto 11, 3) := by decide +kernel
theorem dL_read_13 : decode cL_read 13 = .ok (.astore 4, 2) := by decide +kernel
theorem dL_read_15 : decode cL_read 15 = .ok (.iconst 1, 1) := by decide +kernel
theorem dL_read_16 : decode cL_read 16 = .ok (.ireturn, 1) := by decide +kernel
theorem dL_read_17 : decode cL_read 17 = .ok (.astore 4, 2) := by decide +kernel
theorem dL_read_19 : decode cL_read 19 = .ok (.iconst 2, 1) := by decide +kernel
theorem dL_read_20 : decode cL_read 20 = .ok (.ireturn, 1) := by decide +kernel
theorem dL_read_21 : decode cL_read 21 = .ok (.iconst 0, 1) := by decide +kernel
theorem dL_read_22 : decode cL_read 22 = .ok (.ireturn, 1) := by decide +kernel
theorem dL_leave_0 : decode cL_leave 0 = .ok (.aload_n 2, 1) := by decide +kernel
theorem dL_leave_1 : decode cL_leave 1 = .ok (.iconst 0, 1) := by decide +kernel
theorem dL_leave_2 : decode cL_leave 2 = .ok (.aload_n 0, 1) := by decide +kernel
theorem dL_leave_3 : decode cL_leave 3 = .ok (.iload_n 1, 1) := by decide +kernel
theorem dL_leave_4 : decode cL_leave 4 = .ok (.invokevirtual 56, 3) := by decide +kernel
theorem dL_leave_7 : decode cL_leave 7 = .ok (.i2l, 1) := by decide +kernel
theorem dL_leave_8 : decode cL_leave 8 = .ok (.lastore, 1) := by decide +kernel
theorem dL_leave_9 : decode cL_leave 9 = .ok (.goto 6, 3) := by decide +kernel
theorem dL_leave_12 : decode cL_leave 12 = .ok (.astore_n 3, 1) := by decide +kernel
theorem dL_leave_13 : decode cL_leave 13 = .ok (.iconst 1, 1) := by decide +kernel
theorem dL_leave_14 : decode cL_leave 14 = .ok (.ireturn, 1) := by decide +kernel
theorem dL_leave_15 : decode cL_leave 15 = .ok (.iconst 0, 1) := by decide +kernel
theorem dL_leave_16 : decode cL_leave 16 = .ok (.ireturn, 1) := by decide +kernel
theorem dL_hold_0 : decode cL_hold 0 = .ok (.aload_n 3, 1) := by decide +kernel
theorem dL_hold_1 : decode cL_hold 1 = .ok (.iconst 0, 1) := by decide +kernel
theorem dL_hold_2 : decode cL_hold 2 = .ok (.aload_n 0, 1) := by decide +kernel
theorem dL_hold_3 : decode cL_hold 3 = .ok (.iload_n 1, 1) := by decide +kernel
theorem dL_hold_4 : decode cL_hold 4 = .ok (.iload_n 2, 1) := by decide +kernel
theorem dL_hold_5 : decode cL_hold 5 = .ok (.invokevirtual 59, 3) := by decide +kernel
theorem dL_hold_8 : decode cL_hold 8 = .ok (.i2l, 1) := by decide +kernel
theorem dL_hold_9 : decode cL_hold 9 = .ok (.lastore, 1) := by decide +kernel
theorem dL_hold_10 : decode cL_hold 10 = .ok (.goto 11, 3) := by decide +kernel
theorem dL_hold_13 : decode cL_hold 13 = .ok (.astore 4, 2) := by decide +kernel
theorem dL_hold_15 : decode cL_hold 15 = .ok (.iconst 1, 1) := by decide +kernel
theorem dL_hold_16 : decode cL_hold 16 = .ok (.ireturn, 1) := by decide +kernel
theorem dL_hold_17 : decode cL_hold 17 = .ok (.astore 4, 2) := by decide +kernel
theorem dL_hold_19 : decode cL_hold 19 = .ok (.iconst 2, 1) := by decide +kernel
theorem dL_hold_20 : decode cL_hold 20 = .ok (.ireturn, 1) := by decide +kernel
theorem dL_hold_21 : decode cL_hold 21 = .ok (.iconst 0, 1) := by decide +kernel
theorem dL_hold_22 : decode cL_hold 22 = .ok (.ireturn, 1) := by decide +kernel
theorem dL_set_0 : decode cL_set 0 = .ok (.aload_n 3, 1) := by decide +kernel
theorem dL_set_1 : decode cL_set 1 = .ok (.iconst 0, 1) := by decide +kernel
theorem dL_set_2 : decode cL_set 2 = .ok (.aload_n 0, 1) := by decide +kernel
theorem dL_set_3 : decode cL_set 3 = .ok (.iload_n 1, 1) := by decide +kernel
theorem dL_set_4 : decode cL_set 4 = .ok (.iload_n 2, 1) := by decide +kernel
theorem dL_set_5 : decode cL_set 5 = .ok (.invokevirtual 63, 3) := by decide +kernel
theorem dL_set_8 : decode cL_set 8 = .ok (.i2l, 1) := by decide +kernel
theorem dL_set_9 : decode cL_set 9 = .ok (.lastore, 1) := by decide +kernel
theorem dL_set_10 : decode cL_set 10 = .ok (.goto 7, 3) := by decide +kernel
theorem dL_set_13 : decode cL_set 13 = .ok (.astore 4, 2) := by decide +kernel
theorem dL_set_15 : decode cL_set 15 = .ok (.iconst 1, 1) := by decide +kernel
theorem dL_set_16 : decode cL_set 16 = .ok (.ireturn, 1) := by decide +kernel
theorem dL_set_17 : decode cL_set 17 = .ok (.iconst 0, 1) := by decide +kernel
theorem dL_set_18 : decode cL_set 18 = .ok (.ireturn, 1) := by decide +kernel
theorem dL_ticks_0 : decode cL_ticks 0 = .ok (.aload_n 2, 1) := by decide +kernel
theorem dL_ticks_1 : decode cL_ticks 1 = .ok (.iconst 0, 1) := by decide +kernel
theorem dL_ticks_2 : decode cL_ticks 2 = .ok (.aload_n 0, 1) := by decide +kernel
theorem dL_ticks_3 : decode cL_ticks 3 = .ok (.iload_n 1, 1) := by decide +kernel
theorem dL_ticks_4 : decode cL_ticks 4 = .ok (.invokevirtual 66, 3) := by decide +kernel
theorem dL_ticks_7 : decode cL_ticks 7 = .ok (.i2l, 1) := by decide +kernel
theorem dL_ticks_8 : decode cL_ticks 8 = .ok (.lastore, 1) := by decide +kernel
theorem dL_ticks_9 : decode cL_ticks 9 = .ok (.goto 6, 3) := by decide +kernel
theorem dL_ticks_12 : decode cL_ticks 12 = .ok (.astore_n 3, 1) := by decide +kernel
theorem dL_ticks_13 : decode cL_ticks 13 = .ok (.iconst 1, 1) := by decide +kernel
theorem dL_ticks_14 : decode cL_ticks 14 = .ok (.ireturn, 1) := by decide +kernel
theorem dL_ticks_15 : decode cL_ticks 15 = .ok (.iconst 0, 1) := by decide +kernel
theorem dL_ticks_16 : decode cL_ticks 16 = .ok (.ireturn, 1) := by decide +kernel
theorem dL_undo_0 : decode cL_undo 0 = .ok (.aload_n 1, 1) := by decide +kernel
theorem dL_undo_1 : decode cL_undo 1 = .ok (.iconst 0, 1) := by decide +kernel
theorem dL_undo_2 : decode cL_undo 2 = .ok (.aload_n 0, 1) := by decide +kernel
theorem dL_undo_3 : decode cL_undo 3 = .ok (.invokevirtual 69, 3) := by decide +kernel
theorem dL_undo_6 : decode cL_undo 6 = .ok (.i2l, 1) := by decide +kernel
theorem dL_undo_7 : decode cL_undo 7 = .ok (.lastore, 1) := by decide +kernel
theorem dL_undo_8 : decode cL_undo 8 = .ok (.goto 6, 3) := by decide +kernel
theorem dL_undo_11 : decode cL_undo 11 = .ok (.astore_n 2, 1) := by decide +kernel
theorem dL_undo_12 : decode cL_undo 12 = .ok (.iconst 1, 1) := by decide +kernel
theorem dL_undo_13 : decode cL_undo 13 = .ok (.ireturn, 1) := by decide +kernel
theorem dL_undo_14 : decode cL_undo 14 = .ok (.iconst 0, 1) := by decide +kernel
theorem dL_undo_15 : decode cL_undo 15 = .ok (.ireturn, 1) := by decide +kernel
theorem dL_truth_0 : decode cL_truth 0 = .ok (.aload 4, 2) := by decide +kernel
theorem dL_truth_2 : decode cL_truth 2 = .ok (.iconst 0, 1) := by decide +kernel
theorem dL_truth_3 : decode cL_truth 3 = .ok (.aload_n 0, 1) := by decide +kernel
theorem dL_truth_4 : decode cL_truth 4 = .ok (.iload_n 1, 1) := by decide +kernel
theorem dL_truth_5 : decode cL_truth 5 = .ok (.iload_n 2, 1) := by decide +kernel
theorem dL_truth_6 : decode cL_truth 6 = .ok (.iload_n 3, 1) := by decide +kernel
theorem dL_truth_7 : decode cL_truth 7 = .ok (.invokevirtual 72, 3) := by decide +kernel
theorem dL_truth_10 : decode cL_truth 10 = .ok (.i2l, 1) := by decide +kernel
theorem dL_truth_11 : decode cL_truth 11 = .ok (.lastore, 1) := by decide +kernel
theorem dL_truth_12 : decode cL_truth 12 = .ok (.goto 11, 3) := by decide +kernel
theorem dL_truth_15 : decode cL_truth 15 = .ok (.astore 5, 2) := by decide +kernel
theorem dL_truth_17 : decode cL_truth 17 = .ok (.iconst 1, 1) := by decide +kernel
theorem dL_truth_18 : decode cL_truth 18 = .ok (.ireturn, 1) := by decide +kernel
theorem dL_truth_19 : decode cL_truth 19 = .ok (.astore 5, 2) := by decide +kernel
theorem dL_truth_21 : decode cL_truth 21 = .ok (.iconst 2, 1) := by decide +kernel
theorem dL_truth_22 : decode cL_truth 22 = .ok (.ireturn, 1) := by decide +kernel
theorem dL_truth_23 : decode cL_truth 23 = .ok (.iconst 0, 1) := by decide +kernel
theorem dL_truth_24 : decode cL_truth 24 = .ok (.ireturn, 1) := by decide +kernel
theorem dL_lostIn_0 : decode cL_lostIn 0 = .ok (.aload_n 2, 1) := by decide +kernel
theorem dL_lostIn_1 : decode cL_lostIn 1 = .ok (.iconst 0, 1) := by decide +kernel
theorem dL_lostIn_2 : decode cL_lostIn 2 = .ok (.aload_n 0, 1) := by decide +kernel
theorem dL_lostIn_3 : decode cL_lostIn 3 = .ok (.iload_n 1, 1) := by decide +kernel
theorem dL_lostIn_4 : decode cL_lostIn 4 = .ok (.invokevirtual 75, 3) := by decide +kernel
theorem dL_lostIn_7 : decode cL_lostIn 7 = .ok (.i2l, 1) := by decide +kernel
theorem dL_lostIn_8 : decode cL_lostIn 8 = .ok (.lastore, 1) := by decide +kernel
theorem dL_lostIn_9 : decode cL_lostIn 9 = .ok (.goto 6, 3) := by decide +kernel
theorem dL_lostIn_12 : decode cL_lostIn 12 = .ok (.astore_n 3, 1) := by decide +kernel
theorem dL_lostIn_13 : decode cL_lostIn 13 = .ok (.iconst 1, 1) := by decide +kernel
theorem dL_lostIn_14 : decode cL_lostIn 14 = .ok (.ireturn, 1) := by decide +kernel
theorem dL_lostIn_15 : decode cL_lostIn 15 = .ok (.iconst 0, 1) := by decide +kernel
theorem dL_lostIn_16 : decode cL_lostIn 16 = .ok (.ireturn, 1) := by decide +kernel
theorem dL_ifFree_0 : decode cL_ifFree 0 = .ok (.aload_n 2, 1) := by decide +kernel
theorem dL_ifFree_1 : decode cL_ifFree 1 = .ok (.iconst 0, 1) := by decide +kernel
theorem dL_ifFree_2 : decode cL_ifFree 2 = .ok (.aload_n 0, 1) := by decide +kernel
theorem dL_ifFree_3 : decode cL_ifFree 3 = .ok (.iload_n 1, 1) := by decide +kernel
theorem dL_ifFree_4 : decode cL_ifFree 4 = .ok (.invokevirtual 78, 3) := by decide +kernel
theorem dL_ifFree_7 : decode cL_ifFree 7 = .ok (.i2l, 1) := by decide +kernel
theorem dL_ifFree_8 : decode cL_ifFree 8 = .ok (.lastore, 1) := by decide +kernel
theorem dL_ifFree_9 : decode cL_ifFree 9 = .ok (.goto 6, 3) := by decide +kernel
theorem dL_ifFree_12 : decode cL_ifFree 12 = .ok (.astore_n 3, 1) := by decide +kernel
theorem dL_ifFree_13 : decode cL_ifFree 13 = .ok (.iconst 1, 1) := by decide +kernel
theorem dL_ifFree_14 : decode cL_ifFree 14 = .ok (.ireturn, 1) := by decide +kernel
theorem dL_ifFree_15 : decode cL_ifFree 15 = .ok (.iconst 0, 1) := by decide +kernel
theorem dL_ifFree_16 : decode cL_ifFree 16 = .ok (.ireturn, 1) := by decide +kernel
theorem dL_leastRoom_0 : decode cL_leastRoom 0 = .ok (.aload_n 2, 1) := by decide +kernel
theorem dL_leastRoom_1 : decode cL_leastRoom 1 = .ok (.iconst 0, 1) := by decide +kernel
theorem dL_leastRoom_2 : decode cL_leastRoom 2 = .ok (.aload_n 0, 1) := by decide +kernel
theorem dL_leastRoom_3 : decode cL_leastRoom 3 = .ok (.iload_n 1, 1) := by decide +kernel
theorem dL_leastRoom_4 : decode cL_leastRoom 4 = .ok (.invokevirtual 81, 3) := by decide +kernel
theorem dL_leastRoom_7 : decode cL_leastRoom 7 = .ok (.i2l, 1) := by decide +kernel
theorem dL_leastRoom_8 : decode cL_leastRoom 8 = .ok (.lastore, 1) := by decide +kernel
theorem dL_leastRoom_9 : decode cL_leastRoom 9 = .ok (.goto 6, 3) := by decide +kernel
theorem dL_leastRoom_12 : decode cL_leastRoom 12 = .ok (.astore_n 3, 1) := by decide +kernel
theorem dL_leastRoom_13 : decode cL_leastRoom 13 = .ok (.iconst 1, 1) := by decide +kernel
theorem dL_leastRoom_14 : decode cL_leastRoom 14 = .ok (.ireturn, 1) := by decide +kernel
theorem dL_leastRoom_15 : decode cL_leastRoom 15 = .ok (.iconst 0, 1) := by decide +kernel
theorem dL_leastRoom_16 : decode cL_leastRoom 16 = .ok (.ireturn, 1) := by decide +kernel
theorem dL_runScript_0 : decode cL_runScript 0 = .ok (.aload 4, 2) := by decide +kernel
theorem dL_runScript_2 : decode cL_runScript 2 = .ok (.iconst 0, 1) := by decide +kernel
theorem dL_runScript_3 : decode cL_runScript 3 = .ok (.aload_n 0, 1) := by decide +kernel
theorem dL_runScript_4 : decode cL_runScript 4 = .ok (.iload_n 1, 1) := by decide +kernel
theorem dL_runScript_5 : decode cL_runScript 5 = .ok (.lload_n 2, 1) := by decide +kernel
theorem dL_runScript_6 : decode cL_runScript 6 = .ok (.invokevirtual 84, 3) := by decide +kernel
theorem dL_runScript_9 : decode cL_runScript 9 = .ok (.i2l, 1) := by decide +kernel
theorem dL_runScript_10 : decode cL_runScript 10 = .ok (.lastore, 1) := by decide +kernel
theorem dL_runScript_11 : decode cL_runScript 11 = .ok (.goto 7, 3) := by decide +kernel
theorem dL_runScript_14 : decode cL_runScript 14 = .ok (.astore 5, 2) := by decide +kernel
theorem dL_runScript_16 : decode cL_runScript 16 = .ok (.iconst 1, 1) := by decide +kernel
theorem dL_runScript_17 : decode cL_runScript 17 = .ok (.ireturn, 1) := by decide +kernel
theorem dL_runScript_18 : decode cL_runScript 18 = .ok (.iconst 0, 1) := by decide +kernel
theorem dL_runScript_19 : decode cL_runScript 19 = .ok (.ireturn, 1) := by decide +kernel
theorem dL_simulate_0 : decode cL_simulate 0 = .ok (.aload 4, 2) := by decide +kernel
theorem dL_simulate_2 : decode cL_simulate 2 = .ok (.iconst 0, 1) := by decide +kernel
theorem dL_simulate_3 : decode cL_simulate 3 = .ok (.aload_n 0, 1) := by decide +kernel
theorem dL_simulate_4 : decode cL_simulate 4 = .ok (.lload_n 1, 1) := by decide +kernel
theorem dL_simulate_5 : decode cL_simulate 5 = .ok (.iload_n 3, 1) := by decide +kernel
theorem dL_simulate_6 : decode cL_simulate 6 = .ok (.invokevirtual 88, 3) := by decide +kernel
theorem dL_simulate_9 : decode cL_simulate 9 = .ok (.i2l, 1) := by decide +kernel
theorem dL_simulate_10 : decode cL_simulate 10 = .ok (.lastore, 1) := by decide +kernel
theorem dL_simulate_11 : decode cL_simulate 11 = .ok (.goto 7, 3) := by decide +kernel
theorem dL_simulate_14 : decode cL_simulate 14 = .ok (.astore 5, 2) := by decide +kernel
theorem dL_simulate_16 : decode cL_simulate 16 = .ok (.iconst 1, 1) := by decide +kernel
theorem dL_simulate_17 : decode cL_simulate 17 = .ok (.ireturn, 1) := by decide +kernel
theorem dL_simulate_18 : decode cL_simulate 18 = .ok (.iconst 0, 1) := by decide +kernel
theorem dL_simulate_19 : decode cL_simulate 19 = .ok (.ireturn, 1) := by decide +kernel
theorem dL_save_0 : decode cL_save 0 = .ok (.aload_n 2, 1) := by decide +kernel
theorem dL_save_1 : decode cL_save 1 = .ok (.iconst 0, 1) := by decide +kernel
theorem dL_save_2 : decode cL_save 2 = .ok (.aload_n 0, 1) := by decide +kernel
theorem dL_save_3 : decode cL_save 3 = .ok (.iload_n 1, 1) := by decide +kernel
theorem dL_save_4 : decode cL_save 4 = .ok (.invokevirtual 92, 3) := by decide +kernel
theorem dL_save_7 : decode cL_save 7 = .ok (.i2l, 1) := by decide +kernel
theorem dL_save_8 : decode cL_save 8 = .ok (.lastore, 1) := by decide +kernel
theorem dL_save_9 : decode cL_save 9 = .ok (.goto 6, 3) := by decide +kernel
theorem dL_save_12 : decode cL_save 12 = .ok (.astore_n 3, 1) := by decide +kernel
theorem dL_save_13 : decode cL_save 13 = .ok (.iconst 1, 1) := by decide +kernel
theorem dL_save_14 : decode cL_save 14 = .ok (.ireturn, 1) := by decide +kernel
theorem dL_save_15 : decode cL_save 15 = .ok (.iconst 0, 1) := by decide +kernel
theorem dL_save_16 : decode cL_save 16 = .ok (.ireturn, 1) := by decide +kernel
theorem dL_restore_0 : decode cL_restore 0 = .ok (.aload_n 2, 1) := by decide +kernel
theorem dL_restore_1 : decode cL_restore 1 = .ok (.iconst 0, 1) := by decide +kernel
theorem dL_restore_2 : decode cL_restore 2 = .ok (.aload_n 0, 1) := by decide +kernel
theorem dL_restore_3 : decode cL_restore 3 = .ok (.iload_n 1, 1) := by decide +kernel
theorem dL_restore_4 : decode cL_restore 4 = .ok (.invokevirtual 95, 3) := by decide +kernel
theorem dL_restore_7 : decode cL_restore 7 = .ok (.i2l, 1) := by decide +kernel
theorem dL_restore_8 : decode cL_restore 8 = .ok (.lastore, 1) := by decide +kernel
theorem dL_restore_9 : decode cL_restore 9 = .ok (.goto 9, 3) := by decide +kernel
theorem dL_restore_12 : decode cL_restore 12 = .ok (.astore_n 3, 1) := by decide +kernel
theorem dL_restore_13 : decode cL_restore 13 = .ok (.iconst 1, 1) := by decide +kernel
theorem dL_restore_14 : decode cL_restore 14 = .ok (.ireturn, 1) := by decide +kernel
theorem dL_restore_15 : decode cL_restore 15 = .ok (.astore_n 3, 1) := by decide +kernel
theorem dL_restore_16 : decode cL_restore 16 = .ok (.iconst 2, 1) := by decide +kernel
theorem dL_restore_17 : decode cL_restore 17 = .ok (.ireturn, 1) := by decide +kernel
theorem dL_restore_18 : decode cL_restore 18 = .ok (.iconst 0, 1) := by decide +kernel
theorem dL_restore_19 : decode cL_restore 19 = .ok (.ireturn, 1) := by decide +kernel
theorem dL_law_0 : decode cL_law 0 = .ok (.new 8, 3) := by decide +kernel
theorem dL_law_3 : decode cL_law 3 = .ok (.dup, 1) := by decide +kernel
theorem dL_law_4 : decode cL_law 4 = .ok (.invokespecial 98, 3) := by decide +kernel
theorem dL_law_7 : decode cL_law 7 = .ok (.astore_n 1, 1) := by decide +kernel
theorem dL_law_8 : decode cL_law 8 = .ok (.new 99, 3) := by decide +kernel
theorem dL_law_11 : decode cL_law 11 = .ok (.dup, 1) := by decide +kernel
theorem dL_law_12 : decode cL_law 12 = .ok (.invokespecial 101, 3) := by decide +kernel
theorem dL_law_15 : decode cL_law 15 = .ok (.astore_n 2, 1) := by decide +kernel
theorem dL_law_16 : decode cL_law 16 = .ok (.iconst 1, 1) := by decide +kernel
theorem dL_law_17 : decode cL_law 17 = .ok (.newarray .long, 2) := by decide +kernel
theorem dL_law_19 : decode cL_law 19 = .ok (.astore_n 3, 1) := by decide +kernel
theorem dL_law_20 : decode cL_law 20 = .ok (.iconst 0, 1) := by decide +kernel
theorem dL_law_21 : decode cL_law 21 = .ok (.istore 4, 2) := by decide +kernel
theorem dL_law_23 : decode cL_law 23 = .ok (.iload 4, 2) := by decide +kernel
theorem dL_law_25 : decode cL_law 25 = .ok (.aload_n 0, 1) := by decide +kernel
theorem dL_law_26 : decode cL_law 26 = .ok (.arraylength, 1) := by decide +kernel
theorem dL_law_27 : decode cL_law 27 = .ok (.iconst 4, 1) := by decide +kernel
theorem dL_law_28 : decode cL_law 28 = .ok (.isub, 1) := by decide +kernel
theorem dL_law_29 : decode cL_law 29 = .ok (.if_icmp .gt 1866, 3) := by decide +kernel
theorem dL_law_32 : decode cL_law 32 = .ok (.aload_n 0, 1) := by decide +kernel
theorem dL_law_33 : decode cL_law 33 = .ok (.iload 4, 2) := by decide +kernel
theorem dL_law_35 : decode cL_law 35 = .ok (.iaload, 1) := by decide +kernel
theorem dL_law_36 : decode cL_law 36 = .ok (.bipush 31, 2) := by decide +kernel
theorem dL_law_38 : decode cL_law 38 = .ok (.iand, 1) := by decide +kernel
theorem dL_law_39 : decode cL_law 39 = .ok (.tableswitch 1850 0 29 #[133, 189, 202, 215, 259, 315, 383, 451, 519, 587, 643, 699, 779, 875, 943, 999, 1083, 1151, 1207, 1251, 1264, 1277, 1357, 1370, 1426, 1482, 1538, 1638, 1738, 1794], 133) := by decide +kernel
theorem dL_law_172 : decode cL_law 172 = .ok (.aload_n 1, 1) := by decide +kernel
theorem dL_law_173 : decode cL_law 173 = .ok (.aload_n 0, 1) := by decide +kernel
theorem dL_law_174 : decode cL_law 174 = .ok (.iload 4, 2) := by decide +kernel
theorem dL_law_176 : decode cL_law 176 = .ok (.iconst 1, 1) := by decide +kernel
theorem dL_law_177 : decode cL_law 177 = .ok (.iadd, 1) := by decide +kernel
theorem dL_law_178 : decode cL_law 178 = .ok (.iaload, 1) := by decide +kernel
theorem dL_law_179 : decode cL_law 179 = .ok (.aload_n 3, 1) := by decide +kernel
theorem dL_law_180 : decode cL_law 180 = .ok (.invokestatic 102, 3) := by decide +kernel
theorem dL_law_183 : decode cL_law 183 = .ok (.istore 5, 2) := by decide +kernel
theorem dL_law_185 : decode cL_law 185 = .ok (.aload_n 2, 1) := by decide +kernel
theorem dL_law_186 : decode cL_law 186 = .ok (.aload_n 0, 1) := by decide +kernel
theorem dL_law_187 : decode cL_law 187 = .ok (.iload 4, 2) := by decide +kernel
theorem dL_law_189 : decode cL_law 189 = .ok (.iconst 1, 1) := by decide +kernel
theorem dL_law_190 : decode cL_law 190 = .ok (.iadd, 1) := by decide +kernel
theorem dL_law_191 : decode cL_law 191 = .ok (.iaload, 1) := by decide +kernel
theorem dL_law_192 : decode cL_law 192 = .ok (.invokevirtual 107, 3) := by decide +kernel
theorem dL_law_195 : decode cL_law 195 = .ok (.istore 6, 2) := by decide +kernel
theorem dL_law_197 : decode cL_law 197 = .ok (.aload_n 2, 1) := by decide +kernel
theorem dL_law_198 : decode cL_law 198 = .ok (.invokevirtual 108, 3) := by decide +kernel
theorem dL_law_201 : decode cL_law 201 = .ok (.iload 5, 2) := by decide +kernel
theorem dL_law_203 : decode cL_law 203 = .ok (.if_icmp .eq 5, 3) := by decide +kernel
theorem dL_law_206 : decode cL_law 206 = .ok (.iconst 0, 1) := by decide +kernel
theorem dL_law_207 : decode cL_law 207 = .ok (.ireturn, 1) := by decide +kernel
theorem dL_law_208 : decode cL_law 208 = .ok (.iload 5, 2) := by decide +kernel
theorem dL_law_210 : decode cL_law 210 = .ok (.ifCond .ne 15, 3) := by decide +kernel
theorem dL_law_213 : decode cL_law 213 = .ok (.aload_n 3, 1) := by decide +kernel
theorem dL_law_214 : decode cL_law 214 = .ok (.iconst 0, 1) := by decide +kernel
theorem dL_law_215 : decode cL_law 215 = .ok (.laload, 1) := by decide +kernel
theorem dL_law_216 : decode cL_law 216 = .ok (.iload 6, 2) := by decide +kernel
theorem dL_law_218 : decode cL_law 218 = .ok (.i2l, 1) := by decide +kernel
theorem dL_law_219 : decode cL_law 219 = .ok (.lcmp, 1) := by decide +kernel
theorem dL_law_220 : decode cL_law 220 = .ok (.ifCond .eq 5, 3) := by decide +kernel
theorem dL_law_223 : decode cL_law 223 = .ok (.iconst 0, 1) := by decide +kernel
theorem dL_law_224 : decode cL_law 224 = .ok (.ireturn, 1) := by decide +kernel
theorem dL_law_225 : decode cL_law 225 = .ok (.goto 1664, 3) := by decide +kernel
theorem dL_law_228 : decode cL_law 228 = .ok (.aload_n 1, 1) := by decide +kernel
theorem dL_law_229 : decode cL_law 229 = .ok (.invokevirtual 111, 3) := by decide +kernel
theorem dL_law_232 : decode cL_law 232 = .ok (.aload_n 2, 1) := by decide +kernel
theorem dL_law_233 : decode cL_law 233 = .ok (.invokevirtual 114, 3) := by decide +kernel
theorem dL_law_236 : decode cL_law 236 = .ok (.if_icmp .eq 1653, 3) := by decide +kernel
theorem dL_law_239 : decode cL_law 239 = .ok (.iconst 0, 1) := by decide +kernel
theorem dL_law_240 : decode cL_law 240 = .ok (.ireturn, 1) := by decide +kernel
theorem dL_law_241 : decode cL_law 241 = .ok (.aload_n 1, 1) := by decide +kernel
theorem dL_law_242 : decode cL_law 242 = .ok (.invokevirtual 115, 3) := by decide +kernel
theorem dL_law_245 : decode cL_law 245 = .ok (.aload_n 2, 1) := by decide +kernel
theorem dL_law_246 : decode cL_law 246 = .ok (.invokevirtual 118, 3) := by decide +kernel
theorem dL_law_249 : decode cL_law 249 = .ok (.if_icmp .eq 1640, 3) := by decide +kernel
theorem dL_law_252 : decode cL_law 252 = .ok (.iconst 0, 1) := by decide +kernel
theorem dL_law_253 : decode cL_law 253 = .ok (.ireturn, 1) := by decide +kernel
theorem dL_law_254 : decode cL_law 254 = .ok (.aload_n 1, 1) := by decide +kernel
theorem dL_law_255 : decode cL_law 255 = .ok (.aload_n 3, 1) := by decide +kernel
theorem dL_law_256 : decode cL_law 256 = .ok (.invokestatic 119, 3) := by decide +kernel
theorem dL_law_259 : decode cL_law 259 = .ok (.istore 5, 2) := by decide +kernel
theorem dL_law_261 : decode cL_law 261 = .ok (.aload_n 2, 1) := by decide +kernel
theorem dL_law_262 : decode cL_law 262 = .ok (.invokevirtual 122, 3) := by decide +kernel
theorem dL_law_265 : decode cL_law 265 = .ok (.istore 6, 2) := by decide +kernel
theorem dL_law_267 : decode cL_law 267 = .ok (.aload_n 2, 1) := by decide +kernel
theorem dL_law_268 : decode cL_law 268 = .ok (.invokevirtual 108, 3) := by decide +kernel
theorem dL_law_271 : decode cL_law 271 = .ok (.iload 5, 2) := by decide +kernel
theorem dL_law_273 : decode cL_law 273 = .ok (.if_icmp .eq 5, 3) := by decide +kernel
theorem dL_law_276 : decode cL_law 276 = .ok (.iconst 0, 1) := by decide +kernel
theorem dL_law_277 : decode cL_law 277 = .ok (.ireturn, 1) := by decide +kernel
theorem dL_law_278 : decode cL_law 278 = .ok (.iload 5, 2) := by decide +kernel
theorem dL_law_280 : decode cL_law 280 = .ok (.ifCond .ne 15, 3) := by decide +kernel
theorem dL_law_283 : decode cL_law 283 = .ok (.aload_n 3, 1) := by decide +kernel
theorem dL_law_284 : decode cL_law 284 = .ok (.iconst 0, 1) := by decide +kernel
theorem dL_law_285 : decode cL_law 285 = .ok (.laload, 1) := by decide +kernel
theorem dL_law_286 : decode cL_law 286 = .ok (.iload 6, 2) := by decide +kernel
theorem dL_law_288 : decode cL_law 288 = .ok (.i2l, 1) := by decide +kernel
theorem dL_law_289 : decode cL_law 289 = .ok (.lcmp, 1) := by decide +kernel
theorem dL_law_290 : decode cL_law 290 = .ok (.ifCond .eq 5, 3) := by decide +kernel
theorem dL_law_293 : decode cL_law 293 = .ok (.iconst 0, 1) := by decide +kernel
theorem dL_law_294 : decode cL_law 294 = .ok (.ireturn, 1) := by decide +kernel
theorem dL_law_295 : decode cL_law 295 = .ok (.goto 1594, 3) := by decide +kernel
theorem dL_law_298 : decode cL_law 298 = .ok (.aload_n 1, 1) := by decide +kernel
theorem dL_law_299 : decode cL_law 299 = .ok (.aload_n 0, 1) := by decide +kernel
theorem dL_law_300 : decode cL_law 300 = .ok (.iload 4, 2) := by decide +kernel
theorem dL_law_302 : decode cL_law 302 = .ok (.iconst 1, 1) := by decide +kernel
theorem dL_law_303 : decode cL_law 303 = .ok (.iadd, 1) := by decide +kernel
theorem dL_law_304 : decode cL_law 304 = .ok (.iaload, 1) := by decide +kernel
theorem dL_law_305 : decode cL_law 305 = .ok (.aload_n 3, 1) := by decide +kernel
theorem dL_law_306 : decode cL_law 306 = .ok (.invokestatic 123, 3) := by decide +kernel
theorem dL_law_309 : decode cL_law 309 = .ok (.istore 5, 2) := by decide +kernel
theorem dL_law_311 : decode cL_law 311 = .ok (.aload_n 2, 1) := by decide +kernel
theorem dL_law_312 : decode cL_law 312 = .ok (.aload_n 0, 1) := by decide +kernel
theorem dL_law_313 : decode cL_law 313 = .ok (.iload 4, 2) := by decide +kernel
theorem dL_law_315 : decode cL_law 315 = .ok (.iconst 1, 1) := by decide +kernel
theorem dL_law_316 : decode cL_law 316 = .ok (.iadd, 1) := by decide +kernel
theorem dL_law_317 : decode cL_law 317 = .ok (.iaload, 1) := by decide +kernel
theorem dL_law_318 : decode cL_law 318 = .ok (.invokevirtual 125, 3) := by decide +kernel
theorem dL_law_321 : decode cL_law 321 = .ok (.istore 6, 2) := by decide +kernel
theorem dL_law_323 : decode cL_law 323 = .ok (.aload_n 2, 1) := by decide +kernel
theorem dL_law_324 : decode cL_law 324 = .ok (.invokevirtual 108, 3) := by decide +kernel
theorem dL_law_327 : decode cL_law 327 = .ok (.iload 5, 2) := by decide +kernel
theorem dL_law_329 : decode cL_law 329 = .ok (.if_icmp .eq 5, 3) := by decide +kernel
theorem dL_law_332 : decode cL_law 332 = .ok (.iconst 0, 1) := by decide +kernel
theorem dL_law_333 : decode cL_law 333 = .ok (.ireturn, 1) := by decide +kernel
theorem dL_law_334 : decode cL_law 334 = .ok (.iload 5, 2) := by decide +kernel
theorem dL_law_336 : decode cL_law 336 = .ok (.ifCond .ne 15, 3) := by decide +kernel
theorem dL_law_339 : decode cL_law 339 = .ok (.aload_n 3, 1) := by decide +kernel
theorem dL_law_340 : decode cL_law 340 = .ok (.iconst 0, 1) := by decide +kernel
theorem dL_law_341 : decode cL_law 341 = .ok (.laload, 1) := by decide +kernel
theorem dL_law_342 : decode cL_law 342 = .ok (.iload 6, 2) := by decide +kernel
theorem dL_law_344 : decode cL_law 344 = .ok (.i2l, 1) := by decide +kernel
theorem dL_law_345 : decode cL_law 345 = .ok (.lcmp, 1) := by decide +kernel
theorem dL_law_346 : decode cL_law 346 = .ok (.ifCond .eq 5, 3) := by decide +kernel
theorem dL_law_349 : decode cL_law 349 = .ok (.iconst 0, 1) := by decide +kernel
theorem dL_law_350 : decode cL_law 350 = .ok (.ireturn, 1) := by decide +kernel
theorem dL_law_351 : decode cL_law 351 = .ok (.goto 1538, 3) := by decide +kernel
theorem dL_law_354 : decode cL_law 354 = .ok (.aload_n 1, 1) := by decide +kernel
theorem dL_law_355 : decode cL_law 355 = .ok (.aload_n 0, 1) := by decide +kernel
theorem dL_law_356 : decode cL_law 356 = .ok (.iload 4, 2) := by decide +kernel
theorem dL_law_358 : decode cL_law 358 = .ok (.iconst 1, 1) := by decide +kernel
theorem dL_law_359 : decode cL_law 359 = .ok (.iadd, 1) := by decide +kernel
theorem dL_law_360 : decode cL_law 360 = .ok (.iaload, 1) := by decide +kernel
theorem dL_law_361 : decode cL_law 361 = .ok (.aload_n 0, 1) := by decide +kernel
theorem dL_law_362 : decode cL_law 362 = .ok (.iload 4, 2) := by decide +kernel
theorem dL_law_364 : decode cL_law 364 = .ok (.iconst 2, 1) := by decide +kernel
theorem dL_law_365 : decode cL_law 365 = .ok (.iadd, 1) := by decide +kernel
theorem dL_law_366 : decode cL_law 366 = .ok (.iaload, 1) := by decide +kernel
theorem dL_law_367 : decode cL_law 367 = .ok (.aload_n 3, 1) := by decide +kernel
theorem dL_law_368 : decode cL_law 368 = .ok (.invokestatic 126, 3) := by decide +kernel
theorem dL_law_371 : decode cL_law 371 = .ok (.istore 5, 2) := by decide +kernel
theorem dL_law_373 : decode cL_law 373 = .ok (.aload_n 2, 1) := by decide +kernel
theorem dL_law_374 : decode cL_law 374 = .ok (.aload_n 0, 1) := by decide +kernel
theorem dL_law_375 : decode cL_law 375 = .ok (.iload 4, 2) := by decide +kernel
theorem dL_law_377 : decode cL_law 377 = .ok (.iconst 1, 1) := by decide +kernel
theorem dL_law_378 : decode cL_law 378 = .ok (.iadd, 1) := by decide +kernel
theorem dL_law_379 : decode cL_law 379 = .ok (.iaload, 1) := by decide +kernel
theorem dL_law_380 : decode cL_law 380 = .ok (.aload_n 0, 1) := by decide +kernel
theorem dL_law_381 : decode cL_law 381 = .ok (.iload 4, 2) := by decide +kernel
theorem dL_law_383 : decode cL_law 383 = .ok (.iconst 2, 1) := by decide +kernel
theorem dL_law_384 : decode cL_law 384 = .ok (.iadd, 1) := by decide +kernel
theorem dL_law_385 : decode cL_law 385 = .ok (.iaload, 1) := by decide +kernel
theorem dL_law_386 : decode cL_law 386 = .ok (.invokevirtual 129, 3) := by decide +kernel
theorem dL_law_389 : decode cL_law 389 = .ok (.istore 6, 2) := by decide +kernel
theorem dL_law_391 : decode cL_law 391 = .ok (.aload_n 2, 1) := by decide +kernel
theorem dL_law_392 : decode cL_law 392 = .ok (.invokevirtual 108, 3) := by decide +kernel
theorem dL_law_395 : decode cL_law 395 = .ok (.iload 5, 2) := by decide +kernel
theorem dL_law_397 : decode cL_law 397 = .ok (.if_icmp .eq 5, 3) := by decide +kernel
theorem dL_law_400 : decode cL_law 400 = .ok (.iconst 0, 1) := by decide +kernel
theorem dL_law_401 : decode cL_law 401 = .ok (.ireturn, 1) := by decide +kernel
theorem dL_law_402 : decode cL_law 402 = .ok (.iload 5, 2) := by decide +kernel
theorem dL_law_404 : decode cL_law 404 = .ok (.ifCond .ne 15, 3) := by decide +kernel
theorem dL_law_407 : decode cL_law 407 = .ok (.aload_n 3, 1) := by decide +kernel
theorem dL_law_408 : decode cL_law 408 = .ok (.iconst 0, 1) := by decide +kernel
theorem dL_law_409 : decode cL_law 409 = .ok (.laload, 1) := by decide +kernel
theorem dL_law_410 : decode cL_law 410 = .ok (.iload 6, 2) := by decide +kernel
theorem dL_law_412 : decode cL_law 412 = .ok (.i2l, 1) := by decide +kernel
theorem dL_law_413 : decode cL_law 413 = .ok (.lcmp, 1) := by decide +kernel
theorem dL_law_414 : decode cL_law 414 = .ok (.ifCond .eq 5, 3) := by decide +kernel
theorem dL_law_417 : decode cL_law 417 = .ok (.iconst 0, 1) := by decide +kernel
theorem dL_law_418 : decode cL_law 418 = .ok (.ireturn, 1) := by decide +kernel
theorem dL_law_419 : decode cL_law 419 = .ok (.goto 1470, 3) := by decide +kernel
theorem dL_law_422 : decode cL_law 422 = .ok (.aload_n 1, 1) := by decide +kernel
theorem dL_law_423 : decode cL_law 423 = .ok (.aload_n 0, 1) := by decide +kernel
theorem dL_law_424 : decode cL_law 424 = .ok (.iload 4, 2) := by decide +kernel
theorem dL_law_426 : decode cL_law 426 = .ok (.iconst 1, 1) := by decide +kernel
theorem dL_law_427 : decode cL_law 427 = .ok (.iadd, 1) := by decide +kernel
theorem dL_law_428 : decode cL_law 428 = .ok (.iaload, 1) := by decide +kernel
theorem dL_law_429 : decode cL_law 429 = .ok (.aload_n 0, 1) := by decide +kernel
theorem dL_law_430 : decode cL_law 430 = .ok (.iload 4, 2) := by decide +kernel
theorem dL_law_432 : decode cL_law 432 = .ok (.iconst 2, 1) := by decide +kernel
theorem dL_law_433 : decode cL_law 433 = .ok (.iadd, 1) := by decide +kernel
theorem dL_law_434 : decode cL_law 434 = .ok (.iaload, 1) := by decide +kernel
theorem dL_law_435 : decode cL_law 435 = .ok (.aload_n 3, 1) := by decide +kernel
theorem dL_law_436 : decode cL_law 436 = .ok (.invokestatic 130, 3) := by decide +kernel
theorem dL_law_439 : decode cL_law 439 = .ok (.istore 5, 2) := by decide +kernel
theorem dL_law_441 : decode cL_law 441 = .ok (.aload_n 2, 1) := by decide +kernel
theorem dL_law_442 : decode cL_law 442 = .ok (.aload_n 0, 1) := by decide +kernel
theorem dL_law_443 : decode cL_law 443 = .ok (.iload 4, 2) := by decide +kernel
theorem dL_law_445 : decode cL_law 445 = .ok (.iconst 1, 1) := by decide +kernel
theorem dL_law_446 : decode cL_law 446 = .ok (.iadd, 1) := by decide +kernel
theorem dL_law_447 : decode cL_law 447 = .ok (.iaload, 1) := by decide +kernel
theorem dL_law_448 : decode cL_law 448 = .ok (.aload_n 0, 1) := by decide +kernel
theorem dL_law_449 : decode cL_law 449 = .ok (.iload 4, 2) := by decide +kernel
theorem dL_law_451 : decode cL_law 451 = .ok (.iconst 2, 1) := by decide +kernel
theorem dL_law_452 : decode cL_law 452 = .ok (.iadd, 1) := by decide +kernel
theorem dL_law_453 : decode cL_law 453 = .ok (.iaload, 1) := by decide +kernel
theorem dL_law_454 : decode cL_law 454 = .ok (.invokevirtual 132, 3) := by decide +kernel
theorem dL_law_457 : decode cL_law 457 = .ok (.istore 6, 2) := by decide +kernel
theorem dL_law_459 : decode cL_law 459 = .ok (.aload_n 2, 1) := by decide +kernel
theorem dL_law_460 : decode cL_law 460 = .ok (.invokevirtual 108, 3) := by decide +kernel
theorem dL_law_463 : decode cL_law 463 = .ok (.iload 5, 2) := by decide +kernel
theorem dL_law_465 : decode cL_law 465 = .ok (.if_icmp .eq 5, 3) := by decide +kernel
theorem dL_law_468 : decode cL_law 468 = .ok (.iconst 0, 1) := by decide +kernel
theorem dL_law_469 : decode cL_law 469 = .ok (.ireturn, 1) := by decide +kernel
theorem dL_law_470 : decode cL_law 470 = .ok (.iload 5, 2) := by decide +kernel
theorem dL_law_472 : decode cL_law 472 = .ok (.ifCond .ne 15, 3) := by decide +kernel
theorem dL_law_475 : decode cL_law 475 = .ok (.aload_n 3, 1) := by decide +kernel
theorem dL_law_476 : decode cL_law 476 = .ok (.iconst 0, 1) := by decide +kernel
theorem dL_law_477 : decode cL_law 477 = .ok (.laload, 1) := by decide +kernel
theorem dL_law_478 : decode cL_law 478 = .ok (.iload 6, 2) := by decide +kernel
theorem dL_law_480 : decode cL_law 480 = .ok (.i2l, 1) := by decide +kernel
theorem dL_law_481 : decode cL_law 481 = .ok (.lcmp, 1) := by decide +kernel
theorem dL_law_482 : decode cL_law 482 = .ok (.ifCond .eq 5, 3) := by decide +kernel
theorem dL_law_485 : decode cL_law 485 = .ok (.iconst 0, 1) := by decide +kernel
theorem dL_law_486 : decode cL_law 486 = .ok (.ireturn, 1) := by decide +kernel
theorem dL_law_487 : decode cL_law 487 = .ok (.goto 1402, 3) := by decide +kernel
theorem dL_law_490 : decode cL_law 490 = .ok (.aload_n 1, 1) := by decide +kernel
theorem dL_law_491 : decode cL_law 491 = .ok (.aload_n 0, 1) := by decide +kernel
theorem dL_law_492 : decode cL_law 492 = .ok (.iload 4, 2) := by decide +kernel
theorem dL_law_494 : decode cL_law 494 = .ok (.iconst 1, 1) := by decide +kernel
theorem dL_law_495 : decode cL_law 495 = .ok (.iadd, 1) := by decide +kernel
theorem dL_law_496 : decode cL_law 496 = .ok (.iaload, 1) := by decide +kernel
theorem dL_law_497 : decode cL_law 497 = .ok (.aload_n 0, 1) := by decide +kernel
theorem dL_law_498 : decode cL_law 498 = .ok (.iload 4, 2) := by decide +kernel
theorem dL_law_500 : decode cL_law 500 = .ok (.iconst 2, 1) := by decide +kernel
theorem dL_law_501 : decode cL_law 501 = .ok (.iadd, 1) := by decide +kernel
theorem dL_law_502 : decode cL_law 502 = .ok (.iaload, 1) := by decide +kernel
theorem dL_law_503 : decode cL_law 503 = .ok (.aload_n 3, 1) := by decide +kernel
theorem dL_law_504 : decode cL_law 504 = .ok (.invokestatic 133, 3) := by decide +kernel
theorem dL_law_507 : decode cL_law 507 = .ok (.istore 5, 2) := by decide +kernel
theorem dL_law_509 : decode cL_law 509 = .ok (.aload_n 2, 1) := by decide +kernel
theorem dL_law_510 : decode cL_law 510 = .ok (.aload_n 0, 1) := by decide +kernel
theorem dL_law_511 : decode cL_law 511 = .ok (.iload 4, 2) := by decide +kernel
theorem dL_law_513 : decode cL_law 513 = .ok (.iconst 1, 1) := by decide +kernel
theorem dL_law_514 : decode cL_law 514 = .ok (.iadd, 1) := by decide +kernel
theorem dL_law_515 : decode cL_law 515 = .ok (.iaload, 1) := by decide +kernel
theorem dL_law_516 : decode cL_law 516 = .ok (.aload_n 0, 1) := by decide +kernel
theorem dL_law_517 : decode cL_law 517 = .ok (.iload 4, 2) := by decide +kernel
theorem dL_law_519 : decode cL_law 519 = .ok (.iconst 2, 1) := by decide +kernel
theorem dL_law_520 : decode cL_law 520 = .ok (.iadd, 1) := by decide +kernel
theorem dL_law_521 : decode cL_law 521 = .ok (.iaload, 1) := by decide +kernel
theorem dL_law_522 : decode cL_law 522 = .ok (.invokevirtual 135, 3) := by decide +kernel
theorem dL_law_525 : decode cL_law 525 = .ok (.istore 6, 2) := by decide +kernel
theorem dL_law_527 : decode cL_law 527 = .ok (.aload_n 2, 1) := by decide +kernel
theorem dL_law_528 : decode cL_law 528 = .ok (.invokevirtual 108, 3) := by decide +kernel
theorem dL_law_531 : decode cL_law 531 = .ok (.iload 5, 2) := by decide +kernel
theorem dL_law_533 : decode cL_law 533 = .ok (.if_icmp .eq 5, 3) := by decide +kernel
theorem dL_law_536 : decode cL_law 536 = .ok (.iconst 0, 1) := by decide +kernel
theorem dL_law_537 : decode cL_law 537 = .ok (.ireturn, 1) := by decide +kernel
theorem dL_law_538 : decode cL_law 538 = .ok (.iload 5, 2) := by decide +kernel
theorem dL_law_540 : decode cL_law 540 = .ok (.ifCond .ne 15, 3) := by decide +kernel
theorem dL_law_543 : decode cL_law 543 = .ok (.aload_n 3, 1) := by decide +kernel
theorem dL_law_544 : decode cL_law 544 = .ok (.iconst 0, 1) := by decide +kernel
theorem dL_law_545 : decode cL_law 545 = .ok (.laload, 1) := by decide +kernel
theorem dL_law_546 : decode cL_law 546 = .ok (.iload 6, 2) := by decide +kernel
theorem dL_law_548 : decode cL_law 548 = .ok (.i2l, 1) := by decide +kernel
theorem dL_law_549 : decode cL_law 549 = .ok (.lcmp, 1) := by decide +kernel
theorem dL_law_550 : decode cL_law 550 = .ok (.ifCond .eq 5, 3) := by decide +kernel
theorem dL_law_553 : decode cL_law 553 = .ok (.iconst 0, 1) := by decide +kernel
theorem dL_law_554 : decode cL_law 554 = .ok (.ireturn, 1) := by decide +kernel
theorem dL_law_555 : decode cL_law 555 = .ok (.goto 1334, 3) := by decide +kernel
theorem dL_law_558 : decode cL_law 558 = .ok (.aload_n 1, 1) := by decide +kernel
theorem dL_law_559 : decode cL_law 559 = .ok (.aload_n 0, 1) := by decide +kernel
theorem dL_law_560 : decode cL_law 560 = .ok (.iload 4, 2) := by decide +kernel
theorem dL_law_562 : decode cL_law 562 = .ok (.iconst 1, 1) := by decide +kernel
theorem dL_law_563 : decode cL_law 563 = .ok (.iadd, 1) := by decide +kernel
theorem dL_law_564 : decode cL_law 564 = .ok (.iaload, 1) := by decide +kernel
theorem dL_law_565 : decode cL_law 565 = .ok (.aload_n 0, 1) := by decide +kernel
theorem dL_law_566 : decode cL_law 566 = .ok (.iload 4, 2) := by decide +kernel
theorem dL_law_568 : decode cL_law 568 = .ok (.iconst 2, 1) := by decide +kernel
theorem dL_law_569 : decode cL_law 569 = .ok (.iadd, 1) := by decide +kernel
theorem dL_law_570 : decode cL_law 570 = .ok (.iaload, 1) := by decide +kernel
theorem dL_law_571 : decode cL_law 571 = .ok (.aload_n 3, 1) := by decide +kernel
theorem dL_law_572 : decode cL_law 572 = .ok (.invokestatic 136, 3) := by decide +kernel
theorem dL_law_575 : decode cL_law 575 = .ok (.istore 5, 2) := by decide +kernel
theorem dL_law_577 : decode cL_law 577 = .ok (.aload_n 2, 1) := by decide +kernel
theorem dL_law_578 : decode cL_law 578 = .ok (.aload_n 0, 1) := by decide +kernel
theorem dL_law_579 : decode cL_law 579 = .ok (.iload 4, 2) := by decide +kernel
theorem dL_law_581 : decode cL_law 581 = .ok (.iconst 1, 1) := by decide +kernel
theorem dL_law_582 : decode cL_law 582 = .ok (.iadd, 1) := by decide +kernel
theorem dL_law_583 : decode cL_law 583 = .ok (.iaload, 1) := by decide +kernel
theorem dL_law_584 : decode cL_law 584 = .ok (.aload_n 0, 1) := by decide +kernel
theorem dL_law_585 : decode cL_law 585 = .ok (.iload 4, 2) := by decide +kernel
theorem dL_law_587 : decode cL_law 587 = .ok (.iconst 2, 1) := by decide +kernel
theorem dL_law_588 : decode cL_law 588 = .ok (.iadd, 1) := by decide +kernel
theorem dL_law_589 : decode cL_law 589 = .ok (.iaload, 1) := by decide +kernel
theorem dL_law_590 : decode cL_law 590 = .ok (.invokevirtual 138, 3) := by decide +kernel
theorem dL_law_593 : decode cL_law 593 = .ok (.istore 6, 2) := by decide +kernel
theorem dL_law_595 : decode cL_law 595 = .ok (.aload_n 2, 1) := by decide +kernel
theorem dL_law_596 : decode cL_law 596 = .ok (.invokevirtual 108, 3) := by decide +kernel
theorem dL_law_599 : decode cL_law 599 = .ok (.iload 5, 2) := by decide +kernel
theorem dL_law_601 : decode cL_law 601 = .ok (.if_icmp .eq 5, 3) := by decide +kernel
theorem dL_law_604 : decode cL_law 604 = .ok (.iconst 0, 1) := by decide +kernel
theorem dL_law_605 : decode cL_law 605 = .ok (.ireturn, 1) := by decide +kernel
theorem dL_law_606 : decode cL_law 606 = .ok (.iload 5, 2) := by decide +kernel
theorem dL_law_608 : decode cL_law 608 = .ok (.ifCond .ne 15, 3) := by decide +kernel
theorem dL_law_611 : decode cL_law 611 = .ok (.aload_n 3, 1) := by decide +kernel
theorem dL_law_612 : decode cL_law 612 = .ok (.iconst 0, 1) := by decide +kernel
theorem dL_law_613 : decode cL_law 613 = .ok (.laload, 1) := by decide +kernel
theorem dL_law_614 : decode cL_law 614 = .ok (.iload 6, 2) := by decide +kernel
theorem dL_law_616 : decode cL_law 616 = .ok (.i2l, 1) := by decide +kernel
theorem dL_law_617 : decode cL_law 617 = .ok (.lcmp, 1) := by decide +kernel
theorem dL_law_618 : decode cL_law 618 = .ok (.ifCond .eq 5, 3) := by decide +kernel
theorem dL_law_621 : decode cL_law 621 = .ok (.iconst 0, 1) := by decide +kernel
theorem dL_law_622 : decode cL_law 622 = .ok (.ireturn, 1) := by decide +kernel
theorem dL_law_623 : decode cL_law 623 = .ok (.goto 1266, 3) := by decide +kernel
theorem dL_law_626 : decode cL_law 626 = .ok (.aload_n 1, 1) := by decide +kernel
theorem dL_law_627 : decode cL_law 627 = .ok (.aload_n 0, 1) := by decide +kernel
theorem dL_law_628 : decode cL_law 628 = .ok (.iload 4, 2) := by decide +kernel
theorem dL_law_630 : decode cL_law 630 = .ok (.iconst 1, 1) := by decide +kernel
theorem dL_law_631 : decode cL_law 631 = .ok (.iadd, 1) := by decide +kernel
theorem dL_law_632 : decode cL_law 632 = .ok (.iaload, 1) := by decide +kernel
theorem dL_law_633 : decode cL_law 633 = .ok (.aload_n 3, 1) := by decide +kernel
theorem dL_law_634 : decode cL_law 634 = .ok (.invokestatic 139, 3) := by decide +kernel
theorem dL_law_637 : decode cL_law 637 = .ok (.istore 5, 2) := by decide +kernel
theorem dL_law_639 : decode cL_law 639 = .ok (.aload_n 2, 1) := by decide +kernel
theorem dL_law_640 : decode cL_law 640 = .ok (.aload_n 0, 1) := by decide +kernel
theorem dL_law_641 : decode cL_law 641 = .ok (.iload 4, 2) := by decide +kernel
theorem dL_law_643 : decode cL_law 643 = .ok (.iconst 1, 1) := by decide +kernel
theorem dL_law_644 : decode cL_law 644 = .ok (.iadd, 1) := by decide +kernel
theorem dL_law_645 : decode cL_law 645 = .ok (.iaload, 1) := by decide +kernel
theorem dL_law_646 : decode cL_law 646 = .ok (.invokevirtual 141, 3) := by decide +kernel
theorem dL_law_649 : decode cL_law 649 = .ok (.istore 6, 2) := by decide +kernel
theorem dL_law_651 : decode cL_law 651 = .ok (.aload_n 2, 1) := by decide +kernel
theorem dL_law_652 : decode cL_law 652 = .ok (.invokevirtual 108, 3) := by decide +kernel
theorem dL_law_655 : decode cL_law 655 = .ok (.iload 5, 2) := by decide +kernel
theorem dL_law_657 : decode cL_law 657 = .ok (.if_icmp .eq 5, 3) := by decide +kernel
theorem dL_law_660 : decode cL_law 660 = .ok (.iconst 0, 1) := by decide +kernel
theorem dL_law_661 : decode cL_law 661 = .ok (.ireturn, 1) := by decide +kernel
theorem dL_law_662 : decode cL_law 662 = .ok (.iload 5, 2) := by decide +kernel
theorem dL_law_664 : decode cL_law 664 = .ok (.ifCond .ne 15, 3) := by decide +kernel
theorem dL_law_667 : decode cL_law 667 = .ok (.aload_n 3, 1) := by decide +kernel
theorem dL_law_668 : decode cL_law 668 = .ok (.iconst 0, 1) := by decide +kernel
theorem dL_law_669 : decode cL_law 669 = .ok (.laload, 1) := by decide +kernel
theorem dL_law_670 : decode cL_law 670 = .ok (.iload 6, 2) := by decide +kernel
theorem dL_law_672 : decode cL_law 672 = .ok (.i2l, 1) := by decide +kernel
theorem dL_law_673 : decode cL_law 673 = .ok (.lcmp, 1) := by decide +kernel
theorem dL_law_674 : decode cL_law 674 = .ok (.ifCond .eq 5, 3) := by decide +kernel
theorem dL_law_677 : decode cL_law 677 = .ok (.iconst 0, 1) := by decide +kernel
theorem dL_law_678 : decode cL_law 678 = .ok (.ireturn, 1) := by decide +kernel
theorem dL_law_679 : decode cL_law 679 = .ok (.goto 1210, 3) := by decide +kernel
theorem dL_law_682 : decode cL_law 682 = .ok (.aload_n 1, 1) := by decide +kernel
theorem dL_law_683 : decode cL_law 683 = .ok (.aload_n 0, 1) := by decide +kernel
theorem dL_law_684 : decode cL_law 684 = .ok (.iload 4, 2) := by decide +kernel
theorem dL_law_686 : decode cL_law 686 = .ok (.iconst 1, 1) := by decide +kernel
theorem dL_law_687 : decode cL_law 687 = .ok (.iadd, 1) := by decide +kernel
theorem dL_law_688 : decode cL_law 688 = .ok (.iaload, 1) := by decide +kernel
theorem dL_law_689 : decode cL_law 689 = .ok (.aload_n 3, 1) := by decide +kernel
theorem dL_law_690 : decode cL_law 690 = .ok (.invokestatic 142, 3) := by decide +kernel
theorem dL_law_693 : decode cL_law 693 = .ok (.istore 5, 2) := by decide +kernel
theorem dL_law_695 : decode cL_law 695 = .ok (.aload_n 2, 1) := by decide +kernel
theorem dL_law_696 : decode cL_law 696 = .ok (.aload_n 0, 1) := by decide +kernel
theorem dL_law_697 : decode cL_law 697 = .ok (.iload 4, 2) := by decide +kernel
theorem dL_law_699 : decode cL_law 699 = .ok (.iconst 1, 1) := by decide +kernel
theorem dL_law_700 : decode cL_law 700 = .ok (.iadd, 1) := by decide +kernel
theorem dL_law_701 : decode cL_law 701 = .ok (.iaload, 1) := by decide +kernel
theorem dL_law_702 : decode cL_law 702 = .ok (.invokevirtual 144, 3) := by decide +kernel
theorem dL_law_705 : decode cL_law 705 = .ok (.istore 6, 2) := by decide +kernel
theorem dL_law_707 : decode cL_law 707 = .ok (.aload_n 2, 1) := by decide +kernel
theorem dL_law_708 : decode cL_law 708 = .ok (.invokevirtual 108, 3) := by decide +kernel
theorem dL_law_711 : decode cL_law 711 = .ok (.iload 5, 2) := by decide +kernel
theorem dL_law_713 : decode cL_law 713 = .ok (.if_icmp .eq 5, 3) := by decide +kernel
theorem dL_law_716 : decode cL_law 716 = .ok (.iconst 0, 1) := by decide +kernel
theorem dL_law_717 : decode cL_law 717 = .ok (.ireturn, 1) := by decide +kernel
theorem dL_law_718 : decode cL_law 718 = .ok (.iload 5, 2) := by decide +kernel
theorem dL_law_720 : decode cL_law 720 = .ok (.ifCond .ne 15, 3) := by decide +kernel
theorem dL_law_723 : decode cL_law 723 = .ok (.aload_n 3, 1) := by decide +kernel
theorem dL_law_724 : decode cL_law 724 = .ok (.iconst 0, 1) := by decide +kernel
theorem dL_law_725 : decode cL_law 725 = .ok (.laload, 1) := by decide +kernel
theorem dL_law_726 : decode cL_law 726 = .ok (.iload 6, 2) := by decide +kernel
theorem dL_law_728 : decode cL_law 728 = .ok (.i2l, 1) := by decide +kernel
theorem dL_law_729 : decode cL_law 729 = .ok (.lcmp, 1) := by decide +kernel
theorem dL_law_730 : decode cL_law 730 = .ok (.ifCond .eq 5, 3) := by decide +kernel
theorem dL_law_733 : decode cL_law 733 = .ok (.iconst 0, 1) := by decide +kernel
theorem dL_law_734 : decode cL_law 734 = .ok (.ireturn, 1) := by decide +kernel
theorem dL_law_735 : decode cL_law 735 = .ok (.goto 1154, 3) := by decide +kernel
theorem dL_law_738 : decode cL_law 738 = .ok (.aload_n 1, 1) := by decide +kernel
theorem dL_law_739 : decode cL_law 739 = .ok (.aload_n 0, 1) := by decide +kernel
theorem dL_law_740 : decode cL_law 740 = .ok (.iload 4, 2) := by decide +kernel
theorem dL_law_742 : decode cL_law 742 = .ok (.iconst 1, 1) := by decide +kernel
theorem dL_law_743 : decode cL_law 743 = .ok (.iadd, 1) := by decide +kernel
theorem dL_law_744 : decode cL_law 744 = .ok (.iaload, 1) := by decide +kernel
theorem dL_law_745 : decode cL_law 745 = .ok (.aload_n 0, 1) := by decide +kernel
theorem dL_law_746 : decode cL_law 746 = .ok (.iload 4, 2) := by decide +kernel
theorem dL_law_748 : decode cL_law 748 = .ok (.iconst 2, 1) := by decide +kernel
theorem dL_law_749 : decode cL_law 749 = .ok (.iadd, 1) := by decide +kernel
theorem dL_law_750 : decode cL_law 750 = .ok (.iaload, 1) := by decide +kernel
theorem dL_law_751 : decode cL_law 751 = .ok (.aload_n 0, 1) := by decide +kernel
theorem dL_law_752 : decode cL_law 752 = .ok (.iload 4, 2) := by decide +kernel
theorem dL_law_754 : decode cL_law 754 = .ok (.iconst 3, 1) := by decide +kernel
theorem dL_law_755 : decode cL_law 755 = .ok (.iadd, 1) := by decide +kernel
theorem dL_law_756 : decode cL_law 756 = .ok (.iaload, 1) := by decide +kernel
theorem dL_law_757 : decode cL_law 757 = .ok (.aload_n 3, 1) := by decide +kernel
theorem dL_law_758 : decode cL_law 758 = .ok (.invokestatic 145, 3) := by decide +kernel
theorem dL_law_761 : decode cL_law 761 = .ok (.istore 5, 2) := by decide +kernel
theorem dL_law_763 : decode cL_law 763 = .ok (.aload_n 2, 1) := by decide +kernel
theorem dL_law_764 : decode cL_law 764 = .ok (.aload_n 0, 1) := by decide +kernel
theorem dL_law_765 : decode cL_law 765 = .ok (.iload 4, 2) := by decide +kernel
theorem dL_law_767 : decode cL_law 767 = .ok (.iconst 1, 1) := by decide +kernel
theorem dL_law_768 : decode cL_law 768 = .ok (.iadd, 1) := by decide +kernel
theorem dL_law_769 : decode cL_law 769 = .ok (.iaload, 1) := by decide +kernel
theorem dL_law_770 : decode cL_law 770 = .ok (.aload_n 0, 1) := by decide +kernel
theorem dL_law_771 : decode cL_law 771 = .ok (.iload 4, 2) := by decide +kernel
theorem dL_law_773 : decode cL_law 773 = .ok (.iconst 2, 1) := by decide +kernel
theorem dL_law_774 : decode cL_law 774 = .ok (.iadd, 1) := by decide +kernel
theorem dL_law_775 : decode cL_law 775 = .ok (.iaload, 1) := by decide +kernel
theorem dL_law_776 : decode cL_law 776 = .ok (.aload_n 0, 1) := by decide +kernel
theorem dL_law_777 : decode cL_law 777 = .ok (.iload 4, 2) := by decide +kernel
theorem dL_law_779 : decode cL_law 779 = .ok (.iconst 3, 1) := by decide +kernel
theorem dL_law_780 : decode cL_law 780 = .ok (.iadd, 1) := by decide +kernel
theorem dL_law_781 : decode cL_law 781 = .ok (.iaload, 1) := by decide +kernel
theorem dL_law_782 : decode cL_law 782 = .ok (.invokevirtual 148, 3) := by decide +kernel
theorem dL_law_785 : decode cL_law 785 = .ok (.istore 6, 2) := by decide +kernel
theorem dL_law_787 : decode cL_law 787 = .ok (.aload_n 2, 1) := by decide +kernel
theorem dL_law_788 : decode cL_law 788 = .ok (.invokevirtual 108, 3) := by decide +kernel
theorem dL_law_791 : decode cL_law 791 = .ok (.iload 5, 2) := by decide +kernel
theorem dL_law_793 : decode cL_law 793 = .ok (.if_icmp .eq 5, 3) := by decide +kernel
theorem dL_law_796 : decode cL_law 796 = .ok (.iconst 0, 1) := by decide +kernel
theorem dL_law_797 : decode cL_law 797 = .ok (.ireturn, 1) := by decide +kernel
theorem dL_law_798 : decode cL_law 798 = .ok (.iload 5, 2) := by decide +kernel
theorem dL_law_800 : decode cL_law 800 = .ok (.ifCond .ne 15, 3) := by decide +kernel
theorem dL_law_803 : decode cL_law 803 = .ok (.aload_n 3, 1) := by decide +kernel
theorem dL_law_804 : decode cL_law 804 = .ok (.iconst 0, 1) := by decide +kernel
theorem dL_law_805 : decode cL_law 805 = .ok (.laload, 1) := by decide +kernel
theorem dL_law_806 : decode cL_law 806 = .ok (.iload 6, 2) := by decide +kernel
theorem dL_law_808 : decode cL_law 808 = .ok (.i2l, 1) := by decide +kernel
theorem dL_law_809 : decode cL_law 809 = .ok (.lcmp, 1) := by decide +kernel
theorem dL_law_810 : decode cL_law 810 = .ok (.ifCond .eq 5, 3) := by decide +kernel
theorem dL_law_813 : decode cL_law 813 = .ok (.iconst 0, 1) := by decide +kernel
theorem dL_law_814 : decode cL_law 814 = .ok (.ireturn, 1) := by decide +kernel
theorem dL_law_815 : decode cL_law 815 = .ok (.goto 1074, 3) := by decide +kernel
theorem dL_law_818 : decode cL_law 818 = .ok (.aload_n 1, 1) := by decide +kernel
theorem dL_law_819 : decode cL_law 819 = .ok (.aload_n 0, 1) := by decide +kernel
theorem dL_law_820 : decode cL_law 820 = .ok (.iload 4, 2) := by decide +kernel
theorem dL_law_822 : decode cL_law 822 = .ok (.iconst 1, 1) := by decide +kernel
theorem dL_law_823 : decode cL_law 823 = .ok (.iadd, 1) := by decide +kernel
theorem dL_law_824 : decode cL_law 824 = .ok (.iaload, 1) := by decide +kernel
theorem dL_law_825 : decode cL_law 825 = .ok (.aload_n 0, 1) := by decide +kernel
theorem dL_law_826 : decode cL_law 826 = .ok (.iload 4, 2) := by decide +kernel
theorem dL_law_828 : decode cL_law 828 = .ok (.iconst 2, 1) := by decide +kernel
theorem dL_law_829 : decode cL_law 829 = .ok (.iadd, 1) := by decide +kernel
theorem dL_law_830 : decode cL_law 830 = .ok (.iaload, 1) := by decide +kernel
theorem dL_law_831 : decode cL_law 831 = .ok (.aload_n 0, 1) := by decide +kernel
theorem dL_law_832 : decode cL_law 832 = .ok (.iload 4, 2) := by decide +kernel
theorem dL_law_834 : decode cL_law 834 = .ok (.iconst 3, 1) := by decide +kernel
theorem dL_law_835 : decode cL_law 835 = .ok (.iadd, 1) := by decide +kernel
theorem dL_law_836 : decode cL_law 836 = .ok (.iaload, 1) := by decide +kernel
theorem dL_law_837 : decode cL_law 837 = .ok (.ifCond .eq 7, 3) := by decide +kernel
theorem dL_law_840 : decode cL_law 840 = .ok (.iconst 1, 1) := by decide +kernel
theorem dL_law_841 : decode cL_law 841 = .ok (.goto 4, 3) := by decide +kernel
theorem dL_law_844 : decode cL_law 844 = .ok (.iconst 0, 1) := by decide +kernel
theorem dL_law_845 : decode cL_law 845 = .ok (.aload_n 3, 1) := by decide +kernel
theorem dL_law_846 : decode cL_law 846 = .ok (.invokestatic 149, 3) := by decide +kernel
theorem dL_law_849 : decode cL_law 849 = .ok (.istore 5, 2) := by decide +kernel
theorem dL_law_851 : decode cL_law 851 = .ok (.aload_n 2, 1) := by decide +kernel
theorem dL_law_852 : decode cL_law 852 = .ok (.aload_n 0, 1) := by decide +kernel
theorem dL_law_853 : decode cL_law 853 = .ok (.iload 4, 2) := by decide +kernel
theorem dL_law_855 : decode cL_law 855 = .ok (.iconst 1, 1) := by decide +kernel
theorem dL_law_856 : decode cL_law 856 = .ok (.iadd, 1) := by decide +kernel
theorem dL_law_857 : decode cL_law 857 = .ok (.iaload, 1) := by decide +kernel
theorem dL_law_858 : decode cL_law 858 = .ok (.aload_n 0, 1) := by decide +kernel
theorem dL_law_859 : decode cL_law 859 = .ok (.iload 4, 2) := by decide +kernel
theorem dL_law_861 : decode cL_law 861 = .ok (.iconst 2, 1) := by decide +kernel
theorem dL_law_862 : decode cL_law 862 = .ok (.iadd, 1) := by decide +kernel
theorem dL_law_863 : decode cL_law 863 = .ok (.iaload, 1) := by decide +kernel
theorem dL_law_864 : decode cL_law 864 = .ok (.aload_n 0, 1) := by decide +kernel
theorem dL_law_865 : decode cL_law 865 = .ok (.iload 4, 2) := by decide +kernel
theorem dL_law_867 : decode cL_law 867 = .ok (.iconst 3, 1) := by decide +kernel
theorem dL_law_868 : decode cL_law 868 = .ok (.iadd, 1) := by decide +kernel
theorem dL_law_869 : decode cL_law 869 = .ok (.iaload, 1) := by decide +kernel
theorem dL_law_870 : decode cL_law 870 = .ok (.ifCond .eq 7, 3) := by decide +kernel
theorem dL_law_873 : decode cL_law 873 = .ok (.iconst 1, 1) := by decide +kernel
theorem dL_law_874 : decode cL_law 874 = .ok (.goto 4, 3) := by decide +kernel
theorem dL_law_877 : decode cL_law 877 = .ok (.iconst 0, 1) := by decide +kernel
theorem dL_law_878 : decode cL_law 878 = .ok (.invokevirtual 152, 3) := by decide +kernel
theorem dL_law_881 : decode cL_law 881 = .ok (.istore 6, 2) := by decide +kernel
theorem dL_law_883 : decode cL_law 883 = .ok (.aload_n 2, 1) := by decide +kernel
theorem dL_law_884 : decode cL_law 884 = .ok (.invokevirtual 108, 3) := by decide +kernel
theorem dL_law_887 : decode cL_law 887 = .ok (.iload 5, 2) := by decide +kernel
theorem dL_law_889 : decode cL_law 889 = .ok (.if_icmp .eq 5, 3) := by decide +kernel
theorem dL_law_892 : decode cL_law 892 = .ok (.iconst 0, 1) := by decide +kernel
theorem dL_law_893 : decode cL_law 893 = .ok (.ireturn, 1) := by decide +kernel
theorem dL_law_894 : decode cL_law 894 = .ok (.iload 5, 2) := by decide +kernel
theorem dL_law_896 : decode cL_law 896 = .ok (.ifCond .ne 15, 3) := by decide +kernel
theorem dL_law_899 : decode cL_law 899 = .ok (.aload_n 3, 1) := by decide +kernel
theorem dL_law_900 : decode cL_law 900 = .ok (.iconst 0, 1) := by decide +kernel
theorem dL_law_901 : decode cL_law 901 = .ok (.laload, 1) := by decide +kernel
theorem dL_law_902 : decode cL_law 902 = .ok (.iload 6, 2) := by decide +kernel
theorem dL_law_904 : decode cL_law 904 = .ok (.i2l, 1) := by decide +kernel
theorem dL_law_905 : decode cL_law 905 = .ok (.lcmp, 1) := by decide +kernel
theorem dL_law_906 : decode cL_law 906 = .ok (.ifCond .eq 5, 3) := by decide +kernel
theorem dL_law_909 : decode cL_law 909 = .ok (.iconst 0, 1) := by decide +kernel
theorem dL_law_910 : decode cL_law 910 = .ok (.ireturn, 1) := by decide +kernel
theorem dL_law_911 : decode cL_law 911 = .ok (.goto 978, 3) := by decide +kernel
theorem dL_law_914 : decode cL_law 914 = .ok (.aload_n 1, 1) := by decide +kernel
theorem dL_law_915 : decode cL_law 915 = .ok (.aload_n 0, 1) := by decide +kernel
theorem dL_law_916 : decode cL_law 916 = .ok (.iload 4, 2) := by decide +kernel
theorem dL_law_918 : decode cL_law 918 = .ok (.iconst 1, 1) := by decide +kernel
theorem dL_law_919 : decode cL_law 919 = .ok (.iadd, 1) := by decide +kernel
theorem dL_law_920 : decode cL_law 920 = .ok (.iaload, 1) := by decide +kernel
theorem dL_law_921 : decode cL_law 921 = .ok (.aload_n 0, 1) := by decide +kernel
theorem dL_law_922 : decode cL_law 922 = .ok (.iload 4, 2) := by decide +kernel
theorem dL_law_924 : decode cL_law 924 = .ok (.iconst 2, 1) := by decide +kernel
theorem dL_law_925 : decode cL_law 925 = .ok (.iadd, 1) := by decide +kernel
theorem dL_law_926 : decode cL_law 926 = .ok (.iaload, 1) := by decide +kernel
theorem dL_law_927 : decode cL_law 927 = .ok (.aload_n 3, 1) := by decide +kernel
theorem dL_law_928 : decode cL_law 928 = .ok (.invokestatic 153, 3) := by decide +kernel
theorem dL_law_931 : decode cL_law 931 = .ok (.istore 5, 2) := by decide +kernel
theorem dL_law_933 : decode cL_law 933 = .ok (.aload_n 2, 1) := by decide +kernel
theorem dL_law_934 : decode cL_law 934 = .ok (.aload_n 0, 1) := by decide +kernel
theorem dL_law_935 : decode cL_law 935 = .ok (.iload 4, 2) := by decide +kernel
theorem dL_law_937 : decode cL_law 937 = .ok (.iconst 1, 1) := by decide +kernel
theorem dL_law_938 : decode cL_law 938 = .ok (.iadd, 1) := by decide +kernel
theorem dL_law_939 : decode cL_law 939 = .ok (.iaload, 1) := by decide +kernel
theorem dL_law_940 : decode cL_law 940 = .ok (.aload_n 0, 1) := by decide +kernel
theorem dL_law_941 : decode cL_law 941 = .ok (.iload 4, 2) := by decide +kernel
theorem dL_law_943 : decode cL_law 943 = .ok (.iconst 2, 1) := by decide +kernel
theorem dL_law_944 : decode cL_law 944 = .ok (.iadd, 1) := by decide +kernel
theorem dL_law_945 : decode cL_law 945 = .ok (.iaload, 1) := by decide +kernel
theorem dL_law_946 : decode cL_law 946 = .ok (.invokevirtual 155, 3) := by decide +kernel
theorem dL_law_949 : decode cL_law 949 = .ok (.istore 6, 2) := by decide +kernel
theorem dL_law_951 : decode cL_law 951 = .ok (.aload_n 2, 1) := by decide +kernel
theorem dL_law_952 : decode cL_law 952 = .ok (.invokevirtual 108, 3) := by decide +kernel
theorem dL_law_955 : decode cL_law 955 = .ok (.iload 5, 2) := by decide +kernel
theorem dL_law_957 : decode cL_law 957 = .ok (.if_icmp .eq 5, 3) := by decide +kernel
theorem dL_law_960 : decode cL_law 960 = .ok (.iconst 0, 1) := by decide +kernel
theorem dL_law_961 : decode cL_law 961 = .ok (.ireturn, 1) := by decide +kernel
theorem dL_law_962 : decode cL_law 962 = .ok (.iload 5, 2) := by decide +kernel
theorem dL_law_964 : decode cL_law 964 = .ok (.ifCond .ne 15, 3) := by decide +kernel
theorem dL_law_967 : decode cL_law 967 = .ok (.aload_n 3, 1) := by decide +kernel
theorem dL_law_968 : decode cL_law 968 = .ok (.iconst 0, 1) := by decide +kernel
theorem dL_law_969 : decode cL_law 969 = .ok (.laload, 1) := by decide +kernel
theorem dL_law_970 : decode cL_law 970 = .ok (.iload 6, 2) := by decide +kernel
theorem dL_law_972 : decode cL_law 972 = .ok (.i2l, 1) := by decide +kernel
theorem dL_law_973 : decode cL_law 973 = .ok (.lcmp, 1) := by decide +kernel
theorem dL_law_974 : decode cL_law 974 = .ok (.ifCond .eq 5, 3) := by decide +kernel
theorem dL_law_977 : decode cL_law 977 = .ok (.iconst 0, 1) := by decide +kernel
theorem dL_law_978 : decode cL_law 978 = .ok (.ireturn, 1) := by decide +kernel
theorem dL_law_979 : decode cL_law 979 = .ok (.goto 910, 3) := by decide +kernel
theorem dL_law_982 : decode cL_law 982 = .ok (.aload_n 1, 1) := by decide +kernel
theorem dL_law_983 : decode cL_law 983 = .ok (.aload_n 0, 1) := by decide +kernel
theorem dL_law_984 : decode cL_law 984 = .ok (.iload 4, 2) := by decide +kernel
theorem dL_law_986 : decode cL_law 986 = .ok (.iconst 1, 1) := by decide +kernel
theorem dL_law_987 : decode cL_law 987 = .ok (.iadd, 1) := by decide +kernel
theorem dL_law_988 : decode cL_law 988 = .ok (.iaload, 1) := by decide +kernel
theorem dL_law_989 : decode cL_law 989 = .ok (.aload_n 3, 1) := by decide +kernel
theorem dL_law_990 : decode cL_law 990 = .ok (.invokestatic 156, 3) := by decide +kernel
theorem dL_law_993 : decode cL_law 993 = .ok (.istore 5, 2) := by decide +kernel
theorem dL_law_995 : decode cL_law 995 = .ok (.aload_n 2, 1) := by decide +kernel
theorem dL_law_996 : decode cL_law 996 = .ok (.aload_n 0, 1) := by decide +kernel
theorem dL_law_997 : decode cL_law 997 = .ok (.iload 4, 2) := by decide +kernel
theorem dL_law_999 : decode cL_law 999 = .ok (.iconst 1, 1) := by decide +kernel
theorem dL_law_1000 : decode cL_law 1000 = .ok (.iadd, 1) := by decide +kernel
theorem dL_law_1001 : decode cL_law 1001 = .ok (.iaload, 1) := by decide +kernel
theorem dL_law_1002 : decode cL_law 1002 = .ok (.invokevirtual 158, 3) := by decide +kernel
theorem dL_law_1005 : decode cL_law 1005 = .ok (.istore 6, 2) := by decide +kernel
theorem dL_law_1007 : decode cL_law 1007 = .ok (.aload_n 2, 1) := by decide +kernel
theorem dL_law_1008 : decode cL_law 1008 = .ok (.invokevirtual 108, 3) := by decide +kernel
theorem dL_law_1011 : decode cL_law 1011 = .ok (.iload 5, 2) := by decide +kernel
theorem dL_law_1013 : decode cL_law 1013 = .ok (.if_icmp .eq 5, 3) := by decide +kernel
theorem dL_law_1016 : decode cL_law 1016 = .ok (.iconst 0, 1) := by decide +kernel
theorem dL_law_1017 : decode cL_law 1017 = .ok (.ireturn, 1) := by decide +kernel
theorem dL_law_1018 : decode cL_law 1018 = .ok (.iload 5, 2) := by decide +kernel
theorem dL_law_1020 : decode cL_law 1020 = .ok (.ifCond .ne 15, 3) := by decide +kernel
theorem dL_law_1023 : decode cL_law 1023 = .ok (.aload_n 3, 1) := by decide +kernel
theorem dL_law_1024 : decode cL_law 1024 = .ok (.iconst 0, 1) := by decide +kernel
theorem dL_law_1025 : decode cL_law 1025 = .ok (.laload, 1) := by decide +kernel
theorem dL_law_1026 : decode cL_law 1026 = .ok (.iload 6, 2) := by decide +kernel
theorem dL_law_1028 : decode cL_law 1028 = .ok (.i2l, 1) := by decide +kernel
theorem dL_law_1029 : decode cL_law 1029 = .ok (.lcmp, 1) := by decide +kernel
theorem dL_law_1030 : decode cL_law 1030 = .ok (.ifCond .eq 5, 3) := by decide +kernel
theorem dL_law_1033 : decode cL_law 1033 = .ok (.iconst 0, 1) := by decide +kernel
theorem dL_law_1034 : decode cL_law 1034 = .ok (.ireturn, 1) := by decide +kernel
theorem dL_law_1035 : decode cL_law 1035 = .ok (.goto 854, 3) := by decide +kernel
theorem dL_law_1038 : decode cL_law 1038 = .ok (.aload_n 1, 1) := by decide +kernel
theorem dL_law_1039 : decode cL_law 1039 = .ok (.aload_n 0, 1) := by decide +kernel
theorem dL_law_1040 : decode cL_law 1040 = .ok (.iload 4, 2) := by decide +kernel
theorem dL_law_1042 : decode cL_law 1042 = .ok (.iconst 1, 1) := by decide +kernel
theorem dL_law_1043 : decode cL_law 1043 = .ok (.iadd, 1) := by decide +kernel
theorem dL_law_1044 : decode cL_law 1044 = .ok (.iaload, 1) := by decide +kernel
theorem dL_law_1045 : decode cL_law 1045 = .ok (.aload_n 0, 1) := by decide +kernel
theorem dL_law_1046 : decode cL_law 1046 = .ok (.iload 4, 2) := by decide +kernel
theorem dL_law_1048 : decode cL_law 1048 = .ok (.iconst 2, 1) := by decide +kernel
theorem dL_law_1049 : decode cL_law 1049 = .ok (.iadd, 1) := by decide +kernel
theorem dL_law_1050 : decode cL_law 1050 = .ok (.iaload, 1) := by decide +kernel
theorem dL_law_1051 : decode cL_law 1051 = .ok (.ifCond .eq 7, 3) := by decide +kernel
theorem dL_law_1054 : decode cL_law 1054 = .ok (.iconst 1, 1) := by decide +kernel
theorem dL_law_1055 : decode cL_law 1055 = .ok (.goto 4, 3) := by decide +kernel
theorem dL_law_1058 : decode cL_law 1058 = .ok (.iconst 0, 1) := by decide +kernel
theorem dL_law_1059 : decode cL_law 1059 = .ok (.aload_n 3, 1) := by decide +kernel
theorem dL_law_1060 : decode cL_law 1060 = .ok (.invokestatic 159, 3) := by decide +kernel
theorem dL_law_1063 : decode cL_law 1063 = .ok (.istore 5, 2) := by decide +kernel
theorem dL_law_1065 : decode cL_law 1065 = .ok (.aload_n 2, 1) := by decide +kernel
theorem dL_law_1066 : decode cL_law 1066 = .ok (.aload_n 0, 1) := by decide +kernel
theorem dL_law_1067 : decode cL_law 1067 = .ok (.iload 4, 2) := by decide +kernel
theorem dL_law_1069 : decode cL_law 1069 = .ok (.iconst 1, 1) := by decide +kernel
theorem dL_law_1070 : decode cL_law 1070 = .ok (.iadd, 1) := by decide +kernel
theorem dL_law_1071 : decode cL_law 1071 = .ok (.iaload, 1) := by decide +kernel
theorem dL_law_1072 : decode cL_law 1072 = .ok (.aload_n 0, 1) := by decide +kernel
theorem dL_law_1073 : decode cL_law 1073 = .ok (.iload 4, 2) := by decide +kernel
theorem dL_law_1075 : decode cL_law 1075 = .ok (.iconst 2, 1) := by decide +kernel
theorem dL_law_1076 : decode cL_law 1076 = .ok (.iadd, 1) := by decide +kernel
theorem dL_law_1077 : decode cL_law 1077 = .ok (.iaload, 1) := by decide +kernel
theorem dL_law_1078 : decode cL_law 1078 = .ok (.ifCond .eq 7, 3) := by decide +kernel
theorem dL_law_1081 : decode cL_law 1081 = .ok (.iconst 1, 1) := by decide +kernel
theorem dL_law_1082 : decode cL_law 1082 = .ok (.goto 4, 3) := by decide +kernel
theorem dL_law_1085 : decode cL_law 1085 = .ok (.iconst 0, 1) := by decide +kernel
theorem dL_law_1086 : decode cL_law 1086 = .ok (.invokevirtual 162, 3) := by decide +kernel
theorem dL_law_1089 : decode cL_law 1089 = .ok (.istore 6, 2) := by decide +kernel
theorem dL_law_1091 : decode cL_law 1091 = .ok (.aload_n 2, 1) := by decide +kernel
theorem dL_law_1092 : decode cL_law 1092 = .ok (.invokevirtual 108, 3) := by decide +kernel
theorem dL_law_1095 : decode cL_law 1095 = .ok (.iload 5, 2) := by decide +kernel
theorem dL_law_1097 : decode cL_law 1097 = .ok (.if_icmp .eq 5, 3) := by decide +kernel
theorem dL_law_1100 : decode cL_law 1100 = .ok (.iconst 0, 1) := by decide +kernel
theorem dL_law_1101 : decode cL_law 1101 = .ok (.ireturn, 1) := by decide +kernel
theorem dL_law_1102 : decode cL_law 1102 = .ok (.iload 5, 2) := by decide +kernel
theorem dL_law_1104 : decode cL_law 1104 = .ok (.ifCond .ne 15, 3) := by decide +kernel
theorem dL_law_1107 : decode cL_law 1107 = .ok (.aload_n 3, 1) := by decide +kernel
theorem dL_law_1108 : decode cL_law 1108 = .ok (.iconst 0, 1) := by decide +kernel
theorem dL_law_1109 : decode cL_law 1109 = .ok (.laload, 1) := by decide +kernel
theorem dL_law_1110 : decode cL_law 1110 = .ok (.iload 6, 2) := by decide +kernel
theorem dL_law_1112 : decode cL_law 1112 = .ok (.i2l, 1) := by decide +kernel
theorem dL_law_1113 : decode cL_law 1113 = .ok (.lcmp, 1) := by decide +kernel
theorem dL_law_1114 : decode cL_law 1114 = .ok (.ifCond .eq 5, 3) := by decide +kernel
theorem dL_law_1117 : decode cL_law 1117 = .ok (.iconst 0, 1) := by decide +kernel
theorem dL_law_1118 : decode cL_law 1118 = .ok (.ireturn, 1) := by decide +kernel
theorem dL_law_1119 : decode cL_law 1119 = .ok (.goto 770, 3) := by decide +kernel
theorem dL_law_1122 : decode cL_law 1122 = .ok (.aload_n 1, 1) := by decide +kernel
theorem dL_law_1123 : decode cL_law 1123 = .ok (.aload_n 0, 1) := by decide +kernel
theorem dL_law_1124 : decode cL_law 1124 = .ok (.iload 4, 2) := by decide +kernel
theorem dL_law_1126 : decode cL_law 1126 = .ok (.iconst 1, 1) := by decide +kernel
theorem dL_law_1127 : decode cL_law 1127 = .ok (.iadd, 1) := by decide +kernel
theorem dL_law_1128 : decode cL_law 1128 = .ok (.iaload, 1) := by decide +kernel
theorem dL_law_1129 : decode cL_law 1129 = .ok (.aload_n 0, 1) := by decide +kernel
theorem dL_law_1130 : decode cL_law 1130 = .ok (.iload 4, 2) := by decide +kernel
theorem dL_law_1132 : decode cL_law 1132 = .ok (.iconst 2, 1) := by decide +kernel
theorem dL_law_1133 : decode cL_law 1133 = .ok (.iadd, 1) := by decide +kernel
theorem dL_law_1134 : decode cL_law 1134 = .ok (.iaload, 1) := by decide +kernel
theorem dL_law_1135 : decode cL_law 1135 = .ok (.aload_n 3, 1) := by decide +kernel
theorem dL_law_1136 : decode cL_law 1136 = .ok (.invokestatic 163, 3) := by decide +kernel
theorem dL_law_1139 : decode cL_law 1139 = .ok (.istore 5, 2) := by decide +kernel
theorem dL_law_1141 : decode cL_law 1141 = .ok (.aload_n 2, 1) := by decide +kernel
theorem dL_law_1142 : decode cL_law 1142 = .ok (.aload_n 0, 1) := by decide +kernel
theorem dL_law_1143 : decode cL_law 1143 = .ok (.iload 4, 2) := by decide +kernel
theorem dL_law_1145 : decode cL_law 1145 = .ok (.iconst 1, 1) := by decide +kernel
theorem dL_law_1146 : decode cL_law 1146 = .ok (.iadd, 1) := by decide +kernel
theorem dL_law_1147 : decode cL_law 1147 = .ok (.iaload, 1) := by decide +kernel
theorem dL_law_1148 : decode cL_law 1148 = .ok (.aload_n 0, 1) := by decide +kernel
theorem dL_law_1149 : decode cL_law 1149 = .ok (.iload 4, 2) := by decide +kernel
theorem dL_law_1151 : decode cL_law 1151 = .ok (.iconst 2, 1) := by decide +kernel
theorem dL_law_1152 : decode cL_law 1152 = .ok (.iadd, 1) := by decide +kernel
theorem dL_law_1153 : decode cL_law 1153 = .ok (.iaload, 1) := by decide +kernel
theorem dL_law_1154 : decode cL_law 1154 = .ok (.invokevirtual 165, 3) := by decide +kernel
theorem dL_law_1157 : decode cL_law 1157 = .ok (.istore 6, 2) := by decide +kernel
theorem dL_law_1159 : decode cL_law 1159 = .ok (.aload_n 2, 1) := by decide +kernel
theorem dL_law_1160 : decode cL_law 1160 = .ok (.invokevirtual 108, 3) := by decide +kernel
theorem dL_law_1163 : decode cL_law 1163 = .ok (.iload 5, 2) := by decide +kernel
theorem dL_law_1165 : decode cL_law 1165 = .ok (.if_icmp .eq 5, 3) := by decide +kernel
theorem dL_law_1168 : decode cL_law 1168 = .ok (.iconst 0, 1) := by decide +kernel
theorem dL_law_1169 : decode cL_law 1169 = .ok (.ireturn, 1) := by decide +kernel
theorem dL_law_1170 : decode cL_law 1170 = .ok (.iload 5, 2) := by decide +kernel
theorem dL_law_1172 : decode cL_law 1172 = .ok (.ifCond .ne 15, 3) := by decide +kernel
theorem dL_law_1175 : decode cL_law 1175 = .ok (.aload_n 3, 1) := by decide +kernel
theorem dL_law_1176 : decode cL_law 1176 = .ok (.iconst 0, 1) := by decide +kernel
theorem dL_law_1177 : decode cL_law 1177 = .ok (.laload, 1) := by decide +kernel
theorem dL_law_1178 : decode cL_law 1178 = .ok (.iload 6, 2) := by decide +kernel
theorem dL_law_1180 : decode cL_law 1180 = .ok (.i2l, 1) := by decide +kernel
theorem dL_law_1181 : decode cL_law 1181 = .ok (.lcmp, 1) := by decide +kernel
theorem dL_law_1182 : decode cL_law 1182 = .ok (.ifCond .eq 5, 3) := by decide +kernel
theorem dL_law_1185 : decode cL_law 1185 = .ok (.iconst 0, 1) := by decide +kernel
theorem dL_law_1186 : decode cL_law 1186 = .ok (.ireturn, 1) := by decide +kernel
theorem dL_law_1187 : decode cL_law 1187 = .ok (.goto 702, 3) := by decide +kernel
theorem dL_law_1190 : decode cL_law 1190 = .ok (.aload_n 1, 1) := by decide +kernel
theorem dL_law_1191 : decode cL_law 1191 = .ok (.aload_n 0, 1) := by decide +kernel
theorem dL_law_1192 : decode cL_law 1192 = .ok (.iload 4, 2) := by decide +kernel
theorem dL_law_1194 : decode cL_law 1194 = .ok (.iconst 1, 1) := by decide +kernel
theorem dL_law_1195 : decode cL_law 1195 = .ok (.iadd, 1) := by decide +kernel
theorem dL_law_1196 : decode cL_law 1196 = .ok (.iaload, 1) := by decide +kernel
theorem dL_law_1197 : decode cL_law 1197 = .ok (.aload_n 3, 1) := by decide +kernel
theorem dL_law_1198 : decode cL_law 1198 = .ok (.invokestatic 166, 3) := by decide +kernel
theorem dL_law_1201 : decode cL_law 1201 = .ok (.istore 5, 2) := by decide +kernel
theorem dL_law_1203 : decode cL_law 1203 = .ok (.aload_n 2, 1) := by decide +kernel
theorem dL_law_1204 : decode cL_law 1204 = .ok (.aload_n 0, 1) := by decide +kernel
theorem dL_law_1205 : decode cL_law 1205 = .ok (.iload 4, 2) := by decide +kernel
theorem dL_law_1207 : decode cL_law 1207 = .ok (.iconst 1, 1) := by decide +kernel
theorem dL_law_1208 : decode cL_law 1208 = .ok (.iadd, 1) := by decide +kernel
theorem dL_law_1209 : decode cL_law 1209 = .ok (.iaload, 1) := by decide +kernel
theorem dL_law_1210 : decode cL_law 1210 = .ok (.invokevirtual 168, 3) := by decide +kernel
theorem dL_law_1213 : decode cL_law 1213 = .ok (.istore 6, 2) := by decide +kernel
theorem dL_law_1215 : decode cL_law 1215 = .ok (.aload_n 2, 1) := by decide +kernel
theorem dL_law_1216 : decode cL_law 1216 = .ok (.invokevirtual 108, 3) := by decide +kernel
theorem dL_law_1219 : decode cL_law 1219 = .ok (.iload 5, 2) := by decide +kernel
theorem dL_law_1221 : decode cL_law 1221 = .ok (.if_icmp .eq 5, 3) := by decide +kernel
theorem dL_law_1224 : decode cL_law 1224 = .ok (.iconst 0, 1) := by decide +kernel
theorem dL_law_1225 : decode cL_law 1225 = .ok (.ireturn, 1) := by decide +kernel
theorem dL_law_1226 : decode cL_law 1226 = .ok (.iload 5, 2) := by decide +kernel
theorem dL_law_1228 : decode cL_law 1228 = .ok (.ifCond .ne 15, 3) := by decide +kernel
theorem dL_law_1231 : decode cL_law 1231 = .ok (.aload_n 3, 1) := by decide +kernel
theorem dL_law_1232 : decode cL_law 1232 = .ok (.iconst 0, 1) := by decide +kernel
theorem dL_law_1233 : decode cL_law 1233 = .ok (.laload, 1) := by decide +kernel
theorem dL_law_1234 : decode cL_law 1234 = .ok (.iload 6, 2) := by decide +kernel
theorem dL_law_1236 : decode cL_law 1236 = .ok (.i2l, 1) := by decide +kernel
theorem dL_law_1237 : decode cL_law 1237 = .ok (.lcmp, 1) := by decide +kernel
theorem dL_law_1238 : decode cL_law 1238 = .ok (.ifCond .eq 5, 3) := by decide +kernel
theorem dL_law_1241 : decode cL_law 1241 = .ok (.iconst 0, 1) := by decide +kernel
theorem dL_law_1242 : decode cL_law 1242 = .ok (.ireturn, 1) := by decide +kernel
theorem dL_law_1243 : decode cL_law 1243 = .ok (.goto 646, 3) := by decide +kernel
theorem dL_law_1246 : decode cL_law 1246 = .ok (.aload_n 1, 1) := by decide +kernel
theorem dL_law_1247 : decode cL_law 1247 = .ok (.aload_n 3, 1) := by decide +kernel
theorem dL_law_1248 : decode cL_law 1248 = .ok (.invokestatic 169, 3) := by decide +kernel
theorem dL_law_1251 : decode cL_law 1251 = .ok (.istore 5, 2) := by decide +kernel
theorem dL_law_1253 : decode cL_law 1253 = .ok (.aload_n 2, 1) := by decide +kernel
theorem dL_law_1254 : decode cL_law 1254 = .ok (.invokevirtual 171, 3) := by decide +kernel
theorem dL_law_1257 : decode cL_law 1257 = .ok (.istore 6, 2) := by decide +kernel
theorem dL_law_1259 : decode cL_law 1259 = .ok (.aload_n 2, 1) := by decide +kernel
theorem dL_law_1260 : decode cL_law 1260 = .ok (.invokevirtual 108, 3) := by decide +kernel
theorem dL_law_1263 : decode cL_law 1263 = .ok (.iload 5, 2) := by decide +kernel
theorem dL_law_1265 : decode cL_law 1265 = .ok (.if_icmp .eq 5, 3) := by decide +kernel
theorem dL_law_1268 : decode cL_law 1268 = .ok (.iconst 0, 1) := by decide +kernel
theorem dL_law_1269 : decode cL_law 1269 = .ok (.ireturn, 1) := by decide +kernel
theorem dL_law_1270 : decode cL_law 1270 = .ok (.iload 5, 2) := by decide +kernel
theorem dL_law_1272 : decode cL_law 1272 = .ok (.ifCond .ne 15, 3) := by decide +kernel
theorem dL_law_1275 : decode cL_law 1275 = .ok (.aload_n 3, 1) := by decide +kernel
theorem dL_law_1276 : decode cL_law 1276 = .ok (.iconst 0, 1) := by decide +kernel
theorem dL_law_1277 : decode cL_law 1277 = .ok (.laload, 1) := by decide +kernel
theorem dL_law_1278 : decode cL_law 1278 = .ok (.iload 6, 2) := by decide +kernel
theorem dL_law_1280 : decode cL_law 1280 = .ok (.i2l, 1) := by decide +kernel
theorem dL_law_1281 : decode cL_law 1281 = .ok (.lcmp, 1) := by decide +kernel
theorem dL_law_1282 : decode cL_law 1282 = .ok (.ifCond .eq 5, 3) := by decide +kernel
theorem dL_law_1285 : decode cL_law 1285 = .ok (.iconst 0, 1) := by decide +kernel
theorem dL_law_1286 : decode cL_law 1286 = .ok (.ireturn, 1) := by decide +kernel
theorem dL_law_1287 : decode cL_law 1287 = .ok (.goto 602, 3) := by decide +kernel
theorem dL_law_1290 : decode cL_law 1290 = .ok (.aload_n 1, 1) := by decide +kernel
theorem dL_law_1291 : decode cL_law 1291 = .ok (.invokevirtual 172, 3) := by decide +kernel
theorem dL_law_1294 : decode cL_law 1294 = .ok (.aload_n 2, 1) := by decide +kernel
theorem dL_law_1295 : decode cL_law 1295 = .ok (.invokevirtual 175, 3) := by decide +kernel
theorem dL_law_1298 : decode cL_law 1298 = .ok (.if_icmp .eq 591, 3) := by decide +kernel
theorem dL_law_1301 : decode cL_law 1301 = .ok (.iconst 0, 1) := by decide +kernel
theorem dL_law_1302 : decode cL_law 1302 = .ok (.ireturn, 1) := by decide +kernel
theorem dL_law_1303 : decode cL_law 1303 = .ok (.aload_n 1, 1) := by decide +kernel
theorem dL_law_1304 : decode cL_law 1304 = .ok (.invokevirtual 176, 3) := by decide +kernel
theorem dL_law_1307 : decode cL_law 1307 = .ok (.aload_n 2, 1) := by decide +kernel
theorem dL_law_1308 : decode cL_law 1308 = .ok (.invokevirtual 179, 3) := by decide +kernel
theorem dL_law_1311 : decode cL_law 1311 = .ok (.if_icmp .eq 578, 3) := by decide +kernel
theorem dL_law_1314 : decode cL_law 1314 = .ok (.iconst 0, 1) := by decide +kernel
theorem dL_law_1315 : decode cL_law 1315 = .ok (.ireturn, 1) := by decide +kernel
theorem dL_law_1316 : decode cL_law 1316 = .ok (.aload_n 1, 1) := by decide +kernel
theorem dL_law_1317 : decode cL_law 1317 = .ok (.aload_n 0, 1) := by decide +kernel
theorem dL_law_1318 : decode cL_law 1318 = .ok (.iload 4, 2) := by decide +kernel
theorem dL_law_1320 : decode cL_law 1320 = .ok (.iconst 1, 1) := by decide +kernel
theorem dL_law_1321 : decode cL_law 1321 = .ok (.iadd, 1) := by decide +kernel
theorem dL_law_1322 : decode cL_law 1322 = .ok (.iaload, 1) := by decide +kernel
theorem dL_law_1323 : decode cL_law 1323 = .ok (.aload_n 0, 1) := by decide +kernel
theorem dL_law_1324 : decode cL_law 1324 = .ok (.iload 4, 2) := by decide +kernel
theorem dL_law_1326 : decode cL_law 1326 = .ok (.iconst 2, 1) := by decide +kernel
theorem dL_law_1327 : decode cL_law 1327 = .ok (.iadd, 1) := by decide +kernel
theorem dL_law_1328 : decode cL_law 1328 = .ok (.iaload, 1) := by decide +kernel
theorem dL_law_1329 : decode cL_law 1329 = .ok (.aload_n 0, 1) := by decide +kernel
theorem dL_law_1330 : decode cL_law 1330 = .ok (.iload 4, 2) := by decide +kernel
theorem dL_law_1332 : decode cL_law 1332 = .ok (.iconst 3, 1) := by decide +kernel
theorem dL_law_1333 : decode cL_law 1333 = .ok (.iadd, 1) := by decide +kernel
theorem dL_law_1334 : decode cL_law 1334 = .ok (.iaload, 1) := by decide +kernel
theorem dL_law_1335 : decode cL_law 1335 = .ok (.aload_n 3, 1) := by decide +kernel
theorem dL_law_1336 : decode cL_law 1336 = .ok (.invokestatic 180, 3) := by decide +kernel
theorem dL_law_1339 : decode cL_law 1339 = .ok (.istore 5, 2) := by decide +kernel
theorem dL_law_1341 : decode cL_law 1341 = .ok (.aload_n 2, 1) := by decide +kernel
theorem dL_law_1342 : decode cL_law 1342 = .ok (.aload_n 0, 1) := by decide +kernel
theorem dL_law_1343 : decode cL_law 1343 = .ok (.iload 4, 2) := by decide +kernel
theorem dL_law_1345 : decode cL_law 1345 = .ok (.iconst 1, 1) := by decide +kernel
theorem dL_law_1346 : decode cL_law 1346 = .ok (.iadd, 1) := by decide +kernel
theorem dL_law_1347 : decode cL_law 1347 = .ok (.iaload, 1) := by decide +kernel
theorem dL_law_1348 : decode cL_law 1348 = .ok (.aload_n 0, 1) := by decide +kernel
theorem dL_law_1349 : decode cL_law 1349 = .ok (.iload 4, 2) := by decide +kernel
theorem dL_law_1351 : decode cL_law 1351 = .ok (.iconst 2, 1) := by decide +kernel
theorem dL_law_1352 : decode cL_law 1352 = .ok (.iadd, 1) := by decide +kernel
theorem dL_law_1353 : decode cL_law 1353 = .ok (.iaload, 1) := by decide +kernel
theorem dL_law_1354 : decode cL_law 1354 = .ok (.aload_n 0, 1) := by decide +kernel
theorem dL_law_1355 : decode cL_law 1355 = .ok (.iload 4, 2) := by decide +kernel
theorem dL_law_1357 : decode cL_law 1357 = .ok (.iconst 3, 1) := by decide +kernel
theorem dL_law_1358 : decode cL_law 1358 = .ok (.iadd, 1) := by decide +kernel
theorem dL_law_1359 : decode cL_law 1359 = .ok (.iaload, 1) := by decide +kernel
theorem dL_law_1360 : decode cL_law 1360 = .ok (.invokevirtual 182, 3) := by decide +kernel
theorem dL_law_1363 : decode cL_law 1363 = .ok (.istore 6, 2) := by decide +kernel
theorem dL_law_1365 : decode cL_law 1365 = .ok (.aload_n 2, 1) := by decide +kernel
theorem dL_law_1366 : decode cL_law 1366 = .ok (.invokevirtual 108, 3) := by decide +kernel
theorem dL_law_1369 : decode cL_law 1369 = .ok (.iload 5, 2) := by decide +kernel
theorem dL_law_1371 : decode cL_law 1371 = .ok (.if_icmp .eq 5, 3) := by decide +kernel
theorem dL_law_1374 : decode cL_law 1374 = .ok (.iconst 0, 1) := by decide +kernel
theorem dL_law_1375 : decode cL_law 1375 = .ok (.ireturn, 1) := by decide +kernel
theorem dL_law_1376 : decode cL_law 1376 = .ok (.iload 5, 2) := by decide +kernel
theorem dL_law_1378 : decode cL_law 1378 = .ok (.ifCond .ne 15, 3) := by decide +kernel
theorem dL_law_1381 : decode cL_law 1381 = .ok (.aload_n 3, 1) := by decide +kernel
theorem dL_law_1382 : decode cL_law 1382 = .ok (.iconst 0, 1) := by decide +kernel
theorem dL_law_1383 : decode cL_law 1383 = .ok (.laload, 1) := by decide +kernel
theorem dL_law_1384 : decode cL_law 1384 = .ok (.iload 6, 2) := by decide +kernel
theorem dL_law_1386 : decode cL_law 1386 = .ok (.i2l, 1) := by decide +kernel
theorem dL_law_1387 : decode cL_law 1387 = .ok (.lcmp, 1) := by decide +kernel
theorem dL_law_1388 : decode cL_law 1388 = .ok (.ifCond .eq 5, 3) := by decide +kernel
theorem dL_law_1391 : decode cL_law 1391 = .ok (.iconst 0, 1) := by decide +kernel
theorem dL_law_1392 : decode cL_law 1392 = .ok (.ireturn, 1) := by decide +kernel
theorem dL_law_1393 : decode cL_law 1393 = .ok (.goto 496, 3) := by decide +kernel
theorem dL_law_1396 : decode cL_law 1396 = .ok (.aload_n 1, 1) := by decide +kernel
theorem dL_law_1397 : decode cL_law 1397 = .ok (.invokevirtual 183, 3) := by decide +kernel
theorem dL_law_1400 : decode cL_law 1400 = .ok (.aload_n 2, 1) := by decide +kernel
theorem dL_law_1401 : decode cL_law 1401 = .ok (.invokevirtual 186, 3) := by decide +kernel
theorem dL_law_1404 : decode cL_law 1404 = .ok (.if_icmp .eq 485, 3) := by decide +kernel
theorem dL_law_1407 : decode cL_law 1407 = .ok (.iconst 0, 1) := by decide +kernel
theorem dL_law_1408 : decode cL_law 1408 = .ok (.ireturn, 1) := by decide +kernel
theorem dL_law_1409 : decode cL_law 1409 = .ok (.aload_n 1, 1) := by decide +kernel
theorem dL_law_1410 : decode cL_law 1410 = .ok (.aload_n 0, 1) := by decide +kernel
theorem dL_law_1411 : decode cL_law 1411 = .ok (.iload 4, 2) := by decide +kernel
theorem dL_law_1413 : decode cL_law 1413 = .ok (.iconst 1, 1) := by decide +kernel
theorem dL_law_1414 : decode cL_law 1414 = .ok (.iadd, 1) := by decide +kernel
theorem dL_law_1415 : decode cL_law 1415 = .ok (.iaload, 1) := by decide +kernel
theorem dL_law_1416 : decode cL_law 1416 = .ok (.aload_n 3, 1) := by decide +kernel
theorem dL_law_1417 : decode cL_law 1417 = .ok (.invokestatic 187, 3) := by decide +kernel
theorem dL_law_1420 : decode cL_law 1420 = .ok (.istore 5, 2) := by decide +kernel
theorem dL_law_1422 : decode cL_law 1422 = .ok (.aload_n 2, 1) := by decide +kernel
theorem dL_law_1423 : decode cL_law 1423 = .ok (.aload_n 0, 1) := by decide +kernel
theorem dL_law_1424 : decode cL_law 1424 = .ok (.iload 4, 2) := by decide +kernel
theorem dL_law_1426 : decode cL_law 1426 = .ok (.iconst 1, 1) := by decide +kernel
theorem dL_law_1427 : decode cL_law 1427 = .ok (.iadd, 1) := by decide +kernel
theorem dL_law_1428 : decode cL_law 1428 = .ok (.iaload, 1) := by decide +kernel
theorem dL_law_1429 : decode cL_law 1429 = .ok (.invokevirtual 189, 3) := by decide +kernel
theorem dL_law_1432 : decode cL_law 1432 = .ok (.istore 6, 2) := by decide +kernel
theorem dL_law_1434 : decode cL_law 1434 = .ok (.aload_n 2, 1) := by decide +kernel
theorem dL_law_1435 : decode cL_law 1435 = .ok (.invokevirtual 108, 3) := by decide +kernel
theorem dL_law_1438 : decode cL_law 1438 = .ok (.iload 5, 2) := by decide +kernel
theorem dL_law_1440 : decode cL_law 1440 = .ok (.if_icmp .eq 5, 3) := by decide +kernel
theorem dL_law_1443 : decode cL_law 1443 = .ok (.iconst 0, 1) := by decide +kernel
theorem dL_law_1444 : decode cL_law 1444 = .ok (.ireturn, 1) := by decide +kernel
theorem dL_law_1445 : decode cL_law 1445 = .ok (.iload 5, 2) := by decide +kernel
theorem dL_law_1447 : decode cL_law 1447 = .ok (.ifCond .ne 15, 3) := by decide +kernel
theorem dL_law_1450 : decode cL_law 1450 = .ok (.aload_n 3, 1) := by decide +kernel
theorem dL_law_1451 : decode cL_law 1451 = .ok (.iconst 0, 1) := by decide +kernel
theorem dL_law_1452 : decode cL_law 1452 = .ok (.laload, 1) := by decide +kernel
theorem dL_law_1453 : decode cL_law 1453 = .ok (.iload 6, 2) := by decide +kernel
theorem dL_law_1455 : decode cL_law 1455 = .ok (.i2l, 1) := by decide +kernel
theorem dL_law_1456 : decode cL_law 1456 = .ok (.lcmp, 1) := by decide +kernel
theorem dL_law_1457 : decode cL_law 1457 = .ok (.ifCond .eq 5, 3) := by decide +kernel
theorem dL_law_1460 : decode cL_law 1460 = .ok (.iconst 0, 1) := by decide +kernel
theorem dL_law_1461 : decode cL_law 1461 = .ok (.ireturn, 1) := by decide +kernel
theorem dL_law_1462 : decode cL_law 1462 = .ok (.goto 427, 3) := by decide +kernel
theorem dL_law_1465 : decode cL_law 1465 = .ok (.aload_n 1, 1) := by decide +kernel
theorem dL_law_1466 : decode cL_law 1466 = .ok (.aload_n 0, 1) := by decide +kernel
theorem dL_law_1467 : decode cL_law 1467 = .ok (.iload 4, 2) := by decide +kernel
theorem dL_law_1469 : decode cL_law 1469 = .ok (.iconst 1, 1) := by decide +kernel
theorem dL_law_1470 : decode cL_law 1470 = .ok (.iadd, 1) := by decide +kernel
theorem dL_law_1471 : decode cL_law 1471 = .ok (.iaload, 1) := by decide +kernel
theorem dL_law_1472 : decode cL_law 1472 = .ok (.aload_n 3, 1) := by decide +kernel
theorem dL_law_1473 : decode cL_law 1473 = .ok (.invokestatic 190, 3) := by decide +kernel
theorem dL_law_1476 : decode cL_law 1476 = .ok (.istore 5, 2) := by decide +kernel
theorem dL_law_1478 : decode cL_law 1478 = .ok (.aload_n 2, 1) := by decide +kernel
theorem dL_law_1479 : decode cL_law 1479 = .ok (.aload_n 0, 1) := by decide +kernel
theorem dL_law_1480 : decode cL_law 1480 = .ok (.iload 4, 2) := by decide +kernel
theorem dL_law_1482 : decode cL_law 1482 = .ok (.iconst 1, 1) := by decide +kernel
theorem dL_law_1483 : decode cL_law 1483 = .ok (.iadd, 1) := by decide +kernel
theorem dL_law_1484 : decode cL_law 1484 = .ok (.iaload, 1) := by decide +kernel
theorem dL_law_1485 : decode cL_law 1485 = .ok (.invokevirtual 192, 3) := by decide +kernel
theorem dL_law_1488 : decode cL_law 1488 = .ok (.istore 6, 2) := by decide +kernel
theorem dL_law_1490 : decode cL_law 1490 = .ok (.aload_n 2, 1) := by decide +kernel
theorem dL_law_1491 : decode cL_law 1491 = .ok (.invokevirtual 108, 3) := by decide +kernel
theorem dL_law_1494 : decode cL_law 1494 = .ok (.iload 5, 2) := by decide +kernel
theorem dL_law_1496 : decode cL_law 1496 = .ok (.if_icmp .eq 5, 3) := by decide +kernel
theorem dL_law_1499 : decode cL_law 1499 = .ok (.iconst 0, 1) := by decide +kernel
theorem dL_law_1500 : decode cL_law 1500 = .ok (.ireturn, 1) := by decide +kernel
theorem dL_law_1501 : decode cL_law 1501 = .ok (.iload 5, 2) := by decide +kernel
theorem dL_law_1503 : decode cL_law 1503 = .ok (.ifCond .ne 15, 3) := by decide +kernel
theorem dL_law_1506 : decode cL_law 1506 = .ok (.aload_n 3, 1) := by decide +kernel
theorem dL_law_1507 : decode cL_law 1507 = .ok (.iconst 0, 1) := by decide +kernel
theorem dL_law_1508 : decode cL_law 1508 = .ok (.laload, 1) := by decide +kernel
theorem dL_law_1509 : decode cL_law 1509 = .ok (.iload 6, 2) := by decide +kernel
theorem dL_law_1511 : decode cL_law 1511 = .ok (.i2l, 1) := by decide +kernel
theorem dL_law_1512 : decode cL_law 1512 = .ok (.lcmp, 1) := by decide +kernel
theorem dL_law_1513 : decode cL_law 1513 = .ok (.ifCond .eq 5, 3) := by decide +kernel
theorem dL_law_1516 : decode cL_law 1516 = .ok (.iconst 0, 1) := by decide +kernel
theorem dL_law_1517 : decode cL_law 1517 = .ok (.ireturn, 1) := by decide +kernel
theorem dL_law_1518 : decode cL_law 1518 = .ok (.goto 371, 3) := by decide +kernel
theorem dL_law_1521 : decode cL_law 1521 = .ok (.aload_n 1, 1) := by decide +kernel
theorem dL_law_1522 : decode cL_law 1522 = .ok (.aload_n 0, 1) := by decide +kernel
theorem dL_law_1523 : decode cL_law 1523 = .ok (.iload 4, 2) := by decide +kernel
theorem dL_law_1525 : decode cL_law 1525 = .ok (.iconst 1, 1) := by decide +kernel
theorem dL_law_1526 : decode cL_law 1526 = .ok (.iadd, 1) := by decide +kernel
theorem dL_law_1527 : decode cL_law 1527 = .ok (.iaload, 1) := by decide +kernel
theorem dL_law_1528 : decode cL_law 1528 = .ok (.aload_n 3, 1) := by decide +kernel
theorem dL_law_1529 : decode cL_law 1529 = .ok (.invokestatic 193, 3) := by decide +kernel
theorem dL_law_1532 : decode cL_law 1532 = .ok (.istore 5, 2) := by decide +kernel
theorem dL_law_1534 : decode cL_law 1534 = .ok (.aload_n 2, 1) := by decide +kernel
theorem dL_law_1535 : decode cL_law 1535 = .ok (.aload_n 0, 1) := by decide +kernel
theorem dL_law_1536 : decode cL_law 1536 = .ok (.iload 4, 2) := by decide +kernel
theorem dL_law_1538 : decode cL_law 1538 = .ok (.iconst 1, 1) := by decide +kernel
theorem dL_law_1539 : decode cL_law 1539 = .ok (.iadd, 1) := by decide +kernel
theorem dL_law_1540 : decode cL_law 1540 = .ok (.iaload, 1) := by decide +kernel
theorem dL_law_1541 : decode cL_law 1541 = .ok (.invokevirtual 195, 3) := by decide +kernel
theorem dL_law_1544 : decode cL_law 1544 = .ok (.istore 6, 2) := by decide +kernel
theorem dL_law_1546 : decode cL_law 1546 = .ok (.aload_n 2, 1) := by decide +kernel
theorem dL_law_1547 : decode cL_law 1547 = .ok (.invokevirtual 108, 3) := by decide +kernel
theorem dL_law_1550 : decode cL_law 1550 = .ok (.iload 5, 2) := by decide +kernel
theorem dL_law_1552 : decode cL_law 1552 = .ok (.if_icmp .eq 5, 3) := by decide +kernel
theorem dL_law_1555 : decode cL_law 1555 = .ok (.iconst 0, 1) := by decide +kernel
theorem dL_law_1556 : decode cL_law 1556 = .ok (.ireturn, 1) := by decide +kernel
theorem dL_law_1557 : decode cL_law 1557 = .ok (.iload 5, 2) := by decide +kernel
theorem dL_law_1559 : decode cL_law 1559 = .ok (.ifCond .ne 15, 3) := by decide +kernel
theorem dL_law_1562 : decode cL_law 1562 = .ok (.aload_n 3, 1) := by decide +kernel
theorem dL_law_1563 : decode cL_law 1563 = .ok (.iconst 0, 1) := by decide +kernel
theorem dL_law_1564 : decode cL_law 1564 = .ok (.laload, 1) := by decide +kernel
theorem dL_law_1565 : decode cL_law 1565 = .ok (.iload 6, 2) := by decide +kernel
theorem dL_law_1567 : decode cL_law 1567 = .ok (.i2l, 1) := by decide +kernel
theorem dL_law_1568 : decode cL_law 1568 = .ok (.lcmp, 1) := by decide +kernel
theorem dL_law_1569 : decode cL_law 1569 = .ok (.ifCond .eq 5, 3) := by decide +kernel
theorem dL_law_1572 : decode cL_law 1572 = .ok (.iconst 0, 1) := by decide +kernel
theorem dL_law_1573 : decode cL_law 1573 = .ok (.ireturn, 1) := by decide +kernel
theorem dL_law_1574 : decode cL_law 1574 = .ok (.goto 315, 3) := by decide +kernel
theorem dL_law_1577 : decode cL_law 1577 = .ok (.aload_n 1, 1) := by decide +kernel
theorem dL_law_1578 : decode cL_law 1578 = .ok (.aload_n 0, 1) := by decide +kernel
theorem dL_law_1579 : decode cL_law 1579 = .ok (.iload 4, 2) := by decide +kernel
theorem dL_law_1581 : decode cL_law 1581 = .ok (.iconst 1, 1) := by decide +kernel
theorem dL_law_1582 : decode cL_law 1582 = .ok (.iadd, 1) := by decide +kernel
theorem dL_law_1583 : decode cL_law 1583 = .ok (.iaload, 1) := by decide +kernel
theorem dL_law_1584 : decode cL_law 1584 = .ok (.aload_n 0, 1) := by decide +kernel
theorem dL_law_1585 : decode cL_law 1585 = .ok (.iload 4, 2) := by decide +kernel
theorem dL_law_1587 : decode cL_law 1587 = .ok (.iconst 2, 1) := by decide +kernel
theorem dL_law_1588 : decode cL_law 1588 = .ok (.iadd, 1) := by decide +kernel
theorem dL_law_1589 : decode cL_law 1589 = .ok (.iaload, 1) := by decide +kernel
theorem dL_law_1590 : decode cL_law 1590 = .ok (.i2l, 1) := by decide +kernel
theorem dL_law_1591 : decode cL_law 1591 = .ok (.bipush 32, 2) := by decide +kernel
theorem dL_law_1593 : decode cL_law 1593 = .ok (.lshl, 1) := by decide +kernel
theorem dL_law_1594 : decode cL_law 1594 = .ok (.aload_n 0, 1) := by decide +kernel
theorem dL_law_1595 : decode cL_law 1595 = .ok (.iload 4, 2) := by decide +kernel
theorem dL_law_1597 : decode cL_law 1597 = .ok (.iconst 3, 1) := by decide +kernel
theorem dL_law_1598 : decode cL_law 1598 = .ok (.iadd, 1) := by decide +kernel
theorem dL_law_1599 : decode cL_law 1599 = .ok (.iaload, 1) := by decide +kernel
theorem dL_law_1600 : decode cL_law 1600 = .ok (.i2l, 1) := by decide +kernel
theorem dL_law_1601 : decode cL_law 1601 = .ok (.ldc2_w 196, 3) := by decide +kernel
theorem dL_law_1604 : decode cL_law 1604 = .ok (.land, 1) := by decide +kernel
theorem dL_law_1605 : decode cL_law 1605 = .ok (.lor, 1) := by decide +kernel
theorem dL_law_1606 : decode cL_law 1606 = .ok (.aload_n 3, 1) := by decide +kernel
theorem dL_law_1607 : decode cL_law 1607 = .ok (.invokestatic 198, 3) := by decide +kernel
theorem dL_law_1610 : decode cL_law 1610 = .ok (.istore 5, 2) := by decide +kernel
theorem dL_law_1612 : decode cL_law 1612 = .ok (.aload_n 2, 1) := by decide +kernel
theorem dL_law_1613 : decode cL_law 1613 = .ok (.aload_n 0, 1) := by decide +kernel
theorem dL_law_1614 : decode cL_law 1614 = .ok (.iload 4, 2) := by decide +kernel
theorem dL_law_1616 : decode cL_law 1616 = .ok (.iconst 1, 1) := by decide +kernel
theorem dL_law_1617 : decode cL_law 1617 = .ok (.iadd, 1) := by decide +kernel
theorem dL_law_1618 : decode cL_law 1618 = .ok (.iaload, 1) := by decide +kernel
theorem dL_law_1619 : decode cL_law 1619 = .ok (.aload_n 0, 1) := by decide +kernel
theorem dL_law_1620 : decode cL_law 1620 = .ok (.iload 4, 2) := by decide +kernel
theorem dL_law_1622 : decode cL_law 1622 = .ok (.iconst 2, 1) := by decide +kernel
theorem dL_law_1623 : decode cL_law 1623 = .ok (.iadd, 1) := by decide +kernel
theorem dL_law_1624 : decode cL_law 1624 = .ok (.iaload, 1) := by decide +kernel
theorem dL_law_1625 : decode cL_law 1625 = .ok (.i2l, 1) := by decide +kernel
theorem dL_law_1626 : decode cL_law 1626 = .ok (.bipush 32, 2) := by decide +kernel
theorem dL_law_1628 : decode cL_law 1628 = .ok (.lshl, 1) := by decide +kernel
theorem dL_law_1629 : decode cL_law 1629 = .ok (.aload_n 0, 1) := by decide +kernel
theorem dL_law_1630 : decode cL_law 1630 = .ok (.iload 4, 2) := by decide +kernel
theorem dL_law_1632 : decode cL_law 1632 = .ok (.iconst 3, 1) := by decide +kernel
theorem dL_law_1633 : decode cL_law 1633 = .ok (.iadd, 1) := by decide +kernel
theorem dL_law_1634 : decode cL_law 1634 = .ok (.iaload, 1) := by decide +kernel
theorem dL_law_1635 : decode cL_law 1635 = .ok (.i2l, 1) := by decide +kernel
theorem dL_law_1636 : decode cL_law 1636 = .ok (.ldc2_w 196, 3) := by decide +kernel
theorem dL_law_1639 : decode cL_law 1639 = .ok (.land, 1) := by decide +kernel
theorem dL_law_1640 : decode cL_law 1640 = .ok (.lor, 1) := by decide +kernel
theorem dL_law_1641 : decode cL_law 1641 = .ok (.invokevirtual 201, 3) := by decide +kernel
theorem dL_law_1644 : decode cL_law 1644 = .ok (.istore 6, 2) := by decide +kernel
theorem dL_law_1646 : decode cL_law 1646 = .ok (.aload_n 2, 1) := by decide +kernel
theorem dL_law_1647 : decode cL_law 1647 = .ok (.invokevirtual 108, 3) := by decide +kernel
theorem dL_law_1650 : decode cL_law 1650 = .ok (.iload 5, 2) := by decide +kernel
theorem dL_law_1652 : decode cL_law 1652 = .ok (.if_icmp .eq 5, 3) := by decide +kernel
theorem dL_law_1655 : decode cL_law 1655 = .ok (.iconst 0, 1) := by decide +kernel
theorem dL_law_1656 : decode cL_law 1656 = .ok (.ireturn, 1) := by decide +kernel
theorem dL_law_1657 : decode cL_law 1657 = .ok (.iload 5, 2) := by decide +kernel
theorem dL_law_1659 : decode cL_law 1659 = .ok (.ifCond .ne 15, 3) := by decide +kernel
theorem dL_law_1662 : decode cL_law 1662 = .ok (.aload_n 3, 1) := by decide +kernel
theorem dL_law_1663 : decode cL_law 1663 = .ok (.iconst 0, 1) := by decide +kernel
theorem dL_law_1664 : decode cL_law 1664 = .ok (.laload, 1) := by decide +kernel
theorem dL_law_1665 : decode cL_law 1665 = .ok (.iload 6, 2) := by decide +kernel
theorem dL_law_1667 : decode cL_law 1667 = .ok (.i2l, 1) := by decide +kernel
theorem dL_law_1668 : decode cL_law 1668 = .ok (.lcmp, 1) := by decide +kernel
theorem dL_law_1669 : decode cL_law 1669 = .ok (.ifCond .eq 5, 3) := by decide +kernel
theorem dL_law_1672 : decode cL_law 1672 = .ok (.iconst 0, 1) := by decide +kernel
theorem dL_law_1673 : decode cL_law 1673 = .ok (.ireturn, 1) := by decide +kernel
theorem dL_law_1674 : decode cL_law 1674 = .ok (.goto 215, 3) := by decide +kernel
theorem dL_law_1677 : decode cL_law 1677 = .ok (.aload_n 1, 1) := by decide +kernel
theorem dL_law_1678 : decode cL_law 1678 = .ok (.aload_n 0, 1) := by decide +kernel
theorem dL_law_1679 : decode cL_law 1679 = .ok (.iload 4, 2) := by decide +kernel
theorem dL_law_1681 : decode cL_law 1681 = .ok (.iconst 1, 1) := by decide +kernel
theorem dL_law_1682 : decode cL_law 1682 = .ok (.iadd, 1) := by decide +kernel
theorem dL_law_1683 : decode cL_law 1683 = .ok (.iaload, 1) := by decide +kernel
theorem dL_law_1684 : decode cL_law 1684 = .ok (.i2l, 1) := by decide +kernel
theorem dL_law_1685 : decode cL_law 1685 = .ok (.bipush 32, 2) := by decide +kernel
theorem dL_law_1687 : decode cL_law 1687 = .ok (.lshl, 1) := by decide +kernel
theorem dL_law_1688 : decode cL_law 1688 = .ok (.aload_n 0, 1) := by decide +kernel
theorem dL_law_1689 : decode cL_law 1689 = .ok (.iload 4, 2) := by decide +kernel
theorem dL_law_1691 : decode cL_law 1691 = .ok (.iconst 2, 1) := by decide +kernel
theorem dL_law_1692 : decode cL_law 1692 = .ok (.iadd, 1) := by decide +kernel
theorem dL_law_1693 : decode cL_law 1693 = .ok (.iaload, 1) := by decide +kernel
theorem dL_law_1694 : decode cL_law 1694 = .ok (.i2l, 1) := by decide +kernel
theorem dL_law_1695 : decode cL_law 1695 = .ok (.ldc2_w 196, 3) := by decide +kernel
theorem dL_law_1698 : decode cL_law 1698 = .ok (.land, 1) := by decide +kernel
theorem dL_law_1699 : decode cL_law 1699 = .ok (.lor, 1) := by decide +kernel
theorem dL_law_1700 : decode cL_law 1700 = .ok (.aload_n 0, 1) := by decide +kernel
theorem dL_law_1701 : decode cL_law 1701 = .ok (.iload 4, 2) := by decide +kernel
theorem dL_law_1703 : decode cL_law 1703 = .ok (.iconst 3, 1) := by decide +kernel
theorem dL_law_1704 : decode cL_law 1704 = .ok (.iadd, 1) := by decide +kernel
theorem dL_law_1705 : decode cL_law 1705 = .ok (.iaload, 1) := by decide +kernel
theorem dL_law_1706 : decode cL_law 1706 = .ok (.aload_n 3, 1) := by decide +kernel
theorem dL_law_1707 : decode cL_law 1707 = .ok (.invokestatic 202, 3) := by decide +kernel
theorem dL_law_1710 : decode cL_law 1710 = .ok (.istore 5, 2) := by decide +kernel
theorem dL_law_1712 : decode cL_law 1712 = .ok (.aload_n 2, 1) := by decide +kernel
theorem dL_law_1713 : decode cL_law 1713 = .ok (.aload_n 0, 1) := by decide +kernel
theorem dL_law_1714 : decode cL_law 1714 = .ok (.iload 4, 2) := by decide +kernel
theorem dL_law_1716 : decode cL_law 1716 = .ok (.iconst 1, 1) := by decide +kernel
theorem dL_law_1717 : decode cL_law 1717 = .ok (.iadd, 1) := by decide +kernel
theorem dL_law_1718 : decode cL_law 1718 = .ok (.iaload, 1) := by decide +kernel
theorem dL_law_1719 : decode cL_law 1719 = .ok (.i2l, 1) := by decide +kernel
theorem dL_law_1720 : decode cL_law 1720 = .ok (.bipush 32, 2) := by decide +kernel
theorem dL_law_1722 : decode cL_law 1722 = .ok (.lshl, 1) := by decide +kernel
theorem dL_law_1723 : decode cL_law 1723 = .ok (.aload_n 0, 1) := by decide +kernel
theorem dL_law_1724 : decode cL_law 1724 = .ok (.iload 4, 2) := by decide +kernel
theorem dL_law_1726 : decode cL_law 1726 = .ok (.iconst 2, 1) := by decide +kernel
theorem dL_law_1727 : decode cL_law 1727 = .ok (.iadd, 1) := by decide +kernel
theorem dL_law_1728 : decode cL_law 1728 = .ok (.iaload, 1) := by decide +kernel
theorem dL_law_1729 : decode cL_law 1729 = .ok (.i2l, 1) := by decide +kernel
theorem dL_law_1730 : decode cL_law 1730 = .ok (.ldc2_w 196, 3) := by decide +kernel
theorem dL_law_1733 : decode cL_law 1733 = .ok (.land, 1) := by decide +kernel
theorem dL_law_1734 : decode cL_law 1734 = .ok (.lor, 1) := by decide +kernel
theorem dL_law_1735 : decode cL_law 1735 = .ok (.aload_n 0, 1) := by decide +kernel
theorem dL_law_1736 : decode cL_law 1736 = .ok (.iload 4, 2) := by decide +kernel
theorem dL_law_1738 : decode cL_law 1738 = .ok (.iconst 3, 1) := by decide +kernel
theorem dL_law_1739 : decode cL_law 1739 = .ok (.iadd, 1) := by decide +kernel
theorem dL_law_1740 : decode cL_law 1740 = .ok (.iaload, 1) := by decide +kernel
theorem dL_law_1741 : decode cL_law 1741 = .ok (.invokevirtual 205, 3) := by decide +kernel
theorem dL_law_1744 : decode cL_law 1744 = .ok (.istore 6, 2) := by decide +kernel
theorem dL_law_1746 : decode cL_law 1746 = .ok (.aload_n 2, 1) := by decide +kernel
theorem dL_law_1747 : decode cL_law 1747 = .ok (.invokevirtual 108, 3) := by decide +kernel
theorem dL_law_1750 : decode cL_law 1750 = .ok (.iload 5, 2) := by decide +kernel
theorem dL_law_1752 : decode cL_law 1752 = .ok (.if_icmp .eq 5, 3) := by decide +kernel
theorem dL_law_1755 : decode cL_law 1755 = .ok (.iconst 0, 1) := by decide +kernel
theorem dL_law_1756 : decode cL_law 1756 = .ok (.ireturn, 1) := by decide +kernel
theorem dL_law_1757 : decode cL_law 1757 = .ok (.iload 5, 2) := by decide +kernel
theorem dL_law_1759 : decode cL_law 1759 = .ok (.ifCond .ne 15, 3) := by decide +kernel
theorem dL_law_1762 : decode cL_law 1762 = .ok (.aload_n 3, 1) := by decide +kernel
theorem dL_law_1763 : decode cL_law 1763 = .ok (.iconst 0, 1) := by decide +kernel
theorem dL_law_1764 : decode cL_law 1764 = .ok (.laload, 1) := by decide +kernel
theorem dL_law_1765 : decode cL_law 1765 = .ok (.iload 6, 2) := by decide +kernel
theorem dL_law_1767 : decode cL_law 1767 = .ok (.i2l, 1) := by decide +kernel
theorem dL_law_1768 : decode cL_law 1768 = .ok (.lcmp, 1) := by decide +kernel
theorem dL_law_1769 : decode cL_law 1769 = .ok (.ifCond .eq 5, 3) := by decide +kernel
theorem dL_law_1772 : decode cL_law 1772 = .ok (.iconst 0, 1) := by decide +kernel
theorem dL_law_1773 : decode cL_law 1773 = .ok (.ireturn, 1) := by decide +kernel
theorem dL_law_1774 : decode cL_law 1774 = .ok (.goto 115, 3) := by decide +kernel
theorem dL_law_1777 : decode cL_law 1777 = .ok (.aload_n 1, 1) := by decide +kernel
theorem dL_law_1778 : decode cL_law 1778 = .ok (.aload_n 0, 1) := by decide +kernel
theorem dL_law_1779 : decode cL_law 1779 = .ok (.iload 4, 2) := by decide +kernel
theorem dL_law_1781 : decode cL_law 1781 = .ok (.iconst 1, 1) := by decide +kernel
theorem dL_law_1782 : decode cL_law 1782 = .ok (.iadd, 1) := by decide +kernel
theorem dL_law_1783 : decode cL_law 1783 = .ok (.iaload, 1) := by decide +kernel
theorem dL_law_1784 : decode cL_law 1784 = .ok (.aload_n 3, 1) := by decide +kernel
theorem dL_law_1785 : decode cL_law 1785 = .ok (.invokestatic 206, 3) := by decide +kernel
theorem dL_law_1788 : decode cL_law 1788 = .ok (.istore 5, 2) := by decide +kernel
theorem dL_law_1790 : decode cL_law 1790 = .ok (.aload_n 2, 1) := by decide +kernel
theorem dL_law_1791 : decode cL_law 1791 = .ok (.aload_n 0, 1) := by decide +kernel
theorem dL_law_1792 : decode cL_law 1792 = .ok (.iload 4, 2) := by decide +kernel
theorem dL_law_1794 : decode cL_law 1794 = .ok (.iconst 1, 1) := by decide +kernel
theorem dL_law_1795 : decode cL_law 1795 = .ok (.iadd, 1) := by decide +kernel
theorem dL_law_1796 : decode cL_law 1796 = .ok (.iaload, 1) := by decide +kernel
theorem dL_law_1797 : decode cL_law 1797 = .ok (.invokevirtual 208, 3) := by decide +kernel
theorem dL_law_1800 : decode cL_law 1800 = .ok (.istore 6, 2) := by decide +kernel
theorem dL_law_1802 : decode cL_law 1802 = .ok (.aload_n 2, 1) := by decide +kernel
theorem dL_law_1803 : decode cL_law 1803 = .ok (.invokevirtual 108, 3) := by decide +kernel
theorem dL_law_1806 : decode cL_law 1806 = .ok (.iload 5, 2) := by decide +kernel
theorem dL_law_1808 : decode cL_law 1808 = .ok (.if_icmp .eq 5, 3) := by decide +kernel
theorem dL_law_1811 : decode cL_law 1811 = .ok (.iconst 0, 1) := by decide +kernel
theorem dL_law_1812 : decode cL_law 1812 = .ok (.ireturn, 1) := by decide +kernel
theorem dL_law_1813 : decode cL_law 1813 = .ok (.iload 5, 2) := by decide +kernel
theorem dL_law_1815 : decode cL_law 1815 = .ok (.ifCond .ne 15, 3) := by decide +kernel
theorem dL_law_1818 : decode cL_law 1818 = .ok (.aload_n 3, 1) := by decide +kernel
theorem dL_law_1819 : decode cL_law 1819 = .ok (.iconst 0, 1) := by decide +kernel
theorem dL_law_1820 : decode cL_law 1820 = .ok (.laload, 1) := by decide +kernel
theorem dL_law_1821 : decode cL_law 1821 = .ok (.iload 6, 2) := by decide +kernel
theorem dL_law_1823 : decode cL_law 1823 = .ok (.i2l, 1) := by decide +kernel
theorem dL_law_1824 : decode cL_law 1824 = .ok (.lcmp, 1) := by decide +kernel
theorem dL_law_1825 : decode cL_law 1825 = .ok (.ifCond .eq 5, 3) := by decide +kernel
theorem dL_law_1828 : decode cL_law 1828 = .ok (.iconst 0, 1) := by decide +kernel
theorem dL_law_1829 : decode cL_law 1829 = .ok (.ireturn, 1) := by decide +kernel
theorem dL_law_1830 : decode cL_law 1830 = .ok (.goto 59, 3) := by decide +kernel
theorem dL_law_1833 : decode cL_law 1833 = .ok (.aload_n 1, 1) := by decide +kernel
theorem dL_law_1834 : decode cL_law 1834 = .ok (.aload_n 0, 1) := by decide +kernel
theorem dL_law_1835 : decode cL_law 1835 = .ok (.iload 4, 2) := by decide +kernel
theorem dL_law_1837 : decode cL_law 1837 = .ok (.iconst 1, 1) := by decide +kernel
theorem dL_law_1838 : decode cL_law 1838 = .ok (.iadd, 1) := by decide +kernel
theorem dL_law_1839 : decode cL_law 1839 = .ok (.iaload, 1) := by decide +kernel
theorem dL_law_1840 : decode cL_law 1840 = .ok (.aload_n 3, 1) := by decide +kernel
theorem dL_law_1841 : decode cL_law 1841 = .ok (.invokestatic 209, 3) := by decide +kernel
theorem dL_law_1844 : decode cL_law 1844 = .ok (.istore 5, 2) := by decide +kernel
theorem dL_law_1846 : decode cL_law 1846 = .ok (.aload_n 2, 1) := by decide +kernel
theorem dL_law_1847 : decode cL_law 1847 = .ok (.aload_n 0, 1) := by decide +kernel
theorem dL_law_1848 : decode cL_law 1848 = .ok (.iload 4, 2) := by decide +kernel
theorem dL_law_1850 : decode cL_law 1850 = .ok (.iconst 1, 1) := by decide +kernel
theorem dL_law_1851 : decode cL_law 1851 = .ok (.iadd, 1) := by decide +kernel
theorem dL_law_1852 : decode cL_law 1852 = .ok (.iaload, 1) := by decide +kernel
theorem dL_law_1853 : decode cL_law 1853 = .ok (.invokevirtual 211, 3) := by decide +kernel
theorem dL_law_1856 : decode cL_law 1856 = .ok (.istore 6, 2) := by decide +kernel
theorem dL_law_1858 : decode cL_law 1858 = .ok (.aload_n 2, 1) := by decide +kernel
theorem dL_law_1859 : decode cL_law 1859 = .ok (.invokevirtual 108, 3) := by decide +kernel
theorem dL_law_1862 : decode cL_law 1862 = .ok (.iload 5, 2) := by decide +kernel
theorem dL_law_1864 : decode cL_law 1864 = .ok (.if_icmp .eq 5, 3) := by decide +kernel
theorem dL_law_1867 : decode cL_law 1867 = .ok (.iconst 0, 1) := by decide +kernel
theorem dL_law_1868 : decode cL_law 1868 = .ok (.ireturn, 1) := by decide +kernel
theorem dL_law_1869 : decode cL_law 1869 = .ok (.iload 5, 2) := by decide +kernel
theorem dL_law_1871 : decode cL_law 1871 = .ok (.ifCond .ne 15, 3) := by decide +kernel
theorem dL_law_1874 : decode cL_law 1874 = .ok (.aload_n 3, 1) := by decide +kernel
theorem dL_law_1875 : decode cL_law 1875 = .ok (.iconst 0, 1) := by decide +kernel
theorem dL_law_1876 : decode cL_law 1876 = .ok (.laload, 1) := by decide +kernel
theorem dL_law_1877 : decode cL_law 1877 = .ok (.iload 6, 2) := by decide +kernel
theorem dL_law_1879 : decode cL_law 1879 = .ok (.i2l, 1) := by decide +kernel
theorem dL_law_1880 : decode cL_law 1880 = .ok (.lcmp, 1) := by decide +kernel
theorem dL_law_1881 : decode cL_law 1881 = .ok (.ifCond .eq 5, 3) := by decide +kernel
theorem dL_law_1884 : decode cL_law 1884 = .ok (.iconst 0, 1) := by decide +kernel
theorem dL_law_1885 : decode cL_law 1885 = .ok (.ireturn, 1) := by decide +kernel
theorem dL_law_1886 : decode cL_law 1886 = .ok (.goto 3, 3) := by decide +kernel
theorem dL_law_1889 : decode cL_law 1889 = .ok (.iinc 4 4, 3) := by decide +kernel
theorem dL_law_1892 : decode cL_law 1892 = .ok (.goto (-1869), 3) := by decide +kernel
theorem dL_law_1895 : decode cL_law 1895 = .ok (.iconst 1, 1) := by decide +kernel
theorem dL_law_1896 : decode cL_law 1896 = .ok (.ireturn, 1) := by decide +kernel
