theorem dX0_init_0 : decode cX0_init 0 = .ok (.aload_n 0, 1) := by decide +kernel
theorem dX0_init_1 : decode cX0_init 1 = .ok (.invokespecial 3, 3) := by decide +kernel
theorem dX0_init_4 : decode cX0_init 4 = .ok (.aload_n 0, 1) := by decide +kernel
theorem dX0_init_5 : decode cX0_init 5 = .ok (.bipush 8, 2) := by decide +kernel
theorem dX0_init_7 : decode cX0_init 7 = .ok (.newarray .int, 2) := by decide +kernel
theorem dX0_init_9 : decode cX0_init 9 = .ok (.putfield 9, 3) := by decide +kernel
theorem dX0_init_12 : decode cX0_init 12 = .ok (.aload_n 0, 1) := by decide +kernel
theorem dX0_init_13 : decode cX0_init 13 = .ok (.bipush 8, 2) := by decide +kernel
theorem dX0_init_15 : decode cX0_init 15 = .ok (.newarray .int, 2) := by decide +kernel
theorem dX0_init_17 : decode cX0_init 17 = .ok (.putfield 15, 3) := by decide +kernel
theorem dX0_init_20 : decode cX0_init 20 = .ok (.aload_n 0, 1) := by decide +kernel
theorem dX0_init_21 : decode cX0_init 21 = .ok (.bipush 8, 2) := by decide +kernel
theorem dX0_init_23 : decode cX0_init 23 = .ok (.newarray .int, 2) := by decide +kernel
theorem dX0_init_25 : decode cX0_init 25 = .ok (.putfield 18, 3) := by decide +kernel
theorem dX0_init_28 : decode cX0_init 28 = .ok (.aload_n 0, 1) := by decide +kernel
theorem dX0_init_29 : decode cX0_init 29 = .ok (.bipush 8, 2) := by decide +kernel
theorem dX0_init_31 : decode cX0_init 31 = .ok (.newarray .int, 2) := by decide +kernel
theorem dX0_init_33 : decode cX0_init 33 = .ok (.putfield 21, 3) := by decide +kernel
theorem dX0_init_36 : decode cX0_init 36 = .ok (.aload_n 0, 1) := by decide +kernel
theorem dX0_init_37 : decode cX0_init 37 = .ok (.bipush 8, 2) := by decide +kernel
theorem dX0_init_39 : decode cX0_init 39 = .ok (.newarray .int, 2) := by decide +kernel
theorem dX0_init_41 : decode cX0_init 41 = .ok (.putfield 24, 3) := by decide +kernel
theorem dX0_init_44 : decode cX0_init 44 = .ok (.aload_n 0, 1) := by decide +kernel
theorem dX0_init_45 : decode cX0_init 45 = .ok (.bipush 8, 2) := by decide +kernel
theorem dX0_init_47 : decode cX0_init 47 = .ok (.newarray .int, 2) := by decide +kernel
theorem dX0_init_49 : decode cX0_init 49 = .ok (.putfield 27, 3) := by decide +kernel
theorem dX0_init_52 : decode cX0_init 52 = .ok (.iconst 0, 1) := by decide +kernel
theorem dX0_init_53 : decode cX0_init 53 = .ok (.istore_n 1, 1) := by decide +kernel
theorem dX0_init_54 : decode cX0_init 54 = .ok (.iload_n 1, 1) := by decide +kernel
theorem dX0_init_55 : decode cX0_init 55 = .ok (.aload_n 0, 1) := by decide +kernel
theorem dX0_init_56 : decode cX0_init 56 = .ok (.getfield 15, 3) := by decide +kernel
theorem dX0_init_59 : decode cX0_init 59 = .ok (.arraylength, 1) := by decide +kernel
theorem dX0_init_60 : decode cX0_init 60 = .ok (.if_icmp .ge 16, 3) := by decide +kernel
theorem dX0_init_63 : decode cX0_init 63 = .ok (.aload_n 0, 1) := by decide +kernel
theorem dX0_init_64 : decode cX0_init 64 = .ok (.getfield 15, 3) := by decide +kernel
theorem dX0_init_67 : decode cX0_init 67 = .ok (.iload_n 1, 1) := by decide +kernel
theorem dX0_init_68 : decode cX0_init 68 = .ok (.iconst 1, 1) := by decide +kernel
theorem dX0_init_69 : decode cX0_init 69 = .ok (.iastore, 1) := by decide +kernel
theorem dX0_init_70 : decode cX0_init 70 = .ok (.iinc 1 1, 3) := by decide +kernel
theorem dX0_init_73 : decode cX0_init 73 = .ok (.goto (-19), 3) := by decide +kernel
theorem dX0_init_76 : decode cX0_init 76 = .ok (.return_, 1) := by decide +kernel
theorem dX0_copyFrom_0 : decode cX0_copyFrom 0 = .ok (.aload_n 1, 1) := by decide +kernel
theorem dX0_copyFrom_1 : decode cX0_copyFrom 1 = .ok (.getfield 9, 3) := by decide +kernel
theorem dX0_copyFrom_4 : decode cX0_copyFrom 4 = .ok (.aload_n 0, 1) := by decide +kernel
theorem dX0_copyFrom_5 : decode cX0_copyFrom 5 = .ok (.getfield 9, 3) := by decide +kernel
theorem dX0_copyFrom_8 : decode cX0_copyFrom 8 = .ok (.invokestatic 30, 3) := by decide +kernel
theorem dX0_copyFrom_11 : decode cX0_copyFrom 11 = .ok (.aload_n 1, 1) := by decide +kernel
theorem dX0_copyFrom_12 : decode cX0_copyFrom 12 = .ok (.getfield 15, 3) := by decide +kernel
theorem dX0_copyFrom_15 : decode cX0_copyFrom 15 = .ok (.aload_n 0, 1) := by decide +kernel
theorem dX0_copyFrom_16 : decode cX0_copyFrom 16 = .ok (.getfield 15, 3) := by decide +kernel
theorem dX0_copyFrom_19 : decode cX0_copyFrom 19 = .ok (.invokestatic 30, 3) := by decide +kernel
theorem dX0_copyFrom_22 : decode cX0_copyFrom 22 = .ok (.aload_n 1, 1) := by decide +kernel
theorem dX0_copyFrom_23 : decode cX0_copyFrom 23 = .ok (.getfield 18, 3) := by decide +kernel
theorem dX0_copyFrom_26 : decode cX0_copyFrom 26 = .ok (.aload_n 0, 1) := by decide +kernel
theorem dX0_copyFrom_27 : decode cX0_copyFrom 27 = .ok (.getfield 18, 3) := by decide +kernel
theorem dX0_copyFrom_30 : decode cX0_copyFrom 30 = .ok (.invokestatic 30, 3) := by decide +kernel
theorem dX0_copyFrom_33 : decode cX0_copyFrom 33 = .ok (.aload_n 1, 1) := by decide +kernel
theorem dX0_copyFrom_34 : decode cX0_copyFrom 34 = .ok (.getfield 21, 3) := by decide +kernel
theorem dX0_copyFrom_37 : decode cX0_copyFrom 37 = .ok (.aload_n 0, 1) := by decide +kernel
theorem dX0_copyFrom_38 : decode cX0_copyFrom 38 = .ok (.getfield 21, 3) := by decide +kernel
theorem dX0_copyFrom_41 : decode cX0_copyFrom 41 = .ok (.invokestatic 30, 3) := by decide +kernel
theorem dX0_copyFrom_44 : decode cX0_copyFrom 44 = .ok (.aload_n 1, 1) := by decide +kernel
theorem dX0_copyFrom_45 : decode cX0_copyFrom 45 = .ok (.getfield 24, 3) := by decide +kernel
theorem dX0_copyFrom_48 : decode cX0_copyFrom 48 = .ok (.aload_n 0, 1) := by decide +kernel
theorem dX0_copyFrom_49 : decode cX0_copyFrom 49 = .ok (.getfield 24, 3) := by decide +kernel
theorem dX0_copyFrom_52 : decode cX0_copyFrom 52 = .ok (.invokestatic 30, 3) := by decide +kernel
theorem dX0_copyFrom_55 : decode cX0_copyFrom 55 = .ok (.aload_n 1, 1) := by decide +kernel
theorem dX0_copyFrom_56 : decode cX0_copyFrom 56 = .ok (.getfield 27, 3) := by decide +kernel
theorem dX0_copyFrom_59 : decode cX0_copyFrom 59 = .ok (.aload_n 0, 1) := by decide +kernel
theorem dX0_copyFrom_60 : decode cX0_copyFrom 60 = .ok (.getfield 27, 3) := by decide +kernel
theorem dX0_copyFrom_63 : decode cX0_copyFrom 63 = .ok (.invokestatic 30, 3) := by decide +kernel
theorem dX0_copyFrom_66 : decode cX0_copyFrom 66 = .ok (.return_, 1) := by decide +kernel
theorem dX0_letBurn_0 : decode cX0_letBurn 0 = .ok (.aload_n 0, 1) := by decide +kernel
theorem dX0_letBurn_1 : decode cX0_letBurn 1 = .ok (.getfield 9, 3) := by decide +kernel
theorem dX0_letBurn_4 : decode cX0_letBurn 4 = .ok (.iload_n 1, 1) := by decide +kernel
theorem dX0_letBurn_5 : decode cX0_letBurn 5 = .ok (.invokestatic 34, 3) := by decide +kernel
theorem dX0_letBurn_8 : decode cX0_letBurn 8 = .ok (.istore_n 3, 1) := by decide +kernel
theorem dX0_letBurn_9 : decode cX0_letBurn 9 = .ok (.iload_n 3, 1) := by decide +kernel
theorem dX0_letBurn_10 : decode cX0_letBurn 10 = .ok (.ifCond .ne 12, 3) := by decide +kernel
theorem dX0_letBurn_13 : decode cX0_letBurn 13 = .ok (.aload_n 0, 1) := by decide +kernel
theorem dX0_letBurn_14 : decode cX0_letBurn 14 = .ok (.getfield 27, 3) := by decide +kernel
theorem dX0_letBurn_17 : decode cX0_letBurn 17 = .ok (.iload_n 1, 1) := by decide +kernel
theorem dX0_letBurn_18 : decode cX0_letBurn 18 = .ok (.iconst 1, 1) := by decide +kernel
theorem dX0_letBurn_19 : decode cX0_letBurn 19 = .ok (.invokestatic 38, 3) := by decide +kernel
theorem dX0_letBurn_22 : decode cX0_letBurn 22 = .ok (.iload_n 3, 1) := by decide +kernel
theorem dX0_letBurn_23 : decode cX0_letBurn 23 = .ok (.iload_n 2, 1) := by decide +kernel
theorem dX0_letBurn_24 : decode cX0_letBurn 24 = .ok (.if_icmp .ge 12, 3) := by decide +kernel
theorem dX0_letBurn_27 : decode cX0_letBurn 27 = .ok (.aload_n 0, 1) := by decide +kernel
theorem dX0_letBurn_28 : decode cX0_letBurn 28 = .ok (.getfield 9, 3) := by decide +kernel
theorem dX0_letBurn_31 : decode cX0_letBurn 31 = .ok (.iload_n 1, 1) := by decide +kernel
theorem dX0_letBurn_32 : decode cX0_letBurn 32 = .ok (.iload_n 2, 1) := by decide +kernel
theorem dX0_letBurn_33 : decode cX0_letBurn 33 = .ok (.invokestatic 42, 3) := by decide +kernel
theorem dX0_letBurn_36 : decode cX0_letBurn 36 = .ok (.return_, 1) := by decide +kernel
theorem dX0_burnDown_0 : decode cX0_burnDown 0 = .ok (.aload_n 0, 1) := by decide +kernel
theorem dX0_burnDown_1 : decode cX0_burnDown 1 = .ok (.getfield 9, 3) := by decide +kernel
theorem dX0_burnDown_4 : decode cX0_burnDown 4 = .ok (.iload_n 1, 1) := by decide +kernel
theorem dX0_burnDown_5 : decode cX0_burnDown 5 = .ok (.invokestatic 34, 3) := by decide +kernel
theorem dX0_burnDown_8 : decode cX0_burnDown 8 = .ok (.ifCond .le 12, 3) := by decide +kernel
theorem dX0_burnDown_11 : decode cX0_burnDown 11 = .ok (.aload_n 0, 1) := by decide +kernel
theorem dX0_burnDown_12 : decode cX0_burnDown 12 = .ok (.getfield 9, 3) := by decide +kernel
theorem dX0_burnDown_15 : decode cX0_burnDown 15 = .ok (.iload_n 1, 1) := by decide +kernel
theorem dX0_burnDown_16 : decode cX0_burnDown 16 = .ok (.iconst (-1), 1) := by decide +kernel
theorem dX0_burnDown_17 : decode cX0_burnDown 17 = .ok (.invokestatic 38, 3) := by decide +kernel
theorem dX0_burnDown_20 : decode cX0_burnDown 20 = .ok (.return_, 1) := by decide +kernel
theorem dX0_mostMissed_0 : decode cX0_mostMissed 0 = .ok (.iconst (-1), 1) := by decide +kernel
theorem dX0_mostMissed_1 : decode cX0_mostMissed 1 = .ok (.istore_n 1, 1) := by decide +kernel
theorem dX0_mostMissed_2 : decode cX0_mostMissed 2 = .ok (.iconst 0, 1) := by decide +kernel
theorem dX0_mostMissed_3 : decode cX0_mostMissed 3 = .ok (.istore_n 2, 1) := by decide +kernel
theorem dX0_mostMissed_4 : decode cX0_mostMissed 4 = .ok (.iload_n 2, 1) := by decide +kernel
theorem dX0_mostMissed_5 : decode cX0_mostMissed 5 = .ok (.bipush 8, 2) := by decide +kernel
theorem dX0_mostMissed_7 : decode cX0_mostMissed 7 = .ok (.if_icmp .ge 56, 3) := by decide +kernel
theorem dX0_mostMissed_10 : decode cX0_mostMissed 10 = .ok (.aload_n 0, 1) := by decide +kernel
theorem dX0_mostMissed_11 : decode cX0_mostMissed 11 = .ok (.getfield 15, 3) := by decide +kernel
theorem dX0_mostMissed_14 : decode cX0_mostMissed 14 = .ok (.iload_n 2, 1) := by decide +kernel
theorem dX0_mostMissed_15 : decode cX0_mostMissed 15 = .ok (.invokestatic 34, 3) := by decide +kernel
theorem dX0_mostMissed_18 : decode cX0_mostMissed 18 = .ok (.ifCond .ne 7, 3) := by decide +kernel
theorem dX0_mostMissed_21 : decode cX0_mostMissed 21 = .ok (.iconst 1, 1) := by decide +kernel
theorem dX0_mostMissed_22 : decode cX0_mostMissed 22 = .ok (.goto 4, 3) := by decide +kernel
theorem dX0_mostMissed_25 : decode cX0_mostMissed 25 = .ok (.iconst 0, 1) := by decide +kernel
theorem dX0_mostMissed_26 : decode cX0_mostMissed 26 = .ok (.istore_n 3, 1) := by decide +kernel
theorem dX0_mostMissed_27 : decode cX0_mostMissed 27 = .ok (.iload_n 3, 1) := by decide +kernel
theorem dX0_mostMissed_28 : decode cX0_mostMissed 28 = .ok (.ifCond .eq 29, 3) := by decide +kernel
theorem dX0_mostMissed_31 : decode cX0_mostMissed 31 = .ok (.iload_n 1, 1) := by decide +kernel
theorem dX0_mostMissed_32 : decode cX0_mostMissed 32 = .ok (.iconst (-1), 1) := by decide +kernel
theorem dX0_mostMissed_33 : decode cX0_mostMissed 33 = .ok (.if_icmp .eq 22, 3) := by decide +kernel
theorem dX0_mostMissed_36 : decode cX0_mostMissed 36 = .ok (.aload_n 0, 1) := by decide +kernel
theorem dX0_mostMissed_37 : decode cX0_mostMissed 37 = .ok (.getfield 18, 3) := by decide +kernel
theorem dX0_mostMissed_40 : decode cX0_mostMissed 40 = .ok (.iload_n 2, 1) := by decide +kernel
theorem dX0_mostMissed_41 : decode cX0_mostMissed 41 = .ok (.invokestatic 34, 3) := by decide +kernel
theorem dX0_mostMissed_44 : decode cX0_mostMissed 44 = .ok (.aload_n 0, 1) := by decide +kernel
theorem dX0_mostMissed_45 : decode cX0_mostMissed 45 = .ok (.getfield 18, 3) := by decide +kernel
theorem dX0_mostMissed_48 : decode cX0_mostMissed 48 = .ok (.iload_n 1, 1) := by decide +kernel
theorem dX0_mostMissed_49 : decode cX0_mostMissed 49 = .ok (.invokestatic 34, 3) := by decide +kernel
theorem dX0_mostMissed_52 : decode cX0_mostMissed 52 = .ok (.if_icmp .le 5, 3) := by decide +kernel
theorem dX0_mostMissed_55 : decode cX0_mostMissed 55 = .ok (.iload_n 2, 1) := by decide +kernel
theorem dX0_mostMissed_56 : decode cX0_mostMissed 56 = .ok (.istore_n 1, 1) := by decide +kernel
theorem dX0_mostMissed_57 : decode cX0_mostMissed 57 = .ok (.iinc 2 1, 3) := by decide +kernel
theorem dX0_mostMissed_60 : decode cX0_mostMissed 60 = .ok (.goto (-56), 3) := by decide +kernel
theorem dX0_mostMissed_63 : decode cX0_mostMissed 63 = .ok (.iload_n 1, 1) := by decide +kernel
theorem dX0_mostMissed_64 : decode cX0_mostMissed 64 = .ok (.ireturn, 1) := by decide +kernel
theorem dX1_init_0 : decode cX1_init 0 = .ok (.aload_n 0, 1) := by decide +kernel
theorem dX1_init_1 : decode cX1_init 1 = .ok (.invokespecial 3, 3) := by decide +kernel
theorem dX1_init_4 : decode cX1_init 4 = .ok (.aload_n 0, 1) := by decide +kernel
theorem dX1_init_5 : decode cX1_init 5 = .ok (.bipush 6, 2) := by decide +kernel
theorem dX1_init_7 : decode cX1_init 7 = .ok (.anewarray 9, 3) := by decide +kernel
theorem dX1_init_10 : decode cX1_init 10 = .ok (.putfield 11, 3) := by decide +kernel
theorem dX1_init_13 : decode cX1_init 13 = .ok (.iconst 0, 1) := by decide +kernel
theorem dX1_init_14 : decode cX1_init 14 = .ok (.istore_n 1, 1) := by decide +kernel
theorem dX1_init_15 : decode cX1_init 15 = .ok (.iload_n 1, 1) := by decide +kernel
theorem dX1_init_16 : decode cX1_init 16 = .ok (.aload_n 0, 1) := by decide +kernel
theorem dX1_init_17 : decode cX1_init 17 = .ok (.getfield 11, 3) := by decide +kernel
theorem dX1_init_20 : decode cX1_init 20 = .ok (.arraylength, 1) := by decide +kernel
theorem dX1_init_21 : decode cX1_init 21 = .ok (.if_icmp .ge 22, 3) := by decide +kernel
theorem dX1_init_24 : decode cX1_init 24 = .ok (.aload_n 0, 1) := by decide +kernel
theorem dX1_init_25 : decode cX1_init 25 = .ok (.getfield 11, 3) := by decide +kernel
theorem dX1_init_28 : decode cX1_init 28 = .ok (.iload_n 1, 1) := by decide +kernel
theorem dX1_init_29 : decode cX1_init 29 = .ok (.new 9, 3) := by decide +kernel
theorem dX1_init_32 : decode cX1_init 32 = .ok (.dup, 1) := by decide +kernel
theorem dX1_init_33 : decode cX1_init 33 = .ok (.invokespecial 17, 3) := by decide +kernel
theorem dX1_init_36 : decode cX1_init 36 = .ok (.aastore, 1) := by decide +kernel
theorem dX1_init_37 : decode cX1_init 37 = .ok (.iinc 1 1, 3) := by decide +kernel
theorem dX1_init_40 : decode cX1_init 40 = .ok (.goto (-25), 3) := by decide +kernel
theorem dX1_init_43 : decode cX1_init 43 = .ok (.aload_n 0, 1) := by decide +kernel
theorem dX1_init_44 : decode cX1_init 44 = .ok (.iconst 0, 1) := by decide +kernel
theorem dX1_init_45 : decode cX1_init 45 = .ok (.putfield 18, 3) := by decide +kernel
theorem dX1_init_48 : decode cX1_init 48 = .ok (.aload_n 0, 1) := by decide +kernel
theorem dX1_init_49 : decode cX1_init 49 = .ok (.iconst 0, 1) := by decide +kernel
theorem dX1_init_50 : decode cX1_init 50 = .ok (.putfield 22, 3) := by decide +kernel
theorem dX1_init_53 : decode cX1_init 53 = .ok (.return_, 1) := by decide +kernel
theorem dX1_save_0 : decode cX1_save 0 = .ok (.aload_n 0, 1) := by decide +kernel
theorem dX1_save_1 : decode cX1_save 1 = .ok (.getfield 22, 3) := by decide +kernel
theorem dX1_save_4 : decode cX1_save 4 = .ok (.bipush 6, 2) := by decide +kernel
theorem dX1_save_6 : decode cX1_save 6 = .ok (.if_icmp .lt 26, 3) := by decide +kernel
theorem dX1_save_9 : decode cX1_save 9 = .ok (.aload_n 0, 1) := by decide +kernel
theorem dX1_save_10 : decode cX1_save 10 = .ok (.aload_n 0, 1) := by decide +kernel
theorem dX1_save_11 : decode cX1_save 11 = .ok (.getfield 18, 3) := by decide +kernel
theorem dX1_save_14 : decode cX1_save 14 = .ok (.iconst 1, 1) := by decide +kernel
theorem dX1_save_15 : decode cX1_save 15 = .ok (.iadd, 1) := by decide +kernel
theorem dX1_save_16 : decode cX1_save 16 = .ok (.bipush 6, 2) := by decide +kernel
theorem dX1_save_18 : decode cX1_save 18 = .ok (.irem, 1) := by decide +kernel
theorem dX1_save_19 : decode cX1_save 19 = .ok (.putfield 18, 3) := by decide +kernel
theorem dX1_save_22 : decode cX1_save 22 = .ok (.aload_n 0, 1) := by decide +kernel
theorem dX1_save_23 : decode cX1_save 23 = .ok (.dup, 1) := by decide +kernel
theorem dX1_save_24 : decode cX1_save 24 = .ok (.getfield 22, 3) := by decide +kernel
theorem dX1_save_27 : decode cX1_save 27 = .ok (.iconst 1, 1) := by decide +kernel
theorem dX1_save_28 : decode cX1_save 28 = .ok (.isub, 1) := by decide +kernel
theorem dX1_save_29 : decode cX1_save 29 = .ok (.putfield 22, 3) := by decide +kernel
theorem dX1_save_32 : decode cX1_save 32 = .ok (.aload_n 0, 1) := by decide +kernel
theorem dX1_save_33 : decode cX1_save 33 = .ok (.aload_n 0, 1) := by decide +kernel
theorem dX1_save_34 : decode cX1_save 34 = .ok (.getfield 18, 3) := by decide +kernel
theorem dX1_save_37 : decode cX1_save 37 = .ok (.aload_n 0, 1) := by decide +kernel
theorem dX1_save_38 : decode cX1_save 38 = .ok (.getfield 22, 3) := by decide +kernel
theorem dX1_save_41 : decode cX1_save 41 = .ok (.iadd, 1) := by decide +kernel
theorem dX1_save_42 : decode cX1_save 42 = .ok (.bipush 6, 2) := by decide +kernel
theorem dX1_save_44 : decode cX1_save 44 = .ok (.irem, 1) := by decide +kernel
theorem dX1_save_45 : decode cX1_save 45 = .ok (.invokevirtual 25, 3) := by decide +kernel
theorem dX1_save_48 : decode cX1_save 48 = .ok (.astore_n 2, 1) := by decide +kernel
theorem dX1_save_49 : decode cX1_save 49 = .ok (.aload_n 2, 1) := by decide +kernel
theorem dX1_save_50 : decode cX1_save 50 = .ok (.ifnull 18, 3) := by decide +kernel
theorem dX1_save_53 : decode cX1_save 53 = .ok (.aload_n 2, 1) := by decide +kernel
theorem dX1_save_54 : decode cX1_save 54 = .ok (.aload_n 1, 1) := by decide +kernel
theorem dX1_save_55 : decode cX1_save 55 = .ok (.invokevirtual 29, 3) := by decide +kernel
theorem dX1_save_58 : decode cX1_save 58 = .ok (.aload_n 0, 1) := by decide +kernel
theorem dX1_save_59 : decode cX1_save 59 = .ok (.dup, 1) := by decide +kernel
theorem dX1_save_60 : decode cX1_save 60 = .ok (.getfield 22, 3) := by decide +kernel
theorem dX1_save_63 : decode cX1_save 63 = .ok (.iconst 1, 1) := by decide +kernel
theorem dX1_save_64 : decode cX1_save 64 = .ok (.iadd, 1) := by decide +kernel
theorem dX1_save_65 : decode cX1_save 65 = .ok (.putfield 22, 3) := by decide +kernel
theorem dX1_save_68 : decode cX1_save 68 = .ok (.return_, 1) := by decide +kernel
theorem dX1_restore_0 : decode cX1_restore 0 = .ok (.aload_n 0, 1) := by decide +kernel
theorem dX1_restore_1 : decode cX1_restore 1 = .ok (.getfield 22, 3) := by decide +kernel
theorem dX1_restore_4 : decode cX1_restore 4 = .ok (.ifCond .gt 4, 3) := by decide +kernel
theorem dX1_restore_7 : decode cX1_restore 7 = .ok (.return_, 1) := by decide +kernel
theorem dX1_restore_8 : decode cX1_restore 8 = .ok (.aload_n 0, 1) := by decide +kernel
theorem dX1_restore_9 : decode cX1_restore 9 = .ok (.dup, 1) := by decide +kernel
theorem dX1_restore_10 : decode cX1_restore 10 = .ok (.getfield 22, 3) := by decide +kernel
theorem dX1_restore_13 : decode cX1_restore 13 = .ok (.iconst 1, 1) := by decide +kernel
theorem dX1_restore_14 : decode cX1_restore 14 = .ok (.isub, 1) := by decide +kernel
theorem dX1_restore_15 : decode cX1_restore 15 = .ok (.putfield 22, 3) := by decide +kernel
theorem dX1_restore_18 : decode cX1_restore 18 = .ok (.aload_n 0, 1) := by decide +kernel
theorem dX1_restore_19 : decode cX1_restore 19 = .ok (.aload_n 0, 1) := by decide +kernel
theorem dX1_restore_20 : decode cX1_restore 20 = .ok (.getfield 18, 3) := by decide +kernel
theorem dX1_restore_23 : decode cX1_restore 23 = .ok (.aload_n 0, 1) := by decide +kernel
theorem dX1_restore_24 : decode cX1_restore 24 = .ok (.getfield 22, 3) := by decide +kernel
theorem dX1_restore_27 : decode cX1_restore 27 = .ok (.iadd, 1) := by decide +kernel
theorem dX1_restore_28 : decode cX1_restore 28 = .ok (.bipush 6, 2) := by decide +kernel
theorem dX1_restore_30 : decode cX1_restore 30 = .ok (.irem, 1) := by decide +kernel
theorem dX1_restore_31 : decode cX1_restore 31 = .ok (.invokevirtual 25, 3) := by decide +kernel
theorem dX1_restore_34 : decode cX1_restore 34 = .ok (.astore_n 2, 1) := by decide +kernel
theorem dX1_restore_35 : decode cX1_restore 35 = .ok (.aload_n 2, 1) := by decide +kernel
theorem dX1_restore_36 : decode cX1_restore 36 = .ok (.ifnull 8, 3) := by decide +kernel
theorem dX1_restore_39 : decode cX1_restore 39 = .ok (.aload_n 1, 1) := by decide +kernel
theorem dX1_restore_40 : decode cX1_restore 40 = .ok (.aload_n 2, 1) := by decide +kernel
theorem dX1_restore_41 : decode cX1_restore 41 = .ok (.invokevirtual 29, 3) := by decide +kernel
theorem dX1_restore_44 : decode cX1_restore 44 = .ok (.return_, 1) := by decide +kernel
theorem dX1_stateAt_0 : decode cX1_stateAt 0 = .ok (.iload_n 1, 1) := by decide +kernel
theorem dX1_stateAt_1 : decode cX1_stateAt 1 = .ok (.ifCond .lt 21, 3) := by decide +kernel
theorem dX1_stateAt_4 : decode cX1_stateAt 4 = .ok (.iload_n 1, 1) := by decide +kernel
theorem dX1_stateAt_5 : decode cX1_stateAt 5 = .ok (.aload_n 0, 1) := by decide +kernel
theorem dX1_stateAt_6 : decode cX1_stateAt 6 = .ok (.getfield 11, 3) := by decide +kernel
theorem dX1_stateAt_9 : decode cX1_stateAt 9 = .ok (.arraylength, 1) := by decide +kernel
theorem dX1_stateAt_10 : decode cX1_stateAt 10 = .ok (.if_icmp .ge 12, 3) := by decide +kernel
theorem dX1_stateAt_13 : decode cX1_stateAt 13 = .ok (.aload_n 0, 1) := by decide +kernel
theorem dX1_stateAt_14 : decode cX1_stateAt 14 = .ok (.getfield 11, 3) := by decide +kernel
theorem dX1_stateAt_17 : decode cX1_stateAt 17 = .ok (.iload_n 1, 1) := by decide +kernel
theorem dX1_stateAt_18 : decode cX1_stateAt 18 = .ok (.aaload, 1) := by decide +kernel
theorem dX1_stateAt_19 : decode cX1_stateAt 19 = .ok (.goto 4, 3) := by decide +kernel
theorem dX1_stateAt_22 : decode cX1_stateAt 22 = .ok (.aconst_null, 1) := by decide +kernel
theorem dX1_stateAt_23 : decode cX1_stateAt 23 = .ok (.areturn, 1) := by decide +kernel
theorem dX2_init_0 : decode cX2_init 0 = .ok (.aload_n 0, 1) := by decide +kernel
theorem dX2_init_1 : decode cX2_init 1 = .ok (.invokespecial 3, 3) := by decide +kernel
theorem dX2_init_4 : decode cX2_init 4 = .ok (.aload_n 0, 1) := by decide +kernel
theorem dX2_init_5 : decode cX2_init 5 = .ok (.bipush 7, 2) := by decide +kernel
theorem dX2_init_7 : decode cX2_init 7 = .ok (.newarray .int, 2) := by decide +kernel
theorem dX2_init_9 : decode cX2_init 9 = .ok (.putfield 9, 3) := by decide +kernel
theorem dX2_init_12 : decode cX2_init 12 = .ok (.aload_n 0, 1) := by decide +kernel
theorem dX2_init_13 : decode cX2_init 13 = .ok (.bipush 7, 2) := by decide +kernel
theorem dX2_init_15 : decode cX2_init 15 = .ok (.newarray .int, 2) := by decide +kernel
theorem dX2_init_17 : decode cX2_init 17 = .ok (.putfield 15, 3) := by decide +kernel
theorem dX2_init_20 : decode cX2_init 20 = .ok (.aload_n 0, 1) := by decide +kernel
theorem dX2_init_21 : decode cX2_init 21 = .ok (.bipush 7, 2) := by decide +kernel
theorem dX2_init_23 : decode cX2_init 23 = .ok (.newarray .int, 2) := by decide +kernel
theorem dX2_init_25 : decode cX2_init 25 = .ok (.putfield 18, 3) := by decide +kernel
theorem dX2_init_28 : decode cX2_init 28 = .ok (.aload_n 0, 1) := by decide +kernel
theorem dX2_init_29 : decode cX2_init 29 = .ok (.bipush 7, 2) := by decide +kernel
theorem dX2_init_31 : decode cX2_init 31 = .ok (.newarray .int, 2) := by decide +kernel
theorem dX2_init_33 : decode cX2_init 33 = .ok (.putfield 21, 3) := by decide +kernel
theorem dX2_init_36 : decode cX2_init 36 = .ok (.aload_n 0, 1) := by decide +kernel
theorem dX2_init_37 : decode cX2_init 37 = .ok (.iconst 0, 1) := by decide +kernel
theorem dX2_init_38 : decode cX2_init 38 = .ok (.putfield 24, 3) := by decide +kernel
theorem dX2_init_41 : decode cX2_init 41 = .ok (.aload_n 0, 1) := by decide +kernel
theorem dX2_init_42 : decode cX2_init 42 = .ok (.iconst 0, 1) := by decide +kernel
theorem dX2_init_43 : decode cX2_init 43 = .ok (.putfield 28, 3) := by decide +kernel
theorem dX2_init_46 : decode cX2_init 46 = .ok (.return_, 1) := by decide +kernel
theorem dX2_copyFrom_0 : decode cX2_copyFrom 0 = .ok (.aload_n 1, 1) := by decide +kernel
theorem dX2_copyFrom_1 : decode cX2_copyFrom 1 = .ok (.getfield 9, 3) := by decide +kernel
theorem dX2_copyFrom_4 : decode cX2_copyFrom 4 = .ok (.aload_n 0, 1) := by decide +kernel
theorem dX2_copyFrom_5 : decode cX2_copyFrom 5 = .ok (.getfield 9, 3) := by decide +kernel
theorem dX2_copyFrom_8 : decode cX2_copyFrom 8 = .ok (.invokestatic 31, 3) := by decide +kernel
theorem dX2_copyFrom_11 : decode cX2_copyFrom 11 = .ok (.aload_n 1, 1) := by decide +kernel
theorem dX2_copyFrom_12 : decode cX2_copyFrom 12 = .ok (.getfield 15, 3) := by decide +kernel
theorem dX2_copyFrom_15 : decode cX2_copyFrom 15 = .ok (.aload_n 0, 1) := by decide +kernel
theorem dX2_copyFrom_16 : decode cX2_copyFrom 16 = .ok (.getfield 15, 3) := by decide +kernel
theorem dX2_copyFrom_19 : decode cX2_copyFrom 19 = .ok (.invokestatic 31, 3) := by decide +kernel
theorem dX2_copyFrom_22 : decode cX2_copyFrom 22 = .ok (.aload_n 1, 1) := by decide +kernel
theorem dX2_copyFrom_23 : decode cX2_copyFrom 23 = .ok (.getfield 18, 3) := by decide +kernel
theorem dX2_copyFrom_26 : decode cX2_copyFrom 26 = .ok (.aload_n 0, 1) := by decide +kernel
theorem dX2_copyFrom_27 : decode cX2_copyFrom 27 = .ok (.getfield 18, 3) := by decide +kernel
theorem dX2_copyFrom_30 : decode cX2_copyFrom 30 = .ok (.invokestatic 31, 3) := by decide +kernel
theorem dX2_copyFrom_33 : decode cX2_copyFrom 33 = .ok (.aload_n 1, 1) := by decide +kernel
theorem dX2_copyFrom_34 : decode cX2_copyFrom 34 = .ok (.getfield 21, 3) := by decide +kernel
theorem dX2_copyFrom_37 : decode cX2_copyFrom 37 = .ok (.aload_n 0, 1) := by decide +kernel
theorem dX2_copyFrom_38 : decode cX2_copyFrom 38 = .ok (.getfield 21, 3) := by decide +kernel
theorem dX2_copyFrom_41 : decode cX2_copyFrom 41 = .ok (.invokestatic 31, 3) := by decide +kernel
theorem dX2_copyFrom_44 : decode cX2_copyFrom 44 = .ok (.aload_n 0, 1) := by decide +kernel
theorem dX2_copyFrom_45 : decode cX2_copyFrom 45 = .ok (.aload_n 1, 1) := by decide +kernel
theorem dX2_copyFrom_46 : decode cX2_copyFrom 46 = .ok (.getfield 24, 3) := by decide +kernel
theorem dX2_copyFrom_49 : decode cX2_copyFrom 49 = .ok (.putfield 24, 3) := by decide +kernel
theorem dX2_copyFrom_52 : decode cX2_copyFrom 52 = .ok (.aload_n 0, 1) := by decide +kernel
theorem dX2_copyFrom_53 : decode cX2_copyFrom 53 = .ok (.aload_n 1, 1) := by decide +kernel
theorem dX2_copyFrom_54 : decode cX2_copyFrom 54 = .ok (.getfield 28, 3) := by decide +kernel
theorem dX2_copyFrom_57 : decode cX2_copyFrom 57 = .ok (.putfield 28, 3) := by decide +kernel
theorem dX2_copyFrom_60 : decode cX2_copyFrom 60 = .ok (.return_, 1) := by decide +kernel
theorem dX2_enter_0 : decode cX2_enter 0 = .ok (.aload_n 0, 1) := by decide +kernel
theorem dX2_enter_1 : decode cX2_enter 1 = .ok (.getfield 24, 3) := by decide +kernel
theorem dX2_enter_4 : decode cX2_enter 4 = .ok (.aload_n 0, 1) := by decide +kernel
theorem dX2_enter_5 : decode cX2_enter 5 = .ok (.getfield 9, 3) := by decide +kernel
theorem dX2_enter_8 : decode cX2_enter 8 = .ok (.arraylength, 1) := by decide +kernel
theorem dX2_enter_9 : decode cX2_enter 9 = .ok (.if_icmp .lt 5, 3) := by decide +kernel
theorem dX2_enter_12 : decode cX2_enter 12 = .ok (.iconst (-1), 1) := by decide +kernel
theorem dX2_enter_13 : decode cX2_enter 13 = .ok (.ireturn, 1) := by decide +kernel
theorem dX2_enter_14 : decode cX2_enter 14 = .ok (.aload_n 0, 1) := by decide +kernel
theorem dX2_enter_15 : decode cX2_enter 15 = .ok (.getfield 28, 3) := by decide +kernel
theorem dX2_enter_18 : decode cX2_enter 18 = .ok (.istore 4, 2) := by decide +kernel
theorem dX2_enter_20 : decode cX2_enter 20 = .ok (.aload_n 0, 1) := by decide +kernel
theorem dX2_enter_21 : decode cX2_enter 21 = .ok (.getfield 9, 3) := by decide +kernel
theorem dX2_enter_24 : decode cX2_enter 24 = .ok (.aload_n 0, 1) := by decide +kernel
theorem dX2_enter_25 : decode cX2_enter 25 = .ok (.getfield 24, 3) := by decide +kernel
theorem dX2_enter_28 : decode cX2_enter 28 = .ok (.iload 4, 2) := by decide +kernel
theorem dX2_enter_30 : decode cX2_enter 30 = .ok (.invokestatic 35, 3) := by decide +kernel
theorem dX2_enter_33 : decode cX2_enter 33 = .ok (.aload_n 0, 1) := by decide +kernel
theorem dX2_enter_34 : decode cX2_enter 34 = .ok (.getfield 15, 3) := by decide +kernel
theorem dX2_enter_37 : decode cX2_enter 37 = .ok (.aload_n 0, 1) := by decide +kernel
theorem dX2_enter_38 : decode cX2_enter 38 = .ok (.getfield 24, 3) := by decide +kernel
theorem dX2_enter_41 : decode cX2_enter 41 = .ok (.iload_n 1, 1) := by decide +kernel
theorem dX2_enter_42 : decode cX2_enter 42 = .ok (.invokestatic 35, 3) := by decide +kernel
theorem dX2_enter_45 : decode cX2_enter 45 = .ok (.aload_n 0, 1) := by decide +kernel
theorem dX2_enter_46 : decode cX2_enter 46 = .ok (.aload_n 0, 1) := by decide +kernel
theorem dX2_enter_47 : decode cX2_enter 47 = .ok (.getfield 24, 3) := by decide +kernel
theorem dX2_enter_50 : decode cX2_enter 50 = .ok (.iload_n 2, 1) := by decide +kernel
theorem dX2_enter_51 : decode cX2_enter 51 = .ok (.iload_n 3, 1) := by decide +kernel
theorem dX2_enter_52 : decode cX2_enter 52 = .ok (.invokevirtual 39, 3) := by decide +kernel
theorem dX2_enter_55 : decode cX2_enter 55 = .ok (.aload_n 0, 1) := by decide +kernel
theorem dX2_enter_56 : decode cX2_enter 56 = .ok (.dup, 1) := by decide +kernel
theorem dX2_enter_57 : decode cX2_enter 57 = .ok (.getfield 24, 3) := by decide +kernel
theorem dX2_enter_60 : decode cX2_enter 60 = .ok (.iconst 1, 1) := by decide +kernel
theorem dX2_enter_61 : decode cX2_enter 61 = .ok (.iadd, 1) := by decide +kernel
theorem dX2_enter_62 : decode cX2_enter 62 = .ok (.putfield 24, 3) := by decide +kernel
theorem dX2_enter_65 : decode cX2_enter 65 = .ok (.aload_n 0, 1) := by decide +kernel
theorem dX2_enter_66 : decode cX2_enter 66 = .ok (.dup, 1) := by decide +kernel
theorem dX2_enter_67 : decode cX2_enter 67 = .ok (.getfield 28, 3) := by decide +kernel
theorem dX2_enter_70 : decode cX2_enter 70 = .ok (.iconst 1, 1) := by decide +kernel
theorem dX2_enter_71 : decode cX2_enter 71 = .ok (.iadd, 1) := by decide +kernel
theorem dX2_enter_72 : decode cX2_enter 72 = .ok (.putfield 28, 3) := by decide +kernel
theorem dX2_enter_75 : decode cX2_enter 75 = .ok (.iload 4, 2) := by decide +kernel
theorem dX2_enter_77 : decode cX2_enter 77 = .ok (.ireturn, 1) := by decide +kernel
theorem dX2_sendTo_0 : decode cX2_sendTo 0 = .ok (.aload_n 0, 1) := by decide +kernel
theorem dX2_sendTo_1 : decode cX2_sendTo 1 = .ok (.getfield 18, 3) := by decide +kernel
theorem dX2_sendTo_4 : decode cX2_sendTo 4 = .ok (.iload_n 1, 1) := by decide +kernel
theorem dX2_sendTo_5 : decode cX2_sendTo 5 = .ok (.iload_n 2, 1) := by decide +kernel
theorem dX2_sendTo_6 : decode cX2_sendTo 6 = .ok (.invokestatic 35, 3) := by decide +kernel
theorem dX2_sendTo_9 : decode cX2_sendTo 9 = .ok (.aload_n 0, 1) := by decide +kernel
theorem dX2_sendTo_10 : decode cX2_sendTo 10 = .ok (.getfield 21, 3) := by decide +kernel
theorem dX2_sendTo_13 : decode cX2_sendTo 13 = .ok (.iload_n 1, 1) := by decide +kernel
theorem dX2_sendTo_14 : decode cX2_sendTo 14 = .ok (.aload_n 0, 1) := by decide +kernel
theorem dX2_sendTo_15 : decode cX2_sendTo 15 = .ok (.iload_n 1, 1) := by decide +kernel
theorem dX2_sendTo_16 : decode cX2_sendTo 16 = .ok (.invokevirtual 43, 3) := by decide +kernel
theorem dX2_sendTo_19 : decode cX2_sendTo 19 = .ok (.ifCond .eq 7, 3) := by decide +kernel
theorem dX2_sendTo_22 : decode cX2_sendTo 22 = .ok (.iconst 0, 1) := by decide +kernel
theorem dX2_sendTo_23 : decode cX2_sendTo 23 = .ok (.goto 4, 3) := by decide +kernel
theorem dX2_sendTo_26 : decode cX2_sendTo 26 = .ok (.iload_n 3, 1) := by decide +kernel
theorem dX2_sendTo_27 : decode cX2_sendTo 27 = .ok (.invokestatic 35, 3) := by decide +kernel
theorem dX2_sendTo_30 : decode cX2_sendTo 30 = .ok (.return_, 1) := by decide +kernel
theorem dX2_isThere_0 : decode cX2_isThere 0 = .ok (.aload_n 0, 1) := by decide +kernel
theorem dX2_isThere_1 : decode cX2_isThere 1 = .ok (.getfield 15, 3) := by decide +kernel
theorem dX2_isThere_4 : decode cX2_isThere 4 = .ok (.iload_n 1, 1) := by decide +kernel
theorem dX2_isThere_5 : decode cX2_isThere 5 = .ok (.invokestatic 47, 3) := by decide +kernel
theorem dX2_isThere_8 : decode cX2_isThere 8 = .ok (.aload_n 0, 1) := by decide +kernel
theorem dX2_isThere_9 : decode cX2_isThere 9 = .ok (.getfield 18, 3) := by decide +kernel
theorem dX2_isThere_12 : decode cX2_isThere 12 = .ok (.iload_n 1, 1) := by decide +kernel
theorem dX2_isThere_13 : decode cX2_isThere 13 = .ok (.invokestatic 47, 3) := by decide +kernel
theorem dX2_isThere_16 : decode cX2_isThere 16 = .ok (.if_icmp .ne 7, 3) := by decide +kernel
theorem dX2_isThere_19 : decode cX2_isThere 19 = .ok (.iconst 1, 1) := by decide +kernel
theorem dX2_isThere_20 : decode cX2_isThere 20 = .ok (.goto 4, 3) := by decide +kernel
theorem dX2_isThere_23 : decode cX2_isThere 23 = .ok (.iconst 0, 1) := by decide +kernel
theorem dX2_isThere_24 : decode cX2_isThere 24 = .ok (.ireturn, 1) := by decide +kernel
theorem dX2_placeOf_0 : decode cX2_placeOf 0 = .ok (.iconst 0, 1) := by decide +kernel
theorem dX2_placeOf_1 : decode cX2_placeOf 1 = .ok (.istore_n 2, 1) := by decide +kernel
theorem dX2_placeOf_2 : decode cX2_placeOf 2 = .ok (.iload_n 2, 1) := by decide +kernel
theorem dX2_placeOf_3 : decode cX2_placeOf 3 = .ok (.aload_n 0, 1) := by decide +kernel
theorem dX2_placeOf_4 : decode cX2_placeOf 4 = .ok (.getfield 24, 3) := by decide +kernel
theorem dX2_placeOf_7 : decode cX2_placeOf 7 = .ok (.if_icmp .ge 23, 3) := by decide +kernel
theorem dX2_placeOf_10 : decode cX2_placeOf 10 = .ok (.aload_n 0, 1) := by decide +kernel
theorem dX2_placeOf_11 : decode cX2_placeOf 11 = .ok (.getfield 9, 3) := by decide +kernel
theorem dX2_placeOf_14 : decode cX2_placeOf 14 = .ok (.iload_n 2, 1) := by decide +kernel
theorem dX2_placeOf_15 : decode cX2_placeOf 15 = .ok (.invokestatic 47, 3) := by decide +kernel
theorem dX2_placeOf_18 : decode cX2_placeOf 18 = .ok (.iload_n 1, 1) := by decide +kernel
theorem dX2_placeOf_19 : decode cX2_placeOf 19 = .ok (.if_icmp .ne 5, 3) := by decide +kernel
theorem dX2_placeOf_22 : decode cX2_placeOf 22 = .ok (.iload_n 2, 1) := by decide +kernel
theorem dX2_placeOf_23 : decode cX2_placeOf 23 = .ok (.ireturn, 1) := by decide +kernel
theorem dX2_placeOf_24 : decode cX2_placeOf 24 = .ok (.iinc 2 1, 3) := by decide +kernel
theorem dX2_placeOf_27 : decode cX2_placeOf 27 = .ok (.goto (-25), 3) := by decide +kernel
theorem dX2_placeOf_30 : decode cX2_placeOf 30 = .ok (.iconst (-1), 1) := by decide +kernel
theorem dX2_placeOf_31 : decode cX2_placeOf 31 = .ok (.ireturn, 1) := by decide +kernel
theorem dX2_peopleOn_0 : decode cX2_peopleOn 0 = .ok (.iconst 0, 1) := by decide +kernel
theorem dX2_peopleOn_1 : decode cX2_peopleOn 1 = .ok (.istore_n 2, 1) := by decide +kernel
theorem dX2_peopleOn_2 : decode cX2_peopleOn 2 = .ok (.iconst 0, 1) := by decide +kernel
theorem dX2_peopleOn_3 : decode cX2_peopleOn 3 = .ok (.istore_n 3, 1) := by decide +kernel
theorem dX2_peopleOn_4 : decode cX2_peopleOn 4 = .ok (.iload_n 3, 1) := by decide +kernel
theorem dX2_peopleOn_5 : decode cX2_peopleOn 5 = .ok (.aload_n 0, 1) := by decide +kernel
theorem dX2_peopleOn_6 : decode cX2_peopleOn 6 = .ok (.getfield 24, 3) := by decide +kernel
theorem dX2_peopleOn_9 : decode cX2_peopleOn 9 = .ok (.if_icmp .ge 24, 3) := by decide +kernel
theorem dX2_peopleOn_12 : decode cX2_peopleOn 12 = .ok (.aload_n 0, 1) := by decide +kernel
theorem dX2_peopleOn_13 : decode cX2_peopleOn 13 = .ok (.getfield 15, 3) := by decide +kernel
theorem dX2_peopleOn_16 : decode cX2_peopleOn 16 = .ok (.iload_n 3, 1) := by decide +kernel
theorem dX2_peopleOn_17 : decode cX2_peopleOn 17 = .ok (.invokestatic 47, 3) := by decide +kernel
theorem dX2_peopleOn_20 : decode cX2_peopleOn 20 = .ok (.iload_n 1, 1) := by decide +kernel
theorem dX2_peopleOn_21 : decode cX2_peopleOn 21 = .ok (.if_icmp .ne 6, 3) := by decide +kernel
theorem dX2_peopleOn_24 : decode cX2_peopleOn 24 = .ok (.iinc 2 1, 3) := by decide +kernel
theorem dX2_peopleOn_27 : decode cX2_peopleOn 27 = .ok (.iinc 3 1, 3) := by decide +kernel
theorem dX2_peopleOn_30 : decode cX2_peopleOn 30 = .ok (.goto (-26), 3) := by decide +kernel
theorem dX2_peopleOn_33 : decode cX2_peopleOn 33 = .ok (.iload_n 2, 1) := by decide +kernel
theorem dX2_peopleOn_34 : decode cX2_peopleOn 34 = .ok (.ireturn, 1) := by decide +kernel
theorem dX2_goOn_0 : decode cX2_goOn 0 = .ok (.iconst 0, 1) := by decide +kernel
theorem dX2_goOn_1 : decode cX2_goOn 1 = .ok (.istore_n 2, 1) := by decide +kernel
theorem dX2_goOn_2 : decode cX2_goOn 2 = .ok (.iconst 0, 1) := by decide +kernel
theorem dX2_goOn_3 : decode cX2_goOn 3 = .ok (.istore_n 3, 1) := by decide +kernel
theorem dX2_goOn_4 : decode cX2_goOn 4 = .ok (.iload_n 3, 1) := by decide +kernel
theorem dX2_goOn_5 : decode cX2_goOn 5 = .ok (.aload_n 0, 1) := by decide +kernel
theorem dX2_goOn_6 : decode cX2_goOn 6 = .ok (.getfield 24, 3) := by decide +kernel
theorem dX2_goOn_9 : decode cX2_goOn 9 = .ok (.if_icmp .ge 32, 3) := by decide +kernel
theorem dX2_goOn_12 : decode cX2_goOn 12 = .ok (.aload_n 0, 1) := by decide +kernel
theorem dX2_goOn_13 : decode cX2_goOn 13 = .ok (.iload_n 3, 1) := by decide +kernel
theorem dX2_goOn_14 : decode cX2_goOn 14 = .ok (.invokevirtual 43, 3) := by decide +kernel
theorem dX2_goOn_17 : decode cX2_goOn 17 = .ok (.ifCond .ne 18, 3) := by decide +kernel
theorem dX2_goOn_20 : decode cX2_goOn 20 = .ok (.aload_n 0, 1) := by decide +kernel
theorem dX2_goOn_21 : decode cX2_goOn 21 = .ok (.iload_n 3, 1) := by decide +kernel
theorem dX2_goOn_22 : decode cX2_goOn 22 = .ok (.iload_n 1, 1) := by decide +kernel
theorem dX2_goOn_23 : decode cX2_goOn 23 = .ok (.invokevirtual 51, 3) := by decide +kernel
theorem dX2_goOn_26 : decode cX2_goOn 26 = .ok (.aload_n 0, 1) := by decide +kernel
theorem dX2_goOn_27 : decode cX2_goOn 27 = .ok (.iload_n 3, 1) := by decide +kernel
theorem dX2_goOn_28 : decode cX2_goOn 28 = .ok (.iload_n 2, 1) := by decide +kernel
theorem dX2_goOn_29 : decode cX2_goOn 29 = .ok (.invokevirtual 55, 3) := by decide +kernel
theorem dX2_goOn_32 : decode cX2_goOn 32 = .ok (.iinc 2 1, 3) := by decide +kernel
theorem dX2_goOn_35 : decode cX2_goOn 35 = .ok (.iinc 3 1, 3) := by decide +kernel
theorem dX2_goOn_38 : decode cX2_goOn 38 = .ok (.goto (-34), 3) := by decide +kernel
theorem dX2_goOn_41 : decode cX2_goOn 41 = .ok (.aload_n 0, 1) := by decide +kernel
theorem dX2_goOn_42 : decode cX2_goOn 42 = .ok (.iload_n 2, 1) := by decide +kernel
theorem dX2_goOn_43 : decode cX2_goOn 43 = .ok (.putfield 24, 3) := by decide +kernel
theorem dX2_goOn_46 : decode cX2_goOn 46 = .ok (.return_, 1) := by decide +kernel
theorem dX2_walk_0 : decode cX2_walk 0 = .ok (.aload_n 0, 1) := by decide +kernel
theorem dX2_walk_1 : decode cX2_walk 1 = .ok (.getfield 21, 3) := by decide +kernel
theorem dX2_walk_4 : decode cX2_walk 4 = .ok (.iload_n 1, 1) := by decide +kernel
theorem dX2_walk_5 : decode cX2_walk 5 = .ok (.iconst (-1), 1) := by decide +kernel
theorem dX2_walk_6 : decode cX2_walk 6 = .ok (.invokestatic 58, 3) := by decide +kernel
theorem dX2_walk_9 : decode cX2_walk 9 = .ok (.aload_n 0, 1) := by decide +kernel
theorem dX2_walk_10 : decode cX2_walk 10 = .ok (.getfield 21, 3) := by decide +kernel
theorem dX2_walk_13 : decode cX2_walk 13 = .ok (.iload_n 1, 1) := by decide +kernel
theorem dX2_walk_14 : decode cX2_walk 14 = .ok (.invokestatic 47, 3) := by decide +kernel
theorem dX2_walk_17 : decode cX2_walk 17 = .ok (.ifCond .le 4, 3) := by decide +kernel
theorem dX2_walk_20 : decode cX2_walk 20 = .ok (.return_, 1) := by decide +kernel
theorem dX2_walk_21 : decode cX2_walk 21 = .ok (.aload_n 0, 1) := by decide +kernel
theorem dX2_walk_22 : decode cX2_walk 22 = .ok (.getfield 15, 3) := by decide +kernel
theorem dX2_walk_25 : decode cX2_walk 25 = .ok (.iload_n 1, 1) := by decide +kernel
theorem dX2_walk_26 : decode cX2_walk 26 = .ok (.aload_n 0, 1) := by decide +kernel
theorem dX2_walk_27 : decode cX2_walk 27 = .ok (.getfield 18, 3) := by decide +kernel
theorem dX2_walk_30 : decode cX2_walk 30 = .ok (.iload_n 1, 1) := by decide +kernel
theorem dX2_walk_31 : decode cX2_walk 31 = .ok (.invokestatic 47, 3) := by decide +kernel
theorem dX2_walk_34 : decode cX2_walk 34 = .ok (.aload_n 0, 1) := by decide +kernel
theorem dX2_walk_35 : decode cX2_walk 35 = .ok (.getfield 15, 3) := by decide +kernel
theorem dX2_walk_38 : decode cX2_walk 38 = .ok (.iload_n 1, 1) := by decide +kernel
theorem dX2_walk_39 : decode cX2_walk 39 = .ok (.invokestatic 47, 3) := by decide +kernel
theorem dX2_walk_42 : decode cX2_walk 42 = .ok (.if_icmp .le 7, 3) := by decide +kernel
theorem dX2_walk_45 : decode cX2_walk 45 = .ok (.iconst 1, 1) := by decide +kernel
theorem dX2_walk_46 : decode cX2_walk 46 = .ok (.goto 4, 3) := by decide +kernel
theorem dX2_walk_49 : decode cX2_walk 49 = .ok (.iconst (-1), 1) := by decide +kernel
theorem dX2_walk_50 : decode cX2_walk 50 = .ok (.invokestatic 58, 3) := by decide +kernel
theorem dX2_walk_53 : decode cX2_walk 53 = .ok (.aload_n 0, 1) := by decide +kernel
theorem dX2_walk_54 : decode cX2_walk 54 = .ok (.getfield 21, 3) := by decide +kernel
theorem dX2_walk_57 : decode cX2_walk 57 = .ok (.iload_n 1, 1) := by decide +kernel
theorem dX2_walk_58 : decode cX2_walk 58 = .ok (.aload_n 0, 1) := by decide +kernel
theorem dX2_walk_59 : decode cX2_walk 59 = .ok (.iload_n 1, 1) := by decide +kernel
theorem dX2_walk_60 : decode cX2_walk 60 = .ok (.invokevirtual 43, 3) := by decide +kernel
theorem dX2_walk_63 : decode cX2_walk 63 = .ok (.ifCond .eq 7, 3) := by decide +kernel
theorem dX2_walk_66 : decode cX2_walk 66 = .ok (.iconst 0, 1) := by decide +kernel
theorem dX2_walk_67 : decode cX2_walk 67 = .ok (.goto 4, 3) := by decide +kernel
theorem dX2_walk_70 : decode cX2_walk 70 = .ok (.iload_n 2, 1) := by decide +kernel
theorem dX2_walk_71 : decode cX2_walk 71 = .ok (.invokestatic 35, 3) := by decide +kernel
theorem dX2_walk_74 : decode cX2_walk 74 = .ok (.return_, 1) := by decide +kernel
theorem dX2_moveUp_0 : decode cX2_moveUp 0 = .ok (.aload_n 0, 1) := by decide +kernel
theorem dX2_moveUp_1 : decode cX2_moveUp 1 = .ok (.getfield 9, 3) := by decide +kernel
theorem dX2_moveUp_4 : decode cX2_moveUp 4 = .ok (.iload_n 2, 1) := by decide +kernel
theorem dX2_moveUp_5 : decode cX2_moveUp 5 = .ok (.aload_n 0, 1) := by decide +kernel
theorem dX2_moveUp_6 : decode cX2_moveUp 6 = .ok (.getfield 9, 3) := by decide +kernel
theorem dX2_moveUp_9 : decode cX2_moveUp 9 = .ok (.iload_n 1, 1) := by decide +kernel
theorem dX2_moveUp_10 : decode cX2_moveUp 10 = .ok (.invokestatic 47, 3) := by decide +kernel
theorem dX2_moveUp_13 : decode cX2_moveUp 13 = .ok (.invokestatic 35, 3) := by decide +kernel
theorem dX2_moveUp_16 : decode cX2_moveUp 16 = .ok (.aload_n 0, 1) := by decide +kernel
theorem dX2_moveUp_17 : decode cX2_moveUp 17 = .ok (.getfield 15, 3) := by decide +kernel
theorem dX2_moveUp_20 : decode cX2_moveUp 20 = .ok (.iload_n 2, 1) := by decide +kernel
theorem dX2_moveUp_21 : decode cX2_moveUp 21 = .ok (.aload_n 0, 1) := by decide +kernel
theorem dX2_moveUp_22 : decode cX2_moveUp 22 = .ok (.getfield 15, 3) := by decide +kernel
theorem dX2_moveUp_25 : decode cX2_moveUp 25 = .ok (.iload_n 1, 1) := by decide +kernel
theorem dX2_moveUp_26 : decode cX2_moveUp 26 = .ok (.invokestatic 47, 3) := by decide +kernel
theorem dX2_moveUp_29 : decode cX2_moveUp 29 = .ok (.invokestatic 35, 3) := by decide +kernel
theorem dX2_moveUp_32 : decode cX2_moveUp 32 = .ok (.aload_n 0, 1) := by decide +kernel
theorem dX2_moveUp_33 : decode cX2_moveUp 33 = .ok (.getfield 18, 3) := by decide +kernel
theorem dX2_moveUp_36 : decode cX2_moveUp 36 = .ok (.iload_n 2, 1) := by decide +kernel
theorem dX2_moveUp_37 : decode cX2_moveUp 37 = .ok (.aload_n 0, 1) := by decide +kernel
theorem dX2_moveUp_38 : decode cX2_moveUp 38 = .ok (.getfield 18, 3) := by decide +kernel
theorem dX2_moveUp_41 : decode cX2_moveUp 41 = .ok (.iload_n 1, 1) := by decide +kernel
theorem dX2_moveUp_42 : decode cX2_moveUp 42 = .ok (.invokestatic 47, 3) := by decide +kernel
theorem dX2_moveUp_45 : decode cX2_moveUp 45 = .ok (.invokestatic 35, 3) := by decide +kernel
theorem dX2_moveUp_48 : decode cX2_moveUp 48 = .ok (.aload_n 0, 1) := by decide +kernel
theorem dX2_moveUp_49 : decode cX2_moveUp 49 = .ok (.getfield 21, 3) := by decide +kernel
theorem dX2_moveUp_52 : decode cX2_moveUp 52 = .ok (.iload_n 2, 1) := by decide +kernel
theorem dX2_moveUp_53 : decode cX2_moveUp 53 = .ok (.aload_n 0, 1) := by decide +kernel
theorem dX2_moveUp_54 : decode cX2_moveUp 54 = .ok (.getfield 21, 3) := by decide +kernel
theorem dX2_moveUp_57 : decode cX2_moveUp 57 = .ok (.iload_n 1, 1) := by decide +kernel
theorem dX2_moveUp_58 : decode cX2_moveUp 58 = .ok (.invokestatic 47, 3) := by decide +kernel
theorem dX2_moveUp_61 : decode cX2_moveUp 61 = .ok (.invokestatic 35, 3) := by decide +kernel
theorem dX2_moveUp_64 : decode cX2_moveUp 64 = .ok (.return_, 1) := by decide +kernel
theorem dX2_personNumber_0 : decode cX2_personNumber 0 = .ok (.iload_n 1, 1) := by decide +kernel
theorem dX2_personNumber_1 : decode cX2_personNumber 1 = .ok (.aload_n 0, 1) := by decide +kernel
theorem dX2_personNumber_2 : decode cX2_personNumber 2 = .ok (.getfield 24, 3) := by decide +kernel
theorem dX2_personNumber_5 : decode cX2_personNumber 5 = .ok (.if_icmp .lt 5, 3) := by decide +kernel
theorem dX2_personNumber_8 : decode cX2_personNumber 8 = .ok (.iconst (-1), 1) := by decide +kernel
theorem dX2_personNumber_9 : decode cX2_personNumber 9 = .ok (.ireturn, 1) := by decide +kernel
theorem dX2_personNumber_10 : decode cX2_personNumber 10 = .ok (.iload_n 2, 1) := by decide +kernel
theorem dX2_personNumber_11 : decode cX2_personNumber 11 = .ok (.tableswitch 52 0 2 #[25, 34, 43], 25) := by decide +kernel
theorem dX2_personNumber_36 : decode cX2_personNumber 36 = .ok (.aload_n 0, 1) := by decide +kernel
theorem dX2_personNumber_37 : decode cX2_personNumber 37 = .ok (.getfield 9, 3) := by decide +kernel
theorem dX2_personNumber_40 : decode cX2_personNumber 40 = .ok (.iload_n 1, 1) := by decide +kernel
theorem dX2_personNumber_41 : decode cX2_personNumber 41 = .ok (.invokestatic 47, 3) := by decide +kernel
theorem dX2_personNumber_44 : decode cX2_personNumber 44 = .ok (.ireturn, 1) := by decide +kernel
theorem dX2_personNumber_45 : decode cX2_personNumber 45 = .ok (.aload_n 0, 1) := by decide +kernel
theorem dX2_personNumber_46 : decode cX2_personNumber 46 = .ok (.getfield 15, 3) := by decide +kernel
theorem dX2_personNumber_49 : decode cX2_personNumber 49 = .ok (.iload_n 1, 1) := by decide +kernel
theorem dX2_personNumber_50 : decode cX2_personNumber 50 = .ok (.invokestatic 47, 3) := by decide +kernel
theorem dX2_personNumber_53 : decode cX2_personNumber 53 = .ok (.ireturn, 1) := by decide +kernel
theorem dX2_personNumber_54 : decode cX2_personNumber 54 = .ok (.aload_n 0, 1) := by decide +kernel
theorem dX2_personNumber_55 : decode cX2_personNumber 55 = .ok (.getfield 18, 3) := by decide +kernel
theorem dX2_personNumber_58 : decode cX2_personNumber 58 = .ok (.iload_n 1, 1) := by decide +kernel
theorem dX2_personNumber_59 : decode cX2_personNumber 59 = .ok (.invokestatic 47, 3) := by decide +kernel
theorem dX2_personNumber_62 : decode cX2_personNumber 62 = .ok (.ireturn, 1) := by decide +kernel
theorem dX2_personNumber_63 : decode cX2_personNumber 63 = .ok (.aload_n 0, 1) := by decide +kernel
theorem dX2_personNumber_64 : decode cX2_personNumber 64 = .ok (.getfield 21, 3) := by decide +kernel
theorem dX2_personNumber_67 : decode cX2_personNumber 67 = .ok (.iload_n 1, 1) := by decide +kernel
theorem dX2_personNumber_68 : decode cX2_personNumber 68 = .ok (.invokestatic 47, 3) := by decide +kernel
theorem dX2_personNumber_71 : decode cX2_personNumber 71 = .ok (.ireturn, 1) := by decide +kernel
theorem dX3_init_0 : decode cX3_init 0 = .ok (.aload_n 0, 1) := by decide +kernel
theorem dX3_init_1 : decode cX3_init 1 = .ok (.invokespecial 3, 3) := by decide +kernel
theorem dX3_init_4 : decode cX3_init 4 = .ok (.aload_n 0, 1) := by decide +kernel
theorem dX3_init_5 : decode cX3_init 5 = .ok (.new 9, 3) := by decide +kernel
theorem dX3_init_8 : decode cX3_init 8 = .ok (.dup, 1) := by decide +kernel
theorem dX3_init_9 : decode cX3_init 9 = .ok (.invokespecial 11, 3) := by decide +kernel
theorem dX3_init_12 : decode cX3_init 12 = .ok (.putfield 12, 3) := by decide +kernel
theorem dX3_init_15 : decode cX3_init 15 = .ok (.aload_n 0, 1) := by decide +kernel
theorem dX3_init_16 : decode cX3_init 16 = .ok (.new 18, 3) := by decide +kernel
theorem dX3_init_19 : decode cX3_init 19 = .ok (.dup, 1) := by decide +kernel
theorem dX3_init_20 : decode cX3_init 20 = .ok (.invokespecial 20, 3) := by decide +kernel
theorem dX3_init_23 : decode cX3_init 23 = .ok (.putfield 21, 3) := by decide +kernel
theorem dX3_init_26 : decode cX3_init 26 = .ok (.aload_n 0, 1) := by decide +kernel
theorem dX3_init_27 : decode cX3_init 27 = .ok (.getstatic 25, 3) := by decide +kernel
theorem dX3_init_30 : decode cX3_init 30 = .ok (.arraylength, 1) := by decide +kernel
theorem dX3_init_31 : decode cX3_init 31 = .ok (.newarray .int, 2) := by decide +kernel
theorem dX3_init_33 : decode cX3_init 33 = .ok (.putfield 29, 3) := by decide +kernel
theorem dX3_init_36 : decode cX3_init 36 = .ok (.getstatic 25, 3) := by decide +kernel
theorem dX3_init_39 : decode cX3_init 39 = .ok (.aload_n 0, 1) := by decide +kernel
theorem dX3_init_40 : decode cX3_init 40 = .ok (.getfield 29, 3) := by decide +kernel
theorem dX3_init_43 : decode cX3_init 43 = .ok (.invokestatic 32, 3) := by decide +kernel
theorem dX3_init_46 : decode cX3_init 46 = .ok (.aload_n 0, 1) := by decide +kernel
theorem dX3_init_47 : decode cX3_init 47 = .ok (.iconst 0, 1) := by decide +kernel
theorem dX3_init_48 : decode cX3_init 48 = .ok (.putfield 36, 3) := by decide +kernel
theorem dX3_init_51 : decode cX3_init 51 = .ok (.aload_n 0, 1) := by decide +kernel
theorem dX3_init_52 : decode cX3_init 52 = .ok (.iconst 0, 1) := by decide +kernel
theorem dX3_init_53 : decode cX3_init 53 = .ok (.putfield 40, 3) := by decide +kernel
theorem dX3_init_56 : decode cX3_init 56 = .ok (.aload_n 0, 1) := by decide +kernel
theorem dX3_init_57 : decode cX3_init 57 = .ok (.iconst 0, 1) := by decide +kernel
theorem dX3_init_58 : decode cX3_init 58 = .ok (.putfield 43, 3) := by decide +kernel
theorem dX3_init_61 : decode cX3_init 61 = .ok (.aload_n 0, 1) := by decide +kernel
theorem dX3_init_62 : decode cX3_init 62 = .ok (.iconst 0, 1) := by decide +kernel
theorem dX3_init_63 : decode cX3_init 63 = .ok (.putfield 47, 3) := by decide +kernel
theorem dX3_init_66 : decode cX3_init 66 = .ok (.return_, 1) := by decide +kernel
theorem dX3_copyFrom_0 : decode cX3_copyFrom 0 = .ok (.aload_n 0, 1) := by decide +kernel
theorem dX3_copyFrom_1 : decode cX3_copyFrom 1 = .ok (.getfield 12, 3) := by decide +kernel
theorem dX3_copyFrom_4 : decode cX3_copyFrom 4 = .ok (.aload_n 1, 1) := by decide +kernel
theorem dX3_copyFrom_5 : decode cX3_copyFrom 5 = .ok (.getfield 12, 3) := by decide +kernel
theorem dX3_copyFrom_8 : decode cX3_copyFrom 8 = .ok (.invokevirtual 50, 3) := by decide +kernel
theorem dX3_copyFrom_11 : decode cX3_copyFrom 11 = .ok (.aload_n 0, 1) := by decide +kernel
theorem dX3_copyFrom_12 : decode cX3_copyFrom 12 = .ok (.getfield 21, 3) := by decide +kernel
theorem dX3_copyFrom_15 : decode cX3_copyFrom 15 = .ok (.aload_n 1, 1) := by decide +kernel
theorem dX3_copyFrom_16 : decode cX3_copyFrom 16 = .ok (.getfield 21, 3) := by decide +kernel
theorem dX3_copyFrom_19 : decode cX3_copyFrom 19 = .ok (.invokevirtual 54, 3) := by decide +kernel
theorem dX3_copyFrom_22 : decode cX3_copyFrom 22 = .ok (.aload_n 1, 1) := by decide +kernel
theorem dX3_copyFrom_23 : decode cX3_copyFrom 23 = .ok (.getfield 29, 3) := by decide +kernel
theorem dX3_copyFrom_26 : decode cX3_copyFrom 26 = .ok (.aload_n 0, 1) := by decide +kernel
theorem dX3_copyFrom_27 : decode cX3_copyFrom 27 = .ok (.getfield 29, 3) := by decide +kernel
theorem dX3_copyFrom_30 : decode cX3_copyFrom 30 = .ok (.invokestatic 32, 3) := by decide +kernel
theorem dX3_copyFrom_33 : decode cX3_copyFrom 33 = .ok (.aload_n 0, 1) := by decide +kernel
theorem dX3_copyFrom_34 : decode cX3_copyFrom 34 = .ok (.aload_n 1, 1) := by decide +kernel
theorem dX3_copyFrom_35 : decode cX3_copyFrom 35 = .ok (.getfield 36, 3) := by decide +kernel
theorem dX3_copyFrom_38 : decode cX3_copyFrom 38 = .ok (.putfield 36, 3) := by decide +kernel
theorem dX3_copyFrom_41 : decode cX3_copyFrom 41 = .ok (.aload_n 0, 1) := by decide +kernel
theorem dX3_copyFrom_42 : decode cX3_copyFrom 42 = .ok (.aload_n 1, 1) := by decide +kernel
theorem dX3_copyFrom_43 : decode cX3_copyFrom 43 = .ok (.getfield 40, 3) := by decide +kernel
theorem dX3_copyFrom_46 : decode cX3_copyFrom 46 = .ok (.putfield 40, 3) := by decide +kernel
theorem dX3_copyFrom_49 : decode cX3_copyFrom 49 = .ok (.aload_n 0, 1) := by decide +kernel
theorem dX3_copyFrom_50 : decode cX3_copyFrom 50 = .ok (.aload_n 1, 1) := by decide +kernel
theorem dX3_copyFrom_51 : decode cX3_copyFrom 51 = .ok (.getfield 43, 3) := by decide +kernel
theorem dX3_copyFrom_54 : decode cX3_copyFrom 54 = .ok (.putfield 43, 3) := by decide +kernel
theorem dX3_copyFrom_57 : decode cX3_copyFrom 57 = .ok (.aload_n 0, 1) := by decide +kernel
theorem dX3_copyFrom_58 : decode cX3_copyFrom 58 = .ok (.aload_n 1, 1) := by decide +kernel
theorem dX3_copyFrom_59 : decode cX3_copyFrom 59 = .ok (.getfield 47, 3) := by decide +kernel
theorem dX3_copyFrom_62 : decode cX3_copyFrom 62 = .ok (.putfield 47, 3) := by decide +kernel
theorem dX3_copyFrom_65 : decode cX3_copyFrom 65 = .ok (.return_, 1) := by decide +kernel
theorem dX3_letCome_0 : decode cX3_letCome 0 = .ok (.aload_n 0, 1) := by decide +kernel
theorem dX3_letCome_1 : decode cX3_letCome 1 = .ok (.getfield 21, 3) := by decide +kernel
theorem dX3_letCome_4 : decode cX3_letCome 4 = .ok (.iload_n 1, 1) := by decide +kernel
theorem dX3_letCome_5 : decode cX3_letCome 5 = .ok (.iload_n 2, 1) := by decide +kernel
theorem dX3_letCome_6 : decode cX3_letCome 6 = .ok (.aload_n 0, 1) := by decide +kernel
theorem dX3_letCome_7 : decode cX3_letCome 7 = .ok (.getfield 29, 3) := by decide +kernel
theorem dX3_letCome_10 : decode cX3_letCome 10 = .ok (.iconst 3, 1) := by decide +kernel
theorem dX3_letCome_11 : decode cX3_letCome 11 = .ok (.invokestatic 57, 3) := by decide +kernel
theorem dX3_letCome_14 : decode cX3_letCome 14 = .ok (.invokevirtual 61, 3) := by decide +kernel
theorem dX3_letCome_17 : decode cX3_letCome 17 = .ok (.ireturn, 1) := by decide +kernel
theorem dX3_switchOn_0 : decode cX3_switchOn 0 = .ok (.aload_n 0, 1) := by decide +kernel
theorem dX3_switchOn_1 : decode cX3_switchOn 1 = .ok (.getfield 12, 3) := by decide +kernel
theorem dX3_switchOn_4 : decode cX3_switchOn 4 = .ok (.iload_n 1, 1) := by decide +kernel
theorem dX3_switchOn_5 : decode cX3_switchOn 5 = .ok (.aload_n 0, 1) := by decide +kernel
theorem dX3_switchOn_6 : decode cX3_switchOn 6 = .ok (.getfield 29, 3) := by decide +kernel
theorem dX3_switchOn_9 : decode cX3_switchOn 9 = .ok (.iconst 0, 1) := by decide +kernel
theorem dX3_switchOn_10 : decode cX3_switchOn 10 = .ok (.invokestatic 57, 3) := by decide +kernel
theorem dX3_switchOn_13 : decode cX3_switchOn 13 = .ok (.invokevirtual 65, 3) := by decide +kernel
theorem dX3_switchOn_16 : decode cX3_switchOn 16 = .ok (.return_, 1) := by decide +kernel
theorem dX3_switchAllOn_0 : decode cX3_switchAllOn 0 = .ok (.iconst 0, 1) := by decide +kernel
theorem dX3_switchAllOn_1 : decode cX3_switchAllOn 1 = .ok (.istore_n 1, 1) := by decide +kernel
theorem dX3_switchAllOn_2 : decode cX3_switchAllOn 2 = .ok (.iload_n 1, 1) := by decide +kernel
theorem dX3_switchAllOn_3 : decode cX3_switchAllOn 3 = .ok (.bipush 8, 2) := by decide +kernel
theorem dX3_switchAllOn_5 : decode cX3_switchAllOn 5 = .ok (.if_icmp .ge 14, 3) := by decide +kernel
theorem dX3_switchAllOn_8 : decode cX3_switchAllOn 8 = .ok (.aload_n 0, 1) := by decide +kernel
theorem dX3_switchAllOn_9 : decode cX3_switchAllOn 9 = .ok (.iload_n 1, 1) := by decide +kernel
theorem dX3_switchAllOn_10 : decode cX3_switchAllOn 10 = .ok (.invokevirtual 69, 3) := by decide +kernel
theorem dX3_switchAllOn_13 : decode cX3_switchAllOn 13 = .ok (.iinc 1 1, 3) := by decide +kernel
theorem dX3_switchAllOn_16 : decode cX3_switchAllOn 16 = .ok (.goto (-14), 3) := by decide +kernel
theorem dX3_switchAllOn_19 : decode cX3_switchAllOn 19 = .ok (.return_, 1) := by decide +kernel
theorem dX3_lampOf_0 : decode cX3_lampOf 0 = .ok (.aload_n 0, 1) := by decide +kernel
theorem dX3_lampOf_1 : decode cX3_lampOf 1 = .ok (.getfield 40, 3) := by decide +kernel
theorem dX3_lampOf_4 : decode cX3_lampOf 4 = .ok (.ifCond .eq 5, 3) := by decide +kernel
theorem dX3_lampOf_7 : decode cX3_lampOf 7 = .ok (.iconst 3, 1) := by decide +kernel
theorem dX3_lampOf_8 : decode cX3_lampOf 8 = .ok (.ireturn, 1) := by decide +kernel
theorem dX3_lampOf_9 : decode cX3_lampOf 9 = .ok (.aload_n 0, 1) := by decide +kernel
theorem dX3_lampOf_10 : decode cX3_lampOf 10 = .ok (.getfield 12, 3) := by decide +kernel
theorem dX3_lampOf_13 : decode cX3_lampOf 13 = .ok (.getfield 73, 3) := by decide +kernel
theorem dX3_lampOf_16 : decode cX3_lampOf 16 = .ok (.iload_n 1, 1) := by decide +kernel
theorem dX3_lampOf_17 : decode cX3_lampOf 17 = .ok (.invokestatic 57, 3) := by decide +kernel
theorem dX3_lampOf_20 : decode cX3_lampOf 20 = .ok (.istore_n 2, 1) := by decide +kernel
theorem dX3_lampOf_21 : decode cX3_lampOf 21 = .ok (.iload_n 2, 1) := by decide +kernel
theorem dX3_lampOf_22 : decode cX3_lampOf 22 = .ok (.ifCond .ne 16, 3) := by decide +kernel
theorem dX3_lampOf_25 : decode cX3_lampOf 25 = .ok (.aload_n 0, 1) := by decide +kernel
theorem dX3_lampOf_26 : decode cX3_lampOf 26 = .ok (.getfield 36, 3) := by decide +kernel
theorem dX3_lampOf_29 : decode cX3_lampOf 29 = .ok (.ifCond .eq 7, 3) := by decide +kernel
theorem dX3_lampOf_32 : decode cX3_lampOf 32 = .ok (.iconst 1, 1) := by decide +kernel
theorem dX3_lampOf_33 : decode cX3_lampOf 33 = .ok (.goto 4, 3) := by decide +kernel
theorem dX3_lampOf_36 : decode cX3_lampOf 36 = .ok (.iconst 0, 1) := by decide +kernel
theorem dX3_lampOf_37 : decode cX3_lampOf 37 = .ok (.ireturn, 1) := by decide +kernel
theorem dX3_lampOf_38 : decode cX3_lampOf 38 = .ok (.iload_n 2, 1) := by decide +kernel
theorem dX3_lampOf_39 : decode cX3_lampOf 39 = .ok (.aload_n 0, 1) := by decide +kernel
theorem dX3_lampOf_40 : decode cX3_lampOf 40 = .ok (.getfield 29, 3) := by decide +kernel
theorem dX3_lampOf_43 : decode cX3_lampOf 43 = .ok (.iconst 1, 1) := by decide +kernel
theorem dX3_lampOf_44 : decode cX3_lampOf 44 = .ok (.invokestatic 57, 3) := by decide +kernel
theorem dX3_lampOf_47 : decode cX3_lampOf 47 = .ok (.if_icmp .gt 7, 3) := by decide +kernel
theorem dX3_lampOf_50 : decode cX3_lampOf 50 = .ok (.iconst 2, 1) := by decide +kernel
theorem dX3_lampOf_51 : decode cX3_lampOf 51 = .ok (.goto 4, 3) := by decide +kernel
theorem dX3_lampOf_54 : decode cX3_lampOf 54 = .ok (.iconst 3, 1) := by decide +kernel
theorem dX3_lampOf_55 : decode cX3_lampOf 55 = .ok (.ireturn, 1) := by decide +kernel
theorem dX3_lampsBurning_0 : decode cX3_lampsBurning 0 = .ok (.iconst 0, 1) := by decide +kernel
theorem dX3_lampsBurning_1 : decode cX3_lampsBurning 1 = .ok (.istore_n 1, 1) := by decide +kernel
theorem dX3_lampsBurning_2 : decode cX3_lampsBurning 2 = .ok (.iconst 0, 1) := by decide +kernel
theorem dX3_lampsBurning_3 : decode cX3_lampsBurning 3 = .ok (.istore_n 2, 1) := by decide +kernel
theorem dX3_lampsBurning_4 : decode cX3_lampsBurning 4 = .ok (.iload_n 2, 1) := by decide +kernel
theorem dX3_lampsBurning_5 : decode cX3_lampsBurning 5 = .ok (.bipush 8, 2) := by decide +kernel
theorem dX3_lampsBurning_7 : decode cX3_lampsBurning 7 = .ok (.if_icmp .ge 21, 3) := by decide +kernel
theorem dX3_lampsBurning_10 : decode cX3_lampsBurning 10 = .ok (.aload_n 0, 1) := by decide +kernel
theorem dX3_lampsBurning_11 : decode cX3_lampsBurning 11 = .ok (.iload_n 2, 1) := by decide +kernel
theorem dX3_lampsBurning_12 : decode cX3_lampsBurning 12 = .ok (.invokevirtual 76, 3) := by decide +kernel
theorem dX3_lampsBurning_15 : decode cX3_lampsBurning 15 = .ok (.iconst 2, 1) := by decide +kernel
theorem dX3_lampsBurning_16 : decode cX3_lampsBurning 16 = .ok (.if_icmp .lt 6, 3) := by decide +kernel
theorem dX3_lampsBurning_19 : decode cX3_lampsBurning 19 = .ok (.iinc 1 1, 3) := by decide +kernel
theorem dX3_lampsBurning_22 : decode cX3_lampsBurning 22 = .ok (.iinc 2 1, 3) := by decide +kernel
theorem dX3_lampsBurning_25 : decode cX3_lampsBurning 25 = .ok (.goto (-21), 3) := by decide +kernel
theorem dX3_lampsBurning_28 : decode cX3_lampsBurning 28 = .ok (.iload_n 1, 1) := by decide +kernel
theorem dX3_lampsBurning_29 : decode cX3_lampsBurning 29 = .ok (.ireturn, 1) := by decide +kernel
theorem dX3_letPass_0 : decode cX3_letPass 0 = .ok (.aload_n 0, 1) := by decide +kernel
theorem dX3_letPass_1 : decode cX3_letPass 1 = .ok (.getfield 12, 3) := by decide +kernel
theorem dX3_letPass_4 : decode cX3_letPass 4 = .ok (.getfield 80, 3) := by decide +kernel
theorem dX3_letPass_7 : decode cX3_letPass 7 = .ok (.invokestatic 83, 3) := by decide +kernel
theorem dX3_letPass_10 : decode cX3_letPass 10 = .ok (.istore_n 2, 1) := by decide +kernel
theorem dX3_letPass_11 : decode cX3_letPass 11 = .ok (.iconst 0, 1) := by decide +kernel
theorem dX3_letPass_12 : decode cX3_letPass 12 = .ok (.istore_n 3, 1) := by decide +kernel
theorem dX3_letPass_13 : decode cX3_letPass 13 = .ok (.iload_n 3, 1) := by decide +kernel
theorem dX3_letPass_14 : decode cX3_letPass 14 = .ok (.iload_n 1, 1) := by decide +kernel
theorem dX3_letPass_15 : decode cX3_letPass 15 = .ok (.if_icmp .ge 17, 3) := by decide +kernel
theorem dX3_letPass_18 : decode cX3_letPass 18 = .ok (.aload_n 0, 1) := by decide +kernel
theorem dX3_letPass_19 : decode cX3_letPass 19 = .ok (.invokevirtual 87, 3) := by decide +kernel
theorem dX3_letPass_22 : decode cX3_letPass 22 = .ok (.aload_n 0, 1) := by decide +kernel
theorem dX3_letPass_23 : decode cX3_letPass 23 = .ok (.invokevirtual 90, 3) := by decide +kernel
theorem dX3_letPass_26 : decode cX3_letPass 26 = .ok (.iinc 3 1, 3) := by decide +kernel
theorem dX3_letPass_29 : decode cX3_letPass 29 = .ok (.goto (-16), 3) := by decide +kernel
theorem dX3_letPass_32 : decode cX3_letPass 32 = .ok (.aload_n 0, 1) := by decide +kernel
theorem dX3_letPass_33 : decode cX3_letPass 33 = .ok (.getfield 12, 3) := by decide +kernel
theorem dX3_letPass_36 : decode cX3_letPass 36 = .ok (.getfield 80, 3) := by decide +kernel
theorem dX3_letPass_39 : decode cX3_letPass 39 = .ok (.invokestatic 83, 3) := by decide +kernel
theorem dX3_letPass_42 : decode cX3_letPass 42 = .ok (.iload_n 2, 1) := by decide +kernel
theorem dX3_letPass_43 : decode cX3_letPass 43 = .ok (.isub, 1) := by decide +kernel
theorem dX3_letPass_44 : decode cX3_letPass 44 = .ok (.ireturn, 1) := by decide +kernel
theorem dX3_beginSecond_0 : decode cX3_beginSecond 0 = .ok (.aload_n 0, 1) := by decide +kernel
theorem dX3_beginSecond_1 : decode cX3_beginSecond 1 = .ok (.getfield 21, 3) := by decide +kernel
theorem dX3_beginSecond_4 : decode cX3_beginSecond 4 = .ok (.aload_n 0, 1) := by decide +kernel
theorem dX3_beginSecond_5 : decode cX3_beginSecond 5 = .ok (.getfield 29, 3) := by decide +kernel
theorem dX3_beginSecond_8 : decode cX3_beginSecond 8 = .ok (.iconst 3, 1) := by decide +kernel
theorem dX3_beginSecond_9 : decode cX3_beginSecond 9 = .ok (.invokestatic 57, 3) := by decide +kernel
theorem dX3_beginSecond_12 : decode cX3_beginSecond 12 = .ok (.invokevirtual 99, 3) := by decide +kernel
theorem dX3_beginSecond_15 : decode cX3_beginSecond 15 = .ok (.iconst 0, 1) := by decide +kernel
theorem dX3_beginSecond_16 : decode cX3_beginSecond 16 = .ok (.istore_n 1, 1) := by decide +kernel
theorem dX3_beginSecond_17 : decode cX3_beginSecond 17 = .ok (.iload_n 1, 1) := by decide +kernel
theorem dX3_beginSecond_18 : decode cX3_beginSecond 18 = .ok (.bipush 8, 2) := by decide +kernel
theorem dX3_beginSecond_20 : decode cX3_beginSecond 20 = .ok (.if_icmp .ge 66, 3) := by decide +kernel
theorem dX3_beginSecond_23 : decode cX3_beginSecond 23 = .ok (.aload_n 0, 1) := by decide +kernel
theorem dX3_beginSecond_24 : decode cX3_beginSecond 24 = .ok (.getfield 12, 3) := by decide +kernel
theorem dX3_beginSecond_27 : decode cX3_beginSecond 27 = .ok (.getfield 102, 3) := by decide +kernel
theorem dX3_beginSecond_30 : decode cX3_beginSecond 30 = .ok (.iload_n 1, 1) := by decide +kernel
theorem dX3_beginSecond_31 : decode cX3_beginSecond 31 = .ok (.invokestatic 57, 3) := by decide +kernel
theorem dX3_beginSecond_34 : decode cX3_beginSecond 34 = .ok (.iconst 1, 1) := by decide +kernel
theorem dX3_beginSecond_35 : decode cX3_beginSecond 35 = .ok (.if_icmp .ne 45, 3) := by decide +kernel
theorem dX3_beginSecond_38 : decode cX3_beginSecond 38 = .ok (.aload_n 0, 1) := by decide +kernel
theorem dX3_beginSecond_39 : decode cX3_beginSecond 39 = .ok (.getfield 21, 3) := by decide +kernel
theorem dX3_beginSecond_42 : decode cX3_beginSecond 42 = .ok (.iload_n 1, 1) := by decide +kernel
theorem dX3_beginSecond_43 : decode cX3_beginSecond 43 = .ok (.invokevirtual 105, 3) := by decide +kernel
theorem dX3_beginSecond_46 : decode cX3_beginSecond 46 = .ok (.ifCond .le 34, 3) := by decide +kernel
theorem dX3_beginSecond_49 : decode cX3_beginSecond 49 = .ok (.aload_n 0, 1) := by decide +kernel
theorem dX3_beginSecond_50 : decode cX3_beginSecond 50 = .ok (.iload_n 1, 1) := by decide +kernel
theorem dX3_beginSecond_51 : decode cX3_beginSecond 51 = .ok (.invokevirtual 69, 3) := by decide +kernel
theorem dX3_beginSecond_54 : decode cX3_beginSecond 54 = .ok (.aload_n 0, 1) := by decide +kernel
theorem dX3_beginSecond_55 : decode cX3_beginSecond 55 = .ok (.getfield 29, 3) := by decide +kernel
theorem dX3_beginSecond_58 : decode cX3_beginSecond 58 = .ok (.iconst 2, 1) := by decide +kernel
theorem dX3_beginSecond_59 : decode cX3_beginSecond 59 = .ok (.invokestatic 57, 3) := by decide +kernel
theorem dX3_beginSecond_62 : decode cX3_beginSecond 62 = .ok (.iconst 1, 1) := by decide +kernel
theorem dX3_beginSecond_63 : decode cX3_beginSecond 63 = .ok (.if_icmp .ne 17, 3) := by decide +kernel
theorem dX3_beginSecond_66 : decode cX3_beginSecond 66 = .ok (.aload_n 0, 1) := by decide +kernel
theorem dX3_beginSecond_67 : decode cX3_beginSecond 67 = .ok (.iload_n 1, 1) := by decide +kernel
theorem dX3_beginSecond_68 : decode cX3_beginSecond 68 = .ok (.iconst 1, 1) := by decide +kernel
theorem dX3_beginSecond_69 : decode cX3_beginSecond 69 = .ok (.isub, 1) := by decide +kernel
theorem dX3_beginSecond_70 : decode cX3_beginSecond 70 = .ok (.invokevirtual 69, 3) := by decide +kernel
theorem dX3_beginSecond_73 : decode cX3_beginSecond 73 = .ok (.aload_n 0, 1) := by decide +kernel
theorem dX3_beginSecond_74 : decode cX3_beginSecond 74 = .ok (.iload_n 1, 1) := by decide +kernel
theorem dX3_beginSecond_75 : decode cX3_beginSecond 75 = .ok (.iconst 1, 1) := by decide +kernel
theorem dX3_beginSecond_76 : decode cX3_beginSecond 76 = .ok (.iadd, 1) := by decide +kernel
theorem dX3_beginSecond_77 : decode cX3_beginSecond 77 = .ok (.invokevirtual 69, 3) := by decide +kernel
theorem dX3_beginSecond_80 : decode cX3_beginSecond 80 = .ok (.iinc 1 1, 3) := by decide +kernel
theorem dX3_beginSecond_83 : decode cX3_beginSecond 83 = .ok (.goto (-66), 3) := by decide +kernel
theorem dX3_beginSecond_86 : decode cX3_beginSecond 86 = .ok (.return_, 1) := by decide +kernel
theorem dX3_endSecond_0 : decode cX3_endSecond 0 = .ok (.iconst 0, 1) := by decide +kernel
theorem dX3_endSecond_1 : decode cX3_endSecond 1 = .ok (.istore_n 1, 1) := by decide +kernel
theorem dX3_endSecond_2 : decode cX3_endSecond 2 = .ok (.iload_n 1, 1) := by decide +kernel
theorem dX3_endSecond_3 : decode cX3_endSecond 3 = .ok (.aload_n 0, 1) := by decide +kernel
theorem dX3_endSecond_4 : decode cX3_endSecond 4 = .ok (.getfield 21, 3) := by decide +kernel
theorem dX3_endSecond_7 : decode cX3_endSecond 7 = .ok (.getfield 93, 3) := by decide +kernel
theorem dX3_endSecond_10 : decode cX3_endSecond 10 = .ok (.if_icmp .ge 24, 3) := by decide +kernel
theorem dX3_endSecond_13 : decode cX3_endSecond 13 = .ok (.aload_n 0, 1) := by decide +kernel
theorem dX3_endSecond_14 : decode cX3_endSecond 14 = .ok (.aload_n 0, 1) := by decide +kernel
theorem dX3_endSecond_15 : decode cX3_endSecond 15 = .ok (.getfield 21, 3) := by decide +kernel
theorem dX3_endSecond_18 : decode cX3_endSecond 18 = .ok (.getfield 108, 3) := by decide +kernel
theorem dX3_endSecond_21 : decode cX3_endSecond 21 = .ok (.iload_n 1, 1) := by decide +kernel
theorem dX3_endSecond_22 : decode cX3_endSecond 22 = .ok (.invokestatic 57, 3) := by decide +kernel
theorem dX3_endSecond_25 : decode cX3_endSecond 25 = .ok (.invokevirtual 110, 3) := by decide +kernel
theorem dX3_endSecond_28 : decode cX3_endSecond 28 = .ok (.iinc 1 1, 3) := by decide +kernel
theorem dX3_endSecond_31 : decode cX3_endSecond 31 = .ok (.goto (-29), 3) := by decide +kernel
theorem dX3_endSecond_34 : decode cX3_endSecond 34 = .ok (.iconst 0, 1) := by decide +kernel
theorem dX3_endSecond_35 : decode cX3_endSecond 35 = .ok (.istore_n 1, 1) := by decide +kernel
theorem dX3_endSecond_36 : decode cX3_endSecond 36 = .ok (.iload_n 1, 1) := by decide +kernel
theorem dX3_endSecond_37 : decode cX3_endSecond 37 = .ok (.bipush 8, 2) := by decide +kernel
theorem dX3_endSecond_39 : decode cX3_endSecond 39 = .ok (.if_icmp .ge 36, 3) := by decide +kernel
theorem dX3_endSecond_42 : decode cX3_endSecond 42 = .ok (.aload_n 0, 1) := by decide +kernel
theorem dX3_endSecond_43 : decode cX3_endSecond 43 = .ok (.getfield 12, 3) := by decide +kernel
theorem dX3_endSecond_46 : decode cX3_endSecond 46 = .ok (.getfield 113, 3) := by decide +kernel
theorem dX3_endSecond_49 : decode cX3_endSecond 49 = .ok (.iload_n 1, 1) := by decide +kernel
theorem dX3_endSecond_50 : decode cX3_endSecond 50 = .ok (.aload_n 0, 1) := by decide +kernel
theorem dX3_endSecond_51 : decode cX3_endSecond 51 = .ok (.iload_n 1, 1) := by decide +kernel
theorem dX3_endSecond_52 : decode cX3_endSecond 52 = .ok (.invokevirtual 76, 3) := by decide +kernel
theorem dX3_endSecond_55 : decode cX3_endSecond 55 = .ok (.invokestatic 116, 3) := by decide +kernel
theorem dX3_endSecond_58 : decode cX3_endSecond 58 = .ok (.invokestatic 119, 3) := by decide +kernel
theorem dX3_endSecond_61 : decode cX3_endSecond 61 = .ok (.aload_n 0, 1) := by decide +kernel
theorem dX3_endSecond_62 : decode cX3_endSecond 62 = .ok (.getfield 12, 3) := by decide +kernel
theorem dX3_endSecond_65 : decode cX3_endSecond 65 = .ok (.iload_n 1, 1) := by decide +kernel
theorem dX3_endSecond_66 : decode cX3_endSecond 66 = .ok (.invokevirtual 123, 3) := by decide +kernel
theorem dX3_endSecond_69 : decode cX3_endSecond 69 = .ok (.iinc 1 1, 3) := by decide +kernel
theorem dX3_endSecond_72 : decode cX3_endSecond 72 = .ok (.goto (-36), 3) := by decide +kernel
theorem dX3_endSecond_75 : decode cX3_endSecond 75 = .ok (.aload_n 0, 1) := by decide +kernel
theorem dX3_endSecond_76 : decode cX3_endSecond 76 = .ok (.dup, 1) := by decide +kernel
theorem dX3_endSecond_77 : decode cX3_endSecond 77 = .ok (.getfield 43, 3) := by decide +kernel
theorem dX3_endSecond_80 : decode cX3_endSecond 80 = .ok (.iconst 1, 1) := by decide +kernel
theorem dX3_endSecond_81 : decode cX3_endSecond 81 = .ok (.iadd, 1) := by decide +kernel
theorem dX3_endSecond_82 : decode cX3_endSecond 82 = .ok (.putfield 43, 3) := by decide +kernel
theorem dX3_endSecond_85 : decode cX3_endSecond 85 = .ok (.return_, 1) := by decide +kernel
theorem dX3_countSecondOn_0 : decode cX3_countSecondOn 0 = .ok (.aload_n 0, 1) := by decide +kernel
theorem dX3_countSecondOn_1 : decode cX3_countSecondOn 1 = .ok (.iload_n 1, 1) := by decide +kernel
theorem dX3_countSecondOn_2 : decode cX3_countSecondOn 2 = .ok (.invokevirtual 76, 3) := by decide +kernel
theorem dX3_countSecondOn_5 : decode cX3_countSecondOn 5 = .ok (.istore_n 2, 1) := by decide +kernel
theorem dX3_countSecondOn_6 : decode cX3_countSecondOn 6 = .ok (.iload_n 2, 1) := by decide +kernel
theorem dX3_countSecondOn_7 : decode cX3_countSecondOn 7 = .ok (.ifCond .ne 18, 3) := by decide +kernel
theorem dX3_countSecondOn_10 : decode cX3_countSecondOn 10 = .ok (.aload_n 0, 1) := by decide +kernel
theorem dX3_countSecondOn_11 : decode cX3_countSecondOn 11 = .ok (.getfield 12, 3) := by decide +kernel
theorem dX3_countSecondOn_14 : decode cX3_countSecondOn 14 = .ok (.getfield 80, 3) := by decide +kernel
theorem dX3_countSecondOn_17 : decode cX3_countSecondOn 17 = .ok (.iload_n 1, 1) := by decide +kernel
theorem dX3_countSecondOn_18 : decode cX3_countSecondOn 18 = .ok (.iconst 1, 1) := by decide +kernel
theorem dX3_countSecondOn_19 : decode cX3_countSecondOn 19 = .ok (.invokestatic 119, 3) := by decide +kernel
theorem dX3_countSecondOn_22 : decode cX3_countSecondOn 22 = .ok (.goto 20, 3) := by decide +kernel
theorem dX3_countSecondOn_25 : decode cX3_countSecondOn 25 = .ok (.iload_n 2, 1) := by decide +kernel
theorem dX3_countSecondOn_26 : decode cX3_countSecondOn 26 = .ok (.iconst 1, 1) := by decide +kernel
theorem dX3_countSecondOn_27 : decode cX3_countSecondOn 27 = .ok (.if_icmp .ne 15, 3) := by decide +kernel
theorem dX3_countSecondOn_30 : decode cX3_countSecondOn 30 = .ok (.aload_n 0, 1) := by decide +kernel
theorem dX3_countSecondOn_31 : decode cX3_countSecondOn 31 = .ok (.getfield 12, 3) := by decide +kernel
theorem dX3_countSecondOn_34 : decode cX3_countSecondOn 34 = .ok (.getfield 126, 3) := by decide +kernel
theorem dX3_countSecondOn_37 : decode cX3_countSecondOn 37 = .ok (.iload_n 1, 1) := by decide +kernel
theorem dX3_countSecondOn_38 : decode cX3_countSecondOn 38 = .ok (.iconst 1, 1) := by decide +kernel
theorem dX3_countSecondOn_39 : decode cX3_countSecondOn 39 = .ok (.invokestatic 119, 3) := by decide +kernel
theorem dX3_countSecondOn_42 : decode cX3_countSecondOn 42 = .ok (.aload_n 0, 1) := by decide +kernel
theorem dX3_countSecondOn_43 : decode cX3_countSecondOn 43 = .ok (.dup, 1) := by decide +kernel
theorem dX3_countSecondOn_44 : decode cX3_countSecondOn 44 = .ok (.getfield 47, 3) := by decide +kernel
theorem dX3_countSecondOn_47 : decode cX3_countSecondOn 47 = .ok (.iconst 1, 1) := by decide +kernel
theorem dX3_countSecondOn_48 : decode cX3_countSecondOn 48 = .ok (.iadd, 1) := by decide +kernel
theorem dX3_countSecondOn_49 : decode cX3_countSecondOn 49 = .ok (.putfield 47, 3) := by decide +kernel
theorem dX3_countSecondOn_52 : decode cX3_countSecondOn 52 = .ok (.return_, 1) := by decide +kernel
theorem dX3_powerOf_0 : decode cX3_powerOf 0 = .ok (.iload_n 0, 1) := by decide +kernel
theorem dX3_powerOf_1 : decode cX3_powerOf 1 = .ok (.iconst 2, 1) := by decide +kernel
theorem dX3_powerOf_2 : decode cX3_powerOf 2 = .ok (.if_icmp .lt 6, 3) := by decide +kernel
theorem dX3_powerOf_5 : decode cX3_powerOf 5 = .ok (.bipush 10, 2) := by decide +kernel
theorem dX3_powerOf_7 : decode cX3_powerOf 7 = .ok (.ireturn, 1) := by decide +kernel
theorem dX3_powerOf_8 : decode cX3_powerOf 8 = .ok (.iload_n 0, 1) := by decide +kernel
theorem dX3_powerOf_9 : decode cX3_powerOf 9 = .ok (.iconst 1, 1) := by decide +kernel
theorem dX3_powerOf_10 : decode cX3_powerOf 10 = .ok (.if_icmp .ne 7, 3) := by decide +kernel
theorem dX3_powerOf_13 : decode cX3_powerOf 13 = .ok (.iconst 3, 1) := by decide +kernel
theorem dX3_powerOf_14 : decode cX3_powerOf 14 = .ok (.goto 4, 3) := by decide +kernel
theorem dX3_powerOf_17 : decode cX3_powerOf 17 = .ok (.iconst 0, 1) := by decide +kernel
theorem dX3_powerOf_18 : decode cX3_powerOf 18 = .ok (.ireturn, 1) := by decide +kernel
theorem dX3_lightShare_0 : decode cX3_lightShare 0 = .ok (.aload_n 0, 1) := by decide +kernel
theorem dX3_lightShare_1 : decode cX3_lightShare 1 = .ok (.getfield 47, 3) := by decide +kernel
theorem dX3_lightShare_4 : decode cX3_lightShare 4 = .ok (.ifCond .gt 5, 3) := by decide +kernel
theorem dX3_lightShare_7 : decode cX3_lightShare 7 = .ok (.dconst 1, 1) := by decide +kernel
theorem dX3_lightShare_8 : decode cX3_lightShare 8 = .ok (.dreturn, 1) := by decide +kernel
theorem dX3_lightShare_9 : decode cX3_lightShare 9 = .ok (.aload_n 0, 1) := by decide +kernel
theorem dX3_lightShare_10 : decode cX3_lightShare 10 = .ok (.getfield 47, 3) := by decide +kernel
theorem dX3_lightShare_13 : decode cX3_lightShare 13 = .ok (.aload_n 0, 1) := by decide +kernel
theorem dX3_lightShare_14 : decode cX3_lightShare 14 = .ok (.getfield 12, 3) := by decide +kernel
theorem dX3_lightShare_17 : decode cX3_lightShare 17 = .ok (.getfield 80, 3) := by decide +kernel
theorem dX3_lightShare_20 : decode cX3_lightShare 20 = .ok (.invokestatic 83, 3) := by decide +kernel
theorem dX3_lightShare_23 : decode cX3_lightShare 23 = .ok (.isub, 1) := by decide +kernel
theorem dX3_lightShare_24 : decode cX3_lightShare 24 = .ok (.aload_n 0, 1) := by decide +kernel
theorem dX3_lightShare_25 : decode cX3_lightShare 25 = .ok (.getfield 12, 3) := by decide +kernel
theorem dX3_lightShare_28 : decode cX3_lightShare 28 = .ok (.getfield 126, 3) := by decide +kernel
theorem dX3_lightShare_31 : decode cX3_lightShare 31 = .ok (.invokestatic 83, 3) := by decide +kernel
theorem dX3_lightShare_34 : decode cX3_lightShare 34 = .ok (.isub, 1) := by decide +kernel
theorem dX3_lightShare_35 : decode cX3_lightShare 35 = .ok (.istore_n 1, 1) := by decide +kernel
theorem dX3_lightShare_36 : decode cX3_lightShare 36 = .ok (.iload_n 1, 1) := by decide +kernel
theorem dX3_lightShare_37 : decode cX3_lightShare 37 = .ok (.i2d, 1) := by decide +kernel
theorem dX3_lightShare_38 : decode cX3_lightShare 38 = .ok (.aload_n 0, 1) := by decide +kernel
theorem dX3_lightShare_39 : decode cX3_lightShare 39 = .ok (.getfield 47, 3) := by decide +kernel
theorem dX3_lightShare_42 : decode cX3_lightShare 42 = .ok (.i2d, 1) := by decide +kernel
theorem dX3_lightShare_43 : decode cX3_lightShare 43 = .ok (.ddiv, 1) := by decide +kernel
theorem dX3_lightShare_44 : decode cX3_lightShare 44 = .ok (.dreturn, 1) := by decide +kernel
theorem dX3_floorNumber_0 : decode cX3_floorNumber 0 = .ok (.iload_n 2, 1) := by decide +kernel
theorem dX3_floorNumber_1 : decode cX3_floorNumber 1 = .ok (.tableswitch 118 0 6 #[43, 49, 61, 73, 82, 94, 106], 43) := by decide +kernel
theorem dX3_floorNumber_44 : decode cX3_floorNumber 44 = .ok (.aload_n 0, 1) := by decide +kernel
theorem dX3_floorNumber_45 : decode cX3_floorNumber 45 = .ok (.iload_n 1, 1) := by decide +kernel
theorem dX3_floorNumber_46 : decode cX3_floorNumber 46 = .ok (.invokevirtual 76, 3) := by decide +kernel
theorem dX3_floorNumber_49 : decode cX3_floorNumber 49 = .ok (.ireturn, 1) := by decide +kernel
theorem dX3_floorNumber_50 : decode cX3_floorNumber 50 = .ok (.aload_n 0, 1) := by decide +kernel
theorem dX3_floorNumber_51 : decode cX3_floorNumber 51 = .ok (.getfield 12, 3) := by decide +kernel
theorem dX3_floorNumber_54 : decode cX3_floorNumber 54 = .ok (.getfield 73, 3) := by decide +kernel
theorem dX3_floorNumber_57 : decode cX3_floorNumber 57 = .ok (.iload_n 1, 1) := by decide +kernel
theorem dX3_floorNumber_58 : decode cX3_floorNumber 58 = .ok (.invokestatic 57, 3) := by decide +kernel
theorem dX3_floorNumber_61 : decode cX3_floorNumber 61 = .ok (.ireturn, 1) := by decide +kernel
theorem dX3_floorNumber_62 : decode cX3_floorNumber 62 = .ok (.aload_n 0, 1) := by decide +kernel
theorem dX3_floorNumber_63 : decode cX3_floorNumber 63 = .ok (.getfield 12, 3) := by decide +kernel
theorem dX3_floorNumber_66 : decode cX3_floorNumber 66 = .ok (.getfield 102, 3) := by decide +kernel
theorem dX3_floorNumber_69 : decode cX3_floorNumber 69 = .ok (.iload_n 1, 1) := by decide +kernel
theorem dX3_floorNumber_70 : decode cX3_floorNumber 70 = .ok (.invokestatic 57, 3) := by decide +kernel
theorem dX3_floorNumber_73 : decode cX3_floorNumber 73 = .ok (.ireturn, 1) := by decide +kernel
theorem dX3_floorNumber_74 : decode cX3_floorNumber 74 = .ok (.aload_n 0, 1) := by decide +kernel
theorem dX3_floorNumber_75 : decode cX3_floorNumber 75 = .ok (.getfield 21, 3) := by decide +kernel
theorem dX3_floorNumber_78 : decode cX3_floorNumber 78 = .ok (.iload_n 1, 1) := by decide +kernel
theorem dX3_floorNumber_79 : decode cX3_floorNumber 79 = .ok (.invokevirtual 105, 3) := by decide +kernel
theorem dX3_floorNumber_82 : decode cX3_floorNumber 82 = .ok (.ireturn, 1) := by decide +kernel
theorem dX3_floorNumber_83 : decode cX3_floorNumber 83 = .ok (.aload_n 0, 1) := by decide +kernel
theorem dX3_floorNumber_84 : decode cX3_floorNumber 84 = .ok (.getfield 12, 3) := by decide +kernel
theorem dX3_floorNumber_87 : decode cX3_floorNumber 87 = .ok (.getfield 80, 3) := by decide +kernel
theorem dX3_floorNumber_90 : decode cX3_floorNumber 90 = .ok (.iload_n 1, 1) := by decide +kernel
theorem dX3_floorNumber_91 : decode cX3_floorNumber 91 = .ok (.invokestatic 57, 3) := by decide +kernel
theorem dX3_floorNumber_94 : decode cX3_floorNumber 94 = .ok (.ireturn, 1) := by decide +kernel
theorem dX3_floorNumber_95 : decode cX3_floorNumber 95 = .ok (.aload_n 0, 1) := by decide +kernel
theorem dX3_floorNumber_96 : decode cX3_floorNumber 96 = .ok (.getfield 12, 3) := by decide +kernel
theorem dX3_floorNumber_99 : decode cX3_floorNumber 99 = .ok (.getfield 126, 3) := by decide +kernel
theorem dX3_floorNumber_102 : decode cX3_floorNumber 102 = .ok (.iload_n 1, 1) := by decide +kernel
theorem dX3_floorNumber_103 : decode cX3_floorNumber 103 = .ok (.invokestatic 57, 3) := by decide +kernel
theorem dX3_floorNumber_106 : decode cX3_floorNumber 106 = .ok (.ireturn, 1) := by decide +kernel
theorem dX3_floorNumber_107 : decode cX3_floorNumber 107 = .ok (.aload_n 0, 1) := by decide +kernel
theorem dX3_floorNumber_108 : decode cX3_floorNumber 108 = .ok (.getfield 12, 3) := by decide +kernel
theorem dX3_floorNumber_111 : decode cX3_floorNumber 111 = .ok (.getfield 113, 3) := by decide +kernel
theorem dX3_floorNumber_114 : decode cX3_floorNumber 114 = .ok (.iload_n 1, 1) := by decide +kernel
theorem dX3_floorNumber_115 : decode cX3_floorNumber 115 = .ok (.invokestatic 57, 3) := by decide +kernel
theorem dX3_floorNumber_118 : decode cX3_floorNumber 118 = .ok (.ireturn, 1) := by decide +kernel
theorem dX3_floorNumber_119 : decode cX3_floorNumber 119 = .ok (.aload_n 0, 1) := by decide +kernel
theorem dX3_floorNumber_120 : decode cX3_floorNumber 120 = .ok (.getfield 12, 3) := by decide +kernel
theorem dX3_floorNumber_123 : decode cX3_floorNumber 123 = .ok (.getfield 129, 3) := by decide +kernel
theorem dX3_floorNumber_126 : decode cX3_floorNumber 126 = .ok (.iload_n 1, 1) := by decide +kernel
theorem dX3_floorNumber_127 : decode cX3_floorNumber 127 = .ok (.invokestatic 57, 3) := by decide +kernel
theorem dX3_floorNumber_130 : decode cX3_floorNumber 130 = .ok (.ireturn, 1) := by decide +kernel
theorem dX4_init_0 : decode cX4_init 0 = .ok (.aload_n 0, 1) := by decide +kernel
theorem dX4_init_1 : decode cX4_init 1 = .ok (.invokespecial 3, 3) := by decide +kernel
theorem dX4_init_4 : decode cX4_init 4 = .ok (.aload_n 0, 1) := by decide +kernel
theorem dX4_init_5 : decode cX4_init 5 = .ok (.bipush 60, 2) := by decide +kernel
theorem dX4_init_7 : decode cX4_init 7 = .ok (.newarray .char, 2) := by decide +kernel
theorem dX4_init_9 : decode cX4_init 9 = .ok (.putfield 9, 3) := by decide +kernel
theorem dX4_init_12 : decode cX4_init 12 = .ok (.aload_n 0, 1) := by decide +kernel
theorem dX4_init_13 : decode cX4_init 13 = .ok (.iconst 0, 1) := by decide +kernel
theorem dX4_init_14 : decode cX4_init 14 = .ok (.putfield 15, 3) := by decide +kernel
theorem dX4_init_17 : decode cX4_init 17 = .ok (.return_, 1) := by decide +kernel
theorem dX5_init_0 : decode cX5_init 0 = .ok (.aload_n 0, 1) := by decide +kernel
theorem dX5_init_1 : decode cX5_init 1 = .ok (.invokespecial 1, 3) := by decide +kernel
theorem dX5_init_4 : decode cX5_init 4 = .ok (.aload_n 0, 1) := by decide +kernel
theorem dX5_init_5 : decode cX5_init 5 = .ok (.new 7, 3) := by decide +kernel
theorem dX5_init_8 : decode cX5_init 8 = .ok (.dup, 1) := by decide +kernel
theorem dX5_init_9 : decode cX5_init 9 = .ok (.invokespecial 9, 3) := by decide +kernel
theorem dX5_init_12 : decode cX5_init 12 = .ok (.putfield 10, 3) := by decide +kernel
theorem dX5_init_15 : decode cX5_init 15 = .ok (.aload_n 0, 1) := by decide +kernel
theorem dX5_init_16 : decode cX5_init 16 = .ok (.new 7, 3) := by decide +kernel
theorem dX5_init_19 : decode cX5_init 19 = .ok (.dup, 1) := by decide +kernel
theorem dX5_init_20 : decode cX5_init 20 = .ok (.invokespecial 9, 3) := by decide +kernel
theorem dX5_init_23 : decode cX5_init 23 = .ok (.putfield 16, 3) := by decide +kernel
theorem dX5_init_26 : decode cX5_init 26 = .ok (.aload_n 0, 1) := by decide +kernel
theorem dX5_init_27 : decode cX5_init 27 = .ok (.new 19, 3) := by decide +kernel
theorem dX5_init_30 : decode cX5_init 30 = .ok (.dup, 1) := by decide +kernel
theorem dX5_init_31 : decode cX5_init 31 = .ok (.invokespecial 21, 3) := by decide +kernel
theorem dX5_init_34 : decode cX5_init 34 = .ok (.putfield 22, 3) := by decide +kernel
theorem dX5_init_37 : decode cX5_init 37 = .ok (.aload_n 0, 1) := by decide +kernel
theorem dX5_init_38 : decode cX5_init 38 = .ok (.new 26, 3) := by decide +kernel
theorem dX5_init_41 : decode cX5_init 41 = .ok (.dup, 1) := by decide +kernel
theorem dX5_init_42 : decode cX5_init 42 = .ok (.invokespecial 28, 3) := by decide +kernel
theorem dX5_init_45 : decode cX5_init 45 = .ok (.putfield 29, 3) := by decide +kernel
theorem dX5_init_48 : decode cX5_init 48 = .ok (.return_, 1) := by decide +kernel
theorem dX5_come_0 : decode cX5_come 0 = .ok (.iload_n 1, 1) := by decide +kernel
theorem dX5_come_1 : decode cX5_come 1 = .ok (.iload_n 2, 1) := by decide +kernel
theorem dX5_come_2 : decode cX5_come 2 = .ok (.invokestatic 33, 3) := by decide +kernel
theorem dX5_come_5 : decode cX5_come 5 = .ok (.aload_n 0, 1) := by decide +kernel
theorem dX5_come_6 : decode cX5_come 6 = .ok (.getfield 10, 3) := by decide +kernel
theorem dX5_come_9 : decode cX5_come 9 = .ok (.getfield 37, 3) := by decide +kernel
theorem dX5_come_12 : decode cX5_come 12 = .ok (.getfield 41, 3) := by decide +kernel
theorem dX5_come_15 : decode cX5_come 15 = .ok (.bipush 6, 2) := by decide +kernel
theorem dX5_come_17 : decode cX5_come 17 = .ok (.if_icmp .lt 13, 3) := by decide +kernel
theorem dX5_come_20 : decode cX5_come 20 = .ok (.new 47, 3) := by decide +kernel
theorem dX5_come_23 : decode cX5_come 23 = .ok (.dup, 1) := by decide +kernel
theorem dX5_come_24 : decode cX5_come 24 = .ok (.ldc 49, 2) := by decide +kernel
theorem dX5_come_26 : decode cX5_come 26 = .ok (.invokespecial 51, 3) := by decide +kernel
theorem dX5_come_29 : decode cX5_come 29 = .ok (.athrow, 1) := by decide +kernel
theorem dX5_come_30 : decode cX5_come 30 = .ok (.aload_n 0, 1) := by decide +kernel
theorem dX5_come_31 : decode cX5_come 31 = .ok (.getfield 22, 3) := by decide +kernel
theorem dX5_come_34 : decode cX5_come 34 = .ok (.aload_n 0, 1) := by decide +kernel
theorem dX5_come_35 : decode cX5_come 35 = .ok (.getfield 10, 3) := by decide +kernel
theorem dX5_come_38 : decode cX5_come 38 = .ok (.invokevirtual 54, 3) := by decide +kernel
theorem dX5_come_41 : decode cX5_come 41 = .ok (.aload_n 0, 1) := by decide +kernel
theorem dX5_come_42 : decode cX5_come 42 = .ok (.getfield 10, 3) := by decide +kernel
theorem dX5_come_45 : decode cX5_come 45 = .ok (.iload_n 1, 1) := by decide +kernel
theorem dX5_come_46 : decode cX5_come 46 = .ok (.iload_n 2, 1) := by decide +kernel
theorem dX5_come_47 : decode cX5_come 47 = .ok (.invokevirtual 58, 3) := by decide +kernel
theorem dX5_come_50 : decode cX5_come 50 = .ok (.ireturn, 1) := by decide +kernel
theorem dX5_turn_0 : decode cX5_turn 0 = .ok (.aload_n 0, 1) := by decide +kernel
theorem dX5_turn_1 : decode cX5_turn 1 = .ok (.getfield 10, 3) := by decide +kernel
theorem dX5_turn_4 : decode cX5_turn 4 = .ok (.getfield 37, 3) := by decide +kernel
theorem dX5_turn_7 : decode cX5_turn 7 = .ok (.iload_n 1, 1) := by decide +kernel
theorem dX5_turn_8 : decode cX5_turn 8 = .ok (.invokevirtual 62, 3) := by decide +kernel
theorem dX5_turn_11 : decode cX5_turn 11 = .ok (.istore_n 3, 1) := by decide +kernel
theorem dX5_turn_12 : decode cX5_turn 12 = .ok (.iload_n 3, 1) := by decide +kernel
theorem dX5_turn_13 : decode cX5_turn 13 = .ok (.iconst (-1), 1) := by decide +kernel
theorem dX5_turn_14 : decode cX5_turn 14 = .ok (.if_icmp .ne 13, 3) := by decide +kernel
theorem dX5_turn_17 : decode cX5_turn 17 = .ok (.new 66, 3) := by decide +kernel
theorem dX5_turn_20 : decode cX5_turn 20 = .ok (.dup, 1) := by decide +kernel
theorem dX5_turn_21 : decode cX5_turn 21 = .ok (.ldc 68, 2) := by decide +kernel
theorem dX5_turn_23 : decode cX5_turn 23 = .ok (.invokespecial 70, 3) := by decide +kernel
theorem dX5_turn_26 : decode cX5_turn 26 = .ok (.athrow, 1) := by decide +kernel
theorem dX5_turn_27 : decode cX5_turn 27 = .ok (.iload_n 2, 1) := by decide +kernel
theorem dX5_turn_28 : decode cX5_turn 28 = .ok (.invokestatic 71, 3) := by decide +kernel
theorem dX5_turn_31 : decode cX5_turn 31 = .ok (.aload_n 0, 1) := by decide +kernel
theorem dX5_turn_32 : decode cX5_turn 32 = .ok (.getfield 22, 3) := by decide +kernel
theorem dX5_turn_35 : decode cX5_turn 35 = .ok (.aload_n 0, 1) := by decide +kernel
theorem dX5_turn_36 : decode cX5_turn 36 = .ok (.getfield 10, 3) := by decide +kernel
theorem dX5_turn_39 : decode cX5_turn 39 = .ok (.invokevirtual 54, 3) := by decide +kernel
theorem dX5_turn_42 : decode cX5_turn 42 = .ok (.aload_n 0, 1) := by decide +kernel
theorem dX5_turn_43 : decode cX5_turn 43 = .ok (.getfield 10, 3) := by decide +kernel
theorem dX5_turn_46 : decode cX5_turn 46 = .ok (.getfield 37, 3) := by decide +kernel
theorem dX5_turn_49 : decode cX5_turn 49 = .ok (.getfield 75, 3) := by decide +kernel
theorem dX5_turn_52 : decode cX5_turn 52 = .ok (.iload_n 3, 1) := by decide +kernel
theorem dX5_turn_53 : decode cX5_turn 53 = .ok (.invokestatic 79, 3) := by decide +kernel
theorem dX5_turn_56 : decode cX5_turn 56 = .ok (.istore 4, 2) := by decide +kernel
theorem dX5_turn_58 : decode cX5_turn 58 = .ok (.aload_n 0, 1) := by decide +kernel
theorem dX5_turn_59 : decode cX5_turn 59 = .ok (.getfield 10, 3) := by decide +kernel
theorem dX5_turn_62 : decode cX5_turn 62 = .ok (.getfield 37, 3) := by decide +kernel
theorem dX5_turn_65 : decode cX5_turn 65 = .ok (.iload_n 3, 1) := by decide +kernel
theorem dX5_turn_66 : decode cX5_turn 66 = .ok (.iload_n 2, 1) := by decide +kernel
theorem dX5_turn_67 : decode cX5_turn 67 = .ok (.aload_n 0, 1) := by decide +kernel
theorem dX5_turn_68 : decode cX5_turn 68 = .ok (.getfield 10, 3) := by decide +kernel
theorem dX5_turn_71 : decode cX5_turn 71 = .ok (.getfield 83, 3) := by decide +kernel
theorem dX5_turn_74 : decode cX5_turn 74 = .ok (.iconst 3, 1) := by decide +kernel
theorem dX5_turn_75 : decode cX5_turn 75 = .ok (.invokestatic 79, 3) := by decide +kernel
theorem dX5_turn_78 : decode cX5_turn 78 = .ok (.invokevirtual 86, 3) := by decide +kernel
theorem dX5_turn_81 : decode cX5_turn 81 = .ok (.iload 4, 2) := by decide +kernel
theorem dX5_turn_83 : decode cX5_turn 83 = .ok (.ireturn, 1) := by decide +kernel
theorem dX5_press_0 : decode cX5_press 0 = .ok (.iload_n 1, 1) := by decide +kernel
theorem dX5_press_1 : decode cX5_press 1 = .ok (.invokestatic 71, 3) := by decide +kernel
theorem dX5_press_4 : decode cX5_press 4 = .ok (.aload_n 0, 1) := by decide +kernel
theorem dX5_press_5 : decode cX5_press 5 = .ok (.getfield 22, 3) := by decide +kernel
theorem dX5_press_8 : decode cX5_press 8 = .ok (.aload_n 0, 1) := by decide +kernel
theorem dX5_press_9 : decode cX5_press 9 = .ok (.getfield 10, 3) := by decide +kernel
theorem dX5_press_12 : decode cX5_press 12 = .ok (.invokevirtual 54, 3) := by decide +kernel
theorem dX5_press_15 : decode cX5_press 15 = .ok (.aload_n 0, 1) := by decide +kernel
theorem dX5_press_16 : decode cX5_press 16 = .ok (.getfield 10, 3) := by decide +kernel
theorem dX5_press_19 : decode cX5_press 19 = .ok (.getfield 90, 3) := by decide +kernel
theorem dX5_press_22 : decode cX5_press 22 = .ok (.getfield 94, 3) := by decide +kernel
theorem dX5_press_25 : decode cX5_press 25 = .ok (.iload_n 1, 1) := by decide +kernel
theorem dX5_press_26 : decode cX5_press 26 = .ok (.invokestatic 79, 3) := by decide +kernel
theorem dX5_press_29 : decode cX5_press 29 = .ok (.istore_n 2, 1) := by decide +kernel
theorem dX5_press_30 : decode cX5_press 30 = .ok (.aload_n 0, 1) := by decide +kernel
theorem dX5_press_31 : decode cX5_press 31 = .ok (.getfield 10, 3) := by decide +kernel
theorem dX5_press_34 : decode cX5_press 34 = .ok (.iload_n 1, 1) := by decide +kernel
theorem dX5_press_35 : decode cX5_press 35 = .ok (.invokevirtual 99, 3) := by decide +kernel
theorem dX5_press_38 : decode cX5_press 38 = .ok (.iload_n 2, 1) := by decide +kernel
theorem dX5_press_39 : decode cX5_press 39 = .ok (.ireturn, 1) := by decide +kernel
theorem dX5_sensor_0 : decode cX5_sensor 0 = .ok (.iload_n 1, 1) := by decide +kernel
theorem dX5_sensor_1 : decode cX5_sensor 1 = .ok (.invokestatic 71, 3) := by decide +kernel
theorem dX5_sensor_4 : decode cX5_sensor 4 = .ok (.aload_n 0, 1) := by decide +kernel
theorem dX5_sensor_5 : decode cX5_sensor 5 = .ok (.getfield 22, 3) := by decide +kernel
theorem dX5_sensor_8 : decode cX5_sensor 8 = .ok (.aload_n 0, 1) := by decide +kernel
theorem dX5_sensor_9 : decode cX5_sensor 9 = .ok (.getfield 10, 3) := by decide +kernel
theorem dX5_sensor_12 : decode cX5_sensor 12 = .ok (.invokevirtual 54, 3) := by decide +kernel
theorem dX5_sensor_15 : decode cX5_sensor 15 = .ok (.aload_n 0, 1) := by decide +kernel
theorem dX5_sensor_16 : decode cX5_sensor 16 = .ok (.getfield 10, 3) := by decide +kernel
theorem dX5_sensor_19 : decode cX5_sensor 19 = .ok (.getfield 90, 3) := by decide +kernel
theorem dX5_sensor_22 : decode cX5_sensor 22 = .ok (.getfield 102, 3) := by decide +kernel
theorem dX5_sensor_25 : decode cX5_sensor 25 = .ok (.iload_n 1, 1) := by decide +kernel
theorem dX5_sensor_26 : decode cX5_sensor 26 = .ok (.invokestatic 79, 3) := by decide +kernel
theorem dX5_sensor_29 : decode cX5_sensor 29 = .ok (.istore_n 3, 1) := by decide +kernel
theorem dX5_sensor_30 : decode cX5_sensor 30 = .ok (.aload_n 0, 1) := by decide +kernel
theorem dX5_sensor_31 : decode cX5_sensor 31 = .ok (.getfield 10, 3) := by decide +kernel
theorem dX5_sensor_34 : decode cX5_sensor 34 = .ok (.getfield 90, 3) := by decide +kernel
theorem dX5_sensor_37 : decode cX5_sensor 37 = .ok (.getfield 102, 3) := by decide +kernel
theorem dX5_sensor_40 : decode cX5_sensor 40 = .ok (.iload_n 1, 1) := by decide +kernel
theorem dX5_sensor_41 : decode cX5_sensor 41 = .ok (.iload_n 2, 1) := by decide +kernel
theorem dX5_sensor_42 : decode cX5_sensor 42 = .ok (.invokestatic 105, 3) := by decide +kernel
theorem dX5_sensor_45 : decode cX5_sensor 45 = .ok (.invokestatic 109, 3) := by decide +kernel
theorem dX5_sensor_48 : decode cX5_sensor 48 = .ok (.iload_n 3, 1) := by decide +kernel
theorem dX5_sensor_49 : decode cX5_sensor 49 = .ok (.ireturn, 1) := by decide +kernel
theorem dX5_night_0 : decode cX5_night 0 = .ok (.aload_n 0, 1) := by decide +kernel
theorem dX5_night_1 : decode cX5_night 1 = .ok (.getfield 22, 3) := by decide +kernel
theorem dX5_night_4 : decode cX5_night 4 = .ok (.aload_n 0, 1) := by decide +kernel
theorem dX5_night_5 : decode cX5_night 5 = .ok (.getfield 10, 3) := by decide +kernel
theorem dX5_night_8 : decode cX5_night 8 = .ok (.invokevirtual 54, 3) := by decide +kernel
theorem dX5_night_11 : decode cX5_night 11 = .ok (.aload_n 0, 1) := by decide +kernel
theorem dX5_night_12 : decode cX5_night 12 = .ok (.getfield 10, 3) := by decide +kernel
theorem dX5_night_15 : decode cX5_night 15 = .ok (.getfield 113, 3) := by decide +kernel
theorem dX5_night_18 : decode cX5_night 18 = .ok (.invokestatic 105, 3) := by decide +kernel
theorem dX5_night_21 : decode cX5_night 21 = .ok (.istore_n 2, 1) := by decide +kernel
theorem dX5_night_22 : decode cX5_night 22 = .ok (.aload_n 0, 1) := by decide +kernel
theorem dX5_night_23 : decode cX5_night 23 = .ok (.getfield 10, 3) := by decide +kernel
theorem dX5_night_26 : decode cX5_night 26 = .ok (.iload_n 1, 1) := by decide +kernel
theorem dX5_night_27 : decode cX5_night 27 = .ok (.putfield 113, 3) := by decide +kernel
theorem dX5_night_30 : decode cX5_night 30 = .ok (.iload_n 2, 1) := by decide +kernel
theorem dX5_night_31 : decode cX5_night 31 = .ok (.ireturn, 1) := by decide +kernel
theorem dX5_fire_0 : decode cX5_fire 0 = .ok (.aload_n 0, 1) := by decide +kernel
theorem dX5_fire_1 : decode cX5_fire 1 = .ok (.getfield 22, 3) := by decide +kernel
theorem dX5_fire_4 : decode cX5_fire 4 = .ok (.aload_n 0, 1) := by decide +kernel
theorem dX5_fire_5 : decode cX5_fire 5 = .ok (.getfield 10, 3) := by decide +kernel
theorem dX5_fire_8 : decode cX5_fire 8 = .ok (.invokevirtual 54, 3) := by decide +kernel
theorem dX5_fire_11 : decode cX5_fire 11 = .ok (.aload_n 0, 1) := by decide +kernel
theorem dX5_fire_12 : decode cX5_fire 12 = .ok (.getfield 10, 3) := by decide +kernel
theorem dX5_fire_15 : decode cX5_fire 15 = .ok (.getfield 117, 3) := by decide +kernel
theorem dX5_fire_18 : decode cX5_fire 18 = .ok (.invokestatic 105, 3) := by decide +kernel
theorem dX5_fire_21 : decode cX5_fire 21 = .ok (.istore_n 2, 1) := by decide +kernel
theorem dX5_fire_22 : decode cX5_fire 22 = .ok (.aload_n 0, 1) := by decide +kernel
theorem dX5_fire_23 : decode cX5_fire 23 = .ok (.getfield 10, 3) := by decide +kernel
theorem dX5_fire_26 : decode cX5_fire 26 = .ok (.getfield 117, 3) := by decide +kernel
theorem dX5_fire_29 : decode cX5_fire 29 = .ok (.ifCond .eq 14, 3) := by decide +kernel
theorem dX5_fire_32 : decode cX5_fire 32 = .ok (.iload_n 1, 1) := by decide +kernel
theorem dX5_fire_33 : decode cX5_fire 33 = .ok (.ifCond .ne 10, 3) := by decide +kernel
theorem dX5_fire_36 : decode cX5_fire 36 = .ok (.aload_n 0, 1) := by decide +kernel
theorem dX5_fire_37 : decode cX5_fire 37 = .ok (.getfield 10, 3) := by decide +kernel
theorem dX5_fire_40 : decode cX5_fire 40 = .ok (.invokevirtual 120, 3) := by decide +kernel
theorem dX5_fire_43 : decode cX5_fire 43 = .ok (.aload_n 0, 1) := by decide +kernel
theorem dX5_fire_44 : decode cX5_fire 44 = .ok (.getfield 10, 3) := by decide +kernel
theorem dX5_fire_47 : decode cX5_fire 47 = .ok (.iload_n 1, 1) := by decide +kernel
theorem dX5_fire_48 : decode cX5_fire 48 = .ok (.putfield 117, 3) := by decide +kernel
theorem dX5_fire_51 : decode cX5_fire 51 = .ok (.iload_n 2, 1) := by decide +kernel
theorem dX5_fire_52 : decode cX5_fire 52 = .ok (.ireturn, 1) := by decide +kernel
theorem dX5_set_0 : decode cX5_set 0 = .ok (.iload_n 1, 1) := by decide +kernel
theorem dX5_set_1 : decode cX5_set 1 = .ok (.invokestatic 123, 3) := by decide +kernel
theorem dX5_set_4 : decode cX5_set 4 = .ok (.iload_n 2, 1) := by decide +kernel
theorem dX5_set_5 : decode cX5_set 5 = .ok (.getstatic 126, 3) := by decide +kernel
theorem dX5_set_8 : decode cX5_set 8 = .ok (.iload_n 1, 1) := by decide +kernel
theorem dX5_set_9 : decode cX5_set 9 = .ok (.invokestatic 79, 3) := by decide +kernel
theorem dX5_set_12 : decode cX5_set 12 = .ok (.if_icmp .lt 14, 3) := by decide +kernel
theorem dX5_set_15 : decode cX5_set 15 = .ok (.iload_n 2, 1) := by decide +kernel
theorem dX5_set_16 : decode cX5_set 16 = .ok (.getstatic 129, 3) := by decide +kernel
theorem dX5_set_19 : decode cX5_set 19 = .ok (.iload_n 1, 1) := by decide +kernel
theorem dX5_set_20 : decode cX5_set 20 = .ok (.invokestatic 79, 3) := by decide +kernel
theorem dX5_set_23 : decode cX5_set 23 = .ok (.if_icmp .le 13, 3) := by decide +kernel
theorem dX5_set_26 : decode cX5_set 26 = .ok (.new 132, 3) := by decide +kernel
theorem dX5_set_29 : decode cX5_set 29 = .ok (.dup, 1) := by decide +kernel
theorem dX5_set_30 : decode cX5_set 30 = .ok (.ldc 134, 2) := by decide +kernel
theorem dX5_set_32 : decode cX5_set 32 = .ok (.invokespecial 136, 3) := by decide +kernel
theorem dX5_set_35 : decode cX5_set 35 = .ok (.athrow, 1) := by decide +kernel
theorem dX5_set_36 : decode cX5_set 36 = .ok (.aload_n 0, 1) := by decide +kernel
