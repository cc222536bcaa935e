theorem dX0_init_0 : decode cX0_init 0 = .ok (.aload_n 0, 1) := by decide +kernel
theorem dX0_init_1 : decode cX0_init 1 = .ok (.invokespecial 3, 3) := by decide +kernel
theorem dX0_init_4 : decode cX0_init 4 = .ok (.aload_n 0, 1) := by decide +kernel
theorem dX0_init_5 : decode cX0_init 5 = .ok (.bipush 8, 2) := by decide +kernel
theorem dX0_init_7 : decode cX0_init 7 = .ok (.newarray .int, 2) := by decide +kernel
theorem dX0_init_9 : decode cX0_init 9 = .ok (.putfield 9, 3) := by decide +kernel
theorem dX0_init_12 : decode cX0_init 12 = .ok (.aload_n 0, 1) := by decide +kernel
theorem dX0_init_13 : decode cX0_init 13 = .ok (.bipush 8, 2) := by decide +kernel
theorem dX0_init_15 : decode cX0_init 15 = .ok (.newarray .int, 2) := by decide +kernel
theorem dX0_init_17 : decode cX0_init 17 = .ok (.putfield 15, 3) := by decide +kernel
theorem dX0_init_20 : decode cX0_init 20 = .ok (.aload_n 0, 1) := by decide +kernel
theorem dX0_init_21 : decode cX0_init 21 = .ok (.bipush 8, 2) := by decide +kernel
theorem dX0_init_23 : decode cX0_init 23 = .ok (.newarray .int, 2) := by decide +kernel
theorem dX0_init_25 : decode cX0_init 25 = .ok (.putfield 18, 3) := by decide +kernel
theorem dX0_init_28 : decode cX0_init 28 = .ok (.aload_n 0, 1) := by decide +kernel
theorem dX0_init_29 : decode cX0_init 29 = .ok (.bipush 8, 2) := by decide +kernel
theorem dX0_init_31 : decode cX0_init 31 = .ok (.newarray .int, 2) := by decide +kernel
theorem dX0_init_33 : decode cX0_init 33 = .ok (.putfield 21, 3) := by decide +kernel
theorem dX0_init_36 : decode cX0_init 36 = .ok (.aload_n 0, 1) := by decide +kernel
theorem dX0_init_37 : decode cX0_init 37 = .ok (.bipush 8, 2) := by decide +kernel
theorem dX0_init_39 : decode cX0_init 39 = .ok (.newarray .int, 2) := by decide +kernel
theorem dX0_init_41 : decode cX0_init 41 = .ok (.putfield 24, 3) := by decide +kernel
theorem dX0_init_44 : decode cX0_init 44 = .ok (.aload_n 0, 1) := by decide +kernel
theorem dX0_init_45 : decode cX0_init 45 = .ok (.bipush 8, 2) := by decide +kernel
theorem dX0_init_47 : decode cX0_init 47 = .ok (.newarray .int, 2) := by decide +kernel
theorem dX0_init_49 : decode cX0_init 49 = .ok (.putfield 27, 3) := by decide +kernel
theorem dX0_init_52 : decode cX0_init 52 = .ok (.iconst 0, 1) := by decide +kernel
theorem dX0_init_53 : decode cX0_init 53 = .ok (.istore_n 1, 1) := by decide +kernel
theorem dX0_init_54 : decode cX0_init 54 = .ok (.iload_n 1, 1) := by decide +kernel
theorem dX0_init_55 : decode cX0_init 55 = .ok (.aload_n 0, 1) := by decide +kernel
theorem dX0_init_56 : decode cX0_init 56 = .ok (.getfield 15, 3) := by decide +kernel
theorem dX0_init_59 : decode cX0_init 59 = .ok (.arraylength, 1) := by decide +kernel
theorem dX0_init_60 : decode cX0_init 60 = .ok (.if_icmp .ge 16, 3) := by decide +kernel
theorem dX0_init_63 : decode cX0_init 63 = .ok (.aload_n 0, 1) := by decide +kernel
theorem dX0_init_64 : decode cX0_init 64 = .ok (.getfield 15, 3) := by decide +kernel
theorem dX0_init_67 : decode cX0_init 67 = .ok (.iload_n 1, 1) := by decide +kernel
theorem dX0_init_68 : decode cX0_init 68 = .ok (.iconst 1, 1) := by decide +kernel
theorem dX0_init_69 : decode cX0_init 69 = .ok (.iastore, 1) := by decide +kernel
theorem dX0_init_70 : decode cX0_init 70 = .ok (.iinc 1 1, 3) := by decide +kernel
theorem dX0_init_73 : decode cX0_init 73 = .ok (.goto (-19), 3) := by decide +kernel
theorem dX0_init_76 : decode cX0_init 76 = .ok (.return_, 1) := by decide +kernel
theorem dX0_copyFrom_0 : decode cX0_copyFrom 0 = .ok (.aload_n 1, 1) := by decide +kernel
theorem dX0_copyFrom_1 : decode cX0_copyFrom 1 = .ok (.getfield 9, 3) := by decide +kernel
theorem dX0_copyFrom_4 : decode cX0_copyFrom 4 = .ok (.aload_n 0, 1) := by decide +kernel
theorem dX0_copyFrom_5 : decode cX0_copyFrom 5 = .ok (.getfield 9, 3) := by decide +kernel
theorem dX0_copyFrom_8 : decode cX0_copyFrom 8 = .ok (.invokestatic 30, 3) := by decide +kernel
theorem dX0_copyFrom_11 : decode cX0_copyFrom 11 = .ok (.aload_n 1, 1) := by decide +kernel
theorem dX0_copyFrom_12 : decode cX0_copyFrom 12 = .ok (.getfield 15, 3) := by decide +kernel
theorem dX0_copyFrom_15 : decode cX0_copyFrom 15 = .ok (.aload_n 0, 1) := by decide +kernel
theorem dX0_copyFrom_16 : decode cX0_copyFrom 16 = .ok (.getfield 15, 3) := by decide +kernel
theorem dX0_copyFrom_19 : decode cX0_copyFrom 19 = .ok (.invokestatic 30, 3) := by decide +kernel
theorem dX0_copyFrom_22 : decode cX0_copyFrom 22 = .ok (.aload_n 1, 1) := by decide +kernel
theorem dX0_copyFrom_23 : decode cX0_copyFrom 23 = .ok (.getfield 18, 3) := by decide +kernel
theorem dX0_copyFrom_26 : decode cX0_copyFrom 26 = .ok (.aload_n 0, 1) := by decide +kernel
theorem dX0_copyFrom_27 : decode cX0_copyFrom 27 = .ok (.getfield 18, 3) := by decide +kernel
theorem dX0_copyFrom_30 : decode cX0_copyFrom 30 = .ok (.invokestatic 30, 3) := by decide +kernel
theorem dX0_copyFrom_33 : decode cX0_copyFrom 33 = .ok (.aload_n 1, 1) := by decide +kernel
theorem dX0_copyFrom_34 : decode cX0_copyFrom 34 = .ok (.getfield 21, 3) := by decide +kernel
theorem dX0_copyFrom_37 : decode cX0_copyFrom 37 = .ok (.aload_n 0, 1) := by decide +kernel
theorem dX0_copyFrom_38 : decode cX0_copyFrom 38 = .ok (.getfield 21, 3) := by decide +kernel
theorem dX0_copyFrom_41 : decode cX0_copyFrom 41 = .ok (.invokestatic 30, 3) := by decide +kernel
theorem dX0_copyFrom_44 : decode cX0_copyFrom 44 = .ok (.aload_n 1, 1) := by decide +kernel
theorem dX0_copyFrom_45 : decode cX0_copyFrom 45 = .ok (.getfield 24, 3) := by decide +kernel
theorem dX0_copyFrom_48 : decode cX0_copyFrom 48 = .ok (.aload_n 0, 1) := by decide +kernel
theorem dX0_copyFrom_49 : decode cX0_copyFrom 49 = .ok (.getfield 24, 3) := by decide +kernel
theorem dX0_copyFrom_52 : decode cX0_copyFrom 52 = .ok (.invokestatic 30, 3) := by decide +kernel
theorem dX0_copyFrom_55 : decode cX0_copyFrom 55 = .ok (.aload_n 1, 1) := by decide +kernel
theorem dX0_copyFrom_56 : decode cX0_copyFrom 56 = .ok (.getfield 27, 3) := by decide +kernel
theorem dX0_copyFrom_59 : decode cX0_copyFrom 59 = .ok (.aload_n 0, 1) := by decide +kernel
theorem dX0_copyFrom_60 : decode cX0_copyFrom 60 = .ok (.getfield 27, 3) := by decide +kernel
theorem dX0_copyFrom_63 : decode cX0_copyFrom 63 = .ok (.invokestatic 30, 3) := by decide +kernel
theorem dX0_copyFrom_66 : decode cX0_copyFrom 66 = .ok (.return_, 1) := by decide +kernel
theorem dX0_letBurn_0 : decode cX0_letBurn 0 = .ok (.aload_n 0, 1) := by decide +kernel
theorem dX0_letBurn_1 : decode cX0_letBurn 1 = .ok (.getfield 9, 3) := by decide +kernel
theorem dX0_letBurn_4 : decode cX0_letBurn 4 = .ok (.iload_n 1, 1) := by decide +kernel
theorem dX0_letBurn_5 : decode cX0_letBurn 5 = .ok (.invokestatic 34, 3) := by decide +kernel
theorem dX0_letBurn_8 : decode cX0_letBurn 8 = .ok (.istore_n 3, 1) := by decide +kernel
theorem dX0_letBurn_9 : decode cX0_letBurn 9 = .ok (.iload_n 3, 1) := by decide +kernel
theorem dX0_letBurn_10 : decode cX0_letBurn 10 = .ok (.ifCond .ne 12, 3) := by decide +kernel
theorem dX0_letBurn_13 : decode cX0_letBurn 13 = .ok (.aload_n 0, 1) := by decide +kernel
theorem dX0_letBurn_14 : decode cX0_letBurn 14 = .ok (.getfield 27, 3) := by decide +kernel
theorem dX0_letBurn_17 : decode cX0_letBurn 17 = .ok (.iload_n 1, 1) := by decide +kernel
theorem dX0_letBurn_18 : decode cX0_letBurn 18 = .ok (.iconst 1, 1) := by decide +kernel
theorem dX0_letBurn_19 : decode cX0_letBurn 19 = .ok (.invokestatic 38, 3) := by decide +kernel
theorem dX0_letBurn_22 : decode cX0_letBurn 22 = .ok (.iload_n 3, 1) := by decide +kernel
theorem dX0_letBurn_23 : decode cX0_letBurn 23 = .ok (.iload_n 2, 1) := by decide +kernel
theorem dX0_letBurn_24 : decode cX0_letBurn 24 = .ok (.if_icmp .ge 12, 3) := by decide +kernel
theorem dX0_letBurn_27 : decode cX0_letBurn 27 = .ok (.aload_n 0, 1) := by decide +kernel
theorem dX0_letBurn_28 : decode cX0_letBurn 28 = .ok (.getfield 9, 3) := by decide +kernel
theorem dX0_letBurn_31 : decode cX0_letBurn 31 = .ok (.iload_n 1, 1) := by decide +kernel
theorem dX0_letBurn_32 : decode cX0_letBurn 32 = .ok (.iload_n 2, 1) := by decide +kernel
theorem dX0_letBurn_33 : decode cX0_letBurn 33 = .ok (.invokestatic 42, 3) := by decide +kernel
theorem dX0_letBurn_36 : decode cX0_letBurn 36 = .ok (.return_, 1) := by decide +kernel
theorem dX0_burnDown_0 : decode cX0_burnDown 0 = .ok (.aload_n 0, 1) := by decide +kernel
theorem dX0_burnDown_1 : decode cX0_burnDown 1 = .ok (.getfield 9, 3) := by decide +kernel
theorem dX0_burnDown_4 : decode cX0_burnDown 4 = .ok (.iload_n 1, 1) := by decide +kernel
theorem dX0_burnDown_5 : decode cX0_burnDown 5 = .ok (.invokestatic 34, 3) := by decide +kernel
theorem dX0_burnDown_8 : decode cX0_burnDown 8 = .ok (.ifCond .le 12, 3) := by decide +kernel
theorem dX0_burnDown_11 : decode cX0_burnDown 11 = .ok (.aload_n 0, 1) := by decide +kernel
theorem dX0_burnDown_12 : decode cX0_burnDown 12 = .ok (.getfield 9, 3) := by decide +kernel
theorem dX0_burnDown_15 : decode cX0_burnDown 15 = .ok (.iload_n 1, 1) := by decide +kernel
theorem dX0_burnDown_16 : decode cX0_burnDown 16 = .ok (.iconst (-1), 1) := by decide +kernel
theorem dX0_burnDown_17 : decode cX0_burnDown 17 = .ok (.invokestatic 38, 3) := by decide +kernel
theorem dX0_burnDown_20 : decode cX0_burnDown 20 = .ok (.return_, 1) := by decide +kernel
theorem dX0_mostMissed_0 : decode cX0_mostMissed 0 = .ok (.iconst (-1), 1) := by decide +kernel
theorem dX0_mostMissed_1 : decode cX0_mostMissed 1 = .ok (.istore_n 1, 1) := by decide +kernel
theorem dX0_mostMissed_2 : decode cX0_mostMissed 2 = .ok (.iconst 0, 1) := by decide +kernel
theorem dX0_mostMissed_3 : decode cX0_mostMissed 3 = .ok (.istore_n 2, 1) := by decide +kernel
theorem dX0_mostMissed_4 : decode cX0_mostMissed 4 = .ok (.iload_n 2, 1) := by decide +kernel
theorem dX0_mostMissed_5 : decode cX0_mostMissed 5 = .ok (.bipush 8, 2) := by decide +kernel
theorem dX0_mostMissed_7 : decode cX0_mostMissed 7 = .ok (.if_icmp .ge 56, 3) := by decide +kernel
theorem dX0_mostMissed_10 : decode cX0_mostMissed 10 = .ok (.aload_n 0, 1) := by decide +kernel
theorem dX0_mostMissed_11 : decode cX0_mostMissed 11 = .ok (.getfield 15, 3) := by decide +kernel
theorem dX0_mostMissed_14 : decode cX0_mostMissed 14 = .ok (.iload_n 2, 1) := by decide +kernel
theorem dX0_mostMissed_15 : decode cX0_mostMissed 15 = .ok (.invokestatic 34, 3) := by decide +kernel
theorem dX0_mostMissed_18 : decode cX0_mostMissed 18 = .ok (.ifCond .ne 7, 3) := by decide +kernel
theorem dX0_mostMissed_21 : decode cX0_mostMissed 21 = .ok (.iconst 1, 1) := by decide +kernel
theorem dX0_mostMissed_22 : decode cX0_mostMissed 22 = .ok (.goto 4, 3) := by decide +kernel
theorem dX0_mostMissed_25 : decode cX0_mostMissed 25 = .ok (.iconst 0, 1) := by decide +kernel
theorem dX0_mostMissed_26 : decode cX0_mostMissed 26 = .ok (.istore_n 3, 1) := by decide +kernel
theorem dX0_mostMissed_27 : decode cX0_mostMissed 27 = .ok (.iload_n 3, 1) := by decide +kernel
theorem dX0_mostMissed_28 : decode cX0_mostMissed 28 = .ok (.ifCond .eq 29, 3) := by decide +kernel
theorem dX0_mostMissed_31 : decode cX0_mostMissed 31 = .ok (.iload_n 1, 1) := by decide +kernel
theorem dX0_mostMissed_32 : decode cX0_mostMissed 32 = .ok (.iconst (-1), 1) := by decide +kernel
theorem dX0_mostMissed_33 : decode cX0_mostMissed 33 = .ok (.if_icmp .eq 22, 3) := by decide +kernel
theorem dX0_mostMissed_36 : decode cX0_mostMissed 36 = .ok (.aload_n 0, 1) := by decide +kernel
theorem dX0_mostMissed_37 : decode cX0_mostMissed 37 = .ok (.getfield 18, 3) := by decide +kernel
theorem dX0_mostMissed_40 : decode cX0_mostMissed 40 = .ok (.iload_n 2, 1) := by decide +kernel
theorem dX0_mostMissed_41 : decode cX0_mostMissed 41 = .ok (.invokestatic 34, 3) := by decide +kernel
theorem dX0_mostMissed_44 : decode cX0_mostMissed 44 = .ok (.aload_n 0, 1) := by decide +kernel
theorem dX0_mostMissed_45 : decode cX0_mostMissed 45 = .ok (.getfield 18, 3) := by decide +kernel
theorem dX0_mostMissed_48 : decode cX0_mostMissed 48 = .ok (.iload_n 1, 1) := by decide +kernel
theorem dX0_mostMissed_49 : decode cX0_mostMissed 49 = .ok (.invokestatic 34, 3) := by decide +kernel
theorem dX0_mostMissed_52 : decode cX0_mostMissed 52 = .ok (.if_icmp .le 5, 3) := by decide +kernel
theorem dX0_mostMissed_55 : decode cX0_mostMissed 55 = .ok (.iload_n 2, 1) := by decide +kernel
theorem dX0_mostMissed_56 : decode cX0_mostMissed 56 = .ok (.istore_n 1, 1) := by decide +kernel
theorem dX0_mostMissed_57 : decode cX0_mostMissed 57 = .ok (.iinc 2 1, 3) := by decide +kernel
theorem dX0_mostMissed_60 : decode cX0_mostMissed 60 = .ok (.goto (-56), 3) := by decide +kernel
theorem dX0_mostMissed_63 : decode cX0_mostMissed 63 = .ok (.iload_n 1, 1) := by decide +kernel
theorem dX0_mostMissed_64 : decode cX0_mostMissed 64 = .ok (.ireturn, 1) := by decide +kernel
theorem dX1_init_0 : decode cX1_init 0 = .ok (.aload_n 0, 1) := by decide +kernel
theorem dX1_init_1 : decode cX1_init 1 = .ok (.invokespecial 3, 3) := by decide +kernel
theorem dX1_init_4 : decode cX1_init 4 = .ok (.aload_n 0, 1) := by decide +kernel
theorem dX1_init_5 : decode cX1_init 5 = .ok (.bipush 6, 2) := by decide +kernel
theorem dX1_init_7 : decode cX1_init 7 = .ok (.anewarray 9, 3) := by decide +kernel
theorem dX1_init_10 : decode cX1_init 10 = .ok (.putfield 11, 3) := by decide +kernel
theorem dX1_init_13 : decode cX1_init 13 = .ok (.iconst 0, 1) := by decide +kernel
theorem dX1_init_14 : decode cX1_init 14 = .ok (.istore_n 1, 1) := by decide +kernel
theorem dX1_init_15 : decode cX1_init 15 = .ok (.iload_n 1, 1) := by decide +kernel
theorem dX1_init_16 : decode cX1_init 16 = .ok (.aload_n 0, 1) := by decide +kernel
theorem dX1_init_17 : decode cX1_init 17 = .ok (.getfield 11, 3) := by decide +kernel
theorem dX1_init_20 : decode cX1_init 20 = .ok (.arraylength, 1) := by decide +kernel
theorem dX1_init_21 : decode cX1_init 21 = .ok (.if_icmp .ge 22, 3) := by decide +kernel
theorem dX1_init_24 : decode cX1_init 24 = .ok (.aload_n 0, 1) := by decide +kernel
theorem dX1_init_25 : decode cX1_init 25 = .ok (.getfield 11, 3) := by decide +kernel
theorem dX1_init_28 : decode cX1_init 28 = .ok (.iload_n 1, 1) := by decide +kernel
theorem dX1_init_29 : decode cX1_init 29 = .ok (.new 9, 3) := by decide +kernel
theorem dX1_init_32 : decode cX1_init 32 = .ok (.dup, 1) := by decide +kernel
theorem dX1_init_33 : decode cX1_init 33 = .ok (.invokespecial 17, 3) := by decide +kernel
theorem dX1_init_36 : decode cX1_init 36 = .ok (.aastore, 1) := by decide +kernel
theorem dX1_init_37 : decode cX1_init 37 = .ok (.iinc 1 1, 3) := by decide +kernel
theorem dX1_init_40 : decode cX1_init 40 = .ok (.goto (-25), 3) := by decide +kernel
theorem dX1_init_43 : decode cX1_init 43 = .ok (.aload_n 0, 1) := by decide +kernel
theorem dX1_init_44 : decode cX1_init 44 = .ok (.iconst 0, 1) := by decide +kernel
theorem dX1_init_45 : decode cX1_init 45 = .ok (.putfield 18, 3) := by decide +kernel
theorem dX1_init_48 : decode cX1_init 48 = .ok (.aload_n 0, 1) := by decide +kernel
theorem dX1_init_49 : decode cX1_init 49 = .ok (.iconst 0, 1) := by decide +kernel
theorem dX1_init_50 : decode cX1_init 50 = .ok (.putfield 22, 3) := by decide +kernel
theorem dX1_init_53 : decode cX1_init 53 = .ok (.return_, 1) := by decide +kernel
theorem dX1_save_0 : decode cX1_save 0 = .ok (.aload_n 0, 1) := by decide +kernel
theorem dX1_save_1 : decode cX1_save 1 = .ok (.getfield 22, 3) := by decide +kernel
theorem dX1_save_4 : decode cX1_save 4 = .ok (.bipush 6, 2) := by decide +kernel
theorem dX1_save_6 : decode cX1_save 6 = .ok (.if_icmp .lt 26, 3) := by decide +kernel
theorem dX1_save_9 : decode cX1_save 9 = .ok (.aload_n 0, 1) := by decide +kernel
theorem dX1_save_10 : decode cX1_save 10 = .ok (.aload_n 0, 1) := by decide +kernel
theorem dX1_save_11 : decode cX1_save 11 = .ok (.getfield 18, 3) := by decide +kernel
theorem dX1_save_14 : decode cX1_save 14 = .ok (.iconst 1, 1) := by decide +kernel
theorem dX1_save_15 : decode cX1_save 15 = .ok (.iadd, 1) := by decide +kernel
theorem dX1_save_16 : decode cX1_save 16 = .ok (.bipush 6, 2) := by decide +kernel
theorem dX1_save_18 : decode cX1_save 18 = .ok (.irem, 1) := by decide +kernel
theorem dX1_save_19 : decode cX1_save 19 = .ok (.putfield 18, 3) := by decide +kernel
theorem dX1_save_22 : decode cX1_save 22 = .ok (.aload_n 0, 1) := by decide +kernel
theorem dX1_save_23 : decode cX1_save 23 = .ok (.dup, 1) := by decide +kernel
theorem dX1_save_24 : decode cX1_save 24 = .ok (.getfield 22, 3) := by decide +kernel
theorem dX1_save_27 : decode cX1_save 27 = .ok (.iconst 1, 1) := by decide +kernel
theorem dX1_save_28 : decode cX1_save 28 = .ok (.isub, 1) := by decide +kernel
theorem dX1_save_29 : decode cX1_save 29 = .ok (.putfield 22, 3) := by decide +kernel
theorem dX1_save_32 : decode cX1_save 32 = .ok (.aload_n 0, 1) := by decide +kernel
theorem dX1_save_33 : decode cX1_save 33 = .ok (.aload_n 0, 1) := by decide +kernel
theorem dX1_save_34 : decode cX1_save 34 = .ok (.getfield 18, 3) := by decide +kernel
theorem dX1_save_37 : decode cX1_save 37 = .ok (.aload_n 0, 1) := by decide +kernel
theorem dX1_save_38 : decode cX1_save 38 = .ok (.getfield 22, 3) := by decide +kernel
theorem dX1_save_41 : decode cX1_save 41 = .ok (.iadd, 1) := by decide +kernel
theorem dX1_save_42 : decode cX1_save 42 = .ok (.bipush 6, 2) := by decide +kernel
theorem dX1_save_44 : decode cX1_save 44 = .ok (.irem, 1) := by decide +kernel
theorem dX1_save_45 : decode cX1_save 45 = .ok (.invokevirtual 25, 3) := by decide +kernel
theorem dX1_save_48 : decode cX1_save 48 = .ok (.astore_n 2, 1) := by decide +kernel
theorem dX1_save_49 : decode cX1_save 49 = .ok (.aload_n 2, 1) := by decide +kernel
theorem dX1_save_50 : decode cX1_save 50 = .ok (.ifnull 18, 3) := by decide +kernel
theorem dX1_save_53 : decode cX1_save 53 = .ok (.aload_n 2, 1) := by decide +kernel
theorem dX1_save_54 : decode cX1_save 54 = .ok (.aload_n 1, 1) := by decide +kernel
theorem dX1_save_55 : decode cX1_save 55 = .ok (.invokevirtual 29, 3) := by decide +kernel
theorem dX1_save_58 : decode cX1_save 58 = .ok (.aload_n 0, 1) := by decide +kernel
theorem dX1_save_59 : decode cX1_save 59 = .ok (.dup, 1) := by decide +kernel
theorem dX1_save_60 : decode cX1_save 60 = .ok (.getfield 22, 3) := by decide +kernel
theorem dX1_save_63 : decode cX1_save 63 = .ok (.iconst 1, 1) := by decide +kernel
theorem dX1_save_64 : decode cX1_save 64 = .ok (.iadd, 1) := by decide +kernel
theorem dX1_save_65 : decode cX1_save 65 = .ok (.putfield 22, 3) := by decide +kernel
theorem dX1_save_68 : decode cX1_save 68 = .ok (.return_, 1) := by decide +kernel
theorem dX1_restore_0 : decode cX1_restore 0 = .ok (.aload_n 0, 1) := by decide +kernel
theorem dX1_restore_1 : decode cX1_restore 1 = .ok (.getfield 22, 3) := by decide +kernel
theorem dX1_restore_4 : decode cX1_restore 4 = .ok (.ifCond .gt 4, 3) := by decide +kernel
theorem dX1_restore_7 : decode cX1_restore 7 = .ok (.return_, 1) := by decide +kernel
theorem dX1_restore_8 : decode cX1_restore 8 = .ok (.aload_n 0, 1) := by decide +kernel
theorem dX1_restore_9 : decode cX1_restore 9 = .ok (.dup, 1) := by decide +kernel
theorem dX1_restore_10 : decode cX1_restore 10 = .ok (.getfield 22, 3) := by decide +kernel
theorem dX1_restore_13 : decode cX1_restore 13 = .ok (.iconst 1, 1) := by decide +kernel
theorem dX1_restore_14 : decode cX1_restore 14 = .ok (.isub, 1) := by decide +kernel
theorem dX1_restore_15 : decode cX1_restore 15 = .ok (.putfield 22, 3) := by decide +kernel
theorem dX1_restore_18 : decode cX1_restore 18 = .ok (.aload_n 0, 1) := by decide +kernel
theorem dX1_restore_19 : decode cX1_restore 19 = .ok (.aload_n 0, 1) := by decide +kernel
theorem dX1_restore_20 : decode cX1_restore 20 = .ok (.getfield 18, 3) := by decide +kernel
theorem dX1_restore_23 : decode cX1_restore 23 = .ok (.aload_n 0, 1) := by decide +kernel
theorem dX1_restore_24 : decode cX1_restore 24 = .ok (.getfield 22, 3) := by decide +kernel
theorem dX1_restore_27 : decode cX1_restore 27 = .ok (.iadd, 1) := by decide +kernel
theorem dX1_restore_28 : decode cX1_restore 28 = .ok (.bipush 6, 2) := by decide +kernel
theorem dX1_restore_30 : decode cX1_restore 30 = .ok (.irem, 1) := by decide +kernel
theorem dX1_restore_31 : decode cX1_restore 31 = .ok (.invokevirtual 25, 3) := by decide +kernel
theorem dX1_restore_34 : decode cX1_restore 34 = .ok (.astore_n 2, 1) := by decide +kernel
theorem dX1_restore_35 : decode cX1_restore 35 = .ok (.aload_n 2, 1) := by decide +kernel
theorem dX1_restore_36 : decode cX1_restore 36 = .ok (.ifnull 8, 3) := by decide +kernel
theorem dX1_restore_39 : decode cX1_restore 39 = .ok (.aload_n 1, 1) := by decide +kernel
theorem dX1_restore_40 : decode cX1_restore 40 = .ok (.aload_n 2, 1) := by decide +kernel
theorem dX1_restore_41 : decode cX1_restore 41 = .ok (.invokevirtual 29, 3) := by decide +kernel
theorem dX1_restore_44 : decode cX1_restore 44 = .ok (.return_, 1) := by decide +kernel
theorem dX1_stateAt_0 : decode cX1_stateAt 0 = .ok (.iload_n 1, 1) := by decide +kernel
theorem dX1_stateAt_1 : decode cX1_stateAt 1 = .ok (.ifCond .lt 21, 3) := by decide +kernel
theorem dX1_stateAt_4 : decode cX1_stateAt 4 = .ok (.iload_n 1, 1) := by decide +kernel
theorem dX1_stateAt_5 : decode cX1_stateAt 5 = .ok (.aload_n 0, 1) := by decide +kernel
theorem dX1_stateAt_6 : decode cX1_stateAt 6 = .ok (.getfield 11, 3) := by decide +kernel
theorem dX1_stateAt_9 : decode cX1_stateAt 9 = .ok (.arraylength, 1) := by decide +kernel
theorem dX1_stateAt_10 : decode cX1_stateAt 10 = .ok (.if_icmp .ge 12, 3) := by decide +kernel
theorem dX1_stateAt_13 : decode cX1_stateAt 13 = .ok (.aload_n 0, 1) := by decide +kernel
theorem dX1_stateAt_14 : decode cX1_stateAt 14 = .ok (.getfield 11, 3) := by decide +kernel
theorem dX1_stateAt_17 : decode cX1_stateAt 17 = .ok (.iload_n 1, 1) := by decide +kernel
theorem dX1_stateAt_18 : decode cX1_stateAt 18 = .ok (.aaload, 1) := by decide +kernel
theorem dX1_stateAt_19 : decode cX1_stateAt 19 = .ok (.goto 4, 3) := by decide +kernel
theorem dX1_stateAt_22 : decode cX1_stateAt 22 = .ok (.aconst_null, 1) := by decide +kernel
theorem dX1_stateAt_23 : decode cX1_stateAt 23 = .ok (.areturn, 1) := by decide +kernel
theorem dX2_init_0 : decode cX2_init 0 = .ok (.aload_n 0, 1) := by decide +kernel
theorem dX2_init_1 : decode cX2_init 1 = .ok (.invokespecial 3, 3) := by decide +kernel
theorem dX2_init_4 : decode cX2_init 4 = .ok (.aload_n 0, 1) := by decide +kernel
theorem dX2_init_5 : decode cX2_init 5 = .ok (.bipush 7, 2) := by decide +kernel
theorem dX2_init_7 : decode cX2_init 7 = .ok (.newarray .int, 2) := by decide +kernel
theorem dX2_init_9 : decode cX2_init 9 = .ok (.putfield 9, 3) := by decide +kernel
theorem dX2_init_12 : decode cX2_init 12 = .ok (.aload_n 0, 1) := by decide +kernel
theorem dX2_init_13 : decode cX2_init 13 = .ok (.bipush 7, 2) := by decide +kernel
theorem dX2_init_15 : decode cX2_init 15 = .ok (.newarray .int, 2) := by decide +kernel
theorem dX2_init_17 : decode cX2_init 17 = .ok (.putfield 15, 3) := by decide +kernel
theorem dX2_init_20 : decode cX2_init 20 = .ok (.aload_n 0, 1) := by decide +kernel
theorem dX2_init_21 : decode cX2_init 21 = .ok (.bipush 7, 2) := by decide +kernel
theorem dX2_init_23 : decode cX2_init 23 = .ok (.newarray .int, 2) := by decide +kernel
theorem dX2_init_25 : decode cX2_init 25 = .ok (.putfield 18, 3) := by decide +kernel
theorem dX2_init_28 : decode cX2_init 28 = .ok (.aload_n 0, 1) := by decide +kernel
theorem dX2_init_29 : decode cX2_init 29 = .ok (.bipush 7, 2) := by decide +kernel
theorem dX2_init_31 : decode cX2_init 31 = .ok (.newarray .int, 2) := by decide +kernel
theorem dX2_init_33 : decode cX2_init 33 = .ok (.putfield 21, 3) := by decide +kernel
theorem dX2_init_36 : decode cX2_init 36 = .ok (.aload_n 0, 1) := by decide +kernel
theorem dX2_init_37 : decode cX2_init 37 = .ok (.iconst 0, 1) := by decide +kernel
theorem dX2_init_38 : decode cX2_init 38 = .ok (.putfield 24, 3) := by decide +kernel
theorem dX2_init_41 : decode cX2_init 41 = .ok (.aload_n 0, 1) := by decide +kernel
theorem dX2_init_42 : decode cX2_init 42 = .ok (.iconst 0, 1) := by decide +kernel
theorem dX2_init_43 : decode cX2_init 43 = .ok (.putfield 28, 3) := by decide +kernel
theorem dX2_init_46 : decode cX2_init 46 = .ok (.return_, 1) := by decide +kernel
theorem dX2_copyFrom_0 : decode cX2_copyFrom 0 = .ok (.aload_n 1, 1) := by decide +kernel
theorem dX2_copyFrom_1 : decode cX2_copyFrom 1 = .ok (.getfield 9, 3) := by decide +kernel
theorem dX2_copyFrom_4 : decode cX2_copyFrom 4 = .ok (.aload_n 0, 1) := by decide +kernel
theorem dX2_copyFrom_5 : decode cX2_copyFrom 5 = .ok (.getfield 9, 3) := by decide +kernel
theorem dX2_copyFrom_8 : decode cX2_copyFrom 8 = .ok (.invokestatic 31, 3) := by decide +kernel
theorem dX2_copyFrom_11 : decode cX2_copyFrom 11 = .ok (.aload_n 1, 1) := by decide +kernel
theorem dX2_copyFrom_12 : decode cX2_copyFrom 12 = .ok (.getfield 15, 3) := by decide +kernel
theorem dX2_copyFrom_15 : decode cX2_copyFrom 15 = .ok (.aload_n 0, 1) := by decide +kernel
theorem dX2_copyFrom_16 : decode cX2_copyFrom 16 = .ok (.getfield 15, 3) := by decide +kernel
theorem dX2_copyFrom_19 : decode cX2_copyFrom 19 = .ok (.invokestatic 31, 3) := by decide +kernel
theorem dX2_copyFrom_22 : decode cX2_copyFrom 22 = .ok (.aload_n 1, 1) := by decide +kernel
theorem dX2_copyFrom_23 : decode cX2_copyFrom 23 = .ok (.getfield 18, 3) := by decide +kernel
theorem dX2_copyFrom_26 : decode cX2_copyFrom 26 = .ok (.aload_n 0, 1) := by decide +kernel
theorem dX2_copyFrom_27 : decode cX2_copyFrom 27 = .ok (.getfield 18, 3) := by decide +kernel
theorem dX2_copyFrom_30 : decode cX2_copyFrom 30 = .ok (.invokestatic 31, 3) := by decide +kernel
theorem dX2_copyFrom_33 : decode cX2_copyFrom 33 = .ok (.aload_n 1, 1) := by decide +kernel
theorem dX2_copyFrom_34 : decode cX2_copyFrom 34 = .ok (.getfield 21, 3) := by decide +kernel
theorem dX2_copyFrom_37 : decode cX2_copyFrom 37 = .ok (.aload_n 0, 1) := by decide +kernel
theorem dX2_copyFrom_38 : decode cX2_copyFrom 38 = .ok (.getfield 21, 3) := by decide +kernel
theorem dX2_copyFrom_41 : decode cX2_copyFrom 41 = .ok (.invokestatic 31, 3) := by decide +kernel
theorem dX2_copyFrom_44 : decode cX2_copyFrom 44 = .ok (.aload_n 0, 1) := by decide +kernel
theorem dX2_copyFrom_45 : decode cX2_copyFrom 45 = .ok (.aload_n 1, 1) := by decide +kernel
theorem dX2_copyFrom_46 : decode cX2_copyFrom 46 = .ok (.getfield 24, 3) := by decide +kernel
theorem dX2_copyFrom_49 : decode cX2_copyFrom 49 = .ok (.putfield 24, 3) := by decide +kernel
theorem dX2_copyFrom_52 : decode cX2_copyFrom 52 = .ok (.aload_n 0, 1) := by decide +kernel
theorem dX2_copyFrom_53 : decode cX2_copyFrom 53 = .ok (.aload_n 1, 1) := by decide +kernel
theorem dX2_copyFrom_54 : decode cX2_copyFrom 54 = .ok (.getfield 28, 3) := by decide +kernel
theorem dX2_copyFrom_57 : decode cX2_copyFrom 57 = .ok (.putfield 28, 3) := by decide +kernel
theorem dX2_copyFrom_60 : decode cX2_copyFrom 60 = .ok (.return_, 1) := by decide +kernel
theorem dX2_enter_0 : decode cX2_enter 0 = .ok (.aload_n 0, 1) := by decide +kernel
theorem dX2_enter_1 : decode cX2_enter 1 = .ok (.getfield 24, 3) := by decide +kernel
theorem dX2_enter_4 : decode cX2_enter 4 = .ok (.aload_n 0, 1) := by decide +kernel
theorem dX2_enter_5 : decode cX2_enter 5 = .ok (.getfield 9, 3) := by decide +kernel
theorem dX2_enter_8 : decode cX2_enter 8 = .ok (.arraylength, 1) := by decide +kernel
theorem dX2_enter_9 : decode cX2_enter 9 = .ok (.if_icmp .lt 5, 3) := by decide +kernel
theorem dX2_enter_12 : decode cX2_enter 12 = .ok (.iconst (-1), 1) := by decide +kernel
theorem dX2_enter_13 : decode cX2_enter 13 = .ok (.ireturn, 1) := by decide +kernel
theorem dX2_enter_14 : decode cX2_enter 14 = .ok (.aload_n 0, 1) := by decide +kernel
theorem dX2_enter_15 : decode cX2_enter 15 = .ok (.getfield 28, 3) := by decide +kernel
theorem dX2_enter_18 : decode cX2_enter 18 = .ok (.istore 4, 2) := by decide +kernel
theorem dX2_enter_20 : decode cX2_enter 20 = .ok (.aload_n 0, 1) := by decide +kernel
theorem dX2_enter_21 : decode cX2_enter 21 = .ok (.getfield 9, 3) := by decide +kernel
theorem dX2_enter_24 : decode cX2_enter 24 = .ok (.aload_n 0, 1) := by decide +kernel
theorem dX2_enter_25 : decode cX2_enter 25 = .ok (.getfield 24, 3) := by decide +kernel
theorem dX2_enter_28 : decode cX2_enter 28 = .ok (.iload 4, 2) := by decide +kernel
theorem dX2_enter_30 : decode cX2_enter 30 = .ok (.invokestatic 35, 3) := by decide +kernel
theorem dX2_enter_33 : decode cX2_enter 33 = .ok (.aload_n 0, 1) := by decide +kernel
theorem dX2_enter_34 : decode cX2_enter 34 = .ok (.getfield 15, 3) := by decide +kernel
theorem dX2_enter_37 : decode cX2_enter 37 = .ok (.aload_n 0, 1) := by decide +kernel
theorem dX2_enter_38 : decode cX2_enter 38 = .ok (.getfield 24, 3) := by decide +kernel
theorem dX2_enter_41 : decode cX2_enter 41 = .ok (.iload_n 1, 1) := by decide +kernel
theorem dX2_enter_42 : decode cX2_enter 42 = .ok (.invokestatic 35, 3) := by decide +kernel
theorem dX2_enter_45 : decode cX2_enter 45 = .ok (.aload_n 0, 1) := by decide +kernel
theorem dX2_enter_46 : decode cX2_enter 46 = .ok (.aload_n 0, 1) := by decide +kernel
theorem dX2_enter_47 : decode cX2_enter 47 = .ok (.getfield 24, 3) := by decide +kernel
theorem dX2_enter_50 : decode cX2_enter 50 = .ok (.iload_n 2, 1) := by decide +kernel
theorem dX2_enter_51 : decode cX2_enter 51 = .ok (.iload_n 3, 1) := by decide +kernel
theorem dX2_enter_52 : decode cX2_enter 52 = .ok (.invokevirtual 39, 3) := by decide +kernel
theorem dX2_enter_55 : decode cX2_enter 55 = .ok (.aload_n 0, 1) := by decide +kernel
theorem dX2_enter_56 : decode cX2_enter 56 = .ok (.dup, 1) := by decide +kernel
theorem dX2_enter_57 : decode cX2_enter 57 = .ok (.getfield 24, 3) := by decide +kernel
theorem dX2_enter_60 : decode cX2_enter 60 = .ok (.iconst 1, 1) := by decide +kernel
theorem dX2_enter_61 : decode cX2_enter 61 = .ok (.iadd, 1) := by decide +kernel
theorem dX2_enter_62 : decode cX2_enter 62 = .ok (.putfield 24, 3) := by decide +kernel
theorem dX2_enter_65 : decode cX2_enter 65 = .ok (.aload_n 0, 1) := by decide +kernel
theorem dX2_enter_66 : decode cX2_enter 66 = .ok (.dup, 1) := by decide +kernel
theorem dX2_enter_67 : decode cX2_enter 67 = .ok (.getfield 28, 3) := by decide +kernel
theorem dX2_enter_70 : decode cX2_enter 70 = .ok (.iconst 1, 1) := by decide +kernel
theorem dX2_enter_71 : decode cX2_enter 71 = .ok (.iadd, 1) := by decide +kernel
theorem dX2_enter_72 : decode cX2_enter 72 = .ok (.putfield 28, 3) := by decide +kernel
theorem dX2_enter_75 : decode cX2_enter 75 = .ok (.iload 4, 2) := by decide +kernel
theorem dX2_enter_77 : decode cX2_enter 77 = .ok (.ireturn, 1) := by decide +kernel
theorem dX2_sendTo_0 : decode cX2_sendTo 0 = .ok (.aload_n 0, 1) := by decide +kernel
theorem dX2_sendTo_1 : decode cX2_sendTo 1 = .ok (.getfield 18, 3) := by decide +kernel
theorem dX2_sendTo_4 : decode cX2_sendTo 4 = .ok (.iload_n 1, 1) := by decide +kernel
theorem dX2_sendTo_5 : decode cX2_sendTo 5 = .ok (.iload_n 2, 1) := by decide +kernel
theorem dX2_sendTo_6 : decode cX2_sendTo 6 = .ok (.invokestatic 35, 3) := by decide +kernel
theorem dX2_sendTo_9 : decode cX2_sendTo 9 = .ok (.aload_n 0, 1) := by decide +kernel
theorem dX2_sendTo_10 : decode cX2_sendTo 10 = .ok (.getfield 21, 3) := by decide +kernel
theorem dX2_sendTo_13 : decode cX2_sendTo 13 = .ok (.iload_n 1, 1) := by decide +kernel
theorem dX2_sendTo_14 : decode cX2_sendTo 14 = .ok (.aload_n 0, 1) := by decide +kernel
theorem dX2_sendTo_15 : decode cX2_sendTo 15 = .ok (.iload_n 1, 1) := by decide +kernel
theorem dX2_sendTo_16 : decode cX2_sendTo 16 = .ok (.invokevirtual 43, 3) := by decide +kernel
theorem dX2_sendTo_19 : decode cX2_sendTo 19 = .ok (.ifCond .eq 7, 3) := by decide +kernel
theorem dX2_sendTo_22 : decode cX2_sendTo 22 = .ok (.iconst 0, 1) := by decide +kernel
theorem dX2_sendTo_23 : decode cX2_sendTo 23 = .ok (.goto 4, 3) := by decide +kernel
theorem dX2_sendTo_26 : decode cX2_sendTo 26 = .ok (.iload_n 3, 1) := by decide +kernel
theorem dX2_sendTo_27 : decode cX2_sendTo 27 = .ok (.invokestatic 35, 3) := by decide +kernel
theorem dX2_sendTo_30 : decode cX2_sendTo 30 = .ok (.return_, 1) := by decide +kernel
theorem dX2_isThere_0 : decode cX2_isThere 0 = .ok (.aload_n 0, 1) := by decide +kernel
theorem dX2_isThere_1 : decode cX2_isThere 1 = .ok (.getfield 15, 3) := by decide +kernel
theorem dX2_isThere_4 : decode cX2_isThere 4 = .ok (.iload_n 1, 1) := by decide +kernel
theorem dX2_isThere_5 : decode cX2_isThere 5 = .ok (.invokestatic 47, 3) := by decide +kernel
theorem dX2_isThere_8 : decode cX2_isThere 8 = .ok (.aload_n 0, 1) := by decide +kernel
theorem dX2_isThere_9 : decode cX2_isThere 9 = .ok (.getfield 18, 3) := by decide +kernel
theorem dX2_isThere_12 : decode cX2_isThere 12 = .ok (.iload_n 1, 1) := by decide +kernel
theorem dX2_isThere_13 : decode cX2_isThere 13 = .ok (.invokestatic 47, 3) := by decide +kernel
theorem dX2_isThere_16 : decode cX2_isThere 16 = .ok (.if_icmp .ne 7, 3) := by decide +kernel
theorem dX2_isThere_19 : decode cX2_isThere 19 = .ok (.iconst 1, 1) := by decide +kernel
theorem dX2_isThere_20 : decode cX2_isThere 20 = .ok (.goto 4, 3) := by decide +kernel
theorem dX2_isThere_23 : decode cX2_isThere 23 = .ok (.iconst 0, 1) := by decide +kernel
theorem dX2_isThere_24 : decode cX2_isThere 24 = .ok (.ireturn, 1) := by decide +kernel
theorem dX2_placeOf_0 : decode cX2_placeOf 0 = .ok (.iconst 0, 1) := by decide +kernel
theorem dX2_placeOf_1 : decode cX2_placeOf 1 = .ok (.istore_n 2, 1) := by decide +kernel
theorem dX2_placeOf_2 : decode cX2_placeOf 2 = .ok (.iload_n 2, 1) := by decide +kernel
theorem dX2_placeOf_3 : decode cX2_placeOf 3 = .ok (.aload_n 0, 1) := by decide +kernel
theorem dX2_placeOf_4 : decode cX2_placeOf 4 = .ok (.getfield 24, 3) := by decide +kernel
theorem dX2_placeOf_7 : decode cX2_placeOf 7 = .ok (.if_icmp .ge 23, 3) := by decide +kernel
theorem dX2_placeOf_10 : decode cX2_placeOf 10 = .ok (.aload_n 0, 1) := by decide +kernel
theorem dX2_placeOf_11 : decode cX2_placeOf 11 = .ok (.getfield 9, 3) := by decide +kernel
theorem dX2_placeOf_14 : decode cX2_placeOf 14 = .ok (.iload_n 2, 1) := by decide +kernel
theorem dX2_placeOf_15 : decode cX2_placeOf 15 = .ok (.invokestatic 47, 3) := by decide +kernel
theorem dX2_placeOf_18 : decode cX2_placeOf 18 = .ok (.iload_n 1, 1) := by decide +kernel
theorem dX2_placeOf_19 : decode cX2_placeOf 19 = .ok (.if_icmp .ne 5, 3) := by decide +kernel
theorem dX2_placeOf_22 : decode cX2_placeOf 22 = .ok (.iload_n 2, 1) := by decide +kernel
theorem dX2_placeOf_23 : decode cX2_placeOf 23 = .ok (.ireturn, 1) := by decide +kernel
theorem dX2_placeOf_24 : decode cX2_placeOf 24 = .ok (.iinc 2 1, 3) := by decide +kernel
theorem dX2_placeOf_27 : decode cX2_placeOf 27 = .ok (.goto (-25), 3) := by decide +kernel
theorem dX2_placeOf_30 : decode cX2_placeOf 30 = .ok (.iconst (-1), 1) := by decide +kernel
theorem dX2_placeOf_31 : decode cX2_placeOf 31 = .ok (.ireturn, 1) := by decide +kernel
theorem dX2_peopleOn_0 : decode cX2_peopleOn 0 = .ok (.iconst 0, 1) := by decide +kernel
theorem dX2_peopleOn_1 : decode cX2_peopleOn 1 = .ok (.istore_n 2, 1) := by decide +kernel
theorem dX2_peopleOn_2 : decode cX2_peopleOn 2 = .ok (.iconst 0, 1) := by decide +kernel
theorem dX2_peopleOn_3 : decode cX2_peopleOn 3 = .ok (.istore_n 3, 1) := by decide +kernel
theorem dX2_peopleOn_4 : decode cX2_peopleOn 4 = .ok (.iload_n 3, 1) := by decide +kernel
theorem dX2_peopleOn_5 : decode cX2_peopleOn 5 = .ok (.aload_n 0, 1) := by decide +kernel
theorem dX2_peopleOn_6 : decode cX2_peopleOn 6 = .ok (.getfield 24, 3) := by decide +kernel
theorem dX2_peopleOn_9 : decode cX2_peopleOn 9 = .ok (.if_icmp .ge 24, 3) := by decide +kernel
theorem dX2_peopleOn_12 : decode cX2_peopleOn 12 = .ok (.aload_n 0, 1) := by decide +kernel
theorem dX2_peopleOn_13 : decode cX2_peopleOn 13 = .ok (.getfield 15, 3) := by decide +kernel
theorem dX2_peopleOn_16 : decode cX2_peopleOn 16 = .ok (.iload_n 3, 1) := by decide +kernel
theorem dX2_peopleOn_17 : decode cX2_peopleOn 17 = .ok (.invokestatic 47, 3) := by decide +kernel
theorem dX2_peopleOn_20 : decode cX2_peopleOn 20 = .ok (.iload_n 1, 1) := by decide +kernel
theorem dX2_peopleOn_21 : decode cX2_peopleOn 21 = .ok (.if_icmp .ne 6, 3) := by decide +kernel
theorem dX2_peopleOn_24 : decode cX2_peopleOn 24 = .ok (.iinc 2 1, 3) := by decide +kernel
theorem dX2_peopleOn_27 : decode cX2_peopleOn 27 = .ok (.iinc 3 1, 3) := by decide +kernel
theorem dX2_peopleOn_30 : decode cX2_peopleOn 30 = .ok (.goto (-26), 3) := by decide +kernel
theorem dX2_peopleOn_33 : decode cX2_peopleOn 33 = .ok (.iload_n 2, 1) := by decide +kernel
theorem dX2_peopleOn_34 : decode cX2_peopleOn 34 = .ok (.ireturn, 1) := by decide +kernel
theorem dX2_goOn_0 : decode cX2_goOn 0 = .ok (.iconst 0, 1) := by decide +kernel
theorem dX2_goOn_1 : decode cX2_goOn 1 = .ok (.istore_n 2, 1) := by decide +kernel
theorem dX2_goOn_2 : decode cX2_goOn 2 = .ok (.iconst 0, 1) := by decide +kernel
theorem dX2_goOn_3 : decode cX2_goOn 3 = .ok (.istore_n 3, 1) := by decide +kernel
theorem dX2_goOn_4 : decode cX2_goOn 4 = .ok (.iload_n 3, 1) := by decide +kernel
theorem dX2_goOn_5 : decode cX2_goOn 5 = .ok (.aload_n 0, 1) := by decide +kernel
theorem dX2_goOn_6 : decode cX2_goOn 6 = .ok (.getfield 24, 3) := by decide +kernel
theorem dX2_goOn_9 : decode cX2_goOn 9 = .ok (.if_icmp .ge 32, 3) := by decide +kernel
theorem dX2_goOn_12 : decode cX2_goOn 12 = .ok (.aload_n 0, 1) := by decide +kernel
theorem dX2_goOn_13 : decode cX2_goOn 13 = .ok (.iload_n 3, 1) := by decide +kernel
theorem dX2_goOn_14 : decode cX2_goOn 14 = .ok (.invokevirtual 43, 3) := by decide +kernel
theorem dX2_goOn_17 : decode cX2_goOn 17 = .ok (.ifCond .ne 18, 3) := by decide +kernel
theorem dX2_goOn_20 : decode cX2_goOn 20 = .ok (.aload_n 0, 1) := by decide +kernel
theorem dX2_goOn_21 : decode cX2_goOn 21 = .ok (.iload_n 3, 1) := by decide +kernel
theorem dX2_goOn_22 : decode cX2_goOn 22 = .ok (.iload_n 1, 1) := by decide +kernel
theorem dX2_goOn_23 : decode cX2_goOn 23 = .ok (.invokevirtual 51, 3) := by decide +kernel
theorem dX2_goOn_26 : decode cX2_goOn 26 = .ok (.aload_n 0, 1) := by decide +kernel
theorem dX2_goOn_27 : decode cX2_goOn 27 = .ok (.iload_n 3, 1) := by decide +kernel
theorem dX2_goOn_28 : decode cX2_goOn 28 = .ok (.iload_n 2, 1) := by decide +kernel
theorem dX2_goOn_29 : decode cX2_goOn 29 = .ok (.invokevirtual 55, 3) := by decide +kernel
theorem dX2_goOn_32 : decode cX2_goOn 32 = .ok (.iinc 2 1, 3) := by decide +kernel
theorem dX2_goOn_35 : decode cX2_goOn 35 = .ok (.iinc 3 1, 3) := by decide +kernel
theorem dX2_goOn_38 : decode cX2_goOn 38 = .ok (.goto (-34), 3) := by decide +kernel
theorem dX2_goOn_41 : decode cX2_goOn 41 = .ok (.aload_n 0, 1) := by decide +kernel
theorem dX2_goOn_42 : decode cX2_goOn 42 = .ok (.iload_n 2, 1) := by decide +kernel
theorem dX2_goOn_43 : decode cX2_goOn 43 = .ok (.putfield 24, 3) := by decide +kernel
theorem dX2_goOn_46 : decode cX2_goOn 46 = .ok (.return_, 1) := by decide +kernel
theorem dX2_walk_0 : decode cX2_walk 0 = .ok (.aload_n 0, 1) := by decide +kernel
theorem dX2_walk_1 : decode cX2_walk 1 = .ok (.getfield 21, 3) := by decide +kernel
theorem dX2_walk_4 : decode cX2_walk 4 = .ok (.iload_n 1, 1) := by decide +kernel
theorem dX2_walk_5 : decode cX2_walk 5 = .ok (.iconst (-1), 1) := by decide +kernel
theorem dX2_walk_6 : decode cX2_walk 6 = .ok (.invokestatic 58, 3) := by decide +kernel
theorem dX2_walk_9 : decode cX2_walk 9 = .ok (.aload_n 0, 1) := by decide +kernel
theorem dX2_walk_10 : decode cX2_walk 10 = .ok (.getfield 21, 3) := by decide +kernel
theorem dX2_walk_13 : decode cX2_walk 13 = .ok (.iload_n 1, 1) := by decide +kernel
theorem dX2_walk_14 : decode cX2_walk 14 = .ok (.invokestatic 47, 3) := by decide +kernel
theorem dX2_walk_17 : decode cX2_walk 17 = .ok (.ifCond .le 4, 3) := by decide +kernel
theorem dX2_walk_20 : decode cX2_walk 20 = .ok (.return_, 1) := by decide +kernel
theorem dX2_walk_21 : decode cX2_walk 21 = .ok (.aload_n 0, 1) := by decide +kernel
theorem dX2_walk_22 : decode cX2_walk 22 = .ok (.getfield 15, 3) := by decide +kernel
theorem dX2_walk_25 : decode cX2_walk 25 = .ok (.iload_n 1, 1) := by decide +kernel
theorem dX2_walk_26 : decode cX2_walk 26 = .ok (.aload_n 0, 1) := by decide +kernel
theorem dX2_walk_27 : decode cX2_walk 27 = .ok (.getfield 18, 3) := by decide +kernel
theorem dX2_walk_30 : decode cX2_walk 30 = .ok (.iload_n 1, 1) := by decide +kernel
theorem dX2_walk_31 : decode cX2_walk 31 = .ok (.invokestatic 47, 3) := by decide +kernel
theorem dX2_walk_34 : decode cX2_walk 34 = .ok (.aload_n 0, 1) := by decide +kernel
theorem dX2_walk_35 : decode cX2_walk 35 = .ok (.getfield 15, 3) := by decide +kernel
theorem dX2_walk_38 : decode cX2_walk 38 = .ok (.iload_n 1, 1) := by decide +kernel
theorem dX2_walk_39 : decode cX2_walk 39 = .ok (.invokestatic 47, 3) := by decide +kernel
theorem dX2_walk_42 : decode cX2_walk 42 = .ok (.if_icmp .le 7, 3) := by decide +kernel
theorem dX2_walk_45 : decode cX2_walk 45 = .ok (.iconst 1, 1) := by decide +kernel
theorem dX2_walk_46 : decode cX2_walk 46 = .ok (.goto 4, 3) := by decide +kernel
theorem dX2_walk_49 : decode cX2_walk 49 = .ok (.iconst (-1), 1) := by decide +kernel
theorem dX2_walk_50 : decode cX2_walk 50 = .ok (.invokestatic 58, 3) := by decide +kernel
theorem dX2_walk_53 : decode cX2_walk 53 = .ok (.aload_n 0, 1) := by decide +kernel
theorem dX2_walk_54 : decode cX2_walk 54 = .ok (.getfield 21, 3) := by decide +kernel
theorem dX2_walk_57 : decode cX2_walk 57 = .ok (.iload_n 1, 1) := by decide +kernel
theorem dX2_walk_58 : decode cX2_walk 58 = .ok (.aload_n 0, 1) := by decide +kernel
theorem dX2_walk_59 : decode cX2_walk 59 = .ok (.iload_n 1, 1) := by decide +kernel
theorem dX2_walk_60 : decode cX2_walk 60 = .ok (.invokevirtual 43, 3) := by decide +kernel
theorem dX2_walk_63 : decode cX2_walk 63 = .ok (.ifCond .eq 7, 3) := by decide +kernel
theorem dX2_walk_66 : decode cX2_walk 66 = .ok (.iconst 0, 1) := by decide +kernel
theorem dX2_walk_67 : decode cX2_walk 67 = .ok (.goto 4, 3) := by decide +kernel
theorem dX2_walk_70 : decode cX2_walk 70 = .ok (.iload_n 2, 1) := by decide +kernel
theorem dX2_walk_71 : decode cX2_walk 71 = .ok (.invokestatic 35, 3) := by decide +kernel
theorem dX2_walk_74 : decode cX2_walk 74 = .ok (.return_, 1) := by decide +kernel
theorem dX2_moveUp_0 : decode cX2_moveUp 0 = .ok (.aload_n 0, 1) := by decide +kernel
theorem dX2_moveUp_1 : decode cX2_moveUp 1 = .ok (.getfield 9, 3) := by decide +kernel
theorem dX2_moveUp_4 : decode cX2_moveUp 4 = .ok (.iload_n 2, 1) := by decide +kernel
theorem dX2_moveUp_5 : decode cX2_moveUp 5 = .ok (.aload_n 0, 1) := by decide +kernel
theorem dX2_moveUp_6 : decode cX2_moveUp 6 = .ok (.getfield 9, 3) := by decide +kernel
theorem dX2_moveUp_9 : decode cX2_moveUp 9 = .ok (.iload_n 1, 1) := by decide +kernel
theorem dX2_moveUp_10 : decode cX2_moveUp 10 = .ok (.invokestatic 47, 3) := by decide +kernel
theorem dX2_moveUp_13 : decode cX2_moveUp 13 = .ok (.invokestatic 35, 3) := by decide +kernel
theorem dX2_moveUp_16 : decode cX2_moveUp 16 = .ok (.aload_n 0, 1) := by decide +kernel
theorem dX2_moveUp_17 : decode cX2_moveUp 17 = .ok (.getfield 15, 3) := by decide +kernel
theorem dX2_moveUp_20 : decode cX2_moveUp 20 = .ok (.iload_n 2, 1) := by decide +kernel
theorem dX2_moveUp_21 : decode cX2_moveUp 21 = .ok (.aload_n 0, 1) := by decide +kernel
theorem dX2_moveUp_22 : decode cX2_moveUp 22 = .ok (.getfield 15, 3) := by decide +kernel
theorem dX2_moveUp_25 : decode cX2_moveUp 25 = .ok (.iload_n 1, 1) := by decide +kernel
theorem dX2_moveUp_26 : decode cX2_moveUp 26 = .ok (.invokestatic 47, 3) := by decide +kernel
theorem dX2_moveUp_29 : decode cX2_moveUp 29 = .ok (.invokestatic 35, 3) := by decide +kernel
theorem dX2_moveUp_32 : decode cX2_moveUp 32 = .ok (.aload_n 0, 1) := by decide +kernel
theorem dX2_moveUp_33 : decode cX2_moveUp 33 = .ok (.getfield 18, 3) := by decide +kernel
theorem dX2_moveUp_36 : decode cX2_moveUp 36 = .ok (.iload_n 2, 1) := by decide +kernel
theorem dX2_moveUp_37 : decode cX2_moveUp 37 = .ok (.aload_n 0, 1) := by decide +kernel
theorem dX2_moveUp_38 : decode cX2_moveUp 38 = .ok (.getfield 18, 3) := by decide +kernel
theorem dX2_moveUp_41 : decode cX2_moveUp 41 = .ok (.iload_n 1, 1) := by decide +kernel
theorem dX2_moveUp_42 : decode cX2_moveUp 42 = .ok (.invokestatic 47, 3) := by decide +kernel
theorem dX2_moveUp_45 : decode cX2_moveUp 45 = .ok (.invokestatic 35, 3) := by decide +kernel
theorem dX2_moveUp_48 : decode cX2_moveUp 48 = .ok (.aload_n 0, 1) := by decide +kernel
theorem dX2_moveUp_49 : decode cX2_moveUp 49 = .ok (.getfield 21, 3) := by decide +kernel
theorem dX2_moveUp_52 : decode cX2_moveUp 52 = .ok (.iload_n 2, 1) := by decide +kernel
theorem dX2_moveUp_53 : decode cX2_moveUp 53 = .ok (.aload_n 0, 1) := by decide +kernel
theorem dX2_moveUp_54 : decode cX2_moveUp 54 = .ok (.getfield 21, 3) := by decide +kernel
theorem dX2_moveUp_57 : decode cX2_moveUp 57 = .ok (.iload_n 1, 1) := by decide +kernel
theorem dX2_moveUp_58 : decode cX2_moveUp 58 = .ok (.invokestatic 47, 3) := by decide +kernel
theorem dX2_moveUp_61 : decode cX2_moveUp 61 = .ok (.invokestatic 35, 3) := by decide +kernel
theorem dX2_moveUp_64 : decode cX2_moveUp 64 = .ok (.return_, 1) := by decide +kernel
theorem dX2_personNumber_0 : decode cX2_personNumber 0 = .ok (.iload_n 1, 1) := by decide +kernel
theorem dX2_personNumber_1 : decode cX2_personNumber 1 = .ok (.aload_n 0, 1) := by decide +kernel
theorem dX2_personNumber_2 : decode cX2_personNumber 2 = .ok (.getfield 24, 3) := by decide +kernel
theorem dX2_personNumber_5 : decode cX2_personNumber 5 = .ok (.if_icmp .lt 5, 3) := by decide +kernel
theorem dX2_personNumber_8 : decode cX2_personNumber 8 = .ok (.iconst (-1), 1) := by decide +kernel
theorem dX2_personNumber_9 : decode cX2_personNumber 9 = .ok (.ireturn, 1) := by decide +kernel
theorem dX2_personNumber_10 : decode cX2_personNumber 10 = .ok (.iload_n 2, 1) := by decide +kernel
theorem dX2_personNumber_11 : decode cX2_personNumber 11 = .ok (.tableswitch 52 0 2 #[25, 34, 43], 25) := by decide +kernel
theorem dX2_personNumber_36 : decode cX2_personNumber 36 = .ok (.aload_n 0, 1) := by decide +kernel
theorem dX2_personNumber_37 : decode cX2_personNumber 37 = .ok (.getfield 9, 3) := by decide +kernel
theorem dX2_personNumber_40 : decode cX2_personNumber 40 = .ok (.iload_n 1, 1) := by decide +kernel
theorem dX2_personNumber_41 : decode cX2_personNumber 41 = .ok (.invokestatic 47, 3) := by decide +kernel
theorem dX2_personNumber_44 : decode cX2_personNumber 44 = .ok (.ireturn, 1) := by decide +kernel
theorem dX2_personNumber_45 : decode cX2_personNumber 45 = .ok (.aload_n 0, 1) := by decide +kernel
theorem dX2_personNumber_46 : decode cX2_personNumber 46 = .ok (.getfield 15, 3) := by decide +kernel
theorem dX2_personNumber_49 : decode cX2_personNumber 49 = .ok (.iload_n 1, 1) := by decide +kernel
theorem dX2_personNumber_50 : decode cX2_personNumber 50 = .ok (.invokestatic 47, 3) := by decide +kernel
theorem dX2_personNumber_53 : decode cX2_personNumber 53 = .ok (.ireturn, 1) := by decide +kernel
theorem dX2_personNumber_54 : decode cX2_personNumber 54 = .ok (.aload_n 0, 1) := by decide +kernel
theorem dX2_personNumber_55 : decode cX2_personNumber 55 = .ok (.getfield 18, 3) := by decide +kernel
theorem dX2_personNumber_58 : decode cX2_personNumber 58 = .ok (.iload_n 1, 1) := by decide +kernel
theorem dX2_personNumber_59 : decode cX2_personNumber 59 = .ok (.invokestatic 47, 3) := by decide +kernel
theorem dX2_personNumber_62 : decode cX2_personNumber 62 = .ok (.ireturn, 1) := by decide +kernel
theorem dX2_personNumber_63 : decode cX2_personNumber 63 = .ok (.aload_n 0, 1) := by decide +kernel
theorem dX2_personNumber_64 : decode cX2_personNumber 64 = .ok (.getfield 21, 3) := by decide +kernel
theorem dX2_personNumber_67 : decode cX2_personNumber 67 = .ok (.iload_n 1, 1) := by decide +kernel
theorem dX2_personNumber_68 : decode cX2_personNumber 68 = .ok (.invokestatic 47, 3) := by decide +kernel
theorem dX2_personNumber_71 : decode cX2_personNumber 71 = .ok (.ireturn, 1) := by decide +kernel
theorem dX3_init_0 : decode cX3_init 0 = .ok (.aload_n 0, 1) := by decide +kernel
theorem dX3_init_1 : decode cX3_init 1 = .ok (.invokespecial 3, 3) := by decide +kernel
theorem dX3_init_4 : decode cX3_init 4 = .ok (.aload_n 0, 1) := by decide +kernel
theorem dX3_init_5 : decode cX3_init 5 = .ok (.new 9, 3) := by decide +kernel
theorem dX3_init_8 : decode cX3_init 8 = .ok (.dup, 1) := by decide +kernel
theorem dX3_init_9 : decode cX3_init 9 = .ok (.invokespecial 11, 3) := by decide +kernel
theorem dX3_init_12 : decode cX3_init 12 = .ok (.putfield 12, 3) := by decide +kernel
theorem dX3_init_15 : decode cX3_init 15 = .ok (.aload_n 0, 1) := by decide +kernel
theorem dX3_init_16 : decode cX3_init 16 = .ok (.new 18, 3) := by decide +kernel
theorem dX3_init_19 : decode cX3_init 19 = .ok (.dup, 1) := by decide +kernel
theorem dX3_init_20 : decode cX3_init 20 = .ok (.invokespecial 20, 3) := by decide +kernel
theorem dX3_init_23 : decode cX3_init 23 = .ok (.putfield 21, 3) := by decide +kernel
theorem dX3_init_26 : decode cX3_init 26 = .ok (.aload_n 0, 1) := by decide +kernel
theorem dX3_init_27 : decode cX3_init 27 = .ok (.getstatic 25, 3) := by decide +kernel
theorem dX3_init_30 : decode cX3_init 30 = .ok (.arraylength, 1) := by decide +kernel
theorem dX3_init_31 : decode cX3_init 31 = .ok (.newarray .int, 2) := by decide +kernel
theorem dX3_init_33 : decode cX3_init 33 = .ok (.putfield 29, 3) := by decide +kernel
theorem dX3_init_36 : decode cX3_init 36 = .ok (.getstatic 25, 3) := by decide +kernel
theorem dX3_init_39 : decode cX3_init 39 = .ok (.aload_n 0, 1) := by decide +kernel
theorem dX3_init_40 : decode cX3_init 40 = .ok (.getfield 29, 3) := by decide +kernel
theorem dX3_init_43 : decode cX3_init 43 = .ok (.invokestatic 32, 3) := by decide +kernel
theorem dX3_init_46 : decode cX3_init 46 = .ok (.aload_n 0, 1) := by decide +kernel
theorem dX3_init_47 : decode cX3_init 47 = .ok (.iconst 0, 1) := by decide +kernel
theorem dX3_init_48 : decode cX3_init 48 = .ok (.putfield 36, 3) := by decide +kernel
theorem dX3_init_51 : decode cX3_init 51 = .ok (.aload_n 0, 1) := by decide +kernel
theorem dX3_init_52 : decode cX3_init 52 = .ok (.iconst 0, 1) := by decide +kernel
theorem dX3_init_53 : decode cX3_init 53 = .ok (.putfield 40, 3) := by decide +kernel
theorem dX3_init_56 : decode cX3_init 56 = .ok (.aload_n 0, 1) := by decide +kernel
theorem dX3_init_57 : decode cX3_init 57 = .ok (.iconst 0, 1) := by decide +kernel
theorem dX3_init_58 : decode cX3_init 58 = .ok (.putfield 43, 3) := by decide +kernel
theorem dX3_init_61 : decode cX3_init 61 = .ok (.aload_n 0, 1) := by decide +kernel
theorem dX3_init_62 : decode cX3_init 62 = .ok (.iconst 0, 1) := by decide +kernel
theorem dX3_init_63 : decode cX3_init 63 = .ok (.putfield 47, 3) := by decide +kernel
theorem dX3_init_66 : decode cX3_init 66 = .ok (.return_, 1) := by decide +kernel
theorem dX3_copyFrom_0 : decode cX3_copyFrom 0 = .ok (.aload_n 0, 1) := by decide +kernel
theorem dX3_copyFrom_1 : decode cX3_copyFrom 1 = .ok (.getfield 12, 3) := by decide +kernel
theorem dX3_copyFrom_4 : decode cX3_copyFrom 4 = .ok (.aload_n 1, 1) := by decide +kernel
theorem dX3_copyFrom_5 : decode cX3_copyFrom 5 = .ok (.getfield 12, 3) := by decide +kernel
theorem dX3_copyFrom_8 : decode cX3_copyFrom 8 = .ok (.invokevirtual 50, 3) := by decide +kernel
theorem dX3_copyFrom_11 : decode cX3_copyFrom 11 = .ok (.aload_n 0, 1) := by decide +kernel
theorem dX3_copyFrom_12 : decode cX3_copyFrom 12 = .ok (.getfield 21, 3) := by decide +kernel
theorem dX3_copyFrom_15 : decode cX3_copyFrom 15 = .ok (.aload_n 1, 1) := by decide +kernel
theorem dX3_copyFrom_16 : decode cX3_copyFrom 16 = .ok (.getfield 21, 3) := by decide +kernel
theorem dX3_copyFrom_19 : decode cX3_copyFrom 19 = .ok (.invokevirtual 54, 3) := by decide +kernel
theorem dX3_copyFrom_22 : decode cX3_copyFrom 22 = .ok (.aload_n 1, 1) := by decide +kernel
theorem dX3_copyFrom_23 : decode cX3_copyFrom 23 = .ok (.getfield 29, 3) := by decide +kernel
theorem dX3_copyFrom_26 : decode cX3_copyFrom 26 = .ok (.aload_n 0, 1) := by decide +kernel
theorem dX3_copyFrom_27 : decode cX3_copyFrom 27 = .ok (.getfield 29, 3) := by decide +kernel
theorem dX3_copyFrom_30 : decode cX3_copyFrom 30 = .ok (.invokestatic 32, 3) := by decide +kernel
theorem dX3_copyFrom_33 : decode cX3_copyFrom 33 = .ok (.aload_n 0, 1) := by decide +kernel
theorem dX3_copyFrom_34 : decode cX3_copyFrom 34 = .ok (.aload_n 1, 1) := by decide +kernel
theorem dX3_copyFrom_35 : decode cX3_copyFrom 35 = .ok (.getfield 36, 3) := by decide +kernel
theorem dX3_copyFrom_38 : decode cX3_copyFrom 38 = .ok (.putfield 36, 3) := by decide +kernel
theorem dX3_copyFrom_41 : decode cX3_copyFrom 41 = .ok (.aload_n 0, 1) := by decide +kernel
theorem dX3_copyFrom_42 : decode cX3_copyFrom 42 = .ok (.aload_n 1, 1) := by decide +kernel
theorem dX3_copyFrom_43 : decode cX3_copyFrom 43 = .ok (.getfield 40, 3) := by decide +kernel
theorem dX3_copyFrom_46 : decode cX3_copyFrom 46 = .ok (.putfield 40, 3) := by decide +kernel
theorem dX3_copyFrom_49 : decode cX3_copyFrom 49 = .ok (.aload_n 0, 1) := by decide +kernel
theorem dX3_copyFrom_50 : decode cX3_copyFrom 50 = .ok (.aload_n 1, 1) := by decide +kernel
theorem dX3_copyFrom_51 : decode cX3_copyFrom 51 = .ok (.getfield 43, 3) := by decide +kernel
theorem dX3_copyFrom_54 : decode cX3_copyFrom 54 = .ok (.putfield 43, 3) := by decide +kernel
theorem dX3_copyFrom_57 : decode cX3_copyFrom 57 = .ok (.aload_n 0, 1) := by decide +kernel
theorem dX3_copyFrom_58 : decode cX3_copyFrom 58 = .ok (.aload_n 1, 1) := by decide +kernel
theorem dX3_copyFrom_59 : decode cX3_copyFrom 59 = .ok (.getfield 47, 3) := by decide +kernel
theorem dX3_copyFrom_62 : decode cX3_copyFrom 62 = .ok (.putfield 47, 3) := by decide +kernel
theorem dX3_copyFrom_65 : decode cX3_copyFrom 65 = .ok (.return_, 1) := by decide +kernel
theorem dX3_letCome_0 : decode cX3_letCome 0 = .ok (.aload_n 0, 1) := by decide +kernel
theorem dX3_letCome_1 : decode cX3_letCome 1 = .ok (.getfield 21, 3) := by decide +kernel
theorem dX3_letCome_4 : decode cX3_letCome 4 = .ok (.iload_n 1, 1) := by decide +kernel
theorem dX3_letCome_5 : decode cX3_letCome 5 = .ok (.iload_n 2, 1) := by decide +kernel
theorem dX3_letCome_6 : decode cX3_letCome 6 = .ok (.aload_n 0, 1) := by decide +kernel
theorem dX3_letCome_7 : decode cX3_letCome 7 = .ok (.getfield 29, 3) := by decide +kernel
theorem dX3_letCome_10 : decode cX3_letCome 10 = .ok (.iconst 3, 1) := by decide +kernel
theorem dX3_letCome_11 : decode cX3_letCome 11 = .ok (.invokestatic 57, 3) := by decide +kernel
theorem dX3_letCome_14 : decode cX3_letCome 14 = .ok (.invokevirtual 61, 3) := by decide +kernel
theorem dX3_letCome_17 : decode cX3_letCome 17 = .ok (.ireturn, 1) := by decide +kernel
theorem dX3_switchOn_0 : decode cX3_switchOn 0 = .ok (.aload_n 0, 1) := by decide +kernel
theorem dX3_switchOn_1 : decode cX3_switchOn 1 = .ok (.getfield 12, 3) := by decide +kernel
theorem dX3_switchOn_4 : decode cX3_switchOn 4 = .ok (.iload_n 1, 1) := by decide +kernel
theorem dX3_switchOn_5 : decode cX3_switchOn 5 = .ok (.aload_n 0, 1) := by decide +kernel
theorem dX3_switchOn_6 : decode cX3_switchOn 6 = .ok (.getfield 29, 3) := by decide +kernel
theorem dX3_switchOn_9 : decode cX3_switchOn 9 = .ok (.iconst 0, 1) := by decide +kernel
theorem dX3_switchOn_10 : decode cX3_switchOn 10 = .ok (.invokestatic 57, 3) := by decide +kernel
theorem dX3_switchOn_13 : decode cX3_switchOn 13 = .ok (.invokevirtual 65, 3) := by decide +kernel
theorem dX3_switchOn_16 : decode cX3_switchOn 16 = .ok (.return_, 1) := by decide +kernel
theorem dX3_switchAllOn_0 : decode cX3_switchAllOn 0 = .ok (.iconst 0, 1) := by decide +kernel
theorem dX3_switchAllOn_1 : decode cX3_switchAllOn 1 = .ok (.istore_n 1, 1) := by decide +kernel
theorem dX3_switchAllOn_2 : decode cX3_switchAllOn 2 = .ok (.iload_n 1, 1) := by decide +kernel
theorem dX3_switchAllOn_3 : decode cX3_switchAllOn 3 = .ok (.bipush 8, 2) := by decide +kernel
theorem dX3_switchAllOn_5 : decode cX3_switchAllOn 5 = .ok (.if_icmp .ge 14, 3) := by decide +kernel
theorem dX3_switchAllOn_8 : decode cX3_switchAllOn 8 = .ok (.aload_n 0, 1) := by decide +kernel
theorem dX3_switchAllOn_9 : decode cX3_switchAllOn 9 = .ok (.iload_n 1, 1) := by decide +kernel
theorem dX3_switchAllOn_10 : decode cX3_switchAllOn 10 = .ok (.invokevirtual 69, 3) := by decide +kernel
theorem dX3_switchAllOn_13 : decode cX3_switchAllOn 13 = .ok (.iinc 1 1, 3) := by decide +kernel
theorem dX3_switchAllOn_16 : decode cX3_switchAllOn 16 = .ok (.goto (-14), 3) := by decide +kernel
theorem dX3_switchAllOn_19 : decode cX3_switchAllOn 19 = .ok (.return_, 1) := by decide +kernel
theorem dX3_lampOf_0 : decode cX3_lampOf 0 = .ok (.aload_n 0, 1) := by decide +kernel
theorem dX3_lampOf_1 : decode cX3_lampOf 1 = .ok (.getfield 40, 3) := by decide +kernel
theorem dX3_lampOf_4 : decode cX3_lampOf 4 = .ok (.ifCond .eq 5, 3) := by decide +kernel
theorem dX3_lampOf_7 : decode cX3_lampOf 7 = .ok (.iconst 3, 1) := by decide +kernel
theorem dX3_lampOf_8 : decode cX3_lampOf 8 = .ok (.ireturn, 1) := by decide +kernel
theorem dX3_lampOf_9 : decode cX3_lampOf 9 = .ok (.aload_n 0, 1) := by decide +kernel
theorem dX3_lampOf_10 : decode cX3_lampOf 10 = .ok (.getfield 12, 3) := by decide +kernel
theorem dX3_lampOf_13 : decode cX3_lampOf 13 = .ok (.getfield 73, 3) := by decide +kernel
theorem dX3_lampOf_16 : decode cX3_lampOf 16 = .ok (.iload_n 1, 1) := by decide +kernel
theorem dX3_lampOf_17 : decode cX3_lampOf 17 = .ok (.invokestatic 57, 3) := by decide +kernel
theorem dX3_lampOf_20 : decode cX3_lampOf 20 = .ok (.istore_n 2, 1) := by decide +kernel
theorem dX3_lampOf_21 : decode cX3_lampOf 21 = .ok (.iload_n 2, 1) := by decide +kernel
theorem dX3_lampOf_22 : decode cX3_lampOf 22 = .ok (.ifCond .ne 16, 3) := by decide +kernel
theorem dX3_lampOf_25 : decode cX3_lampOf 25 = .ok (.aload_n 0, 1) := by decide +kernel
theorem dX3_lampOf_26 : decode cX3_lampOf 26 = .ok (.getfield 36, 3) := by decide +kernel
theorem dX3_lampOf_29 : decode cX3_lampOf 29 = .ok (.ifCond .eq 7, 3) := by decide +kernel
theorem dX3_lampOf_32 : decode cX3_lampOf 32 = .ok (.iconst 1, 1) := by decide +kernel
theorem dX3_lampOf_33 : decode cX3_lampOf 33 = .ok (.goto 4, 3) := by decide +kernel
theorem dX3_lampOf_36 : decode cX3_lampOf 36 = .ok (.iconst 0, 1) := by decide +kernel
theorem dX3_lampOf_37 : decode cX3_lampOf 37 = .ok (.ireturn, 1) := by decide +kernel
theorem dX3_lampOf_38 : decode cX3_lampOf 38 = .ok (.iload_n 2, 1) := by decide +kernel
theorem dX3_lampOf_39 : decode cX3_lampOf 39 = .ok (.aload_n 0, 1) := by decide +kernel
theorem dX3_lampOf_40 : decode cX3_lampOf 40 = .ok (.getfield 29, 3) := by decide +kernel
theorem dX3_lampOf_43 : decode cX3_lampOf 43 = .ok (.iconst 1, 1) := by decide +kernel
theorem dX3_lampOf_44 : decode cX3_lampOf 44 = .ok (.invokestatic 57, 3) := by decide +kernel
theorem dX3_lampOf_47 : decode cX3_lampOf 47 = .ok (.if_icmp .gt 7, 3) := by decide +kernel
theorem dX3_lampOf_50 : decode cX3_lampOf 50 = .ok (.iconst 2, 1) := by decide +kernel
theorem dX3_lampOf_51 : decode cX3_lampOf 51 = .ok (.goto 4, 3) := by decide +kernel
theorem dX3_lampOf_54 : decode cX3_lampOf 54 = .ok (.iconst 3, 1) := by decide +kernel
theorem dX3_lampOf_55 : decode cX3_lampOf 55 = .ok (.ireturn, 1) := by decide +kernel
theorem dX3_lampsBurning_0 : decode cX3_lampsBurning 0 = .ok (.iconst 0, 1) := by decide +kernel
theorem dX3_lampsBurning_1 : decode cX3_lampsBurning 1 = .ok (.istore_n 1, 1) := by decide +kernel
theorem dX3_lampsBurning_2 : decode cX3_lampsBurning 2 = .ok (.iconst 0, 1) := by decide +kernel
theorem dX3_lampsBurning_3 : decode cX3_lampsBurning 3 = .ok (.istore_n 2, 1) := by decide +kernel
theorem dX3_lampsBurning_4 : decode cX3_lampsBurning 4 = .ok (.iload_n 2, 1) := by decide +kernel
theorem dX3_lampsBurning_5 : decode cX3_lampsBurning 5 = .ok (.bipush 8, 2) := by decide +kernel
theorem dX3_lampsBurning_7 : decode cX3_lampsBurning 7 = .ok (.if_icmp .ge 21, 3) := by decide +kernel
theorem dX3_lampsBurning_10 : decode cX3_lampsBurning 10 = .ok (.aload_n 0, 1) := by decide +kernel
theorem dX3_lampsBurning_11 : decode cX3_lampsBurning 11 = .ok (.iload_n 2, 1) := by decide +kernel
theorem dX3_lampsBurning_12 : decode cX3_lampsBurning 12 = .ok (.invokevirtual 76, 3) := by decide +kernel
theorem dX3_lampsBurning_15 : decode cX3_lampsBurning 15 = .ok (.iconst 2, 1) := by decide +kernel
theorem dX3_lampsBurning_16 : decode cX3_lampsBurning 16 = .ok (.if_icmp .lt 6, 3) := by decide +kernel
theorem dX3_lampsBurning_19 : decode cX3_lampsBurning 19 = .ok (.iinc 1 1, 3) := by decide +kernel
theorem dX3_lampsBurning_22 : decode cX3_lampsBurning 22 = .ok (.iinc 2 1, 3) := by decide +kernel
theorem dX3_lampsBurning_25 : decode cX3_lampsBurning 25 = .ok (.goto (-21), 3) := by decide +kernel
theorem dX3_lampsBurning_28 : decode cX3_lampsBurning 28 = .ok (.iload_n 1, 1) := by decide +kernel
theorem dX3_lampsBurning_29 : decode cX3_lampsBurning 29 = .ok (.ireturn, 1) := by decide +kernel
theorem dX3_letPass_0 : decode cX3_letPass 0 = .ok (.aload_n 0, 1) := by decide +kernel
theorem dX3_letPass_1 : decode cX3_letPass 1 = .ok (.getfield 12, 3) := by decide +kernel
theorem dX3_letPass_4 : decode cX3_letPass 4 = .ok (.getfield 80, 3) := by decide +kernel
theorem dX3_letPass_7 : decode cX3_letPass 7 = .ok (.invokestatic 83, 3) := by decide +kernel
theorem dX3_letPass_10 : decode cX3_letPass 10 = .ok (.istore_n 2, 1) := by decide +kernel
theorem dX3_letPass_11 : decode cX3_letPass 11 = .ok (.iconst 0, 1) := by decide +kernel
theorem dX3_letPass_12 : decode cX3_letPass 12 = .ok (.istore_n 3, 1) := by decide +kernel
theorem dX3_letPass_13 : decode cX3_letPass 13 = .ok (.iload_n 3, 1) := by decide +kernel
theorem dX3_letPass_14 : decode cX3_letPass 14 = .ok (.iload_n 1, 1) := by decide +kernel
theorem dX3_letPass_15 : decode cX3_letPass 15 = .ok (.if_icmp .ge 17, 3) := by decide +kernel
theorem dX3_letPass_18 : decode cX3_letPass 18 = .ok (.aload_n 0, 1) := by decide +kernel
theorem dX3_letPass_19 : decode cX3_letPass 19 = .ok (.invokevirtual 87, 3) := by decide +kernel
theorem dX3_letPass_22 : decode cX3_letPass 22 = .ok (.aload_n 0, 1) := by decide +kernel
theorem dX3_letPass_23 : decode cX3_letPass 23 = .ok (.invokevirtual 90, 3) := by decide +kernel
theorem dX3_letPass_26 : decode cX3_letPass 26 = .ok (.iinc 3 1, 3) := by decide +kernel
theorem dX3_letPass_29 : decode cX3_letPass 29 = .ok (.goto (-16), 3) := by decide +kernel
theorem dX3_letPass_32 : decode cX3_letPass 32 = .ok (.aload_n 0, 1) := by decide +kernel
theorem dX3_letPass_33 : decode cX3_letPass 33 = .ok (.getfield 12, 3) := by decide +kernel
theorem dX3_letPass_36 : decode cX3_letPass 36 = .ok (.getfield 80, 3) := by decide +kernel
theorem dX3_letPass_39 : decode cX3_letPass 39 = .ok (.invokestatic 83, 3) := by decide +kernel
theorem dX3_letPass_42 : decode cX3_letPass 42 = .ok (.iload_n 2, 1) := by decide +kernel
theorem dX3_letPass_43 : decode cX3_letPass 43 = .ok (.isub, 1) := by decide +kernel
theorem dX3_letPass_44 : decode cX3_letPass 44 = .ok (.ireturn, 1) := by decide +kernel
theorem dX3_waitForRoom_0 : decode cX3_waitForRoom 0 = .ok (.iconst 0, 1) := by decide +kernel
theorem dX3_waitForRoom_1 : decode cX3_waitForRoom 1 = .ok (.istore_n 1, 1) := by decide +kernel
theorem dX3_waitForRoom_2 : decode cX3_waitForRoom 2 = .ok (.aload_n 0, 1) := by decide +kernel
theorem dX3_waitForRoom_3 : decode cX3_waitForRoom 3 = .ok (.getfield 21, 3) := by decide +kernel
theorem dX3_waitForRoom_6 : decode cX3_waitForRoom 6 = .ok (.getfield 93, 3) := by decide +kernel
theorem dX3_waitForRoom_9 : decode cX3_waitForRoom 9 = .ok (.bipush 6, 2) := by decide +kernel
theorem dX3_waitForRoom_11 : decode cX3_waitForRoom 11 = .ok (.if_icmp .lt 22, 3) := by decide +kernel
theorem dX3_waitForRoom_14 : decode cX3_waitForRoom 14 = .ok (.iload_n 1, 1) := by decide +kernel
theorem dX3_waitForRoom_15 : decode cX3_waitForRoom 15 = .ok (.sipush 480, 3) := by decide +kernel
theorem dX3_waitForRoom_18 : decode cX3_waitForRoom 18 = .ok (.if_icmp .ge 15, 3) := by decide +kernel
theorem dX3_waitForRoom_21 : decode cX3_waitForRoom 21 = .ok (.aload_n 0, 1) := by decide +kernel
theorem dX3_waitForRoom_22 : decode cX3_waitForRoom 22 = .ok (.iconst 1, 1) := by decide +kernel
theorem dX3_waitForRoom_23 : decode cX3_waitForRoom 23 = .ok (.invokevirtual 96, 3) := by decide +kernel
theorem dX3_waitForRoom_26 : decode cX3_waitForRoom 26 = .ok (.pop, 1) := by decide +kernel
theorem dX3_waitForRoom_27 : decode cX3_waitForRoom 27 = .ok (.iinc 1 1, 3) := by decide +kernel
theorem dX3_waitForRoom_30 : decode cX3_waitForRoom 30 = .ok (.goto (-28), 3) := by decide +kernel
theorem dX3_waitForRoom_33 : decode cX3_waitForRoom 33 = .ok (.iload_n 1, 1) := by decide +kernel
theorem dX3_waitForRoom_34 : decode cX3_waitForRoom 34 = .ok (.ireturn, 1) := by decide +kernel
theorem dX3_beginSecond_0 : decode cX3_beginSecond 0 = .ok (.aload_n 0, 1) := by decide +kernel
theorem dX3_beginSecond_1 : decode cX3_beginSecond 1 = .ok (.getfield 21, 3) := by decide +kernel
theorem dX3_beginSecond_4 : decode cX3_beginSecond 4 = .ok (.aload_n 0, 1) := by decide +kernel
theorem dX3_beginSecond_5 : decode cX3_beginSecond 5 = .ok (.getfield 29, 3) := by decide +kernel
theorem dX3_beginSecond_8 : decode cX3_beginSecond 8 = .ok (.iconst 3, 1) := by decide +kernel
theorem dX3_beginSecond_9 : decode cX3_beginSecond 9 = .ok (.invokestatic 57, 3) := by decide +kernel
theorem dX3_beginSecond_12 : decode cX3_beginSecond 12 = .ok (.invokevirtual 99, 3) := by decide +kernel
theorem dX3_beginSecond_15 : decode cX3_beginSecond 15 = .ok (.iconst 0, 1) := by decide +kernel
theorem dX3_beginSecond_16 : decode cX3_beginSecond 16 = .ok (.istore_n 1, 1) := by decide +kernel
theorem dX3_beginSecond_17 : decode cX3_beginSecond 17 = .ok (.iload_n 1, 1) := by decide +kernel
theorem dX3_beginSecond_18 : decode cX3_beginSecond 18 = .ok (.bipush 8, 2) := by decide +kernel
theorem dX3_beginSecond_20 : decode cX3_beginSecond 20 = .ok (.if_icmp .ge 66, 3) := by decide +kernel
theorem dX3_beginSecond_23 : decode cX3_beginSecond 23 = .ok (.aload_n 0, 1) := by decide +kernel
theorem dX3_beginSecond_24 : decode cX3_beginSecond 24 = .ok (.getfield 12, 3) := by decide +kernel
theorem dX3_beginSecond_27 : decode cX3_beginSecond 27 = .ok (.getfield 102, 3) := by decide +kernel
theorem dX3_beginSecond_30 : decode cX3_beginSecond 30 = .ok (.iload_n 1, 1) := by decide +kernel
theorem dX3_beginSecond_31 : decode cX3_beginSecond 31 = .ok (.invokestatic 57, 3) := by decide +kernel
theorem dX3_beginSecond_34 : decode cX3_beginSecond 34 = .ok (.iconst 1, 1) := by decide +kernel
theorem dX3_beginSecond_35 : decode cX3_beginSecond 35 = .ok (.if_icmp .ne 45, 3) := by decide +kernel
theorem dX3_beginSecond_38 : decode cX3_beginSecond 38 = .ok (.aload_n 0, 1) := by decide +kernel
theorem dX3_beginSecond_39 : decode cX3_beginSecond 39 = .ok (.getfield 21, 3) := by decide +kernel
theorem dX3_beginSecond_42 : decode cX3_beginSecond 42 = .ok (.iload_n 1, 1) := by decide +kernel
theorem dX3_beginSecond_43 : decode cX3_beginSecond 43 = .ok (.invokevirtual 105, 3) := by decide +kernel
theorem dX3_beginSecond_46 : decode cX3_beginSecond 46 = .ok (.ifCond .le 34, 3) := by decide +kernel
theorem dX3_beginSecond_49 : decode cX3_beginSecond 49 = .ok (.aload_n 0, 1) := by decide +kernel
theorem dX3_beginSecond_50 : decode cX3_beginSecond 50 = .ok (.iload_n 1, 1) := by decide +kernel
theorem dX3_beginSecond_51 : decode cX3_beginSecond 51 = .ok (.invokevirtual 69, 3) := by decide +kernel
theorem dX3_beginSecond_54 : decode cX3_beginSecond 54 = .ok (.aload_n 0, 1) := by decide +kernel
theorem dX3_beginSecond_55 : decode cX3_beginSecond 55 = .ok (.getfield 29, 3) := by decide +kernel
theorem dX3_beginSecond_58 : decode cX3_beginSecond 58 = .ok (.iconst 2, 1) := by decide +kernel
theorem dX3_beginSecond_59 : decode cX3_beginSecond 59 = .ok (.invokestatic 57, 3) := by decide +kernel
theorem dX3_beginSecond_62 : decode cX3_beginSecond 62 = .ok (.iconst 1, 1) := by decide +kernel
theorem dX3_beginSecond_63 : decode cX3_beginSecond 63 = .ok (.if_icmp .ne 17, 3) := by decide +kernel
theorem dX3_beginSecond_66 : decode cX3_beginSecond 66 = .ok (.aload_n 0, 1) := by decide +kernel
theorem dX3_beginSecond_67 : decode cX3_beginSecond 67 = .ok (.iload_n 1, 1) := by decide +kernel
theorem dX3_beginSecond_68 : decode cX3_beginSecond 68 = .ok (.iconst 1, 1) := by decide +kernel
theorem dX3_beginSecond_69 : decode cX3_beginSecond 69 = .ok (.isub, 1) := by decide +kernel
theorem dX3_beginSecond_70 : decode cX3_beginSecond 70 = .ok (.invokevirtual 69, 3) := by decide +kernel
theorem dX3_beginSecond_73 : decode cX3_beginSecond 73 = .ok (.aload_n 0, 1) := by decide +kernel
theorem dX3_beginSecond_74 : decode cX3_beginSecond 74 = .ok (.iload_n 1, 1) := by decide +kernel
theorem dX3_beginSecond_75 : decode cX3_beginSecond 75 = .ok (.iconst 1, 1) := by decide +kernel
theorem dX3_beginSecond_76 : decode cX3_beginSecond 76 = .ok (.iadd, 1) := by decide +kernel
theorem dX3_beginSecond_77 : decode cX3_beginSecond 77 = .ok (.invokevirtual 69, 3) := by decide +kernel
theorem dX3_beginSecond_80 : decode cX3_beginSecond 80 = .ok (.iinc 1 1, 3) := by decide +kernel
theorem dX3_beginSecond_83 : decode cX3_beginSecond 83 = .ok (.goto (-66), 3) := by decide +kernel
theorem dX3_beginSecond_86 : decode cX3_beginSecond 86 = .ok (.return_, 1) := by decide +kernel
theorem dX3_endSecond_0 : decode cX3_endSecond 0 = .ok (.iconst 0, 1) := by decide +kernel
theorem dX3_endSecond_1 : decode cX3_endSecond 1 = .ok (.istore_n 1, 1) := by decide +kernel
theorem dX3_endSecond_2 : decode cX3_endSecond 2 = .ok (.iload_n 1, 1) := by decide +kernel
theorem dX3_endSecond_3 : decode cX3_endSecond 3 = .ok (.aload_n 0, 1) := by decide +kernel
theorem dX3_endSecond_4 : decode cX3_endSecond 4 = .ok (.getfield 21, 3) := by decide +kernel
theorem dX3_endSecond_7 : decode cX3_endSecond 7 = .ok (.getfield 93, 3) := by decide +kernel
theorem dX3_endSecond_10 : decode cX3_endSecond 10 = .ok (.if_icmp .ge 24, 3) := by decide +kernel
theorem dX3_endSecond_13 : decode cX3_endSecond 13 = .ok (.aload_n 0, 1) := by decide +kernel
theorem dX3_endSecond_14 : decode cX3_endSecond 14 = .ok (.aload_n 0, 1) := by decide +kernel
theorem dX3_endSecond_15 : decode cX3_endSecond 15 = .ok (.getfield 21, 3) := by decide +kernel
theorem dX3_endSecond_18 : decode cX3_endSecond 18 = .ok (.getfield 108, 3) := by decide +kernel
theorem dX3_endSecond_21 : decode cX3_endSecond 21 = .ok (.iload_n 1, 1) := by decide +kernel
theorem dX3_endSecond_22 : decode cX3_endSecond 22 = .ok (.invokestatic 57, 3) := by decide +kernel
theorem dX3_endSecond_25 : decode cX3_endSecond 25 = .ok (.invokevirtual 110, 3) := by decide +kernel
theorem dX3_endSecond_28 : decode cX3_endSecond 28 = .ok (.iinc 1 1, 3) := by decide +kernel
theorem dX3_endSecond_31 : decode cX3_endSecond 31 = .ok (.goto (-29), 3) := by decide +kernel
theorem dX3_endSecond_34 : decode cX3_endSecond 34 = .ok (.iconst 0, 1) := by decide +kernel
theorem dX3_endSecond_35 : decode cX3_endSecond 35 = .ok (.istore_n 1, 1) := by decide +kernel
theorem dX3_endSecond_36 : decode cX3_endSecond 36 = .ok (.iload_n 1, 1) := by decide +kernel
theorem dX3_endSecond_37 : decode cX3_endSecond 37 = .ok (.bipush 8, 2) := by decide +kernel
theorem dX3_endSecond_39 : decode cX3_endSecond 39 = .ok (.if_icmp .ge 36, 3) := by decide +kernel
theorem dX3_endSecond_42 : decode cX3_endSecond 42 = .ok (.aload_n 0, 1) := by decide +kernel
theorem dX3_endSecond_43 : decode cX3_endSecond 43 = .ok (.getfield 12, 3) := by decide +kernel
theorem dX3_endSecond_46 : decode cX3_endSecond 46 = .ok (.getfield 113, 3) := by decide +kernel
theorem dX3_endSecond_49 : decode cX3_endSecond 49 = .ok (.iload_n 1, 1) := by decide +kernel
theorem dX3_endSecond_50 : decode cX3_endSecond 50 = .ok (.aload_n 0, 1) := by decide +kernel
theorem dX3_endSecond_51 : decode cX3_endSecond 51 = .ok (.iload_n 1, 1) := by decide +kernel
theorem dX3_endSecond_52 : decode cX3_endSecond 52 = .ok (.invokevirtual 76, 3) := by decide +kernel
theorem dX3_endSecond_55 : decode cX3_endSecond 55 = .ok (.invokestatic 116, 3) := by decide +kernel
theorem dX3_endSecond_58 : decode cX3_endSecond 58 = .ok (.invokestatic 119, 3) := by decide +kernel
theorem dX3_endSecond_61 : decode cX3_endSecond 61 = .ok (.aload_n 0, 1) := by decide +kernel
theorem dX3_endSecond_62 : decode cX3_endSecond 62 = .ok (.getfield 12, 3) := by decide +kernel
theorem dX3_endSecond_65 : decode cX3_endSecond 65 = .ok (.iload_n 1, 1) := by decide +kernel
theorem dX3_endSecond_66 : decode cX3_endSecond 66 = .ok (.invokevirtual 123, 3) := by decide +kernel
theorem dX3_endSecond_69 : decode cX3_endSecond 69 = .ok (.iinc 1 1, 3) := by decide +kernel
theorem dX3_endSecond_72 : decode cX3_endSecond 72 = .ok (.goto (-36), 3) := by decide +kernel
theorem dX3_endSecond_75 : decode cX3_endSecond 75 = .ok (.aload_n 0, 1) := by decide +kernel
theorem dX3_endSecond_76 : decode cX3_endSecond 76 = .ok (.dup, 1) := by decide +kernel
theorem dX3_endSecond_77 : decode cX3_endSecond 77 = .ok (.getfield 43, 3) := by decide +kernel
theorem dX3_endSecond_80 : decode cX3_endSecond 80 = .ok (.iconst 1, 1) := by decide +kernel
theorem dX3_endSecond_81 : decode cX3_endSecond 81 = .ok (.iadd, 1) := by decide +kernel
theorem dX3_endSecond_82 : decode cX3_endSecond 82 = .ok (.putfield 43, 3) := by decide +kernel
theorem dX3_endSecond_85 : decode cX3_endSecond 85 = .ok (.return_, 1) := by decide +kernel
theorem dX3_countSecondOn_0 : decode cX3_countSecondOn 0 = .ok (.aload_n 0, 1) := by decide +kernel
theorem dX3_countSecondOn_1 : decode cX3_countSecondOn 1 = .ok (.iload_n 1, 1) := by decide +kernel
theorem dX3_countSecondOn_2 : decode cX3_countSecondOn 2 = .ok (.invokevirtual 76, 3) := by decide +kernel
theorem dX3_countSecondOn_5 : decode cX3_countSecondOn 5 = .ok (.istore_n 2, 1) := by decide +kernel
theorem dX3_countSecondOn_6 : decode cX3_countSecondOn 6 = .ok (.iload_n 2, 1) := by decide +kernel
theorem dX3_countSecondOn_7 : decode cX3_countSecondOn 7 = .ok (.ifCond .ne 18, 3) := by decide +kernel
theorem dX3_countSecondOn_10 : decode cX3_countSecondOn 10 = .ok (.aload_n 0, 1) := by decide +kernel
theorem dX3_countSecondOn_11 : decode cX3_countSecondOn 11 = .ok (.getfield 12, 3) := by decide +kernel
theorem dX3_countSecondOn_14 : decode cX3_countSecondOn 14 = .ok (.getfield 80, 3) := by decide +kernel
theorem dX3_countSecondOn_17 : decode cX3_countSecondOn 17 = .ok (.iload_n 1, 1) := by decide +kernel
theorem dX3_countSecondOn_18 : decode cX3_countSecondOn 18 = .ok (.iconst 1, 1) := by decide +kernel
theorem dX3_countSecondOn_19 : decode cX3_countSecondOn 19 = .ok (.invokestatic 119, 3) := by decide +kernel
theorem dX3_countSecondOn_22 : decode cX3_countSecondOn 22 = .ok (.goto 20, 3) := by decide +kernel
theorem dX3_countSecondOn_25 : decode cX3_countSecondOn 25 = .ok (.iload_n 2, 1) := by decide +kernel
theorem dX3_countSecondOn_26 : decode cX3_countSecondOn 26 = .ok (.iconst 1, 1) := by decide +kernel
theorem dX3_countSecondOn_27 : decode cX3_countSecondOn 27 = .ok (.if_icmp .ne 15, 3) := by decide +kernel
theorem dX3_countSecondOn_30 : decode cX3_countSecondOn 30 = .ok (.aload_n 0, 1) := by decide +kernel
theorem dX3_countSecondOn_31 : decode cX3_countSecondOn 31 = .ok (.getfield 12, 3) := by decide +kernel
theorem dX3_countSecondOn_34 : decode cX3_countSecondOn 34 = .ok (.getfield 126, 3) := by decide +kernel
theorem dX3_countSecondOn_37 : decode cX3_countSecondOn 37 = .ok (.iload_n 1, 1) := by decide +kernel
theorem dX3_countSecondOn_38 : decode cX3_countSecondOn 38 = .ok (.iconst 1, 1) := by decide +kernel
theorem dX3_countSecondOn_39 : decode cX3_countSecondOn 39 = .ok (.invokestatic 119, 3) := by decide +kernel
theorem dX3_countSecondOn_42 : decode cX3_countSecondOn 42 = .ok (.aload_n 0, 1) := by decide +kernel
theorem dX3_countSecondOn_43 : decode cX3_countSecondOn 43 = .ok (.dup, 1) := by decide +kernel
theorem dX3_countSecondOn_44 : decode cX3_countSecondOn 44 = .ok (.getfield 47, 3) := by decide +kernel
theorem dX3_countSecondOn_47 : decode cX3_countSecondOn 47 = .ok (.iconst 1, 1) := by decide +kernel
theorem dX3_countSecondOn_48 : decode cX3_countSecondOn 48 = .ok (.iadd, 1) := by decide +kernel
theorem dX3_countSecondOn_49 : decode cX3_countSecondOn 49 = .ok (.putfield 47, 3) := by decide +kernel
theorem dX3_countSecondOn_52 : decode cX3_countSecondOn 52 = .ok (.return_, 1) := by decide +kernel
theorem dX3_powerOf_0 : decode cX3_powerOf 0 = .ok (.iload_n 0, 1) := by decide +kernel
theorem dX3_powerOf_1 : decode cX3_powerOf 1 = .ok (.iconst 2, 1) := by decide +kernel
theorem dX3_powerOf_2 : decode cX3_powerOf 2 = .ok (.if_icmp .lt 6, 3) := by decide +kernel
theorem dX3_powerOf_5 : decode cX3_powerOf 5 = .ok (.bipush 10, 2) := by decide +kernel
theorem dX3_powerOf_7 : decode cX3_powerOf 7 = .ok (.ireturn, 1) := by decide +kernel
theorem dX3_powerOf_8 : decode cX3_powerOf 8 = .ok (.iload_n 0, 1) := by decide +kernel
theorem dX3_powerOf_9 : decode cX3_powerOf 9 = .ok (.iconst 1, 1) := by decide +kernel
theorem dX3_powerOf_10 : decode cX3_powerOf 10 = .ok (.if_icmp .ne 7, 3) := by decide +kernel
theorem dX3_powerOf_13 : decode cX3_powerOf 13 = .ok (.iconst 3, 1) := by decide +kernel
theorem dX3_powerOf_14 : decode cX3_powerOf 14 = .ok (.goto 4, 3) := by decide +kernel
theorem dX3_powerOf_17 : decode cX3_powerOf 17 = .ok (.iconst 0, 1) := by decide +kernel
theorem dX3_powerOf_18 : decode cX3_powerOf 18 = .ok (.ireturn, 1) := by decide +kernel
theorem dX3_lightShare_0 : decode cX3_lightShare 0 = .ok (.aload_n 0, 1) := by decide +kernel
theorem dX3_lightShare_1 : decode cX3_lightShare 1 = .ok (.getfield 47, 3) := by decide +kernel
theorem dX3_lightShare_4 : decode cX3_lightShare 4 = .ok (.ifCond .gt 5, 3) := by decide +kernel
theorem dX3_lightShare_7 : decode cX3_lightShare 7 = .ok (.dconst 1, 1) := by decide +kernel
theorem dX3_lightShare_8 : decode cX3_lightShare 8 = .ok (.dreturn, 1) := by decide +kernel
theorem dX3_lightShare_9 : decode cX3_lightShare 9 = .ok (.aload_n 0, 1) := by decide +kernel
theorem dX3_lightShare_10 : decode cX3_lightShare 10 = .ok (.getfield 47, 3) := by decide +kernel
theorem dX3_lightShare_13 : decode cX3_lightShare 13 = .ok (.aload_n 0, 1) := by decide +kernel
theorem dX3_lightShare_14 : decode cX3_lightShare 14 = .ok (.getfield 12, 3) := by decide +kernel
theorem dX3_lightShare_17 : decode cX3_lightShare 17 = .ok (.getfield 80, 3) := by decide +kernel
theorem dX3_lightShare_20 : decode cX3_lightShare 20 = .ok (.invokestatic 83, 3) := by decide +kernel
theorem dX3_lightShare_23 : decode cX3_lightShare 23 = .ok (.isub, 1) := by decide +kernel
theorem dX3_lightShare_24 : decode cX3_lightShare 24 = .ok (.aload_n 0, 1) := by decide +kernel
theorem dX3_lightShare_25 : decode cX3_lightShare 25 = .ok (.getfield 12, 3) := by decide +kernel
theorem dX3_lightShare_28 : decode cX3_lightShare 28 = .ok (.getfield 126, 3) := by decide +kernel
theorem dX3_lightShare_31 : decode cX3_lightShare 31 = .ok (.invokestatic 83, 3) := by decide +kernel
theorem dX3_lightShare_34 : decode cX3_lightShare 34 = .ok (.isub, 1) := by decide +kernel
theorem dX3_lightShare_35 : decode cX3_lightShare 35 = .ok (.istore_n 1, 1) := by decide +kernel
theorem dX3_lightShare_36 : decode cX3_lightShare 36 = .ok (.iload_n 1, 1) := by decide +kernel
theorem dX3_lightShare_37 : decode cX3_lightShare 37 = .ok (.i2d, 1) := by decide +kernel
theorem dX3_lightShare_38 : decode cX3_lightShare 38 = .ok (.aload_n 0, 1) := by decide +kernel
theorem dX3_lightShare_39 : decode cX3_lightShare 39 = .ok (.getfield 47, 3) := by decide +kernel
theorem dX3_lightShare_42 : decode cX3_lightShare 42 = .ok (.i2d, 1) := by decide +kernel
theorem dX3_lightShare_43 : decode cX3_lightShare 43 = .ok (.ddiv, 1) := by decide +kernel
theorem dX3_lightShare_44 : decode cX3_lightShare 44 = .ok (.dreturn, 1) := by decide +kernel
theorem dX3_floorNumber_0 : decode cX3_floorNumber 0 = .ok (.iload_n 2, 1) := by decide +kernel
theorem dX3_floorNumber_1 : decode cX3_floorNumber 1 = .ok (.tableswitch 118 0 6 #[43, 49, 61, 73, 82, 94, 106], 43) := by decide +kernel
theorem dX3_floorNumber_44 : decode cX3_floorNumber 44 = .ok (.aload_n 0, 1) := by decide +kernel
theorem dX3_floorNumber_45 : decode cX3_floorNumber 45 = .ok (.iload_n 1, 1) := by decide +kernel
theorem dX3_floorNumber_46 : decode cX3_floorNumber 46 = .ok (.invokevirtual 76, 3) := by decide +kernel
theorem dX3_floorNumber_49 : decode cX3_floorNumber 49 = .ok (.ireturn, 1) := by decide +kernel
theorem dX3_floorNumber_50 : decode cX3_floorNumber 50 = .ok (.aload_n 0, 1) := by decide +kernel
theorem dX3_floorNumber_51 : decode cX3_floorNumber 51 = .ok (.getfield 12, 3) := by decide +kernel
theorem dX3_floorNumber_54 : decode cX3_floorNumber 54 = .ok (.getfield 73, 3) := by decide +kernel
theorem dX3_floorNumber_57 : decode cX3_floorNumber 57 = .ok (.iload_n 1, 1) := by decide +kernel
theorem dX3_floorNumber_58 : decode cX3_floorNumber 58 = .ok (.invokestatic 57, 3) := by decide +kernel
theorem dX3_floorNumber_61 : decode cX3_floorNumber 61 = .ok (.ireturn, 1) := by decide +kernel
theorem dX3_floorNumber_62 : decode cX3_floorNumber 62 = .ok (.aload_n 0, 1) := by decide +kernel
theorem dX3_floorNumber_63 : decode cX3_floorNumber 63 = .ok (.getfield 12, 3) := by decide +kernel
theorem dX3_floorNumber_66 : decode cX3_floorNumber 66 = .ok (.getfield 102, 3) := by decide +kernel
theorem dX3_floorNumber_69 : decode cX3_floorNumber 69 = .ok (.iload_n 1, 1) := by decide +kernel
theorem dX3_floorNumber_70 : decode cX3_floorNumber 70 = .ok (.invokestatic 57, 3) := by decide +kernel
theorem dX3_floorNumber_73 : decode cX3_floorNumber 73 = .ok (.ireturn, 1) := by decide +kernel
theorem dX3_floorNumber_74 : decode cX3_floorNumber 74 = .ok (.aload_n 0, 1) := by decide +kernel
theorem dX3_floorNumber_75 : decode cX3_floorNumber 75 = .ok (.getfield 21, 3) := by decide +kernel
theorem dX3_floorNumber_78 : decode cX3_floorNumber 78 = .ok (.iload_n 1, 1) := by decide +kernel
theorem dX3_floorNumber_79 : decode cX3_floorNumber 79 = .ok (.invokevirtual 105, 3) := by decide +kernel
theorem dX3_floorNumber_82 : decode cX3_floorNumber 82 = .ok (.ireturn, 1) := by decide +kernel
theorem dX3_floorNumber_83 : decode cX3_floorNumber 83 = .ok (.aload_n 0, 1) := by decide +kernel
theorem dX3_floorNumber_84 : decode cX3_floorNumber 84 = .ok (.getfield 12, 3) := by decide +kernel
theorem dX3_floorNumber_87 : decode cX3_floorNumber 87 = .ok (.getfield 80, 3) := by decide +kernel
theorem dX3_floorNumber_90 : decode cX3_floorNumber 90 = .ok (.iload_n 1, 1) := by decide +kernel
theorem dX3_floorNumber_91 : decode cX3_floorNumber 91 = .ok (.invokestatic 57, 3) := by decide +kernel
theorem dX3_floorNumber_94 : decode cX3_floorNumber 94 = .ok (.ireturn, 1) := by decide +kernel
theorem dX3_floorNumber_95 : decode cX3_floorNumber 95 = .ok (.aload_n 0, 1) := by decide +kernel
theorem dX3_floorNumber_96 : decode cX3_floorNumber 96 = .ok (.getfield 12, 3) := by decide +kernel
theorem dX3_floorNumber_99 : decode cX3_floorNumber 99 = .ok (.getfield 126, 3) := by decide +kernel
theorem dX3_floorNumber_102 : decode cX3_floorNumber 102 = .ok (.iload_n 1, 1) := by decide +kernel
theorem dX3_floorNumber_103 : decode cX3_floorNumber 103 = .ok (.invokestatic 57, 3) := by decide +kernel
theorem dX3_floorNumber_106 : decode cX3_floorNumber 106 = .ok (.ireturn, 1) := by decide +kernel
theorem dX3_floorNumber_107 : decode cX3_floorNumber 107 = .ok (.aload_n 0, 1) := by decide +kernel
theorem dX3_floorNumber_108 : decode cX3_floorNumber 108 = .ok (.getfield 12, 3) := by decide +kernel
theorem dX3_floorNumber_111 : decode cX3_floorNumber 111 = .ok (.getfield 113, 3) := by decide +kernel
theorem dX3_floorNumber_114 : decode cX3_floorNumber 114 = .ok (.iload_n 1, 1) := by decide +kernel
theorem dX3_floorNumber_115 : decode cX3_floorNumber 115 = .ok (.invokestatic 57, 3) := by decide +kernel
theorem dX3_floorNumber_118 : decode cX3_floorNumber 118 = .ok (.ireturn, 1) := by decide +kernel
theorem dX3_floorNumber_119 : decode cX3_floorNumber 119 = .ok (.aload_n 0, 1) := by decide +kernel
theorem dX3_floorNumber_120 : decode cX3_floorNumber 120 = .ok (.getfield 12, 3) := by decide +kernel
theorem dX3_floorNumber_123 : decode cX3_floorNumber 123 = .ok (.getfield 129, 3) := by decide +kernel
theorem dX3_floorNumber_126 : decode cX3_floorNumber 126 = .ok (.iload_n 1, 1) := by decide +kernel
theorem dX3_floorNumber_127 : decode cX3_floorNumber 127 = .ok (.invokestatic 57, 3) := by decide +kernel
theorem dX3_floorNumber_130 : decode cX3_floorNumber 130 = .ok (.ireturn, 1) := by decide +kernel
theorem dX4_init_0 : decode cX4_init 0 = .ok (.aload_n 0, 1) := by decide +kernel
theorem dX4_init_1 : decode cX4_init 1 = .ok (.invokespecial 3, 3) := by decide +kernel
theorem dX4_init_4 : decode cX4_init 4 = .ok (.aload_n 0, 1) := by decide +kernel
theorem dX4_init_5 : decode cX4_init 5 = .ok (.bipush 60, 2) := by decide +kernel
theorem dX4_init_7 : decode cX4_init 7 = .ok (.newarray .char, 2) := by decide +kernel
theorem dX4_init_9 : decode cX4_init 9 = .ok (.putfield 9, 3) := by decide +kernel
theorem dX4_init_12 : decode cX4_init 12 = .ok (.aload_n 0, 1) := by decide +kernel
theorem dX4_init_13 : decode cX4_init 13 = .ok (.iconst 0, 1) := by decide +kernel
theorem dX4_init_14 : decode cX4_init 14 = .ok (.putfield 15, 3) := by decide +kernel
theorem dX4_init_17 : decode cX4_init 17 = .ok (.return_, 1) := by decide +kernel
theorem dX4_add_0 : decode cX4_add 0 = .ok (.aload_n 0, 1) := by decide +kernel
theorem dX4_add_1 : decode cX4_add 1 = .ok (.getfield 15, 3) := by decide +kernel
theorem dX4_add_4 : decode cX4_add 4 = .ok (.ifCond .lt 35, 3) := by decide +kernel
theorem dX4_add_7 : decode cX4_add 7 = .ok (.aload_n 0, 1) := by decide +kernel
theorem dX4_add_8 : decode cX4_add 8 = .ok (.getfield 15, 3) := by decide +kernel
theorem dX4_add_11 : decode cX4_add 11 = .ok (.aload_n 0, 1) := by decide +kernel
theorem dX4_add_12 : decode cX4_add 12 = .ok (.getfield 9, 3) := by decide +kernel
theorem dX4_add_15 : decode cX4_add 15 = .ok (.arraylength, 1) := by decide +kernel
theorem dX4_add_16 : decode cX4_add 16 = .ok (.if_icmp .ge 23, 3) := by decide +kernel
theorem dX4_add_19 : decode cX4_add 19 = .ok (.aload_n 0, 1) := by decide +kernel
theorem dX4_add_20 : decode cX4_add 20 = .ok (.getfield 9, 3) := by decide +kernel
theorem dX4_add_23 : decode cX4_add 23 = .ok (.aload_n 0, 1) := by decide +kernel
theorem dX4_add_24 : decode cX4_add 24 = .ok (.getfield 15, 3) := by decide +kernel
theorem dX4_add_27 : decode cX4_add 27 = .ok (.iload_n 1, 1) := by decide +kernel
theorem dX4_add_28 : decode cX4_add 28 = .ok (.castore, 1) := by decide +kernel
theorem dX4_add_29 : decode cX4_add 29 = .ok (.aload_n 0, 1) := by decide +kernel
theorem dX4_add_30 : decode cX4_add 30 = .ok (.dup, 1) := by decide +kernel
theorem dX4_add_31 : decode cX4_add 31 = .ok (.getfield 15, 3) := by decide +kernel
theorem dX4_add_34 : decode cX4_add 34 = .ok (.iconst 1, 1) := by decide +kernel
theorem dX4_add_35 : decode cX4_add 35 = .ok (.iadd, 1) := by decide +kernel
theorem dX4_add_36 : decode cX4_add 36 = .ok (.putfield 15, 3) := by decide +kernel
theorem dX4_add_39 : decode cX4_add 39 = .ok (.aload_n 0, 1) := by decide +kernel
theorem dX4_add_40 : decode cX4_add 40 = .ok (.getfield 15, 3) := by decide +kernel
theorem dX4_add_43 : decode cX4_add 43 = .ok (.ireturn, 1) := by decide +kernel
theorem dX4_clear_0 : decode cX4_clear 0 = .ok (.aload_n 0, 1) := by decide +kernel
theorem dX4_clear_1 : decode cX4_clear 1 = .ok (.getfield 15, 3) := by decide +kernel
theorem dX4_clear_4 : decode cX4_clear 4 = .ok (.istore_n 1, 1) := by decide +kernel
theorem dX4_clear_5 : decode cX4_clear 5 = .ok (.aload_n 0, 1) := by decide +kernel
theorem dX4_clear_6 : decode cX4_clear 6 = .ok (.iconst 0, 1) := by decide +kernel
theorem dX4_clear_7 : decode cX4_clear 7 = .ok (.putfield 15, 3) := by decide +kernel
theorem dX4_clear_10 : decode cX4_clear 10 = .ok (.iload_n 1, 1) := by decide +kernel
theorem dX4_clear_11 : decode cX4_clear 11 = .ok (.ireturn, 1) := by decide +kernel
theorem dX4_codeAt_0 : decode cX4_codeAt 0 = .ok (.iload_n 1, 1) := by decide +kernel
theorem dX4_codeAt_1 : decode cX4_codeAt 1 = .ok (.ifCond .lt 21, 3) := by decide +kernel
theorem dX4_codeAt_4 : decode cX4_codeAt 4 = .ok (.iload_n 1, 1) := by decide +kernel
theorem dX4_codeAt_5 : decode cX4_codeAt 5 = .ok (.aload_n 0, 1) := by decide +kernel
theorem dX4_codeAt_6 : decode cX4_codeAt 6 = .ok (.getfield 9, 3) := by decide +kernel
theorem dX4_codeAt_9 : decode cX4_codeAt 9 = .ok (.arraylength, 1) := by decide +kernel
theorem dX4_codeAt_10 : decode cX4_codeAt 10 = .ok (.if_icmp .ge 12, 3) := by decide +kernel
theorem dX4_codeAt_13 : decode cX4_codeAt 13 = .ok (.aload_n 0, 1) := by decide +kernel
theorem dX4_codeAt_14 : decode cX4_codeAt 14 = .ok (.getfield 9, 3) := by decide +kernel
theorem dX4_codeAt_17 : decode cX4_codeAt 17 = .ok (.iload_n 1, 1) := by decide +kernel
theorem dX4_codeAt_18 : decode cX4_codeAt 18 = .ok (.caload, 1) := by decide +kernel
theorem dX4_codeAt_19 : decode cX4_codeAt 19 = .ok (.goto 5, 3) := by decide +kernel
theorem dX4_codeAt_22 : decode cX4_codeAt 22 = .ok (.bipush 32, 2) := by decide +kernel
theorem dX4_codeAt_24 : decode cX4_codeAt 24 = .ok (.ireturn, 1) := by decide +kernel
theorem dX4_errorPlace_0 : decode cX4_errorPlace 0 = .ok (.iconst 0, 1) := by decide +kernel
theorem dX4_errorPlace_1 : decode cX4_errorPlace 1 = .ok (.istore_n 1, 1) := by decide +kernel
theorem dX4_errorPlace_2 : decode cX4_errorPlace 2 = .ok (.iload_n 1, 1) := by decide +kernel
theorem dX4_errorPlace_3 : decode cX4_errorPlace 3 = .ok (.aload_n 0, 1) := by decide +kernel
theorem dX4_errorPlace_4 : decode cX4_errorPlace 4 = .ok (.getfield 15, 3) := by decide +kernel
theorem dX4_errorPlace_7 : decode cX4_errorPlace 7 = .ok (.if_icmp .ge 19, 3) := by decide +kernel
theorem dX4_errorPlace_10 : decode cX4_errorPlace 10 = .ok (.aload_n 0, 1) := by decide +kernel
theorem dX4_errorPlace_11 : decode cX4_errorPlace 11 = .ok (.iload_n 1, 1) := by decide +kernel
theorem dX4_errorPlace_12 : decode cX4_errorPlace 12 = .ok (.invokevirtual 19, 3) := by decide +kernel
theorem dX4_errorPlace_15 : decode cX4_errorPlace 15 = .ok (.ifCond .ne 5, 3) := by decide +kernel
theorem dX4_errorPlace_18 : decode cX4_errorPlace 18 = .ok (.iload_n 1, 1) := by decide +kernel
theorem dX4_errorPlace_19 : decode cX4_errorPlace 19 = .ok (.ireturn, 1) := by decide +kernel
theorem dX4_errorPlace_20 : decode cX4_errorPlace 20 = .ok (.iinc 1 1, 3) := by decide +kernel
theorem dX4_errorPlace_23 : decode cX4_errorPlace 23 = .ok (.goto (-21), 3) := by decide +kernel
theorem dX4_errorPlace_26 : decode cX4_errorPlace 26 = .ok (.aload_n 0, 1) := by decide +kernel
theorem dX4_errorPlace_27 : decode cX4_errorPlace 27 = .ok (.getfield 15, 3) := by decide +kernel
theorem dX4_errorPlace_30 : decode cX4_errorPlace 30 = .ok (.ireturn, 1) := by decide +kernel
theorem dX4_fitsAt_0 : decode cX4_fitsAt 0 = .ok (.aload_n 0, 1) := by decide +kernel
theorem dX4_fitsAt_1 : decode cX4_fitsAt 1 = .ok (.iload_n 1, 1) := by decide +kernel
theorem dX4_fitsAt_2 : decode cX4_fitsAt 2 = .ok (.invokevirtual 23, 3) := by decide +kernel
theorem dX4_fitsAt_5 : decode cX4_fitsAt 5 = .ok (.istore_n 2, 1) := by decide +kernel
theorem dX4_fitsAt_6 : decode cX4_fitsAt 6 = .ok (.iload_n 1, 1) := by decide +kernel
theorem dX4_fitsAt_7 : decode cX4_fitsAt 7 = .ok (.iconst 4, 1) := by decide +kernel
theorem dX4_fitsAt_8 : decode cX4_fitsAt 8 = .ok (.irem, 1) := by decide +kernel
theorem dX4_fitsAt_9 : decode cX4_fitsAt 9 = .ok (.tableswitch 104 0 2 #[27, 32, 70], 27) := by decide +kernel
theorem dX4_fitsAt_36 : decode cX4_fitsAt 36 = .ok (.iload_n 2, 1) := by decide +kernel
theorem dX4_fitsAt_37 : decode cX4_fitsAt 37 = .ok (.invokestatic 27, 3) := by decide +kernel
theorem dX4_fitsAt_40 : decode cX4_fitsAt 40 = .ok (.ireturn, 1) := by decide +kernel
theorem dX4_fitsAt_41 : decode cX4_fitsAt 41 = .ok (.aload_n 0, 1) := by decide +kernel
theorem dX4_fitsAt_42 : decode cX4_fitsAt 42 = .ok (.iload_n 1, 1) := by decide +kernel
theorem dX4_fitsAt_43 : decode cX4_fitsAt 43 = .ok (.iconst 1, 1) := by decide +kernel
theorem dX4_fitsAt_44 : decode cX4_fitsAt 44 = .ok (.isub, 1) := by decide +kernel
theorem dX4_fitsAt_45 : decode cX4_fitsAt 45 = .ok (.invokevirtual 23, 3) := by decide +kernel
theorem dX4_fitsAt_48 : decode cX4_fitsAt 48 = .ok (.istore_n 3, 1) := by decide +kernel
theorem dX4_fitsAt_49 : decode cX4_fitsAt 49 = .ok (.iload_n 2, 1) := by decide +kernel
theorem dX4_fitsAt_50 : decode cX4_fitsAt 50 = .ok (.bipush 62, 2) := by decide +kernel
theorem dX4_fitsAt_52 : decode cX4_fitsAt 52 = .ok (.if_icmp .ne 9, 3) := by decide +kernel
theorem dX4_fitsAt_55 : decode cX4_fitsAt 55 = .ok (.iload_n 3, 1) := by decide +kernel
theorem dX4_fitsAt_56 : decode cX4_fitsAt 56 = .ok (.bipush 55, 2) := by decide +kernel
theorem dX4_fitsAt_58 : decode cX4_fitsAt 58 = .ok (.if_icmp .lt 15, 3) := by decide +kernel
theorem dX4_fitsAt_61 : decode cX4_fitsAt 61 = .ok (.iload_n 2, 1) := by decide +kernel
theorem dX4_fitsAt_62 : decode cX4_fitsAt 62 = .ok (.bipush 60, 2) := by decide +kernel
theorem dX4_fitsAt_64 : decode cX4_fitsAt 64 = .ok (.if_icmp .ne 13, 3) := by decide +kernel
theorem dX4_fitsAt_67 : decode cX4_fitsAt 67 = .ok (.iload_n 3, 1) := by decide +kernel
theorem dX4_fitsAt_68 : decode cX4_fitsAt 68 = .ok (.bipush 48, 2) := by decide +kernel
theorem dX4_fitsAt_70 : decode cX4_fitsAt 70 = .ok (.if_icmp .le 7, 3) := by decide +kernel
theorem dX4_fitsAt_73 : decode cX4_fitsAt 73 = .ok (.iconst 1, 1) := by decide +kernel
theorem dX4_fitsAt_74 : decode cX4_fitsAt 74 = .ok (.goto 4, 3) := by decide +kernel
theorem dX4_fitsAt_77 : decode cX4_fitsAt 77 = .ok (.iconst 0, 1) := by decide +kernel
theorem dX4_fitsAt_78 : decode cX4_fitsAt 78 = .ok (.ireturn, 1) := by decide +kernel
theorem dX4_fitsAt_79 : decode cX4_fitsAt 79 = .ok (.iload_n 2, 1) := by decide +kernel
theorem dX4_fitsAt_80 : decode cX4_fitsAt 80 = .ok (.invokestatic 27, 3) := by decide +kernel
theorem dX4_fitsAt_83 : decode cX4_fitsAt 83 = .ok (.ifCond .eq 28, 3) := by decide +kernel
theorem dX4_fitsAt_86 : decode cX4_fitsAt 86 = .ok (.aload_n 0, 1) := by decide +kernel
theorem dX4_fitsAt_87 : decode cX4_fitsAt 87 = .ok (.iload_n 1, 1) := by decide +kernel
theorem dX4_fitsAt_88 : decode cX4_fitsAt 88 = .ok (.iconst 2, 1) := by decide +kernel
theorem dX4_fitsAt_89 : decode cX4_fitsAt 89 = .ok (.isub, 1) := by decide +kernel
theorem dX4_fitsAt_90 : decode cX4_fitsAt 90 = .ok (.invokevirtual 23, 3) := by decide +kernel
theorem dX4_fitsAt_93 : decode cX4_fitsAt 93 = .ok (.aload_n 0, 1) := by decide +kernel
theorem dX4_fitsAt_94 : decode cX4_fitsAt 94 = .ok (.iload_n 1, 1) := by decide +kernel
theorem dX4_fitsAt_95 : decode cX4_fitsAt 95 = .ok (.iconst 1, 1) := by decide +kernel
theorem dX4_fitsAt_96 : decode cX4_fitsAt 96 = .ok (.isub, 1) := by decide +kernel
theorem dX4_fitsAt_97 : decode cX4_fitsAt 97 = .ok (.invokevirtual 23, 3) := by decide +kernel
theorem dX4_fitsAt_100 : decode cX4_fitsAt 100 = .ok (.iload_n 2, 1) := by decide +kernel
theorem dX4_fitsAt_101 : decode cX4_fitsAt 101 = .ok (.invokestatic 31, 3) := by decide +kernel
theorem dX4_fitsAt_104 : decode cX4_fitsAt 104 = .ok (.ifCond .eq 7, 3) := by decide +kernel
theorem dX4_fitsAt_107 : decode cX4_fitsAt 107 = .ok (.iconst 1, 1) := by decide +kernel
theorem dX4_fitsAt_108 : decode cX4_fitsAt 108 = .ok (.goto 4, 3) := by decide +kernel
theorem dX4_fitsAt_111 : decode cX4_fitsAt 111 = .ok (.iconst 0, 1) := by decide +kernel
theorem dX4_fitsAt_112 : decode cX4_fitsAt 112 = .ok (.ireturn, 1) := by decide +kernel
theorem dX4_fitsAt_113 : decode cX4_fitsAt 113 = .ok (.iload_n 2, 1) := by decide +kernel
theorem dX4_fitsAt_114 : decode cX4_fitsAt 114 = .ok (.bipush 59, 2) := by decide +kernel
theorem dX4_fitsAt_116 : decode cX4_fitsAt 116 = .ok (.if_icmp .ne 7, 3) := by decide +kernel
theorem dX4_fitsAt_119 : decode cX4_fitsAt 119 = .ok (.iconst 1, 1) := by decide +kernel
theorem dX4_fitsAt_120 : decode cX4_fitsAt 120 = .ok (.goto 4, 3) := by decide +kernel
theorem dX4_fitsAt_123 : decode cX4_fitsAt 123 = .ok (.iconst 0, 1) := by decide +kernel
theorem dX4_fitsAt_124 : decode cX4_fitsAt 124 = .ok (.ireturn, 1) := by decide +kernel
theorem dX4_isFloor_0 : decode cX4_isFloor 0 = .ok (.iload_n 0, 1) := by decide +kernel
theorem dX4_isFloor_1 : decode cX4_isFloor 1 = .ok (.bipush 48, 2) := by decide +kernel
theorem dX4_isFloor_3 : decode cX4_isFloor 3 = .ok (.if_icmp .lt 13, 3) := by decide +kernel
theorem dX4_isFloor_6 : decode cX4_isFloor 6 = .ok (.iload_n 0, 1) := by decide +kernel
theorem dX4_isFloor_7 : decode cX4_isFloor 7 = .ok (.bipush 55, 2) := by decide +kernel
theorem dX4_isFloor_9 : decode cX4_isFloor 9 = .ok (.if_icmp .gt 7, 3) := by decide +kernel
theorem dX4_isFloor_12 : decode cX4_isFloor 12 = .ok (.iconst 1, 1) := by decide +kernel
theorem dX4_isFloor_13 : decode cX4_isFloor 13 = .ok (.goto 4, 3) := by decide +kernel
theorem dX4_isFloor_16 : decode cX4_isFloor 16 = .ok (.iconst 0, 1) := by decide +kernel
theorem dX4_isFloor_17 : decode cX4_isFloor 17 = .ok (.ireturn, 1) := by decide +kernel
theorem dX4_fitsSign_0 : decode cX4_fitsSign 0 = .ok (.iload_n 1, 1) := by decide +kernel
theorem dX4_fitsSign_1 : decode cX4_fitsSign 1 = .ok (.bipush 62, 2) := by decide +kernel
theorem dX4_fitsSign_3 : decode cX4_fitsSign 3 = .ok (.if_icmp .ne 16, 3) := by decide +kernel
theorem dX4_fitsSign_6 : decode cX4_fitsSign 6 = .ok (.iload_n 2, 1) := by decide +kernel
theorem dX4_fitsSign_7 : decode cX4_fitsSign 7 = .ok (.iload_n 0, 1) := by decide +kernel
theorem dX4_fitsSign_8 : decode cX4_fitsSign 8 = .ok (.if_icmp .le 7, 3) := by decide +kernel
theorem dX4_fitsSign_11 : decode cX4_fitsSign 11 = .ok (.iconst 1, 1) := by decide +kernel
theorem dX4_fitsSign_12 : decode cX4_fitsSign 12 = .ok (.goto 17, 3) := by decide +kernel
theorem dX4_fitsSign_15 : decode cX4_fitsSign 15 = .ok (.iconst 0, 1) := by decide +kernel
theorem dX4_fitsSign_16 : decode cX4_fitsSign 16 = .ok (.goto 13, 3) := by decide +kernel
theorem dX4_fitsSign_19 : decode cX4_fitsSign 19 = .ok (.iload_n 2, 1) := by decide +kernel
theorem dX4_fitsSign_20 : decode cX4_fitsSign 20 = .ok (.iload_n 0, 1) := by decide +kernel
theorem dX4_fitsSign_21 : decode cX4_fitsSign 21 = .ok (.if_icmp .ge 7, 3) := by decide +kernel
theorem dX4_fitsSign_24 : decode cX4_fitsSign 24 = .ok (.iconst 1, 1) := by decide +kernel
theorem dX4_fitsSign_25 : decode cX4_fitsSign 25 = .ok (.goto 4, 3) := by decide +kernel
theorem dX4_fitsSign_28 : decode cX4_fitsSign 28 = .ok (.iconst 0, 1) := by decide +kernel
theorem dX4_fitsSign_29 : decode cX4_fitsSign 29 = .ok (.ireturn, 1) := by decide +kernel
theorem dX4_isComplete_0 : decode cX4_isComplete 0 = .ok (.aload_n 0, 1) := by decide +kernel
theorem dX4_isComplete_1 : decode cX4_isComplete 1 = .ok (.getfield 15, 3) := by decide +kernel
theorem dX4_isComplete_4 : decode cX4_isComplete 4 = .ok (.iconst 4, 1) := by decide +kernel
theorem dX4_isComplete_5 : decode cX4_isComplete 5 = .ok (.irem, 1) := by decide +kernel
theorem dX4_isComplete_6 : decode cX4_isComplete 6 = .ok (.iconst 3, 1) := by decide +kernel
theorem dX4_isComplete_7 : decode cX4_isComplete 7 = .ok (.if_icmp .ne 18, 3) := by decide +kernel
theorem dX4_isComplete_10 : decode cX4_isComplete 10 = .ok (.aload_n 0, 1) := by decide +kernel
theorem dX4_isComplete_11 : decode cX4_isComplete 11 = .ok (.invokevirtual 35, 3) := by decide +kernel
theorem dX4_isComplete_14 : decode cX4_isComplete 14 = .ok (.aload_n 0, 1) := by decide +kernel
theorem dX4_isComplete_15 : decode cX4_isComplete 15 = .ok (.getfield 15, 3) := by decide +kernel
theorem dX4_isComplete_18 : decode cX4_isComplete 18 = .ok (.if_icmp .ne 7, 3) := by decide +kernel
theorem dX4_isComplete_21 : decode cX4_isComplete 21 = .ok (.iconst 1, 1) := by decide +kernel
theorem dX4_isComplete_22 : decode cX4_isComplete 22 = .ok (.goto 4, 3) := by decide +kernel
theorem dX4_isComplete_25 : decode cX4_isComplete 25 = .ok (.iconst 0, 1) := by decide +kernel
theorem dX4_isComplete_26 : decode cX4_isComplete 26 = .ok (.ireturn, 1) := by decide +kernel
theorem dX4_parts_0 : decode cX4_parts 0 = .ok (.aload_n 0, 1) := by decide +kernel
theorem dX4_parts_1 : decode cX4_parts 1 = .ok (.getfield 15, 3) := by decide +kernel
theorem dX4_parts_4 : decode cX4_parts 4 = .ok (.iconst 1, 1) := by decide +kernel
theorem dX4_parts_5 : decode cX4_parts 5 = .ok (.iadd, 1) := by decide +kernel
theorem dX4_parts_6 : decode cX4_parts 6 = .ok (.iconst 4, 1) := by decide +kernel
theorem dX4_parts_7 : decode cX4_parts 7 = .ok (.idiv, 1) := by decide +kernel
theorem dX4_parts_8 : decode cX4_parts 8 = .ok (.ireturn, 1) := by decide +kernel
theorem dX4_startOf_0 : decode cX4_startOf 0 = .ok (.aload_n 0, 1) := by decide +kernel
theorem dX4_startOf_1 : decode cX4_startOf 1 = .ok (.iload_n 1, 1) := by decide +kernel
theorem dX4_startOf_2 : decode cX4_startOf 2 = .ok (.iconst 4, 1) := by decide +kernel
theorem dX4_startOf_3 : decode cX4_startOf 3 = .ok (.imul, 1) := by decide +kernel
theorem dX4_startOf_4 : decode cX4_startOf 4 = .ok (.invokevirtual 23, 3) := by decide +kernel
theorem dX4_startOf_7 : decode cX4_startOf 7 = .ok (.bipush 48, 2) := by decide +kernel
theorem dX4_startOf_9 : decode cX4_startOf 9 = .ok (.isub, 1) := by decide +kernel
theorem dX4_startOf_10 : decode cX4_startOf 10 = .ok (.ireturn, 1) := by decide +kernel
theorem dX4_goalOf_0 : decode cX4_goalOf 0 = .ok (.aload_n 0, 1) := by decide +kernel
theorem dX4_goalOf_1 : decode cX4_goalOf 1 = .ok (.iload_n 1, 1) := by decide +kernel
theorem dX4_goalOf_2 : decode cX4_goalOf 2 = .ok (.iconst 4, 1) := by decide +kernel
theorem dX4_goalOf_3 : decode cX4_goalOf 3 = .ok (.imul, 1) := by decide +kernel
theorem dX4_goalOf_4 : decode cX4_goalOf 4 = .ok (.iconst 2, 1) := by decide +kernel
theorem dX4_goalOf_5 : decode cX4_goalOf 5 = .ok (.iadd, 1) := by decide +kernel
theorem dX4_goalOf_6 : decode cX4_goalOf 6 = .ok (.invokevirtual 23, 3) := by decide +kernel
theorem dX4_goalOf_9 : decode cX4_goalOf 9 = .ok (.bipush 48, 2) := by decide +kernel
theorem dX4_goalOf_11 : decode cX4_goalOf 11 = .ok (.isub, 1) := by decide +kernel
theorem dX4_goalOf_12 : decode cX4_goalOf 12 = .ok (.ireturn, 1) := by decide +kernel
theorem dX5_init_0 : decode cX5_init 0 = .ok (.aload_n 0, 1) := by decide +kernel
theorem dX5_init_1 : decode cX5_init 1 = .ok (.invokespecial 1, 3) := by decide +kernel
theorem dX5_init_4 : decode cX5_init 4 = .ok (.aload_n 0, 1) := by decide +kernel
theorem dX5_init_5 : decode cX5_init 5 = .ok (.new 7, 3) := by decide +kernel
theorem dX5_init_8 : decode cX5_init 8 = .ok (.dup, 1) := by decide +kernel
theorem dX5_init_9 : decode cX5_init 9 = .ok (.invokespecial 9, 3) := by decide +kernel
theorem dX5_init_12 : decode cX5_init 12 = .ok (.putfield 10, 3) := by decide +kernel
theorem dX5_init_15 : decode cX5_init 15 = .ok (.aload_n 0, 1) := by decide +kernel
theorem dX5_init_16 : decode cX5_init 16 = .ok (.new 7, 3) := by decide +kernel
theorem dX5_init_19 : decode cX5_init 19 = .ok (.dup, 1) := by decide +kernel
theorem dX5_init_20 : decode cX5_init 20 = .ok (.invokespecial 9, 3) := by decide +kernel
theorem dX5_init_23 : decode cX5_init 23 = .ok (.putfield 16, 3) := by decide +kernel
theorem dX5_init_26 : decode cX5_init 26 = .ok (.aload_n 0, 1) := by decide +kernel
theorem dX5_init_27 : decode cX5_init 27 = .ok (.new 19, 3) := by decide +kernel
theorem dX5_init_30 : decode cX5_init 30 = .ok (.dup, 1) := by decide +kernel
theorem dX5_init_31 : decode cX5_init 31 = .ok (.invokespecial 21, 3) := by decide +kernel
theorem dX5_init_34 : decode cX5_init 34 = .ok (.putfield 22, 3) := by decide +kernel
theorem dX5_init_37 : decode cX5_init 37 = .ok (.aload_n 0, 1) := by decide +kernel
theorem dX5_init_38 : decode cX5_init 38 = .ok (.new 26, 3) := by decide +kernel
theorem dX5_init_41 : decode cX5_init 41 = .ok (.dup, 1) := by decide +kernel
theorem dX5_init_42 : decode cX5_init 42 = .ok (.invokespecial 28, 3) := by decide +kernel
theorem dX5_init_45 : decode cX5_init 45 = .ok (.putfield 29, 3) := by decide +kernel
theorem dX5_init_48 : decode cX5_init 48 = .ok (.return_, 1) := by decide +kernel
theorem dX5_come_0 : decode cX5_come 0 = .ok (.iload_n 1, 1) := by decide +kernel
theorem dX5_come_1 : decode cX5_come 1 = .ok (.iload_n 2, 1) := by decide +kernel
theorem dX5_come_2 : decode cX5_come 2 = .ok (.invokestatic 33, 3) := by decide +kernel
theorem dX5_come_5 : decode cX5_come 5 = .ok (.aload_n 0, 1) := by decide +kernel
theorem dX5_come_6 : decode cX5_come 6 = .ok (.getfield 10, 3) := by decide +kernel
theorem dX5_come_9 : decode cX5_come 9 = .ok (.getfield 37, 3) := by decide +kernel
theorem dX5_come_12 : decode cX5_come 12 = .ok (.getfield 41, 3) := by decide +kernel
theorem dX5_come_15 : decode cX5_come 15 = .ok (.bipush 6, 2) := by decide +kernel
theorem dX5_come_17 : decode cX5_come 17 = .ok (.if_icmp .lt 13, 3) := by decide +kernel
theorem dX5_come_20 : decode cX5_come 20 = .ok (.new 47, 3) := by decide +kernel
theorem dX5_come_23 : decode cX5_come 23 = .ok (.dup, 1) := by decide +kernel
theorem dX5_come_24 : decode cX5_come 24 = .ok (.ldc 49, 2) := by decide +kernel
theorem dX5_come_26 : decode cX5_come 26 = .ok (.invokespecial 51, 3) := by decide +kernel
theorem dX5_come_29 : decode cX5_come 29 = .ok (.athrow, 1) := by decide +kernel
theorem dX5_come_30 : decode cX5_come 30 = .ok (.aload_n 0, 1) := by decide +kernel
theorem dX5_come_31 : decode cX5_come 31 = .ok (.getfield 22, 3) := by decide +kernel
theorem dX5_come_34 : decode cX5_come 34 = .ok (.aload_n 0, 1) := by decide +kernel
theorem dX5_come_35 : decode cX5_come 35 = .ok (.getfield 10, 3) := by decide +kernel
theorem dX5_come_38 : decode cX5_come 38 = .ok (.invokevirtual 54, 3) := by decide +kernel
theorem dX5_come_41 : decode cX5_come 41 = .ok (.aload_n 0, 1) := by decide +kernel
theorem dX5_come_42 : decode cX5_come 42 = .ok (.getfield 10, 3) := by decide +kernel
theorem dX5_come_45 : decode cX5_come 45 = .ok (.iload_n 1, 1) := by decide +kernel
theorem dX5_come_46 : decode cX5_come 46 = .ok (.iload_n 2, 1) := by decide +kernel
theorem dX5_come_47 : decode cX5_come 47 = .ok (.invokevirtual 58, 3) := by decide +kernel
theorem dX5_come_50 : decode cX5_come 50 = .ok (.ireturn, 1) := by decide +kernel
theorem dX5_turn_0 : decode cX5_turn 0 = .ok (.aload_n 0, 1) := by decide +kernel
theorem dX5_turn_1 : decode cX5_turn 1 = .ok (.getfield 10, 3) := by decide +kernel
theorem dX5_turn_4 : decode cX5_turn 4 = .ok (.getfield 37, 3) := by decide +kernel
theorem dX5_turn_7 : decode cX5_turn 7 = .ok (.iload_n 1, 1) := by decide +kernel
theorem dX5_turn_8 : decode cX5_turn 8 = .ok (.invokevirtual 62, 3) := by decide +kernel
theorem dX5_turn_11 : decode cX5_turn 11 = .ok (.istore_n 3, 1) := by decide +kernel
theorem dX5_turn_12 : decode cX5_turn 12 = .ok (.iload_n 3, 1) := by decide +kernel
theorem dX5_turn_13 : decode cX5_turn 13 = .ok (.iconst (-1), 1) := by decide +kernel
theorem dX5_turn_14 : decode cX5_turn 14 = .ok (.if_icmp .ne 13, 3) := by decide +kernel
theorem dX5_turn_17 : decode cX5_turn 17 = .ok (.new 66, 3) := by decide +kernel
theorem dX5_turn_20 : decode cX5_turn 20 = .ok (.dup, 1) := by decide +kernel
theorem dX5_turn_21 : decode cX5_turn 21 = .ok (.ldc 68, 2) := by decide +kernel
theorem dX5_turn_23 : decode cX5_turn 23 = .ok (.invokespecial 70, 3) := by decide +kernel
theorem dX5_turn_26 : decode cX5_turn 26 = .ok (.athrow, 1) := by decide +kernel
theorem dX5_turn_27 : decode cX5_turn 27 = .ok (.iload_n 2, 1) := by decide +kernel
theorem dX5_turn_28 : decode cX5_turn 28 = .ok (.invokestatic 71, 3) := by decide +kernel
theorem dX5_turn_31 : decode cX5_turn 31 = .ok (.aload_n 0, 1) := by decide +kernel
theorem dX5_turn_32 : decode cX5_turn 32 = .ok (.getfield 22, 3) := by decide +kernel
theorem dX5_turn_35 : decode cX5_turn 35 = .ok (.aload_n 0, 1) := by decide +kernel
theorem dX5_turn_36 : decode cX5_turn 36 = .ok (.getfield 10, 3) := by decide +kernel
theorem dX5_turn_39 : decode cX5_turn 39 = .ok (.invokevirtual 54, 3) := by decide +kernel
theorem dX5_turn_42 : decode cX5_turn 42 = .ok (.aload_n 0, 1) := by decide +kernel
theorem dX5_turn_43 : decode cX5_turn 43 = .ok (.getfield 10, 3) := by decide +kernel
theorem dX5_turn_46 : decode cX5_turn 46 = .ok (.getfield 37, 3) := by decide +kernel
theorem dX5_turn_49 : decode cX5_turn 49 = .ok (.getfield 75, 3) := by decide +kernel
theorem dX5_turn_52 : decode cX5_turn 52 = .ok (.iload_n 3, 1) := by decide +kernel
theorem dX5_turn_53 : decode cX5_turn 53 = .ok (.invokestatic 79, 3) := by decide +kernel
theorem dX5_turn_56 : decode cX5_turn 56 = .ok (.istore 4, 2) := by decide +kernel
theorem dX5_turn_58 : decode cX5_turn 58 = .ok (.aload_n 0, 1) := by decide +kernel
theorem dX5_turn_59 : decode cX5_turn 59 = .ok (.getfield 10, 3) := by decide +kernel
theorem dX5_turn_62 : decode cX5_turn 62 = .ok (.getfield 37, 3) := by decide +kernel
theorem dX5_turn_65 : decode cX5_turn 65 = .ok (.iload_n 3, 1) := by decide +kernel
theorem dX5_turn_66 : decode cX5_turn 66 = .ok (.iload_n 2, 1) := by decide +kernel
theorem dX5_turn_67 : decode cX5_turn 67 = .ok (.aload_n 0, 1) := by decide +kernel
theorem dX5_turn_68 : decode cX5_turn 68 = .ok (.getfield 10, 3) := by decide +kernel
theorem dX5_turn_71 : decode cX5_turn 71 = .ok (.getfield 83, 3) := by decide +kernel
theorem dX5_turn_74 : decode cX5_turn 74 = .ok (.iconst 3, 1) := by decide +kernel
theorem dX5_turn_75 : decode cX5_turn 75 = .ok (.invokestatic 79, 3) := by decide +kernel
theorem dX5_turn_78 : decode cX5_turn 78 = .ok (.invokevirtual 86, 3) := by decide +kernel
theorem dX5_turn_81 : decode cX5_turn 81 = .ok (.iload 4, 2) := by decide +kernel
theorem dX5_turn_83 : decode cX5_turn 83 = .ok (.ireturn, 1) := by decide +kernel
theorem dX5_press_0 : decode cX5_press 0 = .ok (.iload_n 1, 1) := by decide +kernel
theorem dX5_press_1 : decode cX5_press 1 = .ok (.invokestatic 71, 3) := by decide +kernel
theorem dX5_press_4 : decode cX5_press 4 = .ok (.aload_n 0, 1) := by decide +kernel
theorem dX5_press_5 : decode cX5_press 5 = .ok (.getfield 22, 3) := by decide +kernel
theorem dX5_press_8 : decode cX5_press 8 = .ok (.aload_n 0, 1) := by decide +kernel
theorem dX5_press_9 : decode cX5_press 9 = .ok (.getfield 10, 3) := by decide +kernel
theorem dX5_press_12 : decode cX5_press 12 = .ok (.invokevirtual 54, 3) := by decide +kernel
theorem dX5_press_15 : decode cX5_press 15 = .ok (.aload_n 0, 1) := by decide +kernel
theorem dX5_press_16 : decode cX5_press 16 = .ok (.getfield 10, 3) := by decide +kernel
theorem dX5_press_19 : decode cX5_press 19 = .ok (.getfield 90, 3) := by decide +kernel
theorem dX5_press_22 : decode cX5_press 22 = .ok (.getfield 94, 3) := by decide +kernel
theorem dX5_press_25 : decode cX5_press 25 = .ok (.iload_n 1, 1) := by decide +kernel
theorem dX5_press_26 : decode cX5_press 26 = .ok (.invokestatic 79, 3) := by decide +kernel
theorem dX5_press_29 : decode cX5_press 29 = .ok (.istore_n 2, 1) := by decide +kernel
theorem dX5_press_30 : decode cX5_press 30 = .ok (.aload_n 0, 1) := by decide +kernel
theorem dX5_press_31 : decode cX5_press 31 = .ok (.getfield 10, 3) := by decide +kernel
theorem dX5_press_34 : decode cX5_press 34 = .ok (.iload_n 1, 1) := by decide +kernel
theorem dX5_press_35 : decode cX5_press 35 = .ok (.invokevirtual 99, 3) := by decide +kernel
theorem dX5_press_38 : decode cX5_press 38 = .ok (.iload_n 2, 1) := by decide +kernel
theorem dX5_press_39 : decode cX5_press 39 = .ok (.ireturn, 1) := by decide +kernel
theorem dX5_sensor_0 : decode cX5_sensor 0 = .ok (.iload_n 1, 1) := by decide +kernel
theorem dX5_sensor_1 : decode cX5_sensor 1 = .ok (.invokestatic 71, 3) := by decide +kernel
theorem dX5_sensor_4 : decode cX5_sensor 4 = .ok (.aload_n 0, 1) := by decide +kernel
theorem dX5_sensor_5 : decode cX5_sensor 5 = .ok (.getfield 22, 3) := by decide +kernel
theorem dX5_sensor_8 : decode cX5_sensor 8 = .ok (.aload_n 0, 1) := by decide +kernel
theorem dX5_sensor_9 : decode cX5_sensor 9 = .ok (.getfield 10, 3) := by decide +kernel
theorem dX5_sensor_12 : decode cX5_sensor 12 = .ok (.invokevirtual 54, 3) := by decide +kernel
theorem dX5_sensor_15 : decode cX5_sensor 15 = .ok (.aload_n 0, 1) := by decide +kernel
theorem dX5_sensor_16 : decode cX5_sensor 16 = .ok (.getfield 10, 3) := by decide +kernel
theorem dX5_sensor_19 : decode cX5_sensor 19 = .ok (.getfield 90, 3) := by decide +kernel
theorem dX5_sensor_22 : decode cX5_sensor 22 = .ok (.getfield 102, 3) := by decide +kernel
theorem dX5_sensor_25 : decode cX5_sensor 25 = .ok (.iload_n 1, 1) := by decide +kernel
theorem dX5_sensor_26 : decode cX5_sensor 26 = .ok (.invokestatic 79, 3) := by decide +kernel
theorem dX5_sensor_29 : decode cX5_sensor 29 = .ok (.istore_n 3, 1) := by decide +kernel
theorem dX5_sensor_30 : decode cX5_sensor 30 = .ok (.aload_n 0, 1) := by decide +kernel
theorem dX5_sensor_31 : decode cX5_sensor 31 = .ok (.getfield 10, 3) := by decide +kernel
theorem dX5_sensor_34 : decode cX5_sensor 34 = .ok (.getfield 90, 3) := by decide +kernel
theorem dX5_sensor_37 : decode cX5_sensor 37 = .ok (.getfield 102, 3) := by decide +kernel
theorem dX5_sensor_40 : decode cX5_sensor 40 = .ok (.iload_n 1, 1) := by decide +kernel
theorem dX5_sensor_41 : decode cX5_sensor 41 = .ok (.iload_n 2, 1) := by decide +kernel
theorem dX5_sensor_42 : decode cX5_sensor 42 = .ok (.invokestatic 105, 3) := by decide +kernel
theorem dX5_sensor_45 : decode cX5_sensor 45 = .ok (.invokestatic 109, 3) := by decide +kernel
theorem dX5_sensor_48 : decode cX5_sensor 48 = .ok (.iload_n 3, 1) := by decide +kernel
theorem dX5_sensor_49 : decode cX5_sensor 49 = .ok (.ireturn, 1) := by decide +kernel
theorem dX5_night_0 : decode cX5_night 0 = .ok (.aload_n 0, 1) := by decide +kernel
theorem dX5_night_1 : decode cX5_night 1 = .ok (.getfield 22, 3) := by decide +kernel
theorem dX5_night_4 : decode cX5_night 4 = .ok (.aload_n 0, 1) := by decide +kernel
theorem dX5_night_5 : decode cX5_night 5 = .ok (.getfield 10, 3) := by decide +kernel
theorem dX5_night_8 : decode cX5_night 8 = .ok (.invokevirtual 54, 3) := by decide +kernel
theorem dX5_night_11 : decode cX5_night 11 = .ok (.aload_n 0, 1) := by decide +kernel
theorem dX5_night_12 : decode cX5_night 12 = .ok (.getfield 10, 3) := by decide +kernel
theorem dX5_night_15 : decode cX5_night 15 = .ok (.getfield 113, 3) := by decide +kernel
theorem dX5_night_18 : decode cX5_night 18 = .ok (.invokestatic 105, 3) := by decide +kernel
theorem dX5_night_21 : decode cX5_night 21 = .ok (.istore_n 2, 1) := by decide +kernel
theorem dX5_night_22 : decode cX5_night 22 = .ok (.aload_n 0, 1) := by decide +kernel
theorem dX5_night_23 : decode cX5_night 23 = .ok (.getfield 10, 3) := by decide +kernel
theorem dX5_night_26 : decode cX5_night 26 = .ok (.iload_n 1, 1) := by decide +kernel
theorem dX5_night_27 : decode cX5_night 27 = .ok (.putfield 113, 3) := by decide +kernel
theorem dX5_night_30 : decode cX5_night 30 = .ok (.iload_n 2, 1) := by decide +kernel
theorem dX5_night_31 : decode cX5_night 31 = .ok (.ireturn, 1) := by decide +kernel
theorem dX5_fire_0 : decode cX5_fire 0 = .ok (.aload_n 0, 1) := by decide +kernel
theorem dX5_fire_1 : decode cX5_fire 1 = .ok (.getfield 22, 3) := by decide +kernel
theorem dX5_fire_4 : decode cX5_fire 4 = .ok (.aload_n 0, 1) := by decide +kernel
theorem dX5_fire_5 : decode cX5_fire 5 = .ok (.getfield 10, 3) := by decide +kernel
theorem dX5_fire_8 : decode cX5_fire 8 = .ok (.invokevirtual 54, 3) := by decide +kernel
theorem dX5_fire_11 : decode cX5_fire 11 = .ok (.aload_n 0, 1) := by decide +kernel
theorem dX5_fire_12 : decode cX5_fire 12 = .ok (.getfield 10, 3) := by decide +kernel
theorem dX5_fire_15 : decode cX5_fire 15 = .ok (.getfield 117, 3) := by decide +kernel
theorem dX5_fire_18 : decode cX5_fire 18 = .ok (.invokestatic 105, 3) := by decide +kernel
theorem dX5_fire_21 : decode cX5_fire 21 = .ok (.istore_n 2, 1) := by decide +kernel
theorem dX5_fire_22 : decode cX5_fire 22 = .ok (.aload_n 0, 1) := by decide +kernel
theorem dX5_fire_23 : decode cX5_fire 23 = .ok (.getfield 10, 3) := by decide +kernel
theorem dX5_fire_26 : decode cX5_fire 26 = .ok (.getfield 117, 3) := by decide +kernel
theorem dX5_fire_29 : decode cX5_fire 29 = .ok (.ifCond .eq 14, 3) := by decide +kernel
theorem dX5_fire_32 : decode cX5_fire 32 = .ok (.iload_n 1, 1) := by decide +kernel
theorem dX5_fire_33 : decode cX5_fire 33 = .ok (.ifCond .ne 10, 3) := by decide +kernel
theorem dX5_fire_36 : decode cX5_fire 36 = .ok (.aload_n 0, 1) := by decide +kernel
theorem dX5_fire_37 : decode cX5_fire 37 = .ok (.getfield 10, 3) := by decide +kernel
theorem dX5_fire_40 : decode cX5_fire 40 = .ok (.invokevirtual 120, 3) := by decide +kernel
theorem dX5_fire_43 : decode cX5_fire 43 = .ok (.aload_n 0, 1) := by decide +kernel
theorem dX5_fire_44 : decode cX5_fire 44 = .ok (.getfield 10, 3) := by decide +kernel
theorem dX5_fire_47 : decode cX5_fire 47 = .ok (.iload_n 1, 1) := by decide +kernel
theorem dX5_fire_48 : decode cX5_fire 48 = .ok (.putfield 117, 3) := by decide +kernel
theorem dX5_fire_51 : decode cX5_fire 51 = .ok (.iload_n 2, 1) := by decide +kernel
theorem dX5_fire_52 : decode cX5_fire 52 = .ok (.ireturn, 1) := by decide +kernel
theorem dX5_set_0 : decode cX5_set 0 = .ok (.iload_n 1, 1) := by decide +kernel
theorem dX5_set_1 : decode cX5_set 1 = .ok (.invokestatic 123, 3) := by decide +kernel
theorem dX5_set_4 : decode cX5_set 4 = .ok (.iload_n 2, 1) := by decide +kernel
theorem dX5_set_5 : decode cX5_set 5 = .ok (.getstatic 126, 3) := by decide +kernel
theorem dX5_set_8 : decode cX5_set 8 = .ok (.iload_n 1, 1) := by decide +kernel
theorem dX5_set_9 : decode cX5_set 9 = .ok (.invokestatic 79, 3) := by decide +kernel
theorem dX5_set_12 : decode cX5_set 12 = .ok (.if_icmp .lt 14, 3) := by decide +kernel
theorem dX5_set_15 : decode cX5_set 15 = .ok (.iload_n 2, 1) := by decide +kernel
theorem dX5_set_16 : decode cX5_set 16 = .ok (.getstatic 129, 3) := by decide +kernel
theorem dX5_set_19 : decode cX5_set 19 = .ok (.iload_n 1, 1) := by decide +kernel
theorem dX5_set_20 : decode cX5_set 20 = .ok (.invokestatic 79, 3) := by decide +kernel
theorem dX5_set_23 : decode cX5_set 23 = .ok (.if_icmp .le 13, 3) := by decide +kernel
theorem dX5_set_26 : decode cX5_set 26 = .ok (.new 132, 3) := by decide +kernel
theorem dX5_set_29 : decode cX5_set 29 = .ok (.dup, 1) := by decide +kernel
theorem dX5_set_30 : decode cX5_set 30 = .ok (.ldc 134, 2) := by decide +kernel
theorem dX5_set_32 : decode cX5_set 32 = .ok (.invokespecial 136, 3) := by decide +kernel
theorem dX5_set_35 : decode cX5_set 35 = .ok (.athrow, 1) := by decide +kernel
theorem dX5_set_36 : decode cX5_set 36 = .ok (.aload_n 0, 1) := by decide +kernel
theorem dX5_set_37 : decode cX5_set 37 = .ok (.getfield 22, 3) := by decide +kernel
theorem dX5_set_40 : decode cX5_set 40 = .ok (.aload_n 0, 1) := by decide +kernel
theorem dX5_set_41 : decode cX5_set 41 = .ok (.getfield 10, 3) := by decide +kernel
theorem dX5_set_44 : decode cX5_set 44 = .ok (.invokevirtual 54, 3) := by decide +kernel
theorem dX5_set_47 : decode cX5_set 47 = .ok (.aload_n 0, 1) := by decide +kernel
theorem dX5_set_48 : decode cX5_set 48 = .ok (.getfield 10, 3) := by decide +kernel
theorem dX5_set_51 : decode cX5_set 51 = .ok (.getfield 83, 3) := by decide +kernel
theorem dX5_set_54 : decode cX5_set 54 = .ok (.iload_n 1, 1) := by decide +kernel
theorem dX5_set_55 : decode cX5_set 55 = .ok (.invokestatic 79, 3) := by decide +kernel
theorem dX5_set_58 : decode cX5_set 58 = .ok (.istore_n 3, 1) := by decide +kernel
theorem dX5_set_59 : decode cX5_set 59 = .ok (.aload_n 0, 1) := by decide +kernel
theorem dX5_set_60 : decode cX5_set 60 = .ok (.getfield 10, 3) := by decide +kernel
theorem dX5_set_63 : decode cX5_set 63 = .ok (.getfield 83, 3) := by decide +kernel
theorem dX5_set_66 : decode cX5_set 66 = .ok (.iload_n 1, 1) := by decide +kernel
theorem dX5_set_67 : decode cX5_set 67 = .ok (.iload_n 2, 1) := by decide +kernel
theorem dX5_set_68 : decode cX5_set 68 = .ok (.invokestatic 109, 3) := by decide +kernel
theorem dX5_set_71 : decode cX5_set 71 = .ok (.iload_n 3, 1) := by decide +kernel
theorem dX5_set_72 : decode cX5_set 72 = .ok (.ireturn, 1) := by decide +kernel
theorem dX5_pass_0 : decode cX5_pass 0 = .ok (.iload_n 1, 1) := by decide +kernel
theorem dX5_pass_1 : decode cX5_pass 1 = .ok (.invokestatic 137, 3) := by decide +kernel
theorem dX5_pass_4 : decode cX5_pass 4 = .ok (.aload_n 0, 1) := by decide +kernel
theorem dX5_pass_5 : decode cX5_pass 5 = .ok (.getfield 22, 3) := by decide +kernel
theorem dX5_pass_8 : decode cX5_pass 8 = .ok (.aload_n 0, 1) := by decide +kernel
theorem dX5_pass_9 : decode cX5_pass 9 = .ok (.getfield 10, 3) := by decide +kernel
theorem dX5_pass_12 : decode cX5_pass 12 = .ok (.invokevirtual 54, 3) := by decide +kernel
theorem dX5_pass_15 : decode cX5_pass 15 = .ok (.aload_n 0, 1) := by decide +kernel
theorem dX5_pass_16 : decode cX5_pass 16 = .ok (.getfield 10, 3) := by decide +kernel
theorem dX5_pass_19 : decode cX5_pass 19 = .ok (.iload_n 1, 1) := by decide +kernel
theorem dX5_pass_20 : decode cX5_pass 20 = .ok (.invokevirtual 140, 3) := by decide +kernel
theorem dX5_pass_23 : decode cX5_pass 23 = .ok (.ireturn, 1) := by decide +kernel
theorem dX5_append_0 : decode cX5_append 0 = .ok (.iload_n 1, 1) := by decide +kernel
theorem dX5_append_1 : decode cX5_append 1 = .ok (.bipush 33, 2) := by decide +kernel
theorem dX5_append_3 : decode cX5_append 3 = .ok (.if_icmp .lt 9, 3) := by decide +kernel
theorem dX5_append_6 : decode cX5_append 6 = .ok (.iload_n 1, 1) := by decide +kernel
theorem dX5_append_7 : decode cX5_append 7 = .ok (.bipush 126, 2) := by decide +kernel
theorem dX5_append_9 : decode cX5_append 9 = .ok (.if_icmp .le 13, 3) := by decide +kernel
theorem dX5_append_12 : decode cX5_append 12 = .ok (.new 132, 3) := by decide +kernel
theorem dX5_append_15 : decode cX5_append 15 = .ok (.dup, 1) := by decide +kernel
theorem dX5_append_16 : decode cX5_append 16 = .ok (.ldc 143, 2) := by decide +kernel
theorem dX5_append_18 : decode cX5_append 18 = .ok (.invokespecial 136, 3) := by decide +kernel
theorem dX5_append_21 : decode cX5_append 21 = .ok (.athrow, 1) := by decide +kernel
theorem dX5_append_22 : decode cX5_append 22 = .ok (.aload_n 0, 1) := by decide +kernel
theorem dX5_append_23 : decode cX5_append 23 = .ok (.getfield 29, 3) := by decide +kernel
theorem dX5_append_26 : decode cX5_append 26 = .ok (.getfield 145, 3) := by decide +kernel
theorem dX5_append_29 : decode cX5_append 29 = .ok (.bipush 60, 2) := by decide +kernel
theorem dX5_append_31 : decode cX5_append 31 = .ok (.if_icmp .lt 13, 3) := by decide +kernel
theorem dX5_append_34 : decode cX5_append 34 = .ok (.new 47, 3) := by decide +kernel
theorem dX5_append_37 : decode cX5_append 37 = .ok (.dup, 1) := by decide +kernel
theorem dX5_append_38 : decode cX5_append 38 = .ok (.ldc 148, 2) := by decide +kernel
theorem dX5_append_40 : decode cX5_append 40 = .ok (.invokespecial 51, 3) := by decide +kernel
theorem dX5_append_43 : decode cX5_append 43 = .ok (.athrow, 1) := by decide +kernel
theorem dX5_append_44 : decode cX5_append 44 = .ok (.aload_n 0, 1) := by decide +kernel
theorem dX5_append_45 : decode cX5_append 45 = .ok (.getfield 29, 3) := by decide +kernel
theorem dX5_append_48 : decode cX5_append 48 = .ok (.iload_n 1, 1) := by decide +kernel
theorem dX5_append_49 : decode cX5_append 49 = .ok (.i2c, 1) := by decide +kernel
theorem dX5_append_50 : decode cX5_append 50 = .ok (.invokevirtual 150, 3) := by decide +kernel
theorem dX5_append_53 : decode cX5_append 53 = .ok (.ireturn, 1) := by decide +kernel
theorem dX5_clearBuffer_0 : decode cX5_clearBuffer 0 = .ok (.aload_n 0, 1) := by decide +kernel
theorem dX5_clearBuffer_1 : decode cX5_clearBuffer 1 = .ok (.getfield 29, 3) := by decide +kernel
theorem dX5_clearBuffer_4 : decode cX5_clearBuffer 4 = .ok (.invokevirtual 154, 3) := by decide +kernel
theorem dX5_clearBuffer_7 : decode cX5_clearBuffer 7 = .ok (.ireturn, 1) := by decide +kernel
theorem dX5_firstError_0 : decode cX5_firstError 0 = .ok (.aload_n 0, 1) := by decide +kernel
theorem dX5_firstError_1 : decode cX5_firstError 1 = .ok (.getfield 29, 3) := by decide +kernel
theorem dX5_firstError_4 : decode cX5_firstError 4 = .ok (.invokevirtual 158, 3) := by decide +kernel
theorem dX5_firstError_7 : decode cX5_firstError 7 = .ok (.ireturn, 1) := by decide +kernel
theorem dX5_comeAll_0 : decode cX5_comeAll 0 = .ok (.aload_n 0, 1) := by decide +kernel
theorem dX5_comeAll_1 : decode cX5_comeAll 1 = .ok (.getfield 29, 3) := by decide +kernel
theorem dX5_comeAll_4 : decode cX5_comeAll 4 = .ok (.invokevirtual 161, 3) := by decide +kernel
theorem dX5_comeAll_7 : decode cX5_comeAll 7 = .ok (.ifCond .ne 13, 3) := by decide +kernel
theorem dX5_comeAll_10 : decode cX5_comeAll 10 = .ok (.new 132, 3) := by decide +kernel
theorem dX5_comeAll_13 : decode cX5_comeAll 13 = .ok (.dup, 1) := by decide +kernel
theorem dX5_comeAll_14 : decode cX5_comeAll 14 = .ok (.ldc 165, 2) := by decide +kernel
theorem dX5_comeAll_16 : decode cX5_comeAll 16 = .ok (.invokespecial 136, 3) := by decide +kernel
theorem dX5_comeAll_19 : decode cX5_comeAll 19 = .ok (.athrow, 1) := by decide +kernel
theorem dX5_comeAll_20 : decode cX5_comeAll 20 = .ok (.aload_n 0, 1) := by decide +kernel
theorem dX5_comeAll_21 : decode cX5_comeAll 21 = .ok (.getfield 22, 3) := by decide +kernel
theorem dX5_comeAll_24 : decode cX5_comeAll 24 = .ok (.aload_n 0, 1) := by decide +kernel
theorem dX5_comeAll_25 : decode cX5_comeAll 25 = .ok (.getfield 10, 3) := by decide +kernel
theorem dX5_comeAll_28 : decode cX5_comeAll 28 = .ok (.invokevirtual 54, 3) := by decide +kernel
theorem dX5_comeAll_31 : decode cX5_comeAll 31 = .ok (.iconst 0, 1) := by decide +kernel
theorem dX5_comeAll_32 : decode cX5_comeAll 32 = .ok (.istore_n 1, 1) := by decide +kernel
theorem dX5_comeAll_33 : decode cX5_comeAll 33 = .ok (.aload_n 0, 1) := by decide +kernel
theorem dX5_comeAll_34 : decode cX5_comeAll 34 = .ok (.getfield 29, 3) := by decide +kernel
theorem dX5_comeAll_37 : decode cX5_comeAll 37 = .ok (.invokevirtual 167, 3) := by decide +kernel
theorem dX5_comeAll_40 : decode cX5_comeAll 40 = .ok (.istore_n 2, 1) := by decide +kernel
theorem dX5_comeAll_41 : decode cX5_comeAll 41 = .ok (.iconst 0, 1) := by decide +kernel
theorem dX5_comeAll_42 : decode cX5_comeAll 42 = .ok (.istore_n 3, 1) := by decide +kernel
theorem dX5_comeAll_43 : decode cX5_comeAll 43 = .ok (.iload_n 3, 1) := by decide +kernel
theorem dX5_comeAll_44 : decode cX5_comeAll 44 = .ok (.iload_n 2, 1) := by decide +kernel
theorem dX5_comeAll_45 : decode cX5_comeAll 45 = .ok (.if_icmp .ge 43, 3) := by decide +kernel
theorem dX5_comeAll_48 : decode cX5_comeAll 48 = .ok (.iload_n 1, 1) := by decide +kernel
theorem dX5_comeAll_49 : decode cX5_comeAll 49 = .ok (.aload_n 0, 1) := by decide +kernel
theorem dX5_comeAll_50 : decode cX5_comeAll 50 = .ok (.getfield 10, 3) := by decide +kernel
theorem dX5_comeAll_53 : decode cX5_comeAll 53 = .ok (.invokevirtual 170, 3) := by decide +kernel
theorem dX5_comeAll_56 : decode cX5_comeAll 56 = .ok (.iadd, 1) := by decide +kernel
theorem dX5_comeAll_57 : decode cX5_comeAll 57 = .ok (.istore_n 1, 1) := by decide +kernel
theorem dX5_comeAll_58 : decode cX5_comeAll 58 = .ok (.aload_n 0, 1) := by decide +kernel
theorem dX5_comeAll_59 : decode cX5_comeAll 59 = .ok (.getfield 10, 3) := by decide +kernel
theorem dX5_comeAll_62 : decode cX5_comeAll 62 = .ok (.aload_n 0, 1) := by decide +kernel
theorem dX5_comeAll_63 : decode cX5_comeAll 63 = .ok (.getfield 29, 3) := by decide +kernel
theorem dX5_comeAll_66 : decode cX5_comeAll 66 = .ok (.iload_n 3, 1) := by decide +kernel
theorem dX5_comeAll_67 : decode cX5_comeAll 67 = .ok (.invokevirtual 173, 3) := by decide +kernel
theorem dX5_comeAll_70 : decode cX5_comeAll 70 = .ok (.aload_n 0, 1) := by decide +kernel
theorem dX5_comeAll_71 : decode cX5_comeAll 71 = .ok (.getfield 29, 3) := by decide +kernel
theorem dX5_comeAll_74 : decode cX5_comeAll 74 = .ok (.iload_n 3, 1) := by decide +kernel
theorem dX5_comeAll_75 : decode cX5_comeAll 75 = .ok (.invokevirtual 176, 3) := by decide +kernel
theorem dX5_comeAll_78 : decode cX5_comeAll 78 = .ok (.invokevirtual 58, 3) := by decide +kernel
theorem dX5_comeAll_81 : decode cX5_comeAll 81 = .ok (.pop, 1) := by decide +kernel
theorem dX5_comeAll_82 : decode cX5_comeAll 82 = .ok (.iinc 3 1, 3) := by decide +kernel
theorem dX5_comeAll_85 : decode cX5_comeAll 85 = .ok (.goto (-42), 3) := by decide +kernel
theorem dX5_comeAll_88 : decode cX5_comeAll 88 = .ok (.aload_n 0, 1) := by decide +kernel
theorem dX5_comeAll_89 : decode cX5_comeAll 89 = .ok (.getfield 29, 3) := by decide +kernel
theorem dX5_comeAll_92 : decode cX5_comeAll 92 = .ok (.invokevirtual 154, 3) := by decide +kernel
theorem dX5_comeAll_95 : decode cX5_comeAll 95 = .ok (.pop, 1) := by decide +kernel
theorem dX5_comeAll_96 : decode cX5_comeAll 96 = .ok (.iload_n 1, 1) := by decide +kernel
theorem dX5_comeAll_97 : decode cX5_comeAll 97 = .ok (.ireturn, 1) := by decide +kernel
theorem dX5_undo_0 : decode cX5_undo 0 = .ok (.aload_n 0, 1) := by decide +kernel
theorem dX5_undo_1 : decode cX5_undo 1 = .ok (.getfield 22, 3) := by decide +kernel
theorem dX5_undo_4 : decode cX5_undo 4 = .ok (.getfield 179, 3) := by decide +kernel
theorem dX5_undo_7 : decode cX5_undo 7 = .ok (.ifCond .gt 13, 3) := by decide +kernel
theorem dX5_undo_10 : decode cX5_undo 10 = .ok (.new 47, 3) := by decide +kernel
theorem dX5_undo_13 : decode cX5_undo 13 = .ok (.dup, 1) := by decide +kernel
theorem dX5_undo_14 : decode cX5_undo 14 = .ok (.ldc 182, 2) := by decide +kernel
theorem dX5_undo_16 : decode cX5_undo 16 = .ok (.invokespecial 51, 3) := by decide +kernel
theorem dX5_undo_19 : decode cX5_undo 19 = .ok (.athrow, 1) := by decide +kernel
theorem dX5_undo_20 : decode cX5_undo 20 = .ok (.aload_n 0, 1) := by decide +kernel
theorem dX5_undo_21 : decode cX5_undo 21 = .ok (.getfield 22, 3) := by decide +kernel
theorem dX5_undo_24 : decode cX5_undo 24 = .ok (.aload_n 0, 1) := by decide +kernel
theorem dX5_undo_25 : decode cX5_undo 25 = .ok (.getfield 10, 3) := by decide +kernel
theorem dX5_undo_28 : decode cX5_undo 28 = .ok (.invokevirtual 184, 3) := by decide +kernel
theorem dX5_undo_31 : decode cX5_undo 31 = .ok (.aload_n 0, 1) := by decide +kernel
theorem dX5_undo_32 : decode cX5_undo 32 = .ok (.getfield 22, 3) := by decide +kernel
theorem dX5_undo_35 : decode cX5_undo 35 = .ok (.getfield 179, 3) := by decide +kernel
theorem dX5_undo_38 : decode cX5_undo 38 = .ok (.ireturn, 1) := by decide +kernel
theorem dX5_floor_0 : decode cX5_floor 0 = .ok (.iload_n 1, 1) := by decide +kernel
theorem dX5_floor_1 : decode cX5_floor 1 = .ok (.invokestatic 71, 3) := by decide +kernel
theorem dX5_floor_4 : decode cX5_floor 4 = .ok (.iload_n 2, 1) := by decide +kernel
theorem dX5_floor_5 : decode cX5_floor 5 = .ok (.bipush 8, 2) := by decide +kernel
theorem dX5_floor_7 : decode cX5_floor 7 = .ok (.invokestatic 187, 3) := by decide +kernel
theorem dX5_floor_10 : decode cX5_floor 10 = .ok (.aload_n 0, 1) := by decide +kernel
theorem dX5_floor_11 : decode cX5_floor 11 = .ok (.getfield 10, 3) := by decide +kernel
theorem dX5_floor_14 : decode cX5_floor 14 = .ok (.iload_n 1, 1) := by decide +kernel
theorem dX5_floor_15 : decode cX5_floor 15 = .ok (.iload_n 2, 1) := by decide +kernel
theorem dX5_floor_16 : decode cX5_floor 16 = .ok (.invokevirtual 190, 3) := by decide +kernel
theorem dX5_floor_19 : decode cX5_floor 19 = .ok (.ireturn, 1) := by decide +kernel
theorem dX5_person_0 : decode cX5_person 0 = .ok (.iload_n 1, 1) := by decide +kernel
theorem dX5_person_1 : decode cX5_person 1 = .ok (.ifCond .ge 13, 3) := by decide +kernel
theorem dX5_person_4 : decode cX5_person 4 = .ok (.new 132, 3) := by decide +kernel
theorem dX5_person_7 : decode cX5_person 7 = .ok (.dup, 1) := by decide +kernel
theorem dX5_person_8 : decode cX5_person 8 = .ok (.ldc 193, 2) := by decide +kernel
theorem dX5_person_10 : decode cX5_person 10 = .ok (.invokespecial 136, 3) := by decide +kernel
theorem dX5_person_13 : decode cX5_person 13 = .ok (.athrow, 1) := by decide +kernel
theorem dX5_person_14 : decode cX5_person 14 = .ok (.iload_n 2, 1) := by decide +kernel
theorem dX5_person_15 : decode cX5_person 15 = .ok (.iconst 4, 1) := by decide +kernel
theorem dX5_person_16 : decode cX5_person 16 = .ok (.invokestatic 187, 3) := by decide +kernel
theorem dX5_person_19 : decode cX5_person 19 = .ok (.aload_n 0, 1) := by decide +kernel
theorem dX5_person_20 : decode cX5_person 20 = .ok (.getfield 10, 3) := by decide +kernel
theorem dX5_person_23 : decode cX5_person 23 = .ok (.getfield 37, 3) := by decide +kernel
theorem dX5_person_26 : decode cX5_person 26 = .ok (.iload_n 1, 1) := by decide +kernel
theorem dX5_person_27 : decode cX5_person 27 = .ok (.iload_n 2, 1) := by decide +kernel
theorem dX5_person_28 : decode cX5_person 28 = .ok (.invokevirtual 195, 3) := by decide +kernel
theorem dX5_person_31 : decode cX5_person 31 = .ok (.ireturn, 1) := by decide +kernel
theorem dX5_count_0 : decode cX5_count 0 = .ok (.iload_n 1, 1) := by decide +kernel
theorem dX5_count_1 : decode cX5_count 1 = .ok (.bipush 11, 2) := by decide +kernel
theorem dX5_count_3 : decode cX5_count 3 = .ok (.invokestatic 187, 3) := by decide +kernel
theorem dX5_count_6 : decode cX5_count 6 = .ok (.aload_n 0, 1) := by decide +kernel
theorem dX5_count_7 : decode cX5_count 7 = .ok (.iload_n 1, 1) := by decide +kernel
theorem dX5_count_8 : decode cX5_count 8 = .ok (.invokevirtual 198, 3) := by decide +kernel
theorem dX5_count_11 : decode cX5_count 11 = .ok (.ireturn, 1) := by decide +kernel
theorem dX5_setting_0 : decode cX5_setting 0 = .ok (.iload_n 1, 1) := by decide +kernel
theorem dX5_setting_1 : decode cX5_setting 1 = .ok (.invokestatic 123, 3) := by decide +kernel
theorem dX5_setting_4 : decode cX5_setting 4 = .ok (.aload_n 0, 1) := by decide +kernel
theorem dX5_setting_5 : decode cX5_setting 5 = .ok (.getfield 10, 3) := by decide +kernel
theorem dX5_setting_8 : decode cX5_setting 8 = .ok (.getfield 83, 3) := by decide +kernel
theorem dX5_setting_11 : decode cX5_setting 11 = .ok (.iload_n 1, 1) := by decide +kernel
theorem dX5_setting_12 : decode cX5_setting 12 = .ok (.invokestatic 79, 3) := by decide +kernel
theorem dX5_setting_15 : decode cX5_setting 15 = .ok (.ireturn, 1) := by decide +kernel
theorem dX5_ifPassed_0 : decode cX5_ifPassed 0 = .ok (.iload_n 1, 1) := by decide +kernel
theorem dX5_ifPassed_1 : decode cX5_ifPassed 1 = .ok (.invokestatic 137, 3) := by decide +kernel
theorem dX5_ifPassed_4 : decode cX5_ifPassed 4 = .ok (.iload_n 2, 1) := by decide +kernel
theorem dX5_ifPassed_5 : decode cX5_ifPassed 5 = .ok (.iconst 4, 1) := by decide +kernel
theorem dX5_ifPassed_6 : decode cX5_ifPassed 6 = .ok (.invokestatic 187, 3) := by decide +kernel
theorem dX5_ifPassed_9 : decode cX5_ifPassed 9 = .ok (.aload_n 0, 1) := by decide +kernel
theorem dX5_ifPassed_10 : decode cX5_ifPassed 10 = .ok (.iload_n 1, 1) := by decide +kernel
theorem dX5_ifPassed_11 : decode cX5_ifPassed 11 = .ok (.iload_n 2, 1) := by decide +kernel
theorem dX5_ifPassed_12 : decode cX5_ifPassed 12 = .ok (.invokevirtual 201, 3) := by decide +kernel
theorem dX5_ifPassed_15 : decode cX5_ifPassed 15 = .ok (.ireturn, 1) := by decide +kernel
theorem dX5_dark_0 : decode cX5_dark 0 = .ok (.iload_n 1, 1) := by decide +kernel
theorem dX5_dark_1 : decode cX5_dark 1 = .ok (.iload_n 2, 1) := by decide +kernel
theorem dX5_dark_2 : decode cX5_dark 2 = .ok (.invokestatic 33, 3) := by decide +kernel
theorem dX5_dark_5 : decode cX5_dark 5 = .ok (.aload_n 0, 1) := by decide +kernel
theorem dX5_dark_6 : decode cX5_dark 6 = .ok (.aload_n 0, 1) := by decide +kernel
theorem dX5_dark_7 : decode cX5_dark 7 = .ok (.getfield 10, 3) := by decide +kernel
theorem dX5_dark_10 : decode cX5_dark 10 = .ok (.getfield 83, 3) := by decide +kernel
theorem dX5_dark_13 : decode cX5_dark 13 = .ok (.iconst 0, 1) := by decide +kernel
theorem dX5_dark_14 : decode cX5_dark 14 = .ok (.invokestatic 79, 3) := by decide +kernel
theorem dX5_dark_17 : decode cX5_dark 17 = .ok (.iload_n 1, 1) := by decide +kernel
theorem dX5_dark_18 : decode cX5_dark 18 = .ok (.iload_n 2, 1) := by decide +kernel
theorem dX5_dark_19 : decode cX5_dark 19 = .ok (.invokevirtual 204, 3) := by decide +kernel
theorem dX5_dark_22 : decode cX5_dark 22 = .ok (.ireturn, 1) := by decide +kernel
theorem dX5_leastTime_0 : decode cX5_leastTime 0 = .ok (.iload_n 1, 1) := by decide +kernel
theorem dX5_leastTime_1 : decode cX5_leastTime 1 = .ok (.iload_n 2, 1) := by decide +kernel
theorem dX5_leastTime_2 : decode cX5_leastTime 2 = .ok (.invokestatic 33, 3) := by decide +kernel
theorem dX5_leastTime_5 : decode cX5_leastTime 5 = .ok (.aload_n 0, 1) := by decide +kernel
theorem dX5_leastTime_6 : decode cX5_leastTime 6 = .ok (.iload_n 1, 1) := by decide +kernel
theorem dX5_leastTime_7 : decode cX5_leastTime 7 = .ok (.iload_n 2, 1) := by decide +kernel
theorem dX5_leastTime_8 : decode cX5_leastTime 8 = .ok (.invokevirtual 208, 3) := by decide +kernel
theorem dX5_leastTime_11 : decode cX5_leastTime 11 = .ok (.ireturn, 1) := by decide +kernel
theorem dX5_worst_0 : decode cX5_worst 0 = .ok (.aload_n 0, 1) := by decide +kernel
theorem dX5_worst_1 : decode cX5_worst 1 = .ok (.getfield 10, 3) := by decide +kernel
theorem dX5_worst_4 : decode cX5_worst 4 = .ok (.getfield 90, 3) := by decide +kernel
theorem dX5_worst_7 : decode cX5_worst 7 = .ok (.invokevirtual 211, 3) := by decide +kernel
theorem dX5_worst_10 : decode cX5_worst 10 = .ok (.ireturn, 1) := by decide +kernel
theorem dX5_lightness_0 : decode cX5_lightness 0 = .ok (.aload_n 0, 1) := by decide +kernel
theorem dX5_lightness_1 : decode cX5_lightness 1 = .ok (.getfield 10, 3) := by decide +kernel
theorem dX5_lightness_4 : decode cX5_lightness 4 = .ok (.invokevirtual 214, 3) := by decide +kernel
theorem dX5_lightness_7 : decode cX5_lightness 7 = .ok (.dreturn, 1) := by decide +kernel
theorem dX5_digest_0 : decode cX5_digest 0 = .ok (.ldc2_w 218, 3) := by decide +kernel
theorem dX5_digest_3 : decode cX5_digest 3 = .ok (.lstore_n 1, 1) := by decide +kernel
theorem dX5_digest_4 : decode cX5_digest 4 = .ok (.iconst 0, 1) := by decide +kernel
theorem dX5_digest_5 : decode cX5_digest 5 = .ok (.istore_n 3, 1) := by decide +kernel
theorem dX5_digest_6 : decode cX5_digest 6 = .ok (.iload_n 3, 1) := by decide +kernel
theorem dX5_digest_7 : decode cX5_digest 7 = .ok (.bipush 11, 2) := by decide +kernel
theorem dX5_digest_9 : decode cX5_digest 9 = .ok (.if_icmp .ge 20, 3) := by decide +kernel
theorem dX5_digest_12 : decode cX5_digest 12 = .ok (.lload_n 1, 1) := by decide +kernel
theorem dX5_digest_13 : decode cX5_digest 13 = .ok (.aload_n 0, 1) := by decide +kernel
theorem dX5_digest_14 : decode cX5_digest 14 = .ok (.iload_n 3, 1) := by decide +kernel
theorem dX5_digest_15 : decode cX5_digest 15 = .ok (.invokevirtual 198, 3) := by decide +kernel
theorem dX5_digest_18 : decode cX5_digest 18 = .ok (.i2l, 1) := by decide +kernel
theorem dX5_digest_19 : decode cX5_digest 19 = .ok (.invokestatic 220, 3) := by decide +kernel
theorem dX5_digest_22 : decode cX5_digest 22 = .ok (.lstore_n 1, 1) := by decide +kernel
theorem dX5_digest_23 : decode cX5_digest 23 = .ok (.iinc 3 1, 3) := by decide +kernel
theorem dX5_digest_26 : decode cX5_digest 26 = .ok (.goto (-20), 3) := by decide +kernel
theorem dX5_digest_29 : decode cX5_digest 29 = .ok (.iconst 0, 1) := by decide +kernel
theorem dX5_digest_30 : decode cX5_digest 30 = .ok (.istore_n 3, 1) := by decide +kernel
theorem dX5_digest_31 : decode cX5_digest 31 = .ok (.iload_n 3, 1) := by decide +kernel
theorem dX5_digest_32 : decode cX5_digest 32 = .ok (.aload_n 0, 1) := by decide +kernel
theorem dX5_digest_33 : decode cX5_digest 33 = .ok (.getfield 10, 3) := by decide +kernel
theorem dX5_digest_36 : decode cX5_digest 36 = .ok (.getfield 83, 3) := by decide +kernel
theorem dX5_digest_39 : decode cX5_digest 39 = .ok (.arraylength, 1) := by decide +kernel
theorem dX5_digest_40 : decode cX5_digest 40 = .ok (.if_icmp .ge 24, 3) := by decide +kernel
theorem dX5_digest_43 : decode cX5_digest 43 = .ok (.lload_n 1, 1) := by decide +kernel
theorem dX5_digest_44 : decode cX5_digest 44 = .ok (.aload_n 0, 1) := by decide +kernel
theorem dX5_digest_45 : decode cX5_digest 45 = .ok (.getfield 10, 3) := by decide +kernel
theorem dX5_digest_48 : decode cX5_digest 48 = .ok (.getfield 83, 3) := by decide +kernel
theorem dX5_digest_51 : decode cX5_digest 51 = .ok (.iload_n 3, 1) := by decide +kernel
theorem dX5_digest_52 : decode cX5_digest 52 = .ok (.iaload, 1) := by decide +kernel
theorem dX5_digest_53 : decode cX5_digest 53 = .ok (.i2l, 1) := by decide +kernel
theorem dX5_digest_54 : decode cX5_digest 54 = .ok (.invokestatic 220, 3) := by decide +kernel
theorem dX5_digest_57 : decode cX5_digest 57 = .ok (.lstore_n 1, 1) := by decide +kernel
theorem dX5_digest_58 : decode cX5_digest 58 = .ok (.iinc 3 1, 3) := by decide +kernel
theorem dX5_digest_61 : decode cX5_digest 61 = .ok (.goto (-30), 3) := by decide +kernel
theorem dX5_digest_64 : decode cX5_digest 64 = .ok (.aload_n 0, 1) := by decide +kernel
theorem dX5_digest_65 : decode cX5_digest 65 = .ok (.lload_n 1, 1) := by decide +kernel
theorem dX5_digest_66 : decode cX5_digest 66 = .ok (.invokevirtual 224, 3) := by decide +kernel
theorem dX5_digest_69 : decode cX5_digest 69 = .ok (.lstore_n 1, 1) := by decide +kernel
theorem dX5_digest_70 : decode cX5_digest 70 = .ok (.aload_n 0, 1) := by decide +kernel
theorem dX5_digest_71 : decode cX5_digest 71 = .ok (.lload_n 1, 1) := by decide +kernel
theorem dX5_digest_72 : decode cX5_digest 72 = .ok (.invokevirtual 228, 3) := by decide +kernel
theorem dX5_digest_75 : decode cX5_digest 75 = .ok (.lstore_n 1, 1) := by decide +kernel
theorem dX5_digest_76 : decode cX5_digest 76 = .ok (.iconst 0, 1) := by decide +kernel
theorem dX5_digest_77 : decode cX5_digest 77 = .ok (.istore_n 3, 1) := by decide +kernel
theorem dX5_digest_78 : decode cX5_digest 78 = .ok (.iload_n 3, 1) := by decide +kernel
theorem dX5_digest_79 : decode cX5_digest 79 = .ok (.iconst 4, 1) := by decide +kernel
theorem dX5_digest_80 : decode cX5_digest 80 = .ok (.if_icmp .ge 22, 3) := by decide +kernel
theorem dX5_digest_83 : decode cX5_digest 83 = .ok (.lload_n 1, 1) := by decide +kernel
theorem dX5_digest_84 : decode cX5_digest 84 = .ok (.aload_n 0, 1) := by decide +kernel
theorem dX5_digest_85 : decode cX5_digest 85 = .ok (.bipush 30, 2) := by decide +kernel
theorem dX5_digest_87 : decode cX5_digest 87 = .ok (.iload_n 3, 1) := by decide +kernel
theorem dX5_digest_88 : decode cX5_digest 88 = .ok (.invokevirtual 201, 3) := by decide +kernel
theorem dX5_digest_91 : decode cX5_digest 91 = .ok (.i2l, 1) := by decide +kernel
theorem dX5_digest_92 : decode cX5_digest 92 = .ok (.invokestatic 220, 3) := by decide +kernel
theorem dX5_digest_95 : decode cX5_digest 95 = .ok (.lstore_n 1, 1) := by decide +kernel
theorem dX5_digest_96 : decode cX5_digest 96 = .ok (.iinc 3 1, 3) := by decide +kernel
theorem dX5_digest_99 : decode cX5_digest 99 = .ok (.goto (-21), 3) := by decide +kernel
theorem dX5_digest_102 : decode cX5_digest 102 = .ok (.aload_n 0, 1) := by decide +kernel
theorem dX5_digest_103 : decode cX5_digest 103 = .ok (.getfield 10, 3) := by decide +kernel
theorem dX5_digest_106 : decode cX5_digest 106 = .ok (.getfield 83, 3) := by decide +kernel
theorem dX5_digest_109 : decode cX5_digest 109 = .ok (.iconst 0, 1) := by decide +kernel
theorem dX5_digest_110 : decode cX5_digest 110 = .ok (.invokestatic 79, 3) := by decide +kernel
theorem dX5_digest_113 : decode cX5_digest 113 = .ok (.istore_n 3, 1) := by decide +kernel
theorem dX5_digest_114 : decode cX5_digest 114 = .ok (.lload_n 1, 1) := by decide +kernel
theorem dX5_digest_115 : decode cX5_digest 115 = .ok (.aload_n 0, 1) := by decide +kernel
theorem dX5_digest_116 : decode cX5_digest 116 = .ok (.iload_n 3, 1) := by decide +kernel
theorem dX5_digest_117 : decode cX5_digest 117 = .ok (.iconst 0, 1) := by decide +kernel
theorem dX5_digest_118 : decode cX5_digest 118 = .ok (.bipush 7, 2) := by decide +kernel
theorem dX5_digest_120 : decode cX5_digest 120 = .ok (.invokevirtual 204, 3) := by decide +kernel
theorem dX5_digest_123 : decode cX5_digest 123 = .ok (.i2l, 1) := by decide +kernel
theorem dX5_digest_124 : decode cX5_digest 124 = .ok (.invokestatic 220, 3) := by decide +kernel
theorem dX5_digest_127 : decode cX5_digest 127 = .ok (.lstore_n 1, 1) := by decide +kernel
theorem dX5_digest_128 : decode cX5_digest 128 = .ok (.lload_n 1, 1) := by decide +kernel
theorem dX5_digest_129 : decode cX5_digest 129 = .ok (.aload_n 0, 1) := by decide +kernel
theorem dX5_digest_130 : decode cX5_digest 130 = .ok (.iload_n 3, 1) := by decide +kernel
theorem dX5_digest_131 : decode cX5_digest 131 = .ok (.bipush 6, 2) := by decide +kernel
theorem dX5_digest_133 : decode cX5_digest 133 = .ok (.iconst 2, 1) := by decide +kernel
theorem dX5_digest_134 : decode cX5_digest 134 = .ok (.invokevirtual 204, 3) := by decide +kernel
theorem dX5_digest_137 : decode cX5_digest 137 = .ok (.i2l, 1) := by decide +kernel
theorem dX5_digest_138 : decode cX5_digest 138 = .ok (.invokestatic 220, 3) := by decide +kernel
theorem dX5_digest_141 : decode cX5_digest 141 = .ok (.lstore_n 1, 1) := by decide +kernel
theorem dX5_digest_142 : decode cX5_digest 142 = .ok (.lload_n 1, 1) := by decide +kernel
theorem dX5_digest_143 : decode cX5_digest 143 = .ok (.aload_n 0, 1) := by decide +kernel
theorem dX5_digest_144 : decode cX5_digest 144 = .ok (.iconst 1, 1) := by decide +kernel
theorem dX5_digest_145 : decode cX5_digest 145 = .ok (.iconst 5, 1) := by decide +kernel
theorem dX5_digest_146 : decode cX5_digest 146 = .ok (.invokevirtual 208, 3) := by decide +kernel
theorem dX5_digest_149 : decode cX5_digest 149 = .ok (.i2l, 1) := by decide +kernel
theorem dX5_digest_150 : decode cX5_digest 150 = .ok (.invokestatic 220, 3) := by decide +kernel
theorem dX5_digest_153 : decode cX5_digest 153 = .ok (.lstore_n 1, 1) := by decide +kernel
theorem dX5_digest_154 : decode cX5_digest 154 = .ok (.lload_n 1, 1) := by decide +kernel
theorem dX5_digest_155 : decode cX5_digest 155 = .ok (.aload_n 0, 1) := by decide +kernel
theorem dX5_digest_156 : decode cX5_digest 156 = .ok (.getfield 10, 3) := by decide +kernel
theorem dX5_digest_159 : decode cX5_digest 159 = .ok (.getfield 90, 3) := by decide +kernel
theorem dX5_digest_162 : decode cX5_digest 162 = .ok (.invokevirtual 211, 3) := by decide +kernel
theorem dX5_digest_165 : decode cX5_digest 165 = .ok (.i2l, 1) := by decide +kernel
theorem dX5_digest_166 : decode cX5_digest 166 = .ok (.invokestatic 220, 3) := by decide +kernel
theorem dX5_digest_169 : decode cX5_digest 169 = .ok (.lstore_n 1, 1) := by decide +kernel
theorem dX5_digest_170 : decode cX5_digest 170 = .ok (.lload_n 1, 1) := by decide +kernel
theorem dX5_digest_171 : decode cX5_digest 171 = .ok (.aload_n 0, 1) := by decide +kernel
theorem dX5_digest_172 : decode cX5_digest 172 = .ok (.getfield 10, 3) := by decide +kernel
theorem dX5_digest_175 : decode cX5_digest 175 = .ok (.invokevirtual 214, 3) := by decide +kernel
theorem dX5_digest_178 : decode cX5_digest 178 = .ok (.invokestatic 231, 3) := by decide +kernel
theorem dX5_digest_181 : decode cX5_digest 181 = .ok (.invokestatic 220, 3) := by decide +kernel
theorem dX5_digest_184 : decode cX5_digest 184 = .ok (.lstore_n 1, 1) := by decide +kernel
theorem dX5_digest_185 : decode cX5_digest 185 = .ok (.aload_n 0, 1) := by decide +kernel
theorem dX5_digest_186 : decode cX5_digest 186 = .ok (.lload_n 1, 1) := by decide +kernel
theorem dX5_digest_187 : decode cX5_digest 187 = .ok (.invokevirtual 235, 3) := by decide +kernel
theorem dX5_digest_190 : decode cX5_digest 190 = .ok (.lreturn, 1) := by decide +kernel
theorem dX5_checkFloor_0 : decode cX5_checkFloor 0 = .ok (.iload_n 0, 1) := by decide +kernel
theorem dX5_checkFloor_1 : decode cX5_checkFloor 1 = .ok (.ifCond .lt 9, 3) := by decide +kernel
theorem dX5_checkFloor_4 : decode cX5_checkFloor 4 = .ok (.iload_n 0, 1) := by decide +kernel
theorem dX5_checkFloor_5 : decode cX5_checkFloor 5 = .ok (.bipush 8, 2) := by decide +kernel
theorem dX5_checkFloor_7 : decode cX5_checkFloor 7 = .ok (.if_icmp .lt 13, 3) := by decide +kernel
theorem dX5_checkFloor_10 : decode cX5_checkFloor 10 = .ok (.new 66, 3) := by decide +kernel
theorem dX5_checkFloor_13 : decode cX5_checkFloor 13 = .ok (.dup, 1) := by decide +kernel
theorem dX5_checkFloor_14 : decode cX5_checkFloor 14 = .ok (.ldc 238, 2) := by decide +kernel
theorem dX5_checkFloor_16 : decode cX5_checkFloor 16 = .ok (.invokespecial 70, 3) := by decide +kernel
theorem dX5_checkFloor_19 : decode cX5_checkFloor 19 = .ok (.athrow, 1) := by decide +kernel
theorem dX5_checkFloor_20 : decode cX5_checkFloor 20 = .ok (.return_, 1) := by decide +kernel
theorem dX5_checkWay_0 : decode cX5_checkWay 0 = .ok (.iload_n 0, 1) := by decide +kernel
theorem dX5_checkWay_1 : decode cX5_checkWay 1 = .ok (.invokestatic 71, 3) := by decide +kernel
theorem dX5_checkWay_4 : decode cX5_checkWay 4 = .ok (.iload_n 1, 1) := by decide +kernel
theorem dX5_checkWay_5 : decode cX5_checkWay 5 = .ok (.invokestatic 71, 3) := by decide +kernel
theorem dX5_checkWay_8 : decode cX5_checkWay 8 = .ok (.iload_n 0, 1) := by decide +kernel
theorem dX5_checkWay_9 : decode cX5_checkWay 9 = .ok (.iload_n 1, 1) := by decide +kernel
theorem dX5_checkWay_10 : decode cX5_checkWay 10 = .ok (.if_icmp .ne 13, 3) := by decide +kernel
theorem dX5_checkWay_13 : decode cX5_checkWay 13 = .ok (.new 132, 3) := by decide +kernel
theorem dX5_checkWay_16 : decode cX5_checkWay 16 = .ok (.dup, 1) := by decide +kernel
theorem dX5_checkWay_17 : decode cX5_checkWay 17 = .ok (.ldc 240, 2) := by decide +kernel
theorem dX5_checkWay_19 : decode cX5_checkWay 19 = .ok (.invokespecial 136, 3) := by decide +kernel
theorem dX5_checkWay_22 : decode cX5_checkWay 22 = .ok (.athrow, 1) := by decide +kernel
theorem dX5_checkWay_23 : decode cX5_checkWay 23 = .ok (.return_, 1) := by decide +kernel
theorem dX5_checkSetting_0 : decode cX5_checkSetting 0 = .ok (.iload_n 0, 1) := by decide +kernel
theorem dX5_checkSetting_1 : decode cX5_checkSetting 1 = .ok (.ifCond .lt 11, 3) := by decide +kernel
theorem dX5_checkSetting_4 : decode cX5_checkSetting 4 = .ok (.iload_n 0, 1) := by decide +kernel
theorem dX5_checkSetting_5 : decode cX5_checkSetting 5 = .ok (.getstatic 242, 3) := by decide +kernel
theorem dX5_checkSetting_8 : decode cX5_checkSetting 8 = .ok (.arraylength, 1) := by decide +kernel
theorem dX5_checkSetting_9 : decode cX5_checkSetting 9 = .ok (.if_icmp .lt 13, 3) := by decide +kernel
theorem dX5_checkSetting_12 : decode cX5_checkSetting 12 = .ok (.new 66, 3) := by decide +kernel
theorem dX5_checkSetting_15 : decode cX5_checkSetting 15 = .ok (.dup, 1) := by decide +kernel
theorem dX5_checkSetting_16 : decode cX5_checkSetting 16 = .ok (.ldc 245, 2) := by decide +kernel
theorem dX5_checkSetting_18 : decode cX5_checkSetting 18 = .ok (.invokespecial 70, 3) := by decide +kernel
theorem dX5_checkSetting_21 : decode cX5_checkSetting 21 = .ok (.athrow, 1) := by decide +kernel
theorem dX5_checkSetting_22 : decode cX5_checkSetting 22 = .ok (.return_, 1) := by decide +kernel
theorem dX5_checkSeconds_0 : decode cX5_checkSeconds 0 = .ok (.iload_n 0, 1) := by decide +kernel
theorem dX5_checkSeconds_1 : decode cX5_checkSeconds 1 = .ok (.iconst 1, 1) := by decide +kernel
theorem dX5_checkSeconds_2 : decode cX5_checkSeconds 2 = .ok (.if_icmp .lt 10, 3) := by decide +kernel
theorem dX5_checkSeconds_5 : decode cX5_checkSeconds 5 = .ok (.iload_n 0, 1) := by decide +kernel
theorem dX5_checkSeconds_6 : decode cX5_checkSeconds 6 = .ok (.sipush 300, 3) := by decide +kernel
theorem dX5_checkSeconds_9 : decode cX5_checkSeconds 9 = .ok (.if_icmp .le 13, 3) := by decide +kernel
theorem dX5_checkSeconds_12 : decode cX5_checkSeconds 12 = .ok (.new 132, 3) := by decide +kernel
theorem dX5_checkSeconds_15 : decode cX5_checkSeconds 15 = .ok (.dup, 1) := by decide +kernel
theorem dX5_checkSeconds_16 : decode cX5_checkSeconds 16 = .ok (.ldc 247, 2) := by decide +kernel
theorem dX5_checkSeconds_18 : decode cX5_checkSeconds 18 = .ok (.invokespecial 136, 3) := by decide +kernel
theorem dX5_checkSeconds_21 : decode cX5_checkSeconds 21 = .ok (.athrow, 1) := by decide +kernel
theorem dX5_checkSeconds_22 : decode cX5_checkSeconds 22 = .ok (.return_, 1) := by decide +kernel
theorem dX5_checkWhat_0 : decode cX5_checkWhat 0 = .ok (.iload_n 0, 1) := by decide +kernel
theorem dX5_checkWhat_1 : decode cX5_checkWhat 1 = .ok (.ifCond .lt 8, 3) := by decide +kernel
theorem dX5_checkWhat_4 : decode cX5_checkWhat 4 = .ok (.iload_n 0, 1) := by decide +kernel
theorem dX5_checkWhat_5 : decode cX5_checkWhat 5 = .ok (.iload_n 1, 1) := by decide +kernel
theorem dX5_checkWhat_6 : decode cX5_checkWhat 6 = .ok (.if_icmp .lt 13, 3) := by decide +kernel
theorem dX5_checkWhat_9 : decode cX5_checkWhat 9 = .ok (.new 132, 3) := by decide +kernel
theorem dX5_checkWhat_12 : decode cX5_checkWhat 12 = .ok (.dup, 1) := by decide +kernel
theorem dX5_checkWhat_13 : decode cX5_checkWhat 13 = .ok (.ldc 249, 2) := by decide +kernel
theorem dX5_checkWhat_15 : decode cX5_checkWhat 15 = .ok (.invokespecial 136, 3) := by decide +kernel
theorem dX5_checkWhat_18 : decode cX5_checkWhat 18 = .ok (.athrow, 1) := by decide +kernel
theorem dX5_checkWhat_19 : decode cX5_checkWhat 19 = .ok (.return_, 1) := by decide +kernel
theorem dX5_counted_0 : decode cX5_counted 0 = .ok (.iload_n 1, 1) := by decide +kernel
theorem dX5_counted_1 : decode cX5_counted 1 = .ok (.tableswitch 174 0 9 #[55, 63, 74, 85, 93, 107, 121, 135, 146, 157], 55) := by decide +kernel
theorem dX5_counted_56 : decode cX5_counted 56 = .ok (.aload_n 0, 1) := by decide +kernel
theorem dX5_counted_57 : decode cX5_counted 57 = .ok (.getfield 10, 3) := by decide +kernel
theorem dX5_counted_60 : decode cX5_counted 60 = .ok (.getfield 251, 3) := by decide +kernel
theorem dX5_counted_63 : decode cX5_counted 63 = .ok (.ireturn, 1) := by decide +kernel
theorem dX5_counted_64 : decode cX5_counted 64 = .ok (.aload_n 0, 1) := by decide +kernel
theorem dX5_counted_65 : decode cX5_counted 65 = .ok (.getfield 10, 3) := by decide +kernel
theorem dX5_counted_68 : decode cX5_counted 68 = .ok (.getfield 37, 3) := by decide +kernel
theorem dX5_counted_71 : decode cX5_counted 71 = .ok (.getfield 41, 3) := by decide +kernel
theorem dX5_counted_74 : decode cX5_counted 74 = .ok (.ireturn, 1) := by decide +kernel
theorem dX5_counted_75 : decode cX5_counted 75 = .ok (.aload_n 0, 1) := by decide +kernel
theorem dX5_counted_76 : decode cX5_counted 76 = .ok (.getfield 10, 3) := by decide +kernel
theorem dX5_counted_79 : decode cX5_counted 79 = .ok (.getfield 37, 3) := by decide +kernel
theorem dX5_counted_82 : decode cX5_counted 82 = .ok (.getfield 254, 3) := by decide +kernel
theorem dX5_counted_85 : decode cX5_counted 85 = .ok (.ireturn, 1) := by decide +kernel
theorem dX5_counted_86 : decode cX5_counted 86 = .ok (.aload_n 0, 1) := by decide +kernel
theorem dX5_counted_87 : decode cX5_counted 87 = .ok (.getfield 10, 3) := by decide +kernel
theorem dX5_counted_90 : decode cX5_counted 90 = .ok (.invokevirtual 257, 3) := by decide +kernel
theorem dX5_counted_93 : decode cX5_counted 93 = .ok (.ireturn, 1) := by decide +kernel
theorem dX5_counted_94 : decode cX5_counted 94 = .ok (.aload_n 0, 1) := by decide +kernel
theorem dX5_counted_95 : decode cX5_counted 95 = .ok (.getfield 10, 3) := by decide +kernel
theorem dX5_counted_98 : decode cX5_counted 98 = .ok (.getfield 90, 3) := by decide +kernel
theorem dX5_counted_101 : decode cX5_counted 101 = .ok (.getfield 260, 3) := by decide +kernel
theorem dX5_counted_104 : decode cX5_counted 104 = .ok (.invokestatic 263, 3) := by decide +kernel
theorem dX5_counted_107 : decode cX5_counted 107 = .ok (.ireturn, 1) := by decide +kernel
theorem dX5_counted_108 : decode cX5_counted 108 = .ok (.aload_n 0, 1) := by decide +kernel
theorem dX5_counted_109 : decode cX5_counted 109 = .ok (.getfield 10, 3) := by decide +kernel
theorem dX5_counted_112 : decode cX5_counted 112 = .ok (.getfield 90, 3) := by decide +kernel
theorem dX5_counted_115 : decode cX5_counted 115 = .ok (.getfield 267, 3) := by decide +kernel
theorem dX5_counted_118 : decode cX5_counted 118 = .ok (.invokestatic 263, 3) := by decide +kernel
theorem dX5_counted_121 : decode cX5_counted 121 = .ok (.ireturn, 1) := by decide +kernel
theorem dX5_counted_122 : decode cX5_counted 122 = .ok (.aload_n 0, 1) := by decide +kernel
theorem dX5_counted_123 : decode cX5_counted 123 = .ok (.getfield 10, 3) := by decide +kernel
theorem dX5_counted_126 : decode cX5_counted 126 = .ok (.getfield 90, 3) := by decide +kernel
theorem dX5_counted_129 : decode cX5_counted 129 = .ok (.getfield 270, 3) := by decide +kernel
theorem dX5_counted_132 : decode cX5_counted 132 = .ok (.invokestatic 263, 3) := by decide +kernel
theorem dX5_counted_135 : decode cX5_counted 135 = .ok (.ireturn, 1) := by decide +kernel
theorem dX5_counted_136 : decode cX5_counted 136 = .ok (.aload_n 0, 1) := by decide +kernel
theorem dX5_counted_137 : decode cX5_counted 137 = .ok (.getfield 10, 3) := by decide +kernel
theorem dX5_counted_140 : decode cX5_counted 140 = .ok (.getfield 113, 3) := by decide +kernel
theorem dX5_counted_143 : decode cX5_counted 143 = .ok (.invokestatic 105, 3) := by decide +kernel
theorem dX5_counted_146 : decode cX5_counted 146 = .ok (.ireturn, 1) := by decide +kernel
theorem dX5_counted_147 : decode cX5_counted 147 = .ok (.aload_n 0, 1) := by decide +kernel
theorem dX5_counted_148 : decode cX5_counted 148 = .ok (.getfield 10, 3) := by decide +kernel
theorem dX5_counted_151 : decode cX5_counted 151 = .ok (.getfield 117, 3) := by decide +kernel
theorem dX5_counted_154 : decode cX5_counted 154 = .ok (.invokestatic 105, 3) := by decide +kernel
theorem dX5_counted_157 : decode cX5_counted 157 = .ok (.ireturn, 1) := by decide +kernel
theorem dX5_counted_158 : decode cX5_counted 158 = .ok (.bipush 8, 2) := by decide +kernel
theorem dX5_counted_160 : decode cX5_counted 160 = .ok (.aload_n 0, 1) := by decide +kernel
theorem dX5_counted_161 : decode cX5_counted 161 = .ok (.getfield 10, 3) := by decide +kernel
theorem dX5_counted_164 : decode cX5_counted 164 = .ok (.getfield 90, 3) := by decide +kernel
theorem dX5_counted_167 : decode cX5_counted 167 = .ok (.getfield 102, 3) := by decide +kernel
theorem dX5_counted_170 : decode cX5_counted 170 = .ok (.invokestatic 263, 3) := by decide +kernel
theorem dX5_counted_173 : decode cX5_counted 173 = .ok (.isub, 1) := by decide +kernel
theorem dX5_counted_174 : decode cX5_counted 174 = .ok (.ireturn, 1) := by decide +kernel
theorem dX5_counted_175 : decode cX5_counted 175 = .ok (.aload_n 0, 1) := by decide +kernel
theorem dX5_counted_176 : decode cX5_counted 176 = .ok (.getfield 22, 3) := by decide +kernel
theorem dX5_counted_179 : decode cX5_counted 179 = .ok (.getfield 179, 3) := by decide +kernel
theorem dX5_counted_182 : decode cX5_counted 182 = .ok (.ireturn, 1) := by decide +kernel
theorem dX5_outlook_0 : decode cX5_outlook 0 = .ok (.aload_n 0, 1) := by decide +kernel
theorem dX5_outlook_1 : decode cX5_outlook 1 = .ok (.getfield 16, 3) := by decide +kernel
theorem dX5_outlook_4 : decode cX5_outlook 4 = .ok (.aload_n 0, 1) := by decide +kernel
theorem dX5_outlook_5 : decode cX5_outlook 5 = .ok (.getfield 10, 3) := by decide +kernel
theorem dX5_outlook_8 : decode cX5_outlook 8 = .ok (.invokevirtual 273, 3) := by decide +kernel
theorem dX5_outlook_11 : decode cX5_outlook 11 = .ok (.aload_n 0, 1) := by decide +kernel
theorem dX5_outlook_12 : decode cX5_outlook 12 = .ok (.getfield 16, 3) := by decide +kernel
theorem dX5_outlook_15 : decode cX5_outlook 15 = .ok (.iload_n 1, 1) := by decide +kernel
theorem dX5_outlook_16 : decode cX5_outlook 16 = .ok (.invokevirtual 140, 3) := by decide +kernel
theorem dX5_outlook_19 : decode cX5_outlook 19 = .ok (.istore_n 3, 1) := by decide +kernel
theorem dX5_outlook_20 : decode cX5_outlook 20 = .ok (.iload_n 2, 1) := by decide +kernel
theorem dX5_outlook_21 : decode cX5_outlook 21 = .ok (.tableswitch 68 0 2 #[27, 29, 57], 27) := by decide +kernel
theorem dX5_outlook_48 : decode cX5_outlook 48 = .ok (.iload_n 3, 1) := by decide +kernel
theorem dX5_outlook_49 : decode cX5_outlook 49 = .ok (.ireturn, 1) := by decide +kernel
theorem dX5_outlook_50 : decode cX5_outlook 50 = .ok (.aload_n 0, 1) := by decide +kernel
theorem dX5_outlook_51 : decode cX5_outlook 51 = .ok (.getfield 16, 3) := by decide +kernel
theorem dX5_outlook_54 : decode cX5_outlook 54 = .ok (.getfield 90, 3) := by decide +kernel
theorem dX5_outlook_57 : decode cX5_outlook 57 = .ok (.getfield 270, 3) := by decide +kernel
theorem dX5_outlook_60 : decode cX5_outlook 60 = .ok (.invokestatic 263, 3) := by decide +kernel
theorem dX5_outlook_63 : decode cX5_outlook 63 = .ok (.aload_n 0, 1) := by decide +kernel
theorem dX5_outlook_64 : decode cX5_outlook 64 = .ok (.getfield 10, 3) := by decide +kernel
theorem dX5_outlook_67 : decode cX5_outlook 67 = .ok (.getfield 90, 3) := by decide +kernel
theorem dX5_outlook_70 : decode cX5_outlook 70 = .ok (.getfield 270, 3) := by decide +kernel
theorem dX5_outlook_73 : decode cX5_outlook 73 = .ok (.invokestatic 263, 3) := by decide +kernel
theorem dX5_outlook_76 : decode cX5_outlook 76 = .ok (.isub, 1) := by decide +kernel
theorem dX5_outlook_77 : decode cX5_outlook 77 = .ok (.ireturn, 1) := by decide +kernel
theorem dX5_outlook_78 : decode cX5_outlook 78 = .ok (.aload_n 0, 1) := by decide +kernel
theorem dX5_outlook_79 : decode cX5_outlook 79 = .ok (.getfield 16, 3) := by decide +kernel
theorem dX5_outlook_82 : decode cX5_outlook 82 = .ok (.getfield 37, 3) := by decide +kernel
theorem dX5_outlook_85 : decode cX5_outlook 85 = .ok (.getfield 41, 3) := by decide +kernel
theorem dX5_outlook_88 : decode cX5_outlook 88 = .ok (.ireturn, 1) := by decide +kernel
theorem dX5_outlook_89 : decode cX5_outlook 89 = .ok (.aload_n 0, 1) := by decide +kernel
theorem dX5_outlook_90 : decode cX5_outlook 90 = .ok (.getfield 16, 3) := by decide +kernel
theorem dX5_outlook_93 : decode cX5_outlook 93 = .ok (.invokevirtual 257, 3) := by decide +kernel
theorem dX5_outlook_96 : decode cX5_outlook 96 = .ok (.ireturn, 1) := by decide +kernel
theorem dX5_darkWith_0 : decode cX5_darkWith 0 = .ok (.aload_n 0, 1) := by decide +kernel
theorem dX5_darkWith_1 : decode cX5_darkWith 1 = .ok (.getfield 16, 3) := by decide +kernel
theorem dX5_darkWith_4 : decode cX5_darkWith 4 = .ok (.aload_n 0, 1) := by decide +kernel
theorem dX5_darkWith_5 : decode cX5_darkWith 5 = .ok (.getfield 10, 3) := by decide +kernel
theorem dX5_darkWith_8 : decode cX5_darkWith 8 = .ok (.invokevirtual 273, 3) := by decide +kernel
theorem dX5_darkWith_11 : decode cX5_darkWith 11 = .ok (.aload_n 0, 1) := by decide +kernel
theorem dX5_darkWith_12 : decode cX5_darkWith 12 = .ok (.getfield 16, 3) := by decide +kernel
theorem dX5_darkWith_15 : decode cX5_darkWith 15 = .ok (.getfield 83, 3) := by decide +kernel
theorem dX5_darkWith_18 : decode cX5_darkWith 18 = .ok (.iconst 0, 1) := by decide +kernel
theorem dX5_darkWith_19 : decode cX5_darkWith 19 = .ok (.iload_n 1, 1) := by decide +kernel
theorem dX5_darkWith_20 : decode cX5_darkWith 20 = .ok (.invokestatic 109, 3) := by decide +kernel
theorem dX5_darkWith_23 : decode cX5_darkWith 23 = .ok (.aload_n 0, 1) := by decide +kernel
theorem dX5_darkWith_24 : decode cX5_darkWith 24 = .ok (.getfield 16, 3) := by decide +kernel
theorem dX5_darkWith_27 : decode cX5_darkWith 27 = .ok (.iload_n 2, 1) := by decide +kernel
theorem dX5_darkWith_28 : decode cX5_darkWith 28 = .ok (.iload_n 3, 1) := by decide +kernel
theorem dX5_darkWith_29 : decode cX5_darkWith 29 = .ok (.invokevirtual 58, 3) := by decide +kernel
theorem dX5_darkWith_32 : decode cX5_darkWith 32 = .ok (.istore 4, 2) := by decide +kernel
theorem dX5_darkWith_34 : decode cX5_darkWith 34 = .ok (.iconst 0, 1) := by decide +kernel
theorem dX5_darkWith_35 : decode cX5_darkWith 35 = .ok (.istore 5, 2) := by decide +kernel
theorem dX5_darkWith_37 : decode cX5_darkWith 37 = .ok (.iconst 0, 1) := by decide +kernel
theorem dX5_darkWith_38 : decode cX5_darkWith 38 = .ok (.istore 6, 2) := by decide +kernel
theorem dX5_darkWith_40 : decode cX5_darkWith 40 = .ok (.iload 6, 2) := by decide +kernel
theorem dX5_darkWith_42 : decode cX5_darkWith 42 = .ok (.sipush 480, 3) := by decide +kernel
theorem dX5_darkWith_45 : decode cX5_darkWith 45 = .ok (.if_icmp .ge 74, 3) := by decide +kernel
theorem dX5_darkWith_48 : decode cX5_darkWith 48 = .ok (.aload_n 0, 1) := by decide +kernel
theorem dX5_darkWith_49 : decode cX5_darkWith 49 = .ok (.getfield 16, 3) := by decide +kernel
theorem dX5_darkWith_52 : decode cX5_darkWith 52 = .ok (.invokevirtual 276, 3) := by decide +kernel
theorem dX5_darkWith_55 : decode cX5_darkWith 55 = .ok (.aload_n 0, 1) := by decide +kernel
theorem dX5_darkWith_56 : decode cX5_darkWith 56 = .ok (.getfield 16, 3) := by decide +kernel
theorem dX5_darkWith_59 : decode cX5_darkWith 59 = .ok (.getfield 37, 3) := by decide +kernel
theorem dX5_darkWith_62 : decode cX5_darkWith 62 = .ok (.iload 4, 2) := by decide +kernel
theorem dX5_darkWith_64 : decode cX5_darkWith 64 = .ok (.invokevirtual 62, 3) := by decide +kernel
theorem dX5_darkWith_67 : decode cX5_darkWith 67 = .ok (.istore 7, 2) := by decide +kernel
theorem dX5_darkWith_69 : decode cX5_darkWith 69 = .ok (.iload 7, 2) := by decide +kernel
theorem dX5_darkWith_71 : decode cX5_darkWith 71 = .ok (.iconst (-1), 1) := by decide +kernel
theorem dX5_darkWith_72 : decode cX5_darkWith 72 = .ok (.if_icmp .ne 6, 3) := by decide +kernel
theorem dX5_darkWith_75 : decode cX5_darkWith 75 = .ok (.iload 5, 2) := by decide +kernel
theorem dX5_darkWith_77 : decode cX5_darkWith 77 = .ok (.ireturn, 1) := by decide +kernel
theorem dX5_darkWith_78 : decode cX5_darkWith 78 = .ok (.aload_n 0, 1) := by decide +kernel
theorem dX5_darkWith_79 : decode cX5_darkWith 79 = .ok (.getfield 16, 3) := by decide +kernel
theorem dX5_darkWith_82 : decode cX5_darkWith 82 = .ok (.aload_n 0, 1) := by decide +kernel
theorem dX5_darkWith_83 : decode cX5_darkWith 83 = .ok (.getfield 16, 3) := by decide +kernel
theorem dX5_darkWith_86 : decode cX5_darkWith 86 = .ok (.getfield 37, 3) := by decide +kernel
theorem dX5_darkWith_89 : decode cX5_darkWith 89 = .ok (.getfield 279, 3) := by decide +kernel
theorem dX5_darkWith_92 : decode cX5_darkWith 92 = .ok (.iload 7, 2) := by decide +kernel
theorem dX5_darkWith_94 : decode cX5_darkWith 94 = .ok (.invokestatic 79, 3) := by decide +kernel
theorem dX5_darkWith_97 : decode cX5_darkWith 97 = .ok (.invokevirtual 281, 3) := by decide +kernel
theorem dX5_darkWith_100 : decode cX5_darkWith 100 = .ok (.ifCond .ne 6, 3) := by decide +kernel
theorem dX5_darkWith_103 : decode cX5_darkWith 103 = .ok (.iinc 5 1, 3) := by decide +kernel
theorem dX5_darkWith_106 : decode cX5_darkWith 106 = .ok (.aload_n 0, 1) := by decide +kernel
theorem dX5_darkWith_107 : decode cX5_darkWith 107 = .ok (.getfield 16, 3) := by decide +kernel
theorem dX5_darkWith_110 : decode cX5_darkWith 110 = .ok (.invokevirtual 284, 3) := by decide +kernel
theorem dX5_darkWith_113 : decode cX5_darkWith 113 = .ok (.iinc 6 1, 3) := by decide +kernel
theorem dX5_darkWith_116 : decode cX5_darkWith 116 = .ok (.goto (-76), 3) := by decide +kernel
theorem dX5_darkWith_119 : decode cX5_darkWith 119 = .ok (.iload 5, 2) := by decide +kernel
theorem dX5_darkWith_121 : decode cX5_darkWith 121 = .ok (.ireturn, 1) := by decide +kernel
theorem dX5_leastBurnTime_0 : decode cX5_leastBurnTime 0 = .ok (.getstatic 126, 3) := by decide +kernel
theorem dX5_leastBurnTime_3 : decode cX5_leastBurnTime 3 = .ok (.iconst 0, 1) := by decide +kernel
theorem dX5_leastBurnTime_4 : decode cX5_leastBurnTime 4 = .ok (.invokestatic 79, 3) := by decide +kernel
theorem dX5_leastBurnTime_7 : decode cX5_leastBurnTime 7 = .ok (.istore_n 3, 1) := by decide +kernel
theorem dX5_leastBurnTime_8 : decode cX5_leastBurnTime 8 = .ok (.getstatic 129, 3) := by decide +kernel
theorem dX5_leastBurnTime_11 : decode cX5_leastBurnTime 11 = .ok (.iconst 0, 1) := by decide +kernel
theorem dX5_leastBurnTime_12 : decode cX5_leastBurnTime 12 = .ok (.invokestatic 79, 3) := by decide +kernel
theorem dX5_leastBurnTime_15 : decode cX5_leastBurnTime 15 = .ok (.istore 4, 2) := by decide +kernel
theorem dX5_leastBurnTime_17 : decode cX5_leastBurnTime 17 = .ok (.aload_n 0, 1) := by decide +kernel
theorem dX5_leastBurnTime_18 : decode cX5_leastBurnTime 18 = .ok (.iload 4, 2) := by decide +kernel
theorem dX5_leastBurnTime_20 : decode cX5_leastBurnTime 20 = .ok (.iload_n 1, 1) := by decide +kernel
theorem dX5_leastBurnTime_21 : decode cX5_leastBurnTime 21 = .ok (.iload_n 2, 1) := by decide +kernel
theorem dX5_leastBurnTime_22 : decode cX5_leastBurnTime 22 = .ok (.invokevirtual 204, 3) := by decide +kernel
theorem dX5_leastBurnTime_25 : decode cX5_leastBurnTime 25 = .ok (.istore 5, 2) := by decide +kernel
theorem dX5_leastBurnTime_27 : decode cX5_leastBurnTime 27 = .ok (.iload 4, 2) := by decide +kernel
theorem dX5_leastBurnTime_29 : decode cX5_leastBurnTime 29 = .ok (.istore 6, 2) := by decide +kernel
theorem dX5_leastBurnTime_31 : decode cX5_leastBurnTime 31 = .ok (.iload_n 3, 1) := by decide +kernel
theorem dX5_leastBurnTime_32 : decode cX5_leastBurnTime 32 = .ok (.iload 4, 2) := by decide +kernel
theorem dX5_leastBurnTime_34 : decode cX5_leastBurnTime 34 = .ok (.if_icmp .ge 47, 3) := by decide +kernel
theorem dX5_leastBurnTime_37 : decode cX5_leastBurnTime 37 = .ok (.iload 6, 2) := by decide +kernel
theorem dX5_leastBurnTime_39 : decode cX5_leastBurnTime 39 = .ok (.ifCond .le 42, 3) := by decide +kernel
theorem dX5_leastBurnTime_42 : decode cX5_leastBurnTime 42 = .ok (.iload_n 3, 1) := by decide +kernel
theorem dX5_leastBurnTime_43 : decode cX5_leastBurnTime 43 = .ok (.iload 4, 2) := by decide +kernel
theorem dX5_leastBurnTime_45 : decode cX5_leastBurnTime 45 = .ok (.iadd, 1) := by decide +kernel
theorem dX5_leastBurnTime_46 : decode cX5_leastBurnTime 46 = .ok (.iconst 2, 1) := by decide +kernel
theorem dX5_leastBurnTime_47 : decode cX5_leastBurnTime 47 = .ok (.idiv, 1) := by decide +kernel
theorem dX5_leastBurnTime_48 : decode cX5_leastBurnTime 48 = .ok (.istore 7, 2) := by decide +kernel
theorem dX5_leastBurnTime_50 : decode cX5_leastBurnTime 50 = .ok (.aload_n 0, 1) := by decide +kernel
theorem dX5_leastBurnTime_51 : decode cX5_leastBurnTime 51 = .ok (.iload 7, 2) := by decide +kernel
theorem dX5_leastBurnTime_53 : decode cX5_leastBurnTime 53 = .ok (.iload_n 1, 1) := by decide +kernel
theorem dX5_leastBurnTime_54 : decode cX5_leastBurnTime 54 = .ok (.iload_n 2, 1) := by decide +kernel
theorem dX5_leastBurnTime_55 : decode cX5_leastBurnTime 55 = .ok (.invokevirtual 204, 3) := by decide +kernel
theorem dX5_leastBurnTime_58 : decode cX5_leastBurnTime 58 = .ok (.iload 5, 2) := by decide +kernel
theorem dX5_leastBurnTime_60 : decode cX5_leastBurnTime 60 = .ok (.if_icmp .ne 10, 3) := by decide +kernel
theorem dX5_leastBurnTime_63 : decode cX5_leastBurnTime 63 = .ok (.iload 7, 2) := by decide +kernel
theorem dX5_leastBurnTime_65 : decode cX5_leastBurnTime 65 = .ok (.istore 4, 2) := by decide +kernel
theorem dX5_leastBurnTime_67 : decode cX5_leastBurnTime 67 = .ok (.goto 8, 3) := by decide +kernel
theorem dX5_leastBurnTime_70 : decode cX5_leastBurnTime 70 = .ok (.iload 7, 2) := by decide +kernel
theorem dX5_leastBurnTime_72 : decode cX5_leastBurnTime 72 = .ok (.iconst 1, 1) := by decide +kernel
theorem dX5_leastBurnTime_73 : decode cX5_leastBurnTime 73 = .ok (.iadd, 1) := by decide +kernel
theorem dX5_leastBurnTime_74 : decode cX5_leastBurnTime 74 = .ok (.istore_n 3, 1) := by decide +kernel
theorem dX5_leastBurnTime_75 : decode cX5_leastBurnTime 75 = .ok (.iinc 6 (-1), 3) := by decide +kernel
theorem dX5_leastBurnTime_78 : decode cX5_leastBurnTime 78 = .ok (.goto (-47), 3) := by decide +kernel
theorem dX5_leastBurnTime_81 : decode cX5_leastBurnTime 81 = .ok (.iload_n 3, 1) := by decide +kernel
theorem dX5_leastBurnTime_82 : decode cX5_leastBurnTime 82 = .ok (.ireturn, 1) := by decide +kernel
theorem dX5_mixed_0 : decode cX5_mixed 0 = .ok (.ldc2_w 287, 3) := by decide +kernel
theorem dX5_mixed_3 : decode cX5_mixed 3 = .ok (.lload_n 0, 1) := by decide +kernel
theorem dX5_mixed_4 : decode cX5_mixed 4 = .ok (.lmul, 1) := by decide +kernel
theorem dX5_mixed_5 : decode cX5_mixed 5 = .ok (.lload_n 2, 1) := by decide +kernel
theorem dX5_mixed_6 : decode cX5_mixed 6 = .ok (.ladd, 1) := by decide +kernel
theorem dX5_mixed_7 : decode cX5_mixed 7 = .ok (.lreturn, 1) := by decide +kernel
theorem dX5_mixedWithFloors_0 : decode cX5_mixedWithFloors 0 = .ok (.lload_n 1, 1) := by decide +kernel
theorem dX5_mixedWithFloors_1 : decode cX5_mixedWithFloors 1 = .ok (.lstore_n 3, 1) := by decide +kernel
theorem dX5_mixedWithFloors_2 : decode cX5_mixedWithFloors 2 = .ok (.iconst 0, 1) := by decide +kernel
theorem dX5_mixedWithFloors_3 : decode cX5_mixedWithFloors 3 = .ok (.istore 5, 2) := by decide +kernel
theorem dX5_mixedWithFloors_5 : decode cX5_mixedWithFloors 5 = .ok (.iload 5, 2) := by decide +kernel
theorem dX5_mixedWithFloors_7 : decode cX5_mixedWithFloors 7 = .ok (.bipush 8, 2) := by decide +kernel
theorem dX5_mixedWithFloors_9 : decode cX5_mixedWithFloors 9 = .ok (.if_icmp .ge 42, 3) := by decide +kernel
theorem dX5_mixedWithFloors_12 : decode cX5_mixedWithFloors 12 = .ok (.iconst 0, 1) := by decide +kernel
theorem dX5_mixedWithFloors_13 : decode cX5_mixedWithFloors 13 = .ok (.istore 6, 2) := by decide +kernel
theorem dX5_mixedWithFloors_15 : decode cX5_mixedWithFloors 15 = .ok (.iload 6, 2) := by decide +kernel
theorem dX5_mixedWithFloors_17 : decode cX5_mixedWithFloors 17 = .ok (.bipush 8, 2) := by decide +kernel
theorem dX5_mixedWithFloors_19 : decode cX5_mixedWithFloors 19 = .ok (.if_icmp .ge 26, 3) := by decide +kernel
theorem dX5_mixedWithFloors_22 : decode cX5_mixedWithFloors 22 = .ok (.lload_n 3, 1) := by decide +kernel
theorem dX5_mixedWithFloors_23 : decode cX5_mixedWithFloors 23 = .ok (.aload_n 0, 1) := by decide +kernel
theorem dX5_mixedWithFloors_24 : decode cX5_mixedWithFloors 24 = .ok (.getfield 10, 3) := by decide +kernel
theorem dX5_mixedWithFloors_27 : decode cX5_mixedWithFloors 27 = .ok (.iload 5, 2) := by decide +kernel
theorem dX5_mixedWithFloors_29 : decode cX5_mixedWithFloors 29 = .ok (.iload 6, 2) := by decide +kernel
theorem dX5_mixedWithFloors_31 : decode cX5_mixedWithFloors 31 = .ok (.invokevirtual 190, 3) := by decide +kernel
theorem dX5_mixedWithFloors_34 : decode cX5_mixedWithFloors 34 = .ok (.i2l, 1) := by decide +kernel
theorem dX5_mixedWithFloors_35 : decode cX5_mixedWithFloors 35 = .ok (.invokestatic 220, 3) := by decide +kernel
theorem dX5_mixedWithFloors_38 : decode cX5_mixedWithFloors 38 = .ok (.lstore_n 3, 1) := by decide +kernel
theorem dX5_mixedWithFloors_39 : decode cX5_mixedWithFloors 39 = .ok (.iinc 6 1, 3) := by decide +kernel
theorem dX5_mixedWithFloors_42 : decode cX5_mixedWithFloors 42 = .ok (.goto (-27), 3) := by decide +kernel
theorem dX5_mixedWithFloors_45 : decode cX5_mixedWithFloors 45 = .ok (.iinc 5 1, 3) := by decide +kernel
theorem dX5_mixedWithFloors_48 : decode cX5_mixedWithFloors 48 = .ok (.goto (-43), 3) := by decide +kernel
theorem dX5_mixedWithFloors_51 : decode cX5_mixedWithFloors 51 = .ok (.lload_n 3, 1) := by decide +kernel
theorem dX5_mixedWithFloors_52 : decode cX5_mixedWithFloors 52 = .ok (.lreturn, 1) := by decide +kernel
theorem dX5_mixedWithPeople_0 : decode cX5_mixedWithPeople 0 = .ok (.lload_n 1, 1) := by decide +kernel
theorem dX5_mixedWithPeople_1 : decode cX5_mixedWithPeople 1 = .ok (.lstore_n 3, 1) := by decide +kernel
theorem dX5_mixedWithPeople_2 : decode cX5_mixedWithPeople 2 = .ok (.iconst 0, 1) := by decide +kernel
theorem dX5_mixedWithPeople_3 : decode cX5_mixedWithPeople 3 = .ok (.istore 5, 2) := by decide +kernel
theorem dX5_mixedWithPeople_5 : decode cX5_mixedWithPeople 5 = .ok (.iload 5, 2) := by decide +kernel
theorem dX5_mixedWithPeople_7 : decode cX5_mixedWithPeople 7 = .ok (.aload_n 0, 1) := by decide +kernel
theorem dX5_mixedWithPeople_8 : decode cX5_mixedWithPeople 8 = .ok (.getfield 10, 3) := by decide +kernel
theorem dX5_mixedWithPeople_11 : decode cX5_mixedWithPeople 11 = .ok (.getfield 37, 3) := by decide +kernel
theorem dX5_mixedWithPeople_14 : decode cX5_mixedWithPeople 14 = .ok (.getfield 41, 3) := by decide +kernel
theorem dX5_mixedWithPeople_17 : decode cX5_mixedWithPeople 17 = .ok (.if_icmp .ge 44, 3) := by decide +kernel
theorem dX5_mixedWithPeople_20 : decode cX5_mixedWithPeople 20 = .ok (.iconst 0, 1) := by decide +kernel
theorem dX5_mixedWithPeople_21 : decode cX5_mixedWithPeople 21 = .ok (.istore 6, 2) := by decide +kernel
theorem dX5_mixedWithPeople_23 : decode cX5_mixedWithPeople 23 = .ok (.iload 6, 2) := by decide +kernel
theorem dX5_mixedWithPeople_25 : decode cX5_mixedWithPeople 25 = .ok (.iconst 4, 1) := by decide +kernel
theorem dX5_mixedWithPeople_26 : decode cX5_mixedWithPeople 26 = .ok (.if_icmp .ge 29, 3) := by decide +kernel
theorem dX5_mixedWithPeople_29 : decode cX5_mixedWithPeople 29 = .ok (.lload_n 3, 1) := by decide +kernel
theorem dX5_mixedWithPeople_30 : decode cX5_mixedWithPeople 30 = .ok (.aload_n 0, 1) := by decide +kernel
theorem dX5_mixedWithPeople_31 : decode cX5_mixedWithPeople 31 = .ok (.getfield 10, 3) := by decide +kernel
theorem dX5_mixedWithPeople_34 : decode cX5_mixedWithPeople 34 = .ok (.getfield 37, 3) := by decide +kernel
theorem dX5_mixedWithPeople_37 : decode cX5_mixedWithPeople 37 = .ok (.iload 5, 2) := by decide +kernel
theorem dX5_mixedWithPeople_39 : decode cX5_mixedWithPeople 39 = .ok (.iload 6, 2) := by decide +kernel
theorem dX5_mixedWithPeople_41 : decode cX5_mixedWithPeople 41 = .ok (.invokevirtual 195, 3) := by decide +kernel
theorem dX5_mixedWithPeople_44 : decode cX5_mixedWithPeople 44 = .ok (.i2l, 1) := by decide +kernel
theorem dX5_mixedWithPeople_45 : decode cX5_mixedWithPeople 45 = .ok (.invokestatic 220, 3) := by decide +kernel
theorem dX5_mixedWithPeople_48 : decode cX5_mixedWithPeople 48 = .ok (.lstore_n 3, 1) := by decide +kernel
theorem dX5_mixedWithPeople_49 : decode cX5_mixedWithPeople 49 = .ok (.iinc 6 1, 3) := by decide +kernel
theorem dX5_mixedWithPeople_52 : decode cX5_mixedWithPeople 52 = .ok (.goto (-29), 3) := by decide +kernel
theorem dX5_mixedWithPeople_55 : decode cX5_mixedWithPeople 55 = .ok (.iinc 5 1, 3) := by decide +kernel
theorem dX5_mixedWithPeople_58 : decode cX5_mixedWithPeople 58 = .ok (.goto (-53), 3) := by decide +kernel
theorem dX5_mixedWithPeople_61 : decode cX5_mixedWithPeople 61 = .ok (.lload_n 3, 1) := by decide +kernel
theorem dX5_mixedWithPeople_62 : decode cX5_mixedWithPeople 62 = .ok (.lreturn, 1) := by decide +kernel
theorem dX5_mixedWithBuffer_0 : decode cX5_mixedWithBuffer 0 = .ok (.lload_n 1, 1) := by decide +kernel
theorem dX5_mixedWithBuffer_1 : decode cX5_mixedWithBuffer 1 = .ok (.aload_n 0, 1) := by decide +kernel
theorem dX5_mixedWithBuffer_2 : decode cX5_mixedWithBuffer 2 = .ok (.getfield 29, 3) := by decide +kernel
theorem dX5_mixedWithBuffer_5 : decode cX5_mixedWithBuffer 5 = .ok (.getfield 145, 3) := by decide +kernel
theorem dX5_mixedWithBuffer_8 : decode cX5_mixedWithBuffer 8 = .ok (.i2l, 1) := by decide +kernel
theorem dX5_mixedWithBuffer_9 : decode cX5_mixedWithBuffer 9 = .ok (.invokestatic 220, 3) := by decide +kernel
theorem dX5_mixedWithBuffer_12 : decode cX5_mixedWithBuffer 12 = .ok (.lstore_n 3, 1) := by decide +kernel
theorem dX5_mixedWithBuffer_13 : decode cX5_mixedWithBuffer 13 = .ok (.iconst 0, 1) := by decide +kernel
theorem dX5_mixedWithBuffer_14 : decode cX5_mixedWithBuffer 14 = .ok (.istore 5, 2) := by decide +kernel
theorem dX5_mixedWithBuffer_16 : decode cX5_mixedWithBuffer 16 = .ok (.iload 5, 2) := by decide +kernel
theorem dX5_mixedWithBuffer_18 : decode cX5_mixedWithBuffer 18 = .ok (.aload_n 0, 1) := by decide +kernel
theorem dX5_mixedWithBuffer_19 : decode cX5_mixedWithBuffer 19 = .ok (.getfield 29, 3) := by decide +kernel
theorem dX5_mixedWithBuffer_22 : decode cX5_mixedWithBuffer 22 = .ok (.getfield 145, 3) := by decide +kernel
theorem dX5_mixedWithBuffer_25 : decode cX5_mixedWithBuffer 25 = .ok (.if_icmp .ge 24, 3) := by decide +kernel
theorem dX5_mixedWithBuffer_28 : decode cX5_mixedWithBuffer 28 = .ok (.lload_n 3, 1) := by decide +kernel
theorem dX5_mixedWithBuffer_29 : decode cX5_mixedWithBuffer 29 = .ok (.aload_n 0, 1) := by decide +kernel
theorem dX5_mixedWithBuffer_30 : decode cX5_mixedWithBuffer 30 = .ok (.getfield 29, 3) := by decide +kernel
theorem dX5_mixedWithBuffer_33 : decode cX5_mixedWithBuffer 33 = .ok (.iload 5, 2) := by decide +kernel
theorem dX5_mixedWithBuffer_35 : decode cX5_mixedWithBuffer 35 = .ok (.invokevirtual 289, 3) := by decide +kernel
theorem dX5_mixedWithBuffer_38 : decode cX5_mixedWithBuffer 38 = .ok (.i2l, 1) := by decide +kernel
theorem dX5_mixedWithBuffer_39 : decode cX5_mixedWithBuffer 39 = .ok (.invokestatic 220, 3) := by decide +kernel
theorem dX5_mixedWithBuffer_42 : decode cX5_mixedWithBuffer 42 = .ok (.lstore_n 3, 1) := by decide +kernel
theorem dX5_mixedWithBuffer_43 : decode cX5_mixedWithBuffer 43 = .ok (.iinc 5 1, 3) := by decide +kernel
theorem dX5_mixedWithBuffer_46 : decode cX5_mixedWithBuffer 46 = .ok (.goto (-30), 3) := by decide +kernel
theorem dX5_mixedWithBuffer_49 : decode cX5_mixedWithBuffer 49 = .ok (.lload_n 3, 1) := by decide +kernel
theorem dX5_mixedWithBuffer_50 : decode cX5_mixedWithBuffer 50 = .ok (.lreturn, 1) := by decide +kernel
theorem dX5_bitsOf_0 : decode cX5_bitsOf 0 = .ok (.dload_n 0, 1) := by decide +kernel
theorem dX5_bitsOf_1 : decode cX5_bitsOf 1 = .ok (.dstore_n 2, 1) := by decide +kernel
theorem dX5_bitsOf_2 : decode cX5_bitsOf 2 = .ok (.sipush 1023, 3) := by decide +kernel
theorem dX5_bitsOf_5 : decode cX5_bitsOf 5 = .ok (.istore 4, 2) := by decide +kernel
theorem dX5_bitsOf_7 : decode cX5_bitsOf 7 = .ok (.iload 4, 2) := by decide +kernel
theorem dX5_bitsOf_9 : decode cX5_bitsOf 9 = .ok (.ifCond .le 43, 3) := by decide +kernel
theorem dX5_bitsOf_12 : decode cX5_bitsOf 12 = .ok (.dload_n 2, 1) := by decide +kernel
theorem dX5_bitsOf_13 : decode cX5_bitsOf 13 = .ok (.dconst 0, 1) := by decide +kernel
theorem dX5_bitsOf_14 : decode cX5_bitsOf 14 = .ok (.dcmp .l, 1) := by decide +kernel
theorem dX5_bitsOf_15 : decode cX5_bitsOf 15 = .ok (.ifCond .le 37, 3) := by decide +kernel
theorem dX5_bitsOf_18 : decode cX5_bitsOf 18 = .ok (.dload_n 2, 1) := by decide +kernel
theorem dX5_bitsOf_19 : decode cX5_bitsOf 19 = .ok (.dconst 1, 1) := by decide +kernel
theorem dX5_bitsOf_20 : decode cX5_bitsOf 20 = .ok (.dcmp .l, 1) := by decide +kernel
theorem dX5_bitsOf_21 : decode cX5_bitsOf 21 = .ok (.ifCond .lt 19, 3) := by decide +kernel
theorem dX5_bitsOf_24 : decode cX5_bitsOf 24 = .ok (.iload 4, 2) := by decide +kernel
theorem dX5_bitsOf_26 : decode cX5_bitsOf 26 = .ok (.i2l, 1) := by decide +kernel
theorem dX5_bitsOf_27 : decode cX5_bitsOf 27 = .ok (.bipush 52, 2) := by decide +kernel
theorem dX5_bitsOf_29 : decode cX5_bitsOf 29 = .ok (.lshl, 1) := by decide +kernel
theorem dX5_bitsOf_30 : decode cX5_bitsOf 30 = .ok (.dload_n 2, 1) := by decide +kernel
theorem dX5_bitsOf_31 : decode cX5_bitsOf 31 = .ok (.dconst 1, 1) := by decide +kernel
theorem dX5_bitsOf_32 : decode cX5_bitsOf 32 = .ok (.dsub, 1) := by decide +kernel
theorem dX5_bitsOf_33 : decode cX5_bitsOf 33 = .ok (.ldc2_w 293, 3) := by decide +kernel
theorem dX5_bitsOf_36 : decode cX5_bitsOf 36 = .ok (.dmul, 1) := by decide +kernel
theorem dX5_bitsOf_37 : decode cX5_bitsOf 37 = .ok (.d2l, 1) := by decide +kernel
theorem dX5_bitsOf_38 : decode cX5_bitsOf 38 = .ok (.ladd, 1) := by decide +kernel
theorem dX5_bitsOf_39 : decode cX5_bitsOf 39 = .ok (.lreturn, 1) := by decide +kernel
theorem dX5_bitsOf_40 : decode cX5_bitsOf 40 = .ok (.dload_n 2, 1) := by decide +kernel
theorem dX5_bitsOf_41 : decode cX5_bitsOf 41 = .ok (.ldc2_w 295, 3) := by decide +kernel
theorem dX5_bitsOf_44 : decode cX5_bitsOf 44 = .ok (.dmul, 1) := by decide +kernel
theorem dX5_bitsOf_45 : decode cX5_bitsOf 45 = .ok (.dstore_n 2, 1) := by decide +kernel
theorem dX5_bitsOf_46 : decode cX5_bitsOf 46 = .ok (.iinc 4 (-1), 3) := by decide +kernel
theorem dX5_bitsOf_49 : decode cX5_bitsOf 49 = .ok (.goto (-42), 3) := by decide +kernel
theorem dX5_bitsOf_52 : decode cX5_bitsOf 52 = .ok (.lconst 0, 1) := by decide +kernel
theorem dX5_bitsOf_53 : decode cX5_bitsOf 53 = .ok (.lreturn, 1) := by decide +kernel
theorem dX5_at_0 : decode cX5_at 0 = .ok (.iload_n 1, 1) := by decide +kernel
theorem dX5_at_1 : decode cX5_at 1 = .ok (.ifCond .lt 15, 3) := by decide +kernel
theorem dX5_at_4 : decode cX5_at 4 = .ok (.iload_n 1, 1) := by decide +kernel
theorem dX5_at_5 : decode cX5_at 5 = .ok (.aload_n 0, 1) := by decide +kernel
theorem dX5_at_6 : decode cX5_at 6 = .ok (.arraylength, 1) := by decide +kernel
theorem dX5_at_7 : decode cX5_at 7 = .ok (.if_icmp .ge 9, 3) := by decide +kernel
theorem dX5_at_10 : decode cX5_at 10 = .ok (.aload_n 0, 1) := by decide +kernel
theorem dX5_at_11 : decode cX5_at 11 = .ok (.iload_n 1, 1) := by decide +kernel
theorem dX5_at_12 : decode cX5_at 12 = .ok (.iaload, 1) := by decide +kernel
theorem dX5_at_13 : decode cX5_at 13 = .ok (.goto 4, 3) := by decide +kernel
theorem dX5_at_16 : decode cX5_at 16 = .ok (.iconst 0, 1) := by decide +kernel
theorem dX5_at_17 : decode cX5_at 17 = .ok (.ireturn, 1) := by decide +kernel
theorem dX5_put_0 : decode cX5_put 0 = .ok (.iload_n 1, 1) := by decide +kernel
theorem dX5_put_1 : decode cX5_put 1 = .ok (.ifCond .lt 13, 3) := by decide +kernel
theorem dX5_put_4 : decode cX5_put 4 = .ok (.iload_n 1, 1) := by decide +kernel
theorem dX5_put_5 : decode cX5_put 5 = .ok (.aload_n 0, 1) := by decide +kernel
theorem dX5_put_6 : decode cX5_put 6 = .ok (.arraylength, 1) := by decide +kernel
theorem dX5_put_7 : decode cX5_put 7 = .ok (.if_icmp .ge 7, 3) := by decide +kernel
theorem dX5_put_10 : decode cX5_put 10 = .ok (.aload_n 0, 1) := by decide +kernel
theorem dX5_put_11 : decode cX5_put 11 = .ok (.iload_n 1, 1) := by decide +kernel
theorem dX5_put_12 : decode cX5_put 12 = .ok (.iload_n 2, 1) := by decide +kernel
theorem dX5_put_13 : decode cX5_put 13 = .ok (.iastore, 1) := by decide +kernel
theorem dX5_put_14 : decode cX5_put 14 = .ok (.return_, 1) := by decide +kernel
theorem dX5_raise_0 : decode cX5_raise 0 = .ok (.iload_n 1, 1) := by decide +kernel
theorem dX5_raise_1 : decode cX5_raise 1 = .ok (.ifCond .lt 16, 3) := by decide +kernel
theorem dX5_raise_4 : decode cX5_raise 4 = .ok (.iload_n 1, 1) := by decide +kernel
theorem dX5_raise_5 : decode cX5_raise 5 = .ok (.aload_n 0, 1) := by decide +kernel
theorem dX5_raise_6 : decode cX5_raise 6 = .ok (.arraylength, 1) := by decide +kernel
theorem dX5_raise_7 : decode cX5_raise 7 = .ok (.if_icmp .ge 10, 3) := by decide +kernel
theorem dX5_raise_10 : decode cX5_raise 10 = .ok (.aload_n 0, 1) := by decide +kernel
theorem dX5_raise_11 : decode cX5_raise 11 = .ok (.iload_n 1, 1) := by decide +kernel
theorem dX5_raise_12 : decode cX5_raise 12 = .ok (.dup2, 1) := by decide +kernel
theorem dX5_raise_13 : decode cX5_raise 13 = .ok (.iaload, 1) := by decide +kernel
theorem dX5_raise_14 : decode cX5_raise 14 = .ok (.iload_n 2, 1) := by decide +kernel
theorem dX5_raise_15 : decode cX5_raise 15 = .ok (.iadd, 1) := by decide +kernel
theorem dX5_raise_16 : decode cX5_raise 16 = .ok (.iastore, 1) := by decide +kernel
theorem dX5_raise_17 : decode cX5_raise 17 = .ok (.return_, 1) := by decide +kernel
theorem dX5_sumOf_0 : decode cX5_sumOf 0 = .ok (.iconst 0, 1) := by decide +kernel
theorem dX5_sumOf_1 : decode cX5_sumOf 1 = .ok (.istore_n 1, 1) := by decide +kernel
theorem dX5_sumOf_2 : decode cX5_sumOf 2 = .ok (.iconst 0, 1) := by decide +kernel
theorem dX5_sumOf_3 : decode cX5_sumOf 3 = .ok (.istore_n 2, 1) := by decide +kernel
theorem dX5_sumOf_4 : decode cX5_sumOf 4 = .ok (.iload_n 2, 1) := by decide +kernel
theorem dX5_sumOf_5 : decode cX5_sumOf 5 = .ok (.aload_n 0, 1) := by decide +kernel
theorem dX5_sumOf_6 : decode cX5_sumOf 6 = .ok (.arraylength, 1) := by decide +kernel
theorem dX5_sumOf_7 : decode cX5_sumOf 7 = .ok (.if_icmp .ge 15, 3) := by decide +kernel
theorem dX5_sumOf_10 : decode cX5_sumOf 10 = .ok (.iload_n 1, 1) := by decide +kernel
theorem dX5_sumOf_11 : decode cX5_sumOf 11 = .ok (.aload_n 0, 1) := by decide +kernel
theorem dX5_sumOf_12 : decode cX5_sumOf 12 = .ok (.iload_n 2, 1) := by decide +kernel
theorem dX5_sumOf_13 : decode cX5_sumOf 13 = .ok (.iaload, 1) := by decide +kernel
theorem dX5_sumOf_14 : decode cX5_sumOf 14 = .ok (.iadd, 1) := by decide +kernel
theorem dX5_sumOf_15 : decode cX5_sumOf 15 = .ok (.istore_n 1, 1) := by decide +kernel
theorem dX5_sumOf_16 : decode cX5_sumOf 16 = .ok (.iinc 2 1, 3) := by decide +kernel
theorem dX5_sumOf_19 : decode cX5_sumOf 19 = .ok (.goto (-15), 3) := by decide +kernel
theorem dX5_sumOf_22 : decode cX5_sumOf 22 = .ok (.iload_n 1, 1) := by decide +kernel
theorem dX5_sumOf_23 : decode cX5_sumOf 23 = .ok (.ireturn, 1) := by decide +kernel
theorem dX5_copyRow_0 : decode cX5_copyRow 0 = .ok (.iconst 0, 1) := by decide +kernel
theorem dX5_copyRow_1 : decode cX5_copyRow 1 = .ok (.istore_n 2, 1) := by decide +kernel
theorem dX5_copyRow_2 : decode cX5_copyRow 2 = .ok (.iload_n 2, 1) := by decide +kernel
theorem dX5_copyRow_3 : decode cX5_copyRow 3 = .ok (.aload_n 0, 1) := by decide +kernel
theorem dX5_copyRow_4 : decode cX5_copyRow 4 = .ok (.arraylength, 1) := by decide +kernel
theorem dX5_copyRow_5 : decode cX5_copyRow 5 = .ok (.if_icmp .ge 21, 3) := by decide +kernel
theorem dX5_copyRow_8 : decode cX5_copyRow 8 = .ok (.iload_n 2, 1) := by decide +kernel
theorem dX5_copyRow_9 : decode cX5_copyRow 9 = .ok (.aload_n 1, 1) := by decide +kernel
theorem dX5_copyRow_10 : decode cX5_copyRow 10 = .ok (.arraylength, 1) := by decide +kernel
theorem dX5_copyRow_11 : decode cX5_copyRow 11 = .ok (.if_icmp .ge 15, 3) := by decide +kernel
theorem dX5_copyRow_14 : decode cX5_copyRow 14 = .ok (.aload_n 1, 1) := by decide +kernel
theorem dX5_copyRow_15 : decode cX5_copyRow 15 = .ok (.iload_n 2, 1) := by decide +kernel
theorem dX5_copyRow_16 : decode cX5_copyRow 16 = .ok (.aload_n 0, 1) := by decide +kernel
theorem dX5_copyRow_17 : decode cX5_copyRow 17 = .ok (.iload_n 2, 1) := by decide +kernel
theorem dX5_copyRow_18 : decode cX5_copyRow 18 = .ok (.iaload, 1) := by decide +kernel
theorem dX5_copyRow_19 : decode cX5_copyRow 19 = .ok (.iastore, 1) := by decide +kernel
theorem dX5_copyRow_20 : decode cX5_copyRow 20 = .ok (.iinc 2 1, 3) := by decide +kernel
theorem dX5_copyRow_23 : decode cX5_copyRow 23 = .ok (.goto (-21), 3) := by decide +kernel
theorem dX5_copyRow_26 : decode cX5_copyRow 26 = .ok (.return_, 1) := by decide +kernel
theorem dX5_numberOf_0 : decode cX5_numberOf 0 = .ok (.iload_n 0, 1) := by decide +kernel
theorem dX5_numberOf_1 : decode cX5_numberOf 1 = .ok (.ifCond .eq 7, 3) := by decide +kernel
theorem dX5_numberOf_4 : decode cX5_numberOf 4 = .ok (.iconst 1, 1) := by decide +kernel
theorem dX5_numberOf_5 : decode cX5_numberOf 5 = .ok (.goto 4, 3) := by decide +kernel
theorem dX5_numberOf_8 : decode cX5_numberOf 8 = .ok (.iconst 0, 1) := by decide +kernel
theorem dX5_numberOf_9 : decode cX5_numberOf 9 = .ok (.ireturn, 1) := by decide +kernel
theorem dX6_init_0 : decode cX6_init 0 = .ok (.aload_n 0, 1) := by decide +kernel
theorem dX6_init_1 : decode cX6_init 1 = .ok (.invokespecial 1, 3) := by decide +kernel
theorem dX6_init_4 : decode cX6_init 4 = .ok (.aload_n 0, 1) := by decide +kernel
theorem dX6_init_5 : decode cX6_init 5 = .ok (.bipush 86, 2) := by decide +kernel
theorem dX6_init_7 : decode cX6_init 7 = .ok (.newarray .int, 2) := by decide +kernel
theorem dX6_init_9 : decode cX6_init 9 = .ok (.putfield 7, 3) := by decide +kernel
theorem dX6_init_12 : decode cX6_init 12 = .ok (.aload_n 0, 1) := by decide +kernel
theorem dX6_init_13 : decode cX6_init 13 = .ok (.bipush 86, 2) := by decide +kernel
theorem dX6_init_15 : decode cX6_init 15 = .ok (.newarray .int, 2) := by decide +kernel
theorem dX6_init_17 : decode cX6_init 17 = .ok (.putfield 13, 3) := by decide +kernel
theorem dX6_init_20 : decode cX6_init 20 = .ok (.aload_n 0, 1) := by decide +kernel
theorem dX6_init_21 : decode cX6_init 21 = .ok (.sipush 516, 3) := by decide +kernel
theorem dX6_init_24 : decode cX6_init 24 = .ok (.newarray .int, 2) := by decide +kernel
theorem dX6_init_26 : decode cX6_init 26 = .ok (.putfield 16, 3) := by decide +kernel
theorem dX6_init_29 : decode cX6_init 29 = .ok (.aload_n 0, 1) := by decide +kernel
theorem dX6_init_30 : decode cX6_init 30 = .ok (.bipush 60, 2) := by decide +kernel
theorem dX6_init_32 : decode cX6_init 32 = .ok (.newarray .int, 2) := by decide +kernel
theorem dX6_init_34 : decode cX6_init 34 = .ok (.putfield 19, 3) := by decide +kernel
theorem dX6_init_37 : decode cX6_init 37 = .ok (.aload_n 0, 1) := by decide +kernel
theorem dX6_init_38 : decode cX6_init 38 = .ok (.bipush 32, 2) := by decide +kernel
theorem dX6_init_40 : decode cX6_init 40 = .ok (.newarray .int, 2) := by decide +kernel
theorem dX6_init_42 : decode cX6_init 42 = .ok (.putfield 22, 3) := by decide +kernel
theorem dX6_init_45 : decode cX6_init 45 = .ok (.aload_n 0, 1) := by decide +kernel
theorem dX6_init_46 : decode cX6_init 46 = .ok (.getfield 7, 3) := by decide +kernel
theorem dX6_init_49 : decode cX6_init 49 = .ok (.iconst 0, 1) := by decide +kernel
theorem dX6_init_50 : decode cX6_init 50 = .ok (.bipush 20, 2) := by decide +kernel
theorem dX6_init_52 : decode cX6_init 52 = .ok (.iastore, 1) := by decide +kernel
theorem dX6_init_53 : decode cX6_init 53 = .ok (.aload_n 0, 1) := by decide +kernel
theorem dX6_init_54 : decode cX6_init 54 = .ok (.getfield 7, 3) := by decide +kernel
theorem dX6_init_57 : decode cX6_init 57 = .ok (.iconst 1, 1) := by decide +kernel
theorem dX6_init_58 : decode cX6_init 58 = .ok (.iconst 5, 1) := by decide +kernel
theorem dX6_init_59 : decode cX6_init 59 = .ok (.iastore, 1) := by decide +kernel
theorem dX6_init_60 : decode cX6_init 60 = .ok (.aload_n 0, 1) := by decide +kernel
theorem dX6_init_61 : decode cX6_init 61 = .ok (.getfield 7, 3) := by decide +kernel
theorem dX6_init_64 : decode cX6_init 64 = .ok (.iconst 3, 1) := by decide +kernel
theorem dX6_init_65 : decode cX6_init 65 = .ok (.bipush 8, 2) := by decide +kernel
theorem dX6_init_67 : decode cX6_init 67 = .ok (.iastore, 1) := by decide +kernel
theorem dX6_init_68 : decode cX6_init 68 = .ok (.iconst 0, 1) := by decide +kernel
theorem dX6_init_69 : decode cX6_init 69 = .ok (.istore_n 1, 1) := by decide +kernel
theorem dX6_init_70 : decode cX6_init 70 = .ok (.iload_n 1, 1) := by decide +kernel
theorem dX6_init_71 : decode cX6_init 71 = .ok (.bipush 8, 2) := by decide +kernel
theorem dX6_init_73 : decode cX6_init 73 = .ok (.if_icmp .ge 24, 3) := by decide +kernel
theorem dX6_init_76 : decode cX6_init 76 = .ok (.aload_n 0, 1) := by decide +kernel
theorem dX6_init_77 : decode cX6_init 77 = .ok (.getfield 7, 3) := by decide +kernel
theorem dX6_init_80 : decode cX6_init 80 = .ok (.bipush 9, 2) := by decide +kernel
theorem dX6_init_82 : decode cX6_init 82 = .ok (.bipush 6, 2) := by decide +kernel
theorem dX6_init_84 : decode cX6_init 84 = .ok (.iload_n 1, 1) := by decide +kernel
theorem dX6_init_85 : decode cX6_init 85 = .ok (.imul, 1) := by decide +kernel
theorem dX6_init_86 : decode cX6_init 86 = .ok (.iadd, 1) := by decide +kernel
theorem dX6_init_87 : decode cX6_init 87 = .ok (.iconst 1, 1) := by decide +kernel
theorem dX6_init_88 : decode cX6_init 88 = .ok (.iadd, 1) := by decide +kernel
theorem dX6_init_89 : decode cX6_init 89 = .ok (.iconst 1, 1) := by decide +kernel
theorem dX6_init_90 : decode cX6_init 90 = .ok (.iastore, 1) := by decide +kernel
theorem dX6_init_91 : decode cX6_init 91 = .ok (.iinc 1 1, 3) := by decide +kernel
theorem dX6_init_94 : decode cX6_init 94 = .ok (.goto (-24), 3) := by decide +kernel
theorem dX6_init_97 : decode cX6_init 97 = .ok (.return_, 1) := by decide +kernel
theorem dX6_thrown_0 : decode cX6_thrown 0 = .ok (.aload_n 0, 1) := by decide +kernel
theorem dX6_thrown_1 : decode cX6_thrown 1 = .ok (.getfield 25, 3) := by decide +kernel
theorem dX6_thrown_4 : decode cX6_thrown 4 = .ok (.ireturn, 1) := by decide +kernel
theorem dX6_fails_0 : decode cX6_fails 0 = .ok (.aload_n 0, 1) := by decide +kernel
theorem dX6_fails_1 : decode cX6_fails 1 = .ok (.iload_n 1, 1) := by decide +kernel
theorem dX6_fails_2 : decode cX6_fails 2 = .ok (.putfield 25, 3) := by decide +kernel
theorem dX6_fails_5 : decode cX6_fails 5 = .ok (.iconst 0, 1) := by decide +kernel
theorem dX6_fails_6 : decode cX6_fails 6 = .ok (.ireturn, 1) := by decide +kernel
theorem dX6_in_0 : decode cX6_in 0 = .ok (.iload_n 0, 1) := by decide +kernel
theorem dX6_in_1 : decode cX6_in 1 = .ok (.iload_n 1, 1) := by decide +kernel
theorem dX6_in_2 : decode cX6_in 2 = .ok (.if_icmp .lt 12, 3) := by decide +kernel
theorem dX6_in_5 : decode cX6_in 5 = .ok (.iload_n 0, 1) := by decide +kernel
theorem dX6_in_6 : decode cX6_in 6 = .ok (.iload_n 2, 1) := by decide +kernel
theorem dX6_in_7 : decode cX6_in 7 = .ok (.if_icmp .gt 7, 3) := by decide +kernel
theorem dX6_in_10 : decode cX6_in 10 = .ok (.iconst 1, 1) := by decide +kernel
theorem dX6_in_11 : decode cX6_in 11 = .ok (.goto 4, 3) := by decide +kernel
theorem dX6_in_14 : decode cX6_in 14 = .ok (.iconst 0, 1) := by decide +kernel
theorem dX6_in_15 : decode cX6_in 15 = .ok (.ireturn, 1) := by decide +kernel
theorem dX6_isFloor_0 : decode cX6_isFloor 0 = .ok (.iload_n 0, 1) := by decide +kernel
theorem dX6_isFloor_1 : decode cX6_isFloor 1 = .ok (.iconst 0, 1) := by decide +kernel
theorem dX6_isFloor_2 : decode cX6_isFloor 2 = .ok (.bipush 7, 2) := by decide +kernel
theorem dX6_isFloor_4 : decode cX6_isFloor 4 = .ok (.invokestatic 29, 3) := by decide +kernel
theorem dX6_isFloor_7 : decode cX6_isFloor 7 = .ok (.ireturn, 1) := by decide +kernel
theorem dX6_of_0 : decode cX6_of 0 = .ok (.aload_n 0, 1) := by decide +kernel
theorem dX6_of_1 : decode cX6_of 1 = .ok (.bipush 9, 2) := by decide +kernel
theorem dX6_of_3 : decode cX6_of 3 = .ok (.bipush 6, 2) := by decide +kernel
theorem dX6_of_5 : decode cX6_of 5 = .ok (.iload_n 1, 1) := by decide +kernel
theorem dX6_of_6 : decode cX6_of 6 = .ok (.imul, 1) := by decide +kernel
theorem dX6_of_7 : decode cX6_of 7 = .ok (.iadd, 1) := by decide +kernel
theorem dX6_of_8 : decode cX6_of 8 = .ok (.iload_n 2, 1) := by decide +kernel
theorem dX6_of_9 : decode cX6_of 9 = .ok (.iadd, 1) := by decide +kernel
theorem dX6_of_10 : decode cX6_of 10 = .ok (.iaload, 1) := by decide +kernel
theorem dX6_of_11 : decode cX6_of 11 = .ok (.ireturn, 1) := by decide +kernel
theorem dX6_by_0 : decode cX6_by 0 = .ok (.aload_n 0, 1) := by decide +kernel
theorem dX6_by_1 : decode cX6_by 1 = .ok (.bipush 58, 2) := by decide +kernel
theorem dX6_by_3 : decode cX6_by 3 = .ok (.iconst 4, 1) := by decide +kernel
theorem dX6_by_4 : decode cX6_by 4 = .ok (.iload_n 1, 1) := by decide +kernel
theorem dX6_by_5 : decode cX6_by 5 = .ok (.imul, 1) := by decide +kernel
theorem dX6_by_6 : decode cX6_by 6 = .ok (.iadd, 1) := by decide +kernel
theorem dX6_by_7 : decode cX6_by 7 = .ok (.iload_n 2, 1) := by decide +kernel
theorem dX6_by_8 : decode cX6_by 8 = .ok (.iadd, 1) := by decide +kernel
theorem dX6_by_9 : decode cX6_by 9 = .ok (.iaload, 1) := by decide +kernel
theorem dX6_by_10 : decode cX6_by 10 = .ok (.ireturn, 1) := by decide +kernel
theorem dX6_copies_0 : decode cX6_copies 0 = .ok (.iconst 0, 1) := by decide +kernel
theorem dX6_copies_1 : decode cX6_copies 1 = .ok (.istore 4, 2) := by decide +kernel
theorem dX6_copies_3 : decode cX6_copies 3 = .ok (.iload 4, 2) := by decide +kernel
theorem dX6_copies_5 : decode cX6_copies 5 = .ok (.bipush 86, 2) := by decide +kernel
theorem dX6_copies_7 : decode cX6_copies 7 = .ok (.if_icmp .ge 21, 3) := by decide +kernel
theorem dX6_copies_10 : decode cX6_copies 10 = .ok (.aload_n 2, 1) := by decide +kernel
theorem dX6_copies_11 : decode cX6_copies 11 = .ok (.iload_n 3, 1) := by decide +kernel
theorem dX6_copies_12 : decode cX6_copies 12 = .ok (.iload 4, 2) := by decide +kernel
theorem dX6_copies_14 : decode cX6_copies 14 = .ok (.iadd, 1) := by decide +kernel
theorem dX6_copies_15 : decode cX6_copies 15 = .ok (.aload_n 0, 1) := by decide +kernel
theorem dX6_copies_16 : decode cX6_copies 16 = .ok (.iload_n 1, 1) := by decide +kernel
theorem dX6_copies_17 : decode cX6_copies 17 = .ok (.iload 4, 2) := by decide +kernel
theorem dX6_copies_19 : decode cX6_copies 19 = .ok (.iadd, 1) := by decide +kernel
theorem dX6_copies_20 : decode cX6_copies 20 = .ok (.iaload, 1) := by decide +kernel
theorem dX6_copies_21 : decode cX6_copies 21 = .ok (.iastore, 1) := by decide +kernel
theorem dX6_copies_22 : decode cX6_copies 22 = .ok (.iinc 4 1, 3) := by decide +kernel
theorem dX6_copies_25 : decode cX6_copies 25 = .ok (.goto (-22), 3) := by decide +kernel
theorem dX6_copies_28 : decode cX6_copies 28 = .ok (.return_, 1) := by decide +kernel
theorem dX6_saves_0 : decode cX6_saves 0 = .ok (.aload_n 0, 1) := by decide +kernel
theorem dX6_saves_1 : decode cX6_saves 1 = .ok (.getfield 33, 3) := by decide +kernel
theorem dX6_saves_4 : decode cX6_saves 4 = .ok (.bipush 6, 2) := by decide +kernel
theorem dX6_saves_6 : decode cX6_saves 6 = .ok (.if_icmp .ne 43, 3) := by decide +kernel
theorem dX6_saves_9 : decode cX6_saves 9 = .ok (.iconst 0, 1) := by decide +kernel
theorem dX6_saves_10 : decode cX6_saves 10 = .ok (.istore_n 1, 1) := by decide +kernel
theorem dX6_saves_11 : decode cX6_saves 11 = .ok (.iload_n 1, 1) := by decide +kernel
theorem dX6_saves_12 : decode cX6_saves 12 = .ok (.sipush 430, 3) := by decide +kernel
theorem dX6_saves_15 : decode cX6_saves 15 = .ok (.if_icmp .ge 24, 3) := by decide +kernel
theorem dX6_saves_18 : decode cX6_saves 18 = .ok (.aload_n 0, 1) := by decide +kernel
theorem dX6_saves_19 : decode cX6_saves 19 = .ok (.getfield 16, 3) := by decide +kernel
theorem dX6_saves_22 : decode cX6_saves 22 = .ok (.iload_n 1, 1) := by decide +kernel
theorem dX6_saves_23 : decode cX6_saves 23 = .ok (.aload_n 0, 1) := by decide +kernel
theorem dX6_saves_24 : decode cX6_saves 24 = .ok (.getfield 16, 3) := by decide +kernel
theorem dX6_saves_27 : decode cX6_saves 27 = .ok (.iload_n 1, 1) := by decide +kernel
theorem dX6_saves_28 : decode cX6_saves 28 = .ok (.bipush 86, 2) := by decide +kernel
theorem dX6_saves_30 : decode cX6_saves 30 = .ok (.iadd, 1) := by decide +kernel
theorem dX6_saves_31 : decode cX6_saves 31 = .ok (.iaload, 1) := by decide +kernel
theorem dX6_saves_32 : decode cX6_saves 32 = .ok (.iastore, 1) := by decide +kernel
theorem dX6_saves_33 : decode cX6_saves 33 = .ok (.iinc 1 1, 3) := by decide +kernel
theorem dX6_saves_36 : decode cX6_saves 36 = .ok (.goto (-25), 3) := by decide +kernel
theorem dX6_saves_39 : decode cX6_saves 39 = .ok (.aload_n 0, 1) := by decide +kernel
theorem dX6_saves_40 : decode cX6_saves 40 = .ok (.dup, 1) := by decide +kernel
theorem dX6_saves_41 : decode cX6_saves 41 = .ok (.getfield 33, 3) := by decide +kernel
theorem dX6_saves_44 : decode cX6_saves 44 = .ok (.iconst 1, 1) := by decide +kernel
theorem dX6_saves_45 : decode cX6_saves 45 = .ok (.isub, 1) := by decide +kernel
theorem dX6_saves_46 : decode cX6_saves 46 = .ok (.putfield 33, 3) := by decide +kernel
theorem dX6_saves_49 : decode cX6_saves 49 = .ok (.aload_n 0, 1) := by decide +kernel
theorem dX6_saves_50 : decode cX6_saves 50 = .ok (.getfield 7, 3) := by decide +kernel
theorem dX6_saves_53 : decode cX6_saves 53 = .ok (.iconst 0, 1) := by decide +kernel
theorem dX6_saves_54 : decode cX6_saves 54 = .ok (.aload_n 0, 1) := by decide +kernel
theorem dX6_saves_55 : decode cX6_saves 55 = .ok (.getfield 16, 3) := by decide +kernel
theorem dX6_saves_58 : decode cX6_saves 58 = .ok (.bipush 86, 2) := by decide +kernel
theorem dX6_saves_60 : decode cX6_saves 60 = .ok (.aload_n 0, 1) := by decide +kernel
theorem dX6_saves_61 : decode cX6_saves 61 = .ok (.getfield 33, 3) := by decide +kernel
theorem dX6_saves_64 : decode cX6_saves 64 = .ok (.imul, 1) := by decide +kernel
theorem dX6_saves_65 : decode cX6_saves 65 = .ok (.invokestatic 36, 3) := by decide +kernel
theorem dX6_saves_68 : decode cX6_saves 68 = .ok (.aload_n 0, 1) := by decide +kernel
theorem dX6_saves_69 : decode cX6_saves 69 = .ok (.dup, 1) := by decide +kernel
theorem dX6_saves_70 : decode cX6_saves 70 = .ok (.getfield 33, 3) := by decide +kernel
theorem dX6_saves_73 : decode cX6_saves 73 = .ok (.iconst 1, 1) := by decide +kernel
theorem dX6_saves_74 : decode cX6_saves 74 = .ok (.iadd, 1) := by decide +kernel
theorem dX6_saves_75 : decode cX6_saves 75 = .ok (.putfield 33, 3) := by decide +kernel
theorem dX6_saves_78 : decode cX6_saves 78 = .ok (.return_, 1) := by decide +kernel
theorem dX6_undo_0 : decode cX6_undo 0 = .ok (.aload_n 0, 1) := by decide +kernel
theorem dX6_undo_1 : decode cX6_undo 1 = .ok (.iconst 0, 1) := by decide +kernel
theorem dX6_undo_2 : decode cX6_undo 2 = .ok (.putfield 25, 3) := by decide +kernel
theorem dX6_undo_5 : decode cX6_undo 5 = .ok (.aload_n 0, 1) := by decide +kernel
theorem dX6_undo_6 : decode cX6_undo 6 = .ok (.getfield 33, 3) := by decide +kernel
theorem dX6_undo_9 : decode cX6_undo 9 = .ok (.ifCond .ne 9, 3) := by decide +kernel
theorem dX6_undo_12 : decode cX6_undo 12 = .ok (.aload_n 0, 1) := by decide +kernel
theorem dX6_undo_13 : decode cX6_undo 13 = .ok (.iconst 1, 1) := by decide +kernel
theorem dX6_undo_14 : decode cX6_undo 14 = .ok (.invokevirtual 40, 3) := by decide +kernel
theorem dX6_undo_17 : decode cX6_undo 17 = .ok (.ireturn, 1) := by decide +kernel
theorem dX6_undo_18 : decode cX6_undo 18 = .ok (.aload_n 0, 1) := by decide +kernel
theorem dX6_undo_19 : decode cX6_undo 19 = .ok (.dup, 1) := by decide +kernel
theorem dX6_undo_20 : decode cX6_undo 20 = .ok (.getfield 33, 3) := by decide +kernel
theorem dX6_undo_23 : decode cX6_undo 23 = .ok (.iconst 1, 1) := by decide +kernel
theorem dX6_undo_24 : decode cX6_undo 24 = .ok (.isub, 1) := by decide +kernel
theorem dX6_undo_25 : decode cX6_undo 25 = .ok (.putfield 33, 3) := by decide +kernel
theorem dX6_undo_28 : decode cX6_undo 28 = .ok (.aload_n 0, 1) := by decide +kernel
theorem dX6_undo_29 : decode cX6_undo 29 = .ok (.getfield 16, 3) := by decide +kernel
theorem dX6_undo_32 : decode cX6_undo 32 = .ok (.bipush 86, 2) := by decide +kernel
theorem dX6_undo_34 : decode cX6_undo 34 = .ok (.aload_n 0, 1) := by decide +kernel
theorem dX6_undo_35 : decode cX6_undo 35 = .ok (.getfield 33, 3) := by decide +kernel
theorem dX6_undo_38 : decode cX6_undo 38 = .ok (.imul, 1) := by decide +kernel
theorem dX6_undo_39 : decode cX6_undo 39 = .ok (.aload_n 0, 1) := by decide +kernel
theorem dX6_undo_40 : decode cX6_undo 40 = .ok (.getfield 7, 3) := by decide +kernel
theorem dX6_undo_43 : decode cX6_undo 43 = .ok (.iconst 0, 1) := by decide +kernel
theorem dX6_undo_44 : decode cX6_undo 44 = .ok (.invokestatic 36, 3) := by decide +kernel
theorem dX6_undo_47 : decode cX6_undo 47 = .ok (.aload_n 0, 1) := by decide +kernel
theorem dX6_undo_48 : decode cX6_undo 48 = .ok (.getfield 33, 3) := by decide +kernel
theorem dX6_undo_51 : decode cX6_undo 51 = .ok (.ireturn, 1) := by decide +kernel
theorem dX6_lamp_0 : decode cX6_lamp 0 = .ok (.aload_n 0, 1) := by decide +kernel
theorem dX6_lamp_1 : decode cX6_lamp 1 = .ok (.bipush 7, 2) := by decide +kernel
theorem dX6_lamp_3 : decode cX6_lamp 3 = .ok (.iaload, 1) := by decide +kernel
theorem dX6_lamp_4 : decode cX6_lamp 4 = .ok (.iconst 1, 1) := by decide +kernel
theorem dX6_lamp_5 : decode cX6_lamp 5 = .ok (.if_icmp .ne 5, 3) := by decide +kernel
theorem dX6_lamp_8 : decode cX6_lamp 8 = .ok (.iconst 3, 1) := by decide +kernel
theorem dX6_lamp_9 : decode cX6_lamp 9 = .ok (.ireturn, 1) := by decide +kernel
theorem dX6_lamp_10 : decode cX6_lamp 10 = .ok (.aload_n 0, 1) := by decide +kernel
theorem dX6_lamp_11 : decode cX6_lamp 11 = .ok (.iload_n 1, 1) := by decide +kernel
theorem dX6_lamp_12 : decode cX6_lamp 12 = .ok (.iconst 0, 1) := by decide +kernel
theorem dX6_lamp_13 : decode cX6_lamp 13 = .ok (.invokestatic 44, 3) := by decide +kernel
theorem dX6_lamp_16 : decode cX6_lamp 16 = .ok (.istore_n 2, 1) := by decide +kernel
theorem dX6_lamp_17 : decode cX6_lamp 17 = .ok (.iload_n 2, 1) := by decide +kernel
theorem dX6_lamp_18 : decode cX6_lamp 18 = .ok (.ifCond .ne 10, 3) := by decide +kernel
theorem dX6_lamp_21 : decode cX6_lamp 21 = .ok (.aload_n 0, 1) := by decide +kernel
theorem dX6_lamp_22 : decode cX6_lamp 22 = .ok (.bipush 6, 2) := by decide +kernel
theorem dX6_lamp_24 : decode cX6_lamp 24 = .ok (.iaload, 1) := by decide +kernel
theorem dX6_lamp_25 : decode cX6_lamp 25 = .ok (.goto 15, 3) := by decide +kernel
theorem dX6_lamp_28 : decode cX6_lamp 28 = .ok (.iload_n 2, 1) := by decide +kernel
theorem dX6_lamp_29 : decode cX6_lamp 29 = .ok (.aload_n 0, 1) := by decide +kernel
theorem dX6_lamp_30 : decode cX6_lamp 30 = .ok (.iconst 1, 1) := by decide +kernel
theorem dX6_lamp_31 : decode cX6_lamp 31 = .ok (.iaload, 1) := by decide +kernel
theorem dX6_lamp_32 : decode cX6_lamp 32 = .ok (.if_icmp .gt 7, 3) := by decide +kernel
theorem dX6_lamp_35 : decode cX6_lamp 35 = .ok (.iconst 2, 1) := by decide +kernel
theorem dX6_lamp_36 : decode cX6_lamp 36 = .ok (.goto 4, 3) := by decide +kernel
theorem dX6_lamp_39 : decode cX6_lamp 39 = .ok (.iconst 3, 1) := by decide +kernel
theorem dX6_lamp_40 : decode cX6_lamp 40 = .ok (.ireturn, 1) := by decide +kernel
theorem dX6_switches_0 : decode cX6_switches 0 = .ok (.bipush 9, 2) := by decide +kernel
theorem dX6_switches_2 : decode cX6_switches 2 = .ok (.bipush 6, 2) := by decide +kernel
theorem dX6_switches_4 : decode cX6_switches 4 = .ok (.iload_n 1, 1) := by decide +kernel
theorem dX6_switches_5 : decode cX6_switches 5 = .ok (.imul, 1) := by decide +kernel
theorem dX6_switches_6 : decode cX6_switches 6 = .ok (.iadd, 1) := by decide +kernel
theorem dX6_switches_7 : decode cX6_switches 7 = .ok (.istore_n 2, 1) := by decide +kernel
theorem dX6_switches_8 : decode cX6_switches 8 = .ok (.aload_n 0, 1) := by decide +kernel
theorem dX6_switches_9 : decode cX6_switches 9 = .ok (.iload_n 2, 1) := by decide +kernel
theorem dX6_switches_10 : decode cX6_switches 10 = .ok (.iconst 5, 1) := by decide +kernel
theorem dX6_switches_11 : decode cX6_switches 11 = .ok (.iadd, 1) := by decide +kernel
theorem dX6_switches_12 : decode cX6_switches 12 = .ok (.dup2, 1) := by decide +kernel
theorem dX6_switches_13 : decode cX6_switches 13 = .ok (.iaload, 1) := by decide +kernel
theorem dX6_switches_14 : decode cX6_switches 14 = .ok (.aload_n 0, 1) := by decide +kernel
theorem dX6_switches_15 : decode cX6_switches 15 = .ok (.iload_n 2, 1) := by decide +kernel
theorem dX6_switches_16 : decode cX6_switches 16 = .ok (.iaload, 1) := by decide +kernel
theorem dX6_switches_17 : decode cX6_switches 17 = .ok (.ifCond .ne 7, 3) := by decide +kernel
theorem dX6_switches_20 : decode cX6_switches 20 = .ok (.iconst 1, 1) := by decide +kernel
theorem dX6_switches_21 : decode cX6_switches 21 = .ok (.goto 4, 3) := by decide +kernel
theorem dX6_switches_24 : decode cX6_switches 24 = .ok (.iconst 0, 1) := by decide +kernel
theorem dX6_switches_25 : decode cX6_switches 25 = .ok (.iadd, 1) := by decide +kernel
theorem dX6_switches_26 : decode cX6_switches 26 = .ok (.iastore, 1) := by decide +kernel
theorem dX6_switches_27 : decode cX6_switches 27 = .ok (.aload_n 0, 1) := by decide +kernel
theorem dX6_switches_28 : decode cX6_switches 28 = .ok (.iload_n 2, 1) := by decide +kernel
theorem dX6_switches_29 : decode cX6_switches 29 = .ok (.aload_n 0, 1) := by decide +kernel
theorem dX6_switches_30 : decode cX6_switches 30 = .ok (.iload_n 2, 1) := by decide +kernel
theorem dX6_switches_31 : decode cX6_switches 31 = .ok (.iaload, 1) := by decide +kernel
theorem dX6_switches_32 : decode cX6_switches 32 = .ok (.aload_n 0, 1) := by decide +kernel
theorem dX6_switches_33 : decode cX6_switches 33 = .ok (.iconst 0, 1) := by decide +kernel
theorem dX6_switches_34 : decode cX6_switches 34 = .ok (.iaload, 1) := by decide +kernel
theorem dX6_switches_35 : decode cX6_switches 35 = .ok (.if_icmp .ge 9, 3) := by decide +kernel
theorem dX6_switches_38 : decode cX6_switches 38 = .ok (.aload_n 0, 1) := by decide +kernel
theorem dX6_switches_39 : decode cX6_switches 39 = .ok (.iconst 0, 1) := by decide +kernel
theorem dX6_switches_40 : decode cX6_switches 40 = .ok (.iaload, 1) := by decide +kernel
theorem dX6_switches_41 : decode cX6_switches 41 = .ok (.goto 6, 3) := by decide +kernel
theorem dX6_switches_44 : decode cX6_switches 44 = .ok (.aload_n 0, 1) := by decide +kernel
theorem dX6_switches_45 : decode cX6_switches 45 = .ok (.iload_n 2, 1) := by decide +kernel
theorem dX6_switches_46 : decode cX6_switches 46 = .ok (.iaload, 1) := by decide +kernel
theorem dX6_switches_47 : decode cX6_switches 47 = .ok (.iastore, 1) := by decide +kernel
theorem dX6_switches_48 : decode cX6_switches 48 = .ok (.return_, 1) := by decide +kernel
theorem dX6_on_0 : decode cX6_on 0 = .ok (.iconst 0, 1) := by decide +kernel
theorem dX6_on_1 : decode cX6_on 1 = .ok (.istore_n 2, 1) := by decide +kernel
theorem dX6_on_2 : decode cX6_on 2 = .ok (.iconst 0, 1) := by decide +kernel
theorem dX6_on_3 : decode cX6_on 3 = .ok (.istore_n 3, 1) := by decide +kernel
theorem dX6_on_4 : decode cX6_on 4 = .ok (.iload_n 3, 1) := by decide +kernel
theorem dX6_on_5 : decode cX6_on 5 = .ok (.aload_n 0, 1) := by decide +kernel
theorem dX6_on_6 : decode cX6_on 6 = .ok (.bipush 57, 2) := by decide +kernel
theorem dX6_on_8 : decode cX6_on 8 = .ok (.iaload, 1) := by decide +kernel
theorem dX6_on_9 : decode cX6_on 9 = .ok (.if_icmp .ge 27, 3) := by decide +kernel
theorem dX6_on_12 : decode cX6_on 12 = .ok (.iload_n 2, 1) := by decide +kernel
theorem dX6_on_13 : decode cX6_on 13 = .ok (.aload_n 0, 1) := by decide +kernel
theorem dX6_on_14 : decode cX6_on 14 = .ok (.iload_n 3, 1) := by decide +kernel
theorem dX6_on_15 : decode cX6_on 15 = .ok (.iconst 1, 1) := by decide +kernel
theorem dX6_on_16 : decode cX6_on 16 = .ok (.invokestatic 48, 3) := by decide +kernel
theorem dX6_on_19 : decode cX6_on 19 = .ok (.iload_n 1, 1) := by decide +kernel
theorem dX6_on_20 : decode cX6_on 20 = .ok (.if_icmp .ne 7, 3) := by decide +kernel
theorem dX6_on_23 : decode cX6_on 23 = .ok (.iconst 1, 1) := by decide +kernel
theorem dX6_on_24 : decode cX6_on 24 = .ok (.goto 4, 3) := by decide +kernel
theorem dX6_on_27 : decode cX6_on 27 = .ok (.iconst 0, 1) := by decide +kernel
theorem dX6_on_28 : decode cX6_on 28 = .ok (.iadd, 1) := by decide +kernel
theorem dX6_on_29 : decode cX6_on 29 = .ok (.istore_n 2, 1) := by decide +kernel
theorem dX6_on_30 : decode cX6_on 30 = .ok (.iinc 3 1, 3) := by decide +kernel
theorem dX6_on_33 : decode cX6_on 33 = .ok (.goto (-29), 3) := by decide +kernel
theorem dX6_on_36 : decode cX6_on 36 = .ok (.iload_n 2, 1) := by decide +kernel
theorem dX6_on_37 : decode cX6_on 37 = .ok (.ireturn, 1) := by decide +kernel
theorem dX6_leaves_0 : decode cX6_leaves 0 = .ok (.aload_n 0, 1) := by decide +kernel
theorem dX6_leaves_1 : decode cX6_leaves 1 = .ok (.bipush 57, 2) := by decide +kernel
theorem dX6_leaves_3 : decode cX6_leaves 3 = .ok (.dup2, 1) := by decide +kernel
theorem dX6_leaves_4 : decode cX6_leaves 4 = .ok (.iaload, 1) := by decide +kernel
theorem dX6_leaves_5 : decode cX6_leaves 5 = .ok (.iconst 1, 1) := by decide +kernel
theorem dX6_leaves_6 : decode cX6_leaves 6 = .ok (.isub, 1) := by decide +kernel
theorem dX6_leaves_7 : decode cX6_leaves 7 = .ok (.iastore, 1) := by decide +kernel
theorem dX6_leaves_8 : decode cX6_leaves 8 = .ok (.bipush 58, 2) := by decide +kernel
theorem dX6_leaves_10 : decode cX6_leaves 10 = .ok (.iconst 4, 1) := by decide +kernel
theorem dX6_leaves_11 : decode cX6_leaves 11 = .ok (.iload_n 1, 1) := by decide +kernel
theorem dX6_leaves_12 : decode cX6_leaves 12 = .ok (.imul, 1) := by decide +kernel
theorem dX6_leaves_13 : decode cX6_leaves 13 = .ok (.iadd, 1) := by decide +kernel
theorem dX6_leaves_14 : decode cX6_leaves 14 = .ok (.istore_n 2, 1) := by decide +kernel
theorem dX6_leaves_15 : decode cX6_leaves 15 = .ok (.iload_n 2, 1) := by decide +kernel
theorem dX6_leaves_16 : decode cX6_leaves 16 = .ok (.bipush 58, 2) := by decide +kernel
theorem dX6_leaves_18 : decode cX6_leaves 18 = .ok (.iconst 4, 1) := by decide +kernel
theorem dX6_leaves_19 : decode cX6_leaves 19 = .ok (.aload_n 0, 1) := by decide +kernel
theorem dX6_leaves_20 : decode cX6_leaves 20 = .ok (.bipush 57, 2) := by decide +kernel
theorem dX6_leaves_22 : decode cX6_leaves 22 = .ok (.iaload, 1) := by decide +kernel
theorem dX6_leaves_23 : decode cX6_leaves 23 = .ok (.imul, 1) := by decide +kernel
theorem dX6_leaves_24 : decode cX6_leaves 24 = .ok (.iadd, 1) := by decide +kernel
theorem dX6_leaves_25 : decode cX6_leaves 25 = .ok (.if_icmp .ge 17, 3) := by decide +kernel
theorem dX6_leaves_28 : decode cX6_leaves 28 = .ok (.aload_n 0, 1) := by decide +kernel
theorem dX6_leaves_29 : decode cX6_leaves 29 = .ok (.iload_n 2, 1) := by decide +kernel
theorem dX6_leaves_30 : decode cX6_leaves 30 = .ok (.aload_n 0, 1) := by decide +kernel
theorem dX6_leaves_31 : decode cX6_leaves 31 = .ok (.iload_n 2, 1) := by decide +kernel
theorem dX6_leaves_32 : decode cX6_leaves 32 = .ok (.iconst 4, 1) := by decide +kernel
theorem dX6_leaves_33 : decode cX6_leaves 33 = .ok (.iadd, 1) := by decide +kernel
theorem dX6_leaves_34 : decode cX6_leaves 34 = .ok (.iaload, 1) := by decide +kernel
theorem dX6_leaves_35 : decode cX6_leaves 35 = .ok (.iastore, 1) := by decide +kernel
theorem dX6_leaves_36 : decode cX6_leaves 36 = .ok (.iinc 2 1, 3) := by decide +kernel
theorem dX6_leaves_39 : decode cX6_leaves 39 = .ok (.goto (-24), 3) := by decide +kernel
theorem dX6_leaves_42 : decode cX6_leaves 42 = .ok (.return_, 1) := by decide +kernel
theorem dX6_walks_0 : decode cX6_walks 0 = .ok (.iconst 0, 1) := by decide +kernel
theorem dX6_walks_1 : decode cX6_walks 1 = .ok (.istore_n 1, 1) := by decide +kernel
theorem dX6_walks_2 : decode cX6_walks 2 = .ok (.iload_n 1, 1) := by decide +kernel
theorem dX6_walks_3 : decode cX6_walks 3 = .ok (.aload_n 0, 1) := by decide +kernel
theorem dX6_walks_4 : decode cX6_walks 4 = .ok (.bipush 57, 2) := by decide +kernel
theorem dX6_walks_6 : decode cX6_walks 6 = .ok (.iaload, 1) := by decide +kernel
theorem dX6_walks_7 : decode cX6_walks 7 = .ok (.if_icmp .ge 105, 3) := by decide +kernel
theorem dX6_walks_10 : decode cX6_walks 10 = .ok (.bipush 58, 2) := by decide +kernel
theorem dX6_walks_12 : decode cX6_walks 12 = .ok (.iconst 4, 1) := by decide +kernel
theorem dX6_walks_13 : decode cX6_walks 13 = .ok (.iload_n 1, 1) := by decide +kernel
theorem dX6_walks_14 : decode cX6_walks 14 = .ok (.imul, 1) := by decide +kernel
theorem dX6_walks_15 : decode cX6_walks 15 = .ok (.iadd, 1) := by decide +kernel
theorem dX6_walks_16 : decode cX6_walks 16 = .ok (.istore_n 2, 1) := by decide +kernel
theorem dX6_walks_17 : decode cX6_walks 17 = .ok (.aload_n 0, 1) := by decide +kernel
theorem dX6_walks_18 : decode cX6_walks 18 = .ok (.iload_n 2, 1) := by decide +kernel
theorem dX6_walks_19 : decode cX6_walks 19 = .ok (.iconst 1, 1) := by decide +kernel
theorem dX6_walks_20 : decode cX6_walks 20 = .ok (.iadd, 1) := by decide +kernel
theorem dX6_walks_21 : decode cX6_walks 21 = .ok (.iaload, 1) := by decide +kernel
theorem dX6_walks_22 : decode cX6_walks 22 = .ok (.aload_n 0, 1) := by decide +kernel
theorem dX6_walks_23 : decode cX6_walks 23 = .ok (.iload_n 2, 1) := by decide +kernel
theorem dX6_walks_24 : decode cX6_walks 24 = .ok (.iconst 2, 1) := by decide +kernel
theorem dX6_walks_25 : decode cX6_walks 25 = .ok (.iadd, 1) := by decide +kernel
theorem dX6_walks_26 : decode cX6_walks 26 = .ok (.iaload, 1) := by decide +kernel
theorem dX6_walks_27 : decode cX6_walks 27 = .ok (.if_icmp .ne 11, 3) := by decide +kernel
theorem dX6_walks_30 : decode cX6_walks 30 = .ok (.aload_n 0, 1) := by decide +kernel
theorem dX6_walks_31 : decode cX6_walks 31 = .ok (.iload_n 1, 1) := by decide +kernel
theorem dX6_walks_32 : decode cX6_walks 32 = .ok (.invokestatic 51, 3) := by decide +kernel
theorem dX6_walks_35 : decode cX6_walks 35 = .ok (.goto 74, 3) := by decide +kernel
theorem dX6_walks_38 : decode cX6_walks 38 = .ok (.aload_n 0, 1) := by decide +kernel
theorem dX6_walks_39 : decode cX6_walks 39 = .ok (.iload_n 2, 1) := by decide +kernel
theorem dX6_walks_40 : decode cX6_walks 40 = .ok (.iconst 3, 1) := by decide +kernel
theorem dX6_walks_41 : decode cX6_walks 41 = .ok (.iadd, 1) := by decide +kernel
theorem dX6_walks_42 : decode cX6_walks 42 = .ok (.dup2, 1) := by decide +kernel
theorem dX6_walks_43 : decode cX6_walks 43 = .ok (.iaload, 1) := by decide +kernel
theorem dX6_walks_44 : decode cX6_walks 44 = .ok (.iconst 1, 1) := by decide +kernel
theorem dX6_walks_45 : decode cX6_walks 45 = .ok (.isub, 1) := by decide +kernel
theorem dX6_walks_46 : decode cX6_walks 46 = .ok (.iastore, 1) := by decide +kernel
theorem dX6_walks_47 : decode cX6_walks 47 = .ok (.aload_n 0, 1) := by decide +kernel
theorem dX6_walks_48 : decode cX6_walks 48 = .ok (.iload_n 2, 1) := by decide +kernel
theorem dX6_walks_49 : decode cX6_walks 49 = .ok (.iconst 3, 1) := by decide +kernel
theorem dX6_walks_50 : decode cX6_walks 50 = .ok (.iadd, 1) := by decide +kernel
theorem dX6_walks_51 : decode cX6_walks 51 = .ok (.iaload, 1) := by decide +kernel
theorem dX6_walks_52 : decode cX6_walks 52 = .ok (.ifCond .ne 54, 3) := by decide +kernel
theorem dX6_walks_55 : decode cX6_walks 55 = .ok (.aload_n 0, 1) := by decide +kernel
theorem dX6_walks_56 : decode cX6_walks 56 = .ok (.iload_n 2, 1) := by decide +kernel
theorem dX6_walks_57 : decode cX6_walks 57 = .ok (.iconst 1, 1) := by decide +kernel
theorem dX6_walks_58 : decode cX6_walks 58 = .ok (.iadd, 1) := by decide +kernel
theorem dX6_walks_59 : decode cX6_walks 59 = .ok (.dup2, 1) := by decide +kernel
theorem dX6_walks_60 : decode cX6_walks 60 = .ok (.iaload, 1) := by decide +kernel
theorem dX6_walks_61 : decode cX6_walks 61 = .ok (.aload_n 0, 1) := by decide +kernel
theorem dX6_walks_62 : decode cX6_walks 62 = .ok (.iload_n 2, 1) := by decide +kernel
theorem dX6_walks_63 : decode cX6_walks 63 = .ok (.iconst 2, 1) := by decide +kernel
theorem dX6_walks_64 : decode cX6_walks 64 = .ok (.iadd, 1) := by decide +kernel
theorem dX6_walks_65 : decode cX6_walks 65 = .ok (.iaload, 1) := by decide +kernel
theorem dX6_walks_66 : decode cX6_walks 66 = .ok (.aload_n 0, 1) := by decide +kernel
theorem dX6_walks_67 : decode cX6_walks 67 = .ok (.iload_n 2, 1) := by decide +kernel
theorem dX6_walks_68 : decode cX6_walks 68 = .ok (.iconst 1, 1) := by decide +kernel
theorem dX6_walks_69 : decode cX6_walks 69 = .ok (.iadd, 1) := by decide +kernel
theorem dX6_walks_70 : decode cX6_walks 70 = .ok (.iaload, 1) := by decide +kernel
theorem dX6_walks_71 : decode cX6_walks 71 = .ok (.if_icmp .le 7, 3) := by decide +kernel
theorem dX6_walks_74 : decode cX6_walks 74 = .ok (.iconst 1, 1) := by decide +kernel
theorem dX6_walks_75 : decode cX6_walks 75 = .ok (.goto 4, 3) := by decide +kernel
theorem dX6_walks_78 : decode cX6_walks 78 = .ok (.iconst (-1), 1) := by decide +kernel
theorem dX6_walks_79 : decode cX6_walks 79 = .ok (.iadd, 1) := by decide +kernel
theorem dX6_walks_80 : decode cX6_walks 80 = .ok (.iastore, 1) := by decide +kernel
theorem dX6_walks_81 : decode cX6_walks 81 = .ok (.aload_n 0, 1) := by decide +kernel
theorem dX6_walks_82 : decode cX6_walks 82 = .ok (.iload_n 2, 1) := by decide +kernel
theorem dX6_walks_83 : decode cX6_walks 83 = .ok (.iconst 3, 1) := by decide +kernel
theorem dX6_walks_84 : decode cX6_walks 84 = .ok (.iadd, 1) := by decide +kernel
theorem dX6_walks_85 : decode cX6_walks 85 = .ok (.aload_n 0, 1) := by decide +kernel
theorem dX6_walks_86 : decode cX6_walks 86 = .ok (.iload_n 2, 1) := by decide +kernel
theorem dX6_walks_87 : decode cX6_walks 87 = .ok (.iconst 1, 1) := by decide +kernel
theorem dX6_walks_88 : decode cX6_walks 88 = .ok (.iadd, 1) := by decide +kernel
theorem dX6_walks_89 : decode cX6_walks 89 = .ok (.iaload, 1) := by decide +kernel
theorem dX6_walks_90 : decode cX6_walks 90 = .ok (.aload_n 0, 1) := by decide +kernel
theorem dX6_walks_91 : decode cX6_walks 91 = .ok (.iload_n 2, 1) := by decide +kernel
theorem dX6_walks_92 : decode cX6_walks 92 = .ok (.iconst 2, 1) := by decide +kernel
theorem dX6_walks_93 : decode cX6_walks 93 = .ok (.iadd, 1) := by decide +kernel
theorem dX6_walks_94 : decode cX6_walks 94 = .ok (.iaload, 1) := by decide +kernel
theorem dX6_walks_95 : decode cX6_walks 95 = .ok (.if_icmp .ne 7, 3) := by decide +kernel
theorem dX6_walks_98 : decode cX6_walks 98 = .ok (.iconst 0, 1) := by decide +kernel
theorem dX6_walks_99 : decode cX6_walks 99 = .ok (.goto 6, 3) := by decide +kernel
theorem dX6_walks_102 : decode cX6_walks 102 = .ok (.aload_n 0, 1) := by decide +kernel
theorem dX6_walks_103 : decode cX6_walks 103 = .ok (.iconst 3, 1) := by decide +kernel
theorem dX6_walks_104 : decode cX6_walks 104 = .ok (.iaload, 1) := by decide +kernel
theorem dX6_walks_105 : decode cX6_walks 105 = .ok (.iastore, 1) := by decide +kernel
theorem dX6_walks_106 : decode cX6_walks 106 = .ok (.iinc 1 1, 3) := by decide +kernel
theorem dX6_walks_109 : decode cX6_walks 109 = .ok (.goto (-107), 3) := by decide +kernel
theorem dX6_walks_112 : decode cX6_walks 112 = .ok (.return_, 1) := by decide +kernel
theorem dX6_looks_0 : decode cX6_looks 0 = .ok (.iconst 0, 1) := by decide +kernel
theorem dX6_looks_1 : decode cX6_looks 1 = .ok (.istore_n 1, 1) := by decide +kernel
theorem dX6_looks_2 : decode cX6_looks 2 = .ok (.iload_n 1, 1) := by decide +kernel
theorem dX6_looks_3 : decode cX6_looks 3 = .ok (.bipush 8, 2) := by decide +kernel
theorem dX6_looks_5 : decode cX6_looks 5 = .ok (.if_icmp .ge 70, 3) := by decide +kernel
theorem dX6_looks_8 : decode cX6_looks 8 = .ok (.aload_n 0, 1) := by decide +kernel
theorem dX6_looks_9 : decode cX6_looks 9 = .ok (.iload_n 1, 1) := by decide +kernel
theorem dX6_looks_10 : decode cX6_looks 10 = .ok (.iconst 1, 1) := by decide +kernel
theorem dX6_looks_11 : decode cX6_looks 11 = .ok (.invokestatic 44, 3) := by decide +kernel
theorem dX6_looks_14 : decode cX6_looks 14 = .ok (.iconst 1, 1) := by decide +kernel
theorem dX6_looks_15 : decode cX6_looks 15 = .ok (.if_icmp .ne 54, 3) := by decide +kernel
theorem dX6_looks_18 : decode cX6_looks 18 = .ok (.aload_n 0, 1) := by decide +kernel
theorem dX6_looks_19 : decode cX6_looks 19 = .ok (.iload_n 1, 1) := by decide +kernel
theorem dX6_looks_20 : decode cX6_looks 20 = .ok (.invokestatic 55, 3) := by decide +kernel
theorem dX6_looks_23 : decode cX6_looks 23 = .ok (.ifCond .le 46, 3) := by decide +kernel
theorem dX6_looks_26 : decode cX6_looks 26 = .ok (.aload_n 0, 1) := by decide +kernel
theorem dX6_looks_27 : decode cX6_looks 27 = .ok (.iload_n 1, 1) := by decide +kernel
theorem dX6_looks_28 : decode cX6_looks 28 = .ok (.invokestatic 59, 3) := by decide +kernel
theorem dX6_looks_31 : decode cX6_looks 31 = .ok (.aload_n 0, 1) := by decide +kernel
theorem dX6_looks_32 : decode cX6_looks 32 = .ok (.iconst 2, 1) := by decide +kernel
theorem dX6_looks_33 : decode cX6_looks 33 = .ok (.iaload, 1) := by decide +kernel
theorem dX6_looks_34 : decode cX6_looks 34 = .ok (.iconst 1, 1) := by decide +kernel
theorem dX6_looks_35 : decode cX6_looks 35 = .ok (.if_icmp .ne 14, 3) := by decide +kernel
theorem dX6_looks_38 : decode cX6_looks 38 = .ok (.iload_n 1, 1) := by decide +kernel
theorem dX6_looks_39 : decode cX6_looks 39 = .ok (.ifCond .le 10, 3) := by decide +kernel
theorem dX6_looks_42 : decode cX6_looks 42 = .ok (.aload_n 0, 1) := by decide +kernel
theorem dX6_looks_43 : decode cX6_looks 43 = .ok (.iload_n 1, 1) := by decide +kernel
theorem dX6_looks_44 : decode cX6_looks 44 = .ok (.iconst 1, 1) := by decide +kernel
theorem dX6_looks_45 : decode cX6_looks 45 = .ok (.isub, 1) := by decide +kernel
theorem dX6_looks_46 : decode cX6_looks 46 = .ok (.invokestatic 59, 3) := by decide +kernel
theorem dX6_looks_49 : decode cX6_looks 49 = .ok (.aload_n 0, 1) := by decide +kernel
theorem dX6_looks_50 : decode cX6_looks 50 = .ok (.iconst 2, 1) := by decide +kernel
theorem dX6_looks_51 : decode cX6_looks 51 = .ok (.iaload, 1) := by decide +kernel
theorem dX6_looks_52 : decode cX6_looks 52 = .ok (.iconst 1, 1) := by decide +kernel
theorem dX6_looks_53 : decode cX6_looks 53 = .ok (.if_icmp .ne 16, 3) := by decide +kernel
