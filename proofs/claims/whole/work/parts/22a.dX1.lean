theorem dX1_init_0 : decode cX1_init 0 = .ok (.aload_n 0, 1) := by decide +kernel
theorem dX1_init_1 : decode cX1_init 1 = .ok (.invokespecial 3, 3) := by decide +kernel
theorem dX1_init_4 : decode cX1_init 4 = .ok (.aload_n 0, 1) := by decide +kernel
theorem dX1_init_5 : decode cX1_init 5 = .ok (.bipush 8, 2) := by decide +kernel
theorem dX1_init_7 : decode cX1_init 7 = .ok (.newarray .int, 2) := by decide +kernel
theorem dX1_init_9 : decode cX1_init 9 = .ok (.putfield 9, 3) := by decide +kernel
theorem dX1_init_12 : decode cX1_init 12 = .ok (.aload_n 0, 1) := by decide +kernel
theorem dX1_init_13 : decode cX1_init 13 = .ok (.bipush 8, 2) := by decide +kernel
theorem dX1_init_15 : decode cX1_init 15 = .ok (.newarray .int, 2) := by decide +kernel
theorem dX1_init_17 : decode cX1_init 17 = .ok (.putfield 15, 3) := by decide +kernel
theorem dX1_init_20 : decode cX1_init 20 = .ok (.aload_n 0, 1) := by decide +kernel
theorem dX1_init_21 : decode cX1_init 21 = .ok (.bipush 8, 2) := by decide +kernel
theorem dX1_init_23 : decode cX1_init 23 = .ok (.newarray .int, 2) := by decide +kernel
theorem dX1_init_25 : decode cX1_init 25 = .ok (.putfield 18, 3) := by decide +kernel
theorem dX1_init_28 : decode cX1_init 28 = .ok (.aload_n 0, 1) := by decide +kernel
theorem dX1_init_29 : decode cX1_init 29 = .ok (.aload_n 1, 1) := by decide +kernel
theorem dX1_init_30 : decode cX1_init 30 = .ok (.putfield 21, 3) := by decide +kernel
theorem dX1_init_33 : decode cX1_init 33 = .ok (.aload_n 0, 1) := by decide +kernel
theorem dX1_init_34 : decode cX1_init 34 = .ok (.invokevirtual 25, 3) := by decide +kernel
theorem dX1_init_37 : decode cX1_init 37 = .ok (.return_, 1) := by decide +kernel
theorem dX1_startAsTold_0 : decode cX1_startAsTold 0 = .ok (.aload_n 0, 1) := by decide +kernel
theorem dX1_startAsTold_1 : decode cX1_startAsTold 1 = .ok (.getfield 21, 3) := by decide +kernel
theorem dX1_startAsTold_4 : decode cX1_startAsTold 4 = .ok (.getfield 28, 3) := by decide +kernel
theorem dX1_startAsTold_7 : decode cX1_startAsTold 7 = .ok (.iconst 0, 1) := by decide +kernel
theorem dX1_startAsTold_8 : decode cX1_startAsTold 8 = .ok (.aload_n 0, 1) := by decide +kernel
theorem dX1_startAsTold_9 : decode cX1_startAsTold 9 = .ok (.getfield 9, 3) := by decide +kernel
theorem dX1_startAsTold_12 : decode cX1_startAsTold 12 = .ok (.iconst 0, 1) := by decide +kernel
theorem dX1_startAsTold_13 : decode cX1_startAsTold 13 = .ok (.bipush 8, 2) := by decide +kernel
theorem dX1_startAsTold_15 : decode cX1_startAsTold 15 = .ok (.invokestatic 31, 3) := by decide +kernel
theorem dX1_startAsTold_18 : decode cX1_startAsTold 18 = .ok (.aload_n 0, 1) := by decide +kernel
theorem dX1_startAsTold_19 : decode cX1_startAsTold 19 = .ok (.getfield 15, 3) := by decide +kernel
theorem dX1_startAsTold_22 : decode cX1_startAsTold 22 = .ok (.iconst 0, 1) := by decide +kernel
theorem dX1_startAsTold_23 : decode cX1_startAsTold 23 = .ok (.invokestatic 37, 3) := by decide +kernel
theorem dX1_startAsTold_26 : decode cX1_startAsTold 26 = .ok (.aload_n 0, 1) := by decide +kernel
theorem dX1_startAsTold_27 : decode cX1_startAsTold 27 = .ok (.aload_n 0, 1) := by decide +kernel
theorem dX1_startAsTold_28 : decode cX1_startAsTold 28 = .ok (.getfield 21, 3) := by decide +kernel
theorem dX1_startAsTold_31 : decode cX1_startAsTold 31 = .ok (.getfield 43, 3) := by decide +kernel
theorem dX1_startAsTold_34 : decode cX1_startAsTold 34 = .ok (.putfield 47, 3) := by decide +kernel
theorem dX1_startAsTold_37 : decode cX1_startAsTold 37 = .ok (.aload_n 0, 1) := by decide +kernel
theorem dX1_startAsTold_38 : decode cX1_startAsTold 38 = .ok (.iconst 0, 1) := by decide +kernel
theorem dX1_startAsTold_39 : decode cX1_startAsTold 39 = .ok (.putfield 48, 3) := by decide +kernel
theorem dX1_startAsTold_42 : decode cX1_startAsTold 42 = .ok (.aload_n 0, 1) := by decide +kernel
theorem dX1_startAsTold_43 : decode cX1_startAsTold 43 = .ok (.iconst 0, 1) := by decide +kernel
theorem dX1_startAsTold_44 : decode cX1_startAsTold 44 = .ok (.putfield 51, 3) := by decide +kernel
theorem dX1_startAsTold_47 : decode cX1_startAsTold 47 = .ok (.aload_n 0, 1) := by decide +kernel
theorem dX1_startAsTold_48 : decode cX1_startAsTold 48 = .ok (.aload_n 0, 1) := by decide +kernel
theorem dX1_startAsTold_49 : decode cX1_startAsTold 49 = .ok (.getfield 21, 3) := by decide +kernel
theorem dX1_startAsTold_52 : decode cX1_startAsTold 52 = .ok (.getfield 54, 3) := by decide +kernel
theorem dX1_startAsTold_55 : decode cX1_startAsTold 55 = .ok (.putfield 57, 3) := by decide +kernel
theorem dX1_startAsTold_58 : decode cX1_startAsTold 58 = .ok (.aload_n 0, 1) := by decide +kernel
theorem dX1_startAsTold_59 : decode cX1_startAsTold 59 = .ok (.iconst 0, 1) := by decide +kernel
theorem dX1_startAsTold_60 : decode cX1_startAsTold 60 = .ok (.putfield 60, 3) := by decide +kernel
theorem dX1_startAsTold_63 : decode cX1_startAsTold 63 = .ok (.return_, 1) := by decide +kernel
theorem dX1_copyFrom_0 : decode cX1_copyFrom 0 = .ok (.aload_n 1, 1) := by decide +kernel
theorem dX1_copyFrom_1 : decode cX1_copyFrom 1 = .ok (.getfield 9, 3) := by decide +kernel
theorem dX1_copyFrom_4 : decode cX1_copyFrom 4 = .ok (.iconst 0, 1) := by decide +kernel
theorem dX1_copyFrom_5 : decode cX1_copyFrom 5 = .ok (.aload_n 0, 1) := by decide +kernel
theorem dX1_copyFrom_6 : decode cX1_copyFrom 6 = .ok (.getfield 9, 3) := by decide +kernel
theorem dX1_copyFrom_9 : decode cX1_copyFrom 9 = .ok (.iconst 0, 1) := by decide +kernel
theorem dX1_copyFrom_10 : decode cX1_copyFrom 10 = .ok (.bipush 8, 2) := by decide +kernel
theorem dX1_copyFrom_12 : decode cX1_copyFrom 12 = .ok (.invokestatic 31, 3) := by decide +kernel
theorem dX1_copyFrom_15 : decode cX1_copyFrom 15 = .ok (.aload_n 1, 1) := by decide +kernel
theorem dX1_copyFrom_16 : decode cX1_copyFrom 16 = .ok (.getfield 15, 3) := by decide +kernel
theorem dX1_copyFrom_19 : decode cX1_copyFrom 19 = .ok (.iconst 0, 1) := by decide +kernel
theorem dX1_copyFrom_20 : decode cX1_copyFrom 20 = .ok (.aload_n 0, 1) := by decide +kernel
theorem dX1_copyFrom_21 : decode cX1_copyFrom 21 = .ok (.getfield 15, 3) := by decide +kernel
theorem dX1_copyFrom_24 : decode cX1_copyFrom 24 = .ok (.iconst 0, 1) := by decide +kernel
theorem dX1_copyFrom_25 : decode cX1_copyFrom 25 = .ok (.bipush 8, 2) := by decide +kernel
theorem dX1_copyFrom_27 : decode cX1_copyFrom 27 = .ok (.invokestatic 31, 3) := by decide +kernel
theorem dX1_copyFrom_30 : decode cX1_copyFrom 30 = .ok (.aload_n 0, 1) := by decide +kernel
theorem dX1_copyFrom_31 : decode cX1_copyFrom 31 = .ok (.aload_n 1, 1) := by decide +kernel
theorem dX1_copyFrom_32 : decode cX1_copyFrom 32 = .ok (.getfield 47, 3) := by decide +kernel
theorem dX1_copyFrom_35 : decode cX1_copyFrom 35 = .ok (.putfield 47, 3) := by decide +kernel
theorem dX1_copyFrom_38 : decode cX1_copyFrom 38 = .ok (.aload_n 0, 1) := by decide +kernel
theorem dX1_copyFrom_39 : decode cX1_copyFrom 39 = .ok (.aload_n 1, 1) := by decide +kernel
theorem dX1_copyFrom_40 : decode cX1_copyFrom 40 = .ok (.getfield 48, 3) := by decide +kernel
theorem dX1_copyFrom_43 : decode cX1_copyFrom 43 = .ok (.putfield 48, 3) := by decide +kernel
theorem dX1_copyFrom_46 : decode cX1_copyFrom 46 = .ok (.aload_n 0, 1) := by decide +kernel
theorem dX1_copyFrom_47 : decode cX1_copyFrom 47 = .ok (.aload_n 1, 1) := by decide +kernel
theorem dX1_copyFrom_48 : decode cX1_copyFrom 48 = .ok (.getfield 51, 3) := by decide +kernel
theorem dX1_copyFrom_51 : decode cX1_copyFrom 51 = .ok (.putfield 51, 3) := by decide +kernel
theorem dX1_copyFrom_54 : decode cX1_copyFrom 54 = .ok (.aload_n 0, 1) := by decide +kernel
theorem dX1_copyFrom_55 : decode cX1_copyFrom 55 = .ok (.aload_n 1, 1) := by decide +kernel
theorem dX1_copyFrom_56 : decode cX1_copyFrom 56 = .ok (.getfield 57, 3) := by decide +kernel
theorem dX1_copyFrom_59 : decode cX1_copyFrom 59 = .ok (.putfield 57, 3) := by decide +kernel
theorem dX1_copyFrom_62 : decode cX1_copyFrom 62 = .ok (.aload_n 0, 1) := by decide +kernel
theorem dX1_copyFrom_63 : decode cX1_copyFrom 63 = .ok (.aload_n 1, 1) := by decide +kernel
theorem dX1_copyFrom_64 : decode cX1_copyFrom 64 = .ok (.getfield 60, 3) := by decide +kernel
theorem dX1_copyFrom_67 : decode cX1_copyFrom 67 = .ok (.putfield 60, 3) := by decide +kernel
theorem dX1_copyFrom_70 : decode cX1_copyFrom 70 = .ok (.return_, 1) := by decide +kernel
theorem dX1_groundOf_0 : decode cX1_groundOf 0 = .ok (.aload_n 0, 1) := by decide +kernel
theorem dX1_groundOf_1 : decode cX1_groundOf 1 = .ok (.getfield 21, 3) := by decide +kernel
theorem dX1_groundOf_4 : decode cX1_groundOf 4 = .ok (.aload_n 0, 1) := by decide +kernel
theorem dX1_groundOf_5 : decode cX1_groundOf 5 = .ok (.getfield 21, 3) := by decide +kernel
theorem dX1_groundOf_8 : decode cX1_groundOf 8 = .ok (.getfield 63, 3) := by decide +kernel
theorem dX1_groundOf_11 : decode cX1_groundOf 11 = .ok (.iload_n 1, 1) := by decide +kernel
theorem dX1_groundOf_12 : decode cX1_groundOf 12 = .ok (.iaload, 1) := by decide +kernel
theorem dX1_groundOf_13 : decode cX1_groundOf 13 = .ok (.aload_n 0, 1) := by decide +kernel
theorem dX1_groundOf_14 : decode cX1_groundOf 14 = .ok (.getfield 9, 3) := by decide +kernel
theorem dX1_groundOf_17 : decode cX1_groundOf 17 = .ok (.iload_n 1, 1) := by decide +kernel
theorem dX1_groundOf_18 : decode cX1_groundOf 18 = .ok (.iaload, 1) := by decide +kernel
theorem dX1_groundOf_19 : decode cX1_groundOf 19 = .ok (.invokevirtual 66, 3) := by decide +kernel
theorem dX1_groundOf_22 : decode cX1_groundOf 22 = .ok (.ireturn, 1) := by decide +kernel
theorem dX1_isEmpty_0 : decode cX1_isEmpty 0 = .ok (.aload_n 0, 1) := by decide +kernel
theorem dX1_isEmpty_1 : decode cX1_isEmpty 1 = .ok (.getfield 47, 3) := by decide +kernel
theorem dX1_isEmpty_4 : decode cX1_isEmpty 4 = .ok (.iload_n 1, 1) := by decide +kernel
theorem dX1_isEmpty_5 : decode cX1_isEmpty 5 = .ok (.ishr, 1) := by decide +kernel
theorem dX1_isEmpty_6 : decode cX1_isEmpty 6 = .ok (.iconst 1, 1) := by decide +kernel
theorem dX1_isEmpty_7 : decode cX1_isEmpty 7 = .ok (.iand, 1) := by decide +kernel
theorem dX1_isEmpty_8 : decode cX1_isEmpty 8 = .ok (.ifCond .ne 7, 3) := by decide +kernel
theorem dX1_isEmpty_11 : decode cX1_isEmpty 11 = .ok (.iconst 1, 1) := by decide +kernel
theorem dX1_isEmpty_12 : decode cX1_isEmpty 12 = .ok (.goto 4, 3) := by decide +kernel
theorem dX1_isEmpty_15 : decode cX1_isEmpty 15 = .ok (.iconst 0, 1) := by decide +kernel
theorem dX1_isEmpty_16 : decode cX1_isEmpty 16 = .ok (.ireturn, 1) := by decide +kernel
theorem dX1_houseOn_0 : decode cX1_houseOn 0 = .ok (.iconst 0, 1) := by decide +kernel
theorem dX1_houseOn_1 : decode cX1_houseOn 1 = .ok (.istore_n 2, 1) := by decide +kernel
theorem dX1_houseOn_2 : decode cX1_houseOn 2 = .ok (.iload_n 2, 1) := by decide +kernel
theorem dX1_houseOn_3 : decode cX1_houseOn 3 = .ok (.aload_n 0, 1) := by decide +kernel
theorem dX1_houseOn_4 : decode cX1_houseOn 4 = .ok (.getfield 21, 3) := by decide +kernel
theorem dX1_houseOn_7 : decode cX1_houseOn 7 = .ok (.getfield 70, 3) := by decide +kernel
theorem dX1_houseOn_10 : decode cX1_houseOn 10 = .ok (.if_icmp .ge 23, 3) := by decide +kernel
theorem dX1_houseOn_13 : decode cX1_houseOn 13 = .ok (.aload_n 0, 1) := by decide +kernel
theorem dX1_houseOn_14 : decode cX1_houseOn 14 = .ok (.iload_n 2, 1) := by decide +kernel
theorem dX1_houseOn_15 : decode cX1_houseOn 15 = .ok (.invokevirtual 73, 3) := by decide +kernel
theorem dX1_houseOn_18 : decode cX1_houseOn 18 = .ok (.iload_n 1, 1) := by decide +kernel
theorem dX1_houseOn_19 : decode cX1_houseOn 19 = .ok (.ishr, 1) := by decide +kernel
theorem dX1_houseOn_20 : decode cX1_houseOn 20 = .ok (.iconst 1, 1) := by decide +kernel
theorem dX1_houseOn_21 : decode cX1_houseOn 21 = .ok (.iand, 1) := by decide +kernel
theorem dX1_houseOn_22 : decode cX1_houseOn 22 = .ok (.ifCond .eq 5, 3) := by decide +kernel
theorem dX1_houseOn_25 : decode cX1_houseOn 25 = .ok (.iload_n 2, 1) := by decide +kernel
theorem dX1_houseOn_26 : decode cX1_houseOn 26 = .ok (.ireturn, 1) := by decide +kernel
theorem dX1_houseOn_27 : decode cX1_houseOn 27 = .ok (.iinc 2 1, 3) := by decide +kernel
theorem dX1_houseOn_30 : decode cX1_houseOn 30 = .ok (.goto (-28), 3) := by decide +kernel
theorem dX1_houseOn_33 : decode cX1_houseOn 33 = .ok (.iconst (-1), 1) := by decide +kernel
theorem dX1_houseOn_34 : decode cX1_houseOn 34 = .ok (.ireturn, 1) := by decide +kernel
theorem dX1_cropUnder_0 : decode cX1_cropUnder 0 = .ok (.aload_n 0, 1) := by decide +kernel
theorem dX1_cropUnder_1 : decode cX1_cropUnder 1 = .ok (.getfield 21, 3) := by decide +kernel
theorem dX1_cropUnder_4 : decode cX1_cropUnder 4 = .ok (.getfield 77, 3) := by decide +kernel
theorem dX1_cropUnder_7 : decode cX1_cropUnder 7 = .ok (.aload_n 0, 1) := by decide +kernel
theorem dX1_cropUnder_8 : decode cX1_cropUnder 8 = .ok (.getfield 9, 3) := by decide +kernel
theorem dX1_cropUnder_11 : decode cX1_cropUnder 11 = .ok (.iload_n 1, 1) := by decide +kernel
theorem dX1_cropUnder_12 : decode cX1_cropUnder 12 = .ok (.iaload, 1) := by decide +kernel
theorem dX1_cropUnder_13 : decode cX1_cropUnder 13 = .ok (.iaload, 1) := by decide +kernel
theorem dX1_cropUnder_14 : decode cX1_cropUnder 14 = .ok (.istore_n 2, 1) := by decide +kernel
theorem dX1_cropUnder_15 : decode cX1_cropUnder 15 = .ok (.aload_n 0, 1) := by decide +kernel
theorem dX1_cropUnder_16 : decode cX1_cropUnder 16 = .ok (.getfield 21, 3) := by decide +kernel
theorem dX1_cropUnder_19 : decode cX1_cropUnder 19 = .ok (.getfield 63, 3) := by decide +kernel
theorem dX1_cropUnder_22 : decode cX1_cropUnder 22 = .ok (.iload_n 1, 1) := by decide +kernel
theorem dX1_cropUnder_23 : decode cX1_cropUnder 23 = .ok (.iaload, 1) := by decide +kernel
theorem dX1_cropUnder_24 : decode cX1_cropUnder 24 = .ok (.iconst 3, 1) := by decide +kernel
theorem dX1_cropUnder_25 : decode cX1_cropUnder 25 = .ok (.if_icmp .ne 29, 3) := by decide +kernel
theorem dX1_cropUnder_28 : decode cX1_cropUnder 28 = .ok (.iload_n 2, 1) := by decide +kernel
theorem dX1_cropUnder_29 : decode cX1_cropUnder 29 = .ok (.aload_n 0, 1) := by decide +kernel
theorem dX1_cropUnder_30 : decode cX1_cropUnder 30 = .ok (.getfield 21, 3) := by decide +kernel
theorem dX1_cropUnder_33 : decode cX1_cropUnder 33 = .ok (.getfield 77, 3) := by decide +kernel
theorem dX1_cropUnder_36 : decode cX1_cropUnder 36 = .ok (.aload_n 0, 1) := by decide +kernel
theorem dX1_cropUnder_37 : decode cX1_cropUnder 37 = .ok (.getfield 21, 3) := by decide +kernel
theorem dX1_cropUnder_40 : decode cX1_cropUnder 40 = .ok (.aload_n 0, 1) := by decide +kernel
theorem dX1_cropUnder_41 : decode cX1_cropUnder 41 = .ok (.getfield 9, 3) := by decide +kernel
theorem dX1_cropUnder_44 : decode cX1_cropUnder 44 = .ok (.iload_n 1, 1) := by decide +kernel
theorem dX1_cropUnder_45 : decode cX1_cropUnder 45 = .ok (.iaload, 1) := by decide +kernel
theorem dX1_cropUnder_46 : decode cX1_cropUnder 46 = .ok (.invokevirtual 80, 3) := by decide +kernel
theorem dX1_cropUnder_49 : decode cX1_cropUnder 49 = .ok (.iaload, 1) := by decide +kernel
theorem dX1_cropUnder_50 : decode cX1_cropUnder 50 = .ok (.iadd, 1) := by decide +kernel
theorem dX1_cropUnder_51 : decode cX1_cropUnder 51 = .ok (.goto 4, 3) := by decide +kernel
theorem dX1_cropUnder_54 : decode cX1_cropUnder 54 = .ok (.iload_n 2, 1) := by decide +kernel
theorem dX1_cropUnder_55 : decode cX1_cropUnder 55 = .ok (.ireturn, 1) := by decide +kernel
theorem dX1_findWays_0 : decode cX1_findWays 0 = .ok (.aload_n 0, 1) := by decide +kernel
theorem dX1_findWays_1 : decode cX1_findWays 1 = .ok (.getfield 21, 3) := by decide +kernel
theorem dX1_findWays_4 : decode cX1_findWays 4 = .ok (.getfield 63, 3) := by decide +kernel
theorem dX1_findWays_7 : decode cX1_findWays 7 = .ok (.iload_n 1, 1) := by decide +kernel
theorem dX1_findWays_8 : decode cX1_findWays 8 = .ok (.iaload, 1) := by decide +kernel
theorem dX1_findWays_9 : decode cX1_findWays 9 = .ok (.istore_n 3, 1) := by decide +kernel
theorem dX1_findWays_10 : decode cX1_findWays 10 = .ok (.iload_n 3, 1) := by decide +kernel
theorem dX1_findWays_11 : decode cX1_findWays 11 = .ok (.iconst 2, 1) := by decide +kernel
theorem dX1_findWays_12 : decode cX1_findWays 12 = .ok (.if_icmp .ne 16, 3) := by decide +kernel
theorem dX1_findWays_15 : decode cX1_findWays 15 = .ok (.aload_n 0, 1) := by decide +kernel
theorem dX1_findWays_16 : decode cX1_findWays 16 = .ok (.getfield 60, 3) := by decide +kernel
theorem dX1_findWays_19 : decode cX1_findWays 19 = .ok (.iload_n 1, 1) := by decide +kernel
theorem dX1_findWays_20 : decode cX1_findWays 20 = .ok (.ishr, 1) := by decide +kernel
theorem dX1_findWays_21 : decode cX1_findWays 21 = .ok (.iconst 1, 1) := by decide +kernel
theorem dX1_findWays_22 : decode cX1_findWays 22 = .ok (.iand, 1) := by decide +kernel
theorem dX1_findWays_23 : decode cX1_findWays 23 = .ok (.ifCond .ne 5, 3) := by decide +kernel
theorem dX1_findWays_26 : decode cX1_findWays 26 = .ok (.iconst 0, 1) := by decide +kernel
theorem dX1_findWays_27 : decode cX1_findWays 27 = .ok (.ireturn, 1) := by decide +kernel
theorem dX1_findWays_28 : decode cX1_findWays 28 = .ok (.aload_n 0, 1) := by decide +kernel
theorem dX1_findWays_29 : decode cX1_findWays 29 = .ok (.getfield 21, 3) := by decide +kernel
theorem dX1_findWays_32 : decode cX1_findWays 32 = .ok (.aload_n 0, 1) := by decide +kernel
theorem dX1_findWays_33 : decode cX1_findWays 33 = .ok (.getfield 9, 3) := by decide +kernel
theorem dX1_findWays_36 : decode cX1_findWays 36 = .ok (.iload_n 1, 1) := by decide +kernel
theorem dX1_findWays_37 : decode cX1_findWays 37 = .ok (.iaload, 1) := by decide +kernel
theorem dX1_findWays_38 : decode cX1_findWays 38 = .ok (.invokevirtual 80, 3) := by decide +kernel
theorem dX1_findWays_41 : decode cX1_findWays 41 = .ok (.istore 4, 2) := by decide +kernel
theorem dX1_findWays_43 : decode cX1_findWays 43 = .ok (.aload_n 0, 1) := by decide +kernel
theorem dX1_findWays_44 : decode cX1_findWays 44 = .ok (.getfield 21, 3) := by decide +kernel
theorem dX1_findWays_47 : decode cX1_findWays 47 = .ok (.aload_n 0, 1) := by decide +kernel
theorem dX1_findWays_48 : decode cX1_findWays 48 = .ok (.getfield 9, 3) := by decide +kernel
theorem dX1_findWays_51 : decode cX1_findWays 51 = .ok (.iload_n 1, 1) := by decide +kernel
theorem dX1_findWays_52 : decode cX1_findWays 52 = .ok (.iaload, 1) := by decide +kernel
theorem dX1_findWays_53 : decode cX1_findWays 53 = .ok (.invokevirtual 83, 3) := by decide +kernel
theorem dX1_findWays_56 : decode cX1_findWays 56 = .ok (.istore 5, 2) := by decide +kernel
theorem dX1_findWays_58 : decode cX1_findWays 58 = .ok (.iconst 0, 1) := by decide +kernel
theorem dX1_findWays_59 : decode cX1_findWays 59 = .ok (.istore 6, 2) := by decide +kernel
theorem dX1_findWays_61 : decode cX1_findWays 61 = .ok (.aload_n 0, 1) := by decide +kernel
theorem dX1_findWays_62 : decode cX1_findWays 62 = .ok (.iload_n 3, 1) := by decide +kernel
theorem dX1_findWays_63 : decode cX1_findWays 63 = .ok (.iconst 3, 1) := by decide +kernel
theorem dX1_findWays_64 : decode cX1_findWays 64 = .ok (.if_icmp .ne 15, 3) := by decide +kernel
theorem dX1_findWays_67 : decode cX1_findWays 67 = .ok (.aload_n 0, 1) := by decide +kernel
theorem dX1_findWays_68 : decode cX1_findWays 68 = .ok (.getfield 21, 3) := by decide +kernel
theorem dX1_findWays_71 : decode cX1_findWays 71 = .ok (.iload 4, 2) := by decide +kernel
theorem dX1_findWays_73 : decode cX1_findWays 73 = .ok (.invokevirtual 80, 3) := by decide +kernel
theorem dX1_findWays_76 : decode cX1_findWays 76 = .ok (.goto 5, 3) := by decide +kernel
theorem dX1_findWays_79 : decode cX1_findWays 79 = .ok (.iload 4, 2) := by decide +kernel
theorem dX1_findWays_81 : decode cX1_findWays 81 = .ok (.invokevirtual 86, 3) := by decide +kernel
theorem dX1_findWays_84 : decode cX1_findWays 84 = .ok (.ifCond .eq 12, 3) := by decide +kernel
theorem dX1_findWays_87 : decode cX1_findWays 87 = .ok (.aload_n 2, 1) := by decide +kernel
theorem dX1_findWays_88 : decode cX1_findWays 88 = .ok (.iload 6, 2) := by decide +kernel
theorem dX1_findWays_90 : decode cX1_findWays 90 = .ok (.iload 4, 2) := by decide +kernel
theorem dX1_findWays_92 : decode cX1_findWays 92 = .ok (.iastore, 1) := by decide +kernel
theorem dX1_findWays_93 : decode cX1_findWays 93 = .ok (.iinc 6 1, 3) := by decide +kernel
theorem dX1_findWays_96 : decode cX1_findWays 96 = .ok (.aload_n 0, 1) := by decide +kernel
theorem dX1_findWays_97 : decode cX1_findWays 97 = .ok (.iload 5, 2) := by decide +kernel
theorem dX1_findWays_99 : decode cX1_findWays 99 = .ok (.invokevirtual 86, 3) := by decide +kernel
theorem dX1_findWays_102 : decode cX1_findWays 102 = .ok (.ifCond .eq 12, 3) := by decide +kernel
theorem dX1_findWays_105 : decode cX1_findWays 105 = .ok (.aload_n 2, 1) := by decide +kernel
theorem dX1_findWays_106 : decode cX1_findWays 106 = .ok (.iload 6, 2) := by decide +kernel
theorem dX1_findWays_108 : decode cX1_findWays 108 = .ok (.iload 5, 2) := by decide +kernel
theorem dX1_findWays_110 : decode cX1_findWays 110 = .ok (.iastore, 1) := by decide +kernel
theorem dX1_findWays_111 : decode cX1_findWays 111 = .ok (.iinc 6 1, 3) := by decide +kernel
theorem dX1_findWays_114 : decode cX1_findWays 114 = .ok (.iload_n 3, 1) := by decide +kernel
theorem dX1_findWays_115 : decode cX1_findWays 115 = .ok (.iconst 1, 1) := by decide +kernel
theorem dX1_findWays_116 : decode cX1_findWays 116 = .ok (.if_icmp .ne 19, 3) := by decide +kernel
theorem dX1_findWays_119 : decode cX1_findWays 119 = .ok (.aload_n 0, 1) := by decide +kernel
theorem dX1_findWays_120 : decode cX1_findWays 120 = .ok (.aload_n 0, 1) := by decide +kernel
theorem dX1_findWays_121 : decode cX1_findWays 121 = .ok (.getfield 9, 3) := by decide +kernel
theorem dX1_findWays_124 : decode cX1_findWays 124 = .ok (.iload_n 1, 1) := by decide +kernel
theorem dX1_findWays_125 : decode cX1_findWays 125 = .ok (.iaload, 1) := by decide +kernel
theorem dX1_findWays_126 : decode cX1_findWays 126 = .ok (.aload_n 2, 1) := by decide +kernel
theorem dX1_findWays_127 : decode cX1_findWays 127 = .ok (.iload 6, 2) := by decide +kernel
theorem dX1_findWays_129 : decode cX1_findWays 129 = .ok (.invokevirtual 90, 3) := by decide +kernel
theorem dX1_findWays_132 : decode cX1_findWays 132 = .ok (.goto 5, 3) := by decide +kernel
theorem dX1_findWays_135 : decode cX1_findWays 135 = .ok (.iload 6, 2) := by decide +kernel
theorem dX1_findWays_137 : decode cX1_findWays 137 = .ok (.ireturn, 1) := by decide +kernel
theorem dX1_findPathWays_0 : decode cX1_findPathWays 0 = .ok (.iload_n 3, 1) := by decide +kernel
theorem dX1_findPathWays_1 : decode cX1_findPathWays 1 = .ok (.istore 4, 2) := by decide +kernel
theorem dX1_findPathWays_3 : decode cX1_findPathWays 3 = .ok (.iconst 0, 1) := by decide +kernel
theorem dX1_findPathWays_4 : decode cX1_findPathWays 4 = .ok (.istore 5, 2) := by decide +kernel
theorem dX1_findPathWays_6 : decode cX1_findPathWays 6 = .ok (.iload 5, 2) := by decide +kernel
theorem dX1_findPathWays_8 : decode cX1_findPathWays 8 = .ok (.aload_n 0, 1) := by decide +kernel
theorem dX1_findPathWays_9 : decode cX1_findPathWays 9 = .ok (.getfield 21, 3) := by decide +kernel
theorem dX1_findPathWays_12 : decode cX1_findPathWays 12 = .ok (.getfield 94, 3) := by decide +kernel
theorem dX1_findPathWays_15 : decode cX1_findPathWays 15 = .ok (.if_icmp .ge 52, 3) := by decide +kernel
theorem dX1_findPathWays_18 : decode cX1_findPathWays 18 = .ok (.iload 4, 2) := by decide +kernel
theorem dX1_findPathWays_20 : decode cX1_findPathWays 20 = .ok (.aload_n 2, 1) := by decide +kernel
theorem dX1_findPathWays_21 : decode cX1_findPathWays 21 = .ok (.arraylength, 1) := by decide +kernel
theorem dX1_findPathWays_22 : decode cX1_findPathWays 22 = .ok (.if_icmp .ge 45, 3) := by decide +kernel
theorem dX1_findPathWays_25 : decode cX1_findPathWays 25 = .ok (.aload_n 0, 1) := by decide +kernel
theorem dX1_findPathWays_26 : decode cX1_findPathWays 26 = .ok (.getfield 21, 3) := by decide +kernel
theorem dX1_findPathWays_29 : decode cX1_findPathWays 29 = .ok (.iload 5, 2) := by decide +kernel
theorem dX1_findPathWays_31 : decode cX1_findPathWays 31 = .ok (.iload_n 1, 1) := by decide +kernel
theorem dX1_findPathWays_32 : decode cX1_findPathWays 32 = .ok (.invokevirtual 97, 3) := by decide +kernel
theorem dX1_findPathWays_35 : decode cX1_findPathWays 35 = .ok (.istore 6, 2) := by decide +kernel
theorem dX1_findPathWays_37 : decode cX1_findPathWays 37 = .ok (.iload 6, 2) := by decide +kernel
theorem dX1_findPathWays_39 : decode cX1_findPathWays 39 = .ok (.iconst (-1), 1) := by decide +kernel
theorem dX1_findPathWays_40 : decode cX1_findPathWays 40 = .ok (.if_icmp .eq 21, 3) := by decide +kernel
theorem dX1_findPathWays_43 : decode cX1_findPathWays 43 = .ok (.aload_n 0, 1) := by decide +kernel
theorem dX1_findPathWays_44 : decode cX1_findPathWays 44 = .ok (.iload 6, 2) := by decide +kernel
theorem dX1_findPathWays_46 : decode cX1_findPathWays 46 = .ok (.invokevirtual 86, 3) := by decide +kernel
theorem dX1_findPathWays_49 : decode cX1_findPathWays 49 = .ok (.ifCond .eq 12, 3) := by decide +kernel
theorem dX1_findPathWays_52 : decode cX1_findPathWays 52 = .ok (.aload_n 2, 1) := by decide +kernel
theorem dX1_findPathWays_53 : decode cX1_findPathWays 53 = .ok (.iload 4, 2) := by decide +kernel
theorem dX1_findPathWays_55 : decode cX1_findPathWays 55 = .ok (.iload 6, 2) := by decide +kernel
theorem dX1_findPathWays_57 : decode cX1_findPathWays 57 = .ok (.iastore, 1) := by decide +kernel
theorem dX1_findPathWays_58 : decode cX1_findPathWays 58 = .ok (.iinc 4 1, 3) := by decide +kernel
theorem dX1_findPathWays_61 : decode cX1_findPathWays 61 = .ok (.iinc 5 1, 3) := by decide +kernel
theorem dX1_findPathWays_64 : decode cX1_findPathWays 64 = .ok (.goto (-58), 3) := by decide +kernel
theorem dX1_findPathWays_67 : decode cX1_findPathWays 67 = .ok (.iload 4, 2) := by decide +kernel
theorem dX1_findPathWays_69 : decode cX1_findPathWays 69 = .ok (.ireturn, 1) := by decide +kernel
theorem dX1_hasWayTo_0 : decode cX1_hasWayTo 0 = .ok (.aload_n 0, 1) := by decide +kernel
theorem dX1_hasWayTo_1 : decode cX1_hasWayTo 1 = .ok (.iload_n 1, 1) := by decide +kernel
theorem dX1_hasWayTo_2 : decode cX1_hasWayTo 2 = .ok (.aload_n 0, 1) := by decide +kernel
theorem dX1_hasWayTo_3 : decode cX1_hasWayTo 3 = .ok (.getfield 18, 3) := by decide +kernel
theorem dX1_hasWayTo_6 : decode cX1_hasWayTo 6 = .ok (.invokevirtual 100, 3) := by decide +kernel
theorem dX1_hasWayTo_9 : decode cX1_hasWayTo 9 = .ok (.istore_n 3, 1) := by decide +kernel
theorem dX1_hasWayTo_10 : decode cX1_hasWayTo 10 = .ok (.iconst 0, 1) := by decide +kernel
theorem dX1_hasWayTo_11 : decode cX1_hasWayTo 11 = .ok (.istore 4, 2) := by decide +kernel
theorem dX1_hasWayTo_13 : decode cX1_hasWayTo 13 = .ok (.iload 4, 2) := by decide +kernel
theorem dX1_hasWayTo_15 : decode cX1_hasWayTo 15 = .ok (.iload_n 3, 1) := by decide +kernel
theorem dX1_hasWayTo_16 : decode cX1_hasWayTo 16 = .ok (.if_icmp .ge 32, 3) := by decide +kernel
theorem dX1_hasWayTo_19 : decode cX1_hasWayTo 19 = .ok (.iload 4, 2) := by decide +kernel
theorem dX1_hasWayTo_21 : decode cX1_hasWayTo 21 = .ok (.aload_n 0, 1) := by decide +kernel
theorem dX1_hasWayTo_22 : decode cX1_hasWayTo 22 = .ok (.getfield 18, 3) := by decide +kernel
theorem dX1_hasWayTo_25 : decode cX1_hasWayTo 25 = .ok (.arraylength, 1) := by decide +kernel
theorem dX1_hasWayTo_26 : decode cX1_hasWayTo 26 = .ok (.if_icmp .ge 22, 3) := by decide +kernel
theorem dX1_hasWayTo_29 : decode cX1_hasWayTo 29 = .ok (.aload_n 0, 1) := by decide +kernel
theorem dX1_hasWayTo_30 : decode cX1_hasWayTo 30 = .ok (.getfield 18, 3) := by decide +kernel
theorem dX1_hasWayTo_33 : decode cX1_hasWayTo 33 = .ok (.iload 4, 2) := by decide +kernel
theorem dX1_hasWayTo_35 : decode cX1_hasWayTo 35 = .ok (.iaload, 1) := by decide +kernel
theorem dX1_hasWayTo_36 : decode cX1_hasWayTo 36 = .ok (.iload_n 2, 1) := by decide +kernel
theorem dX1_hasWayTo_37 : decode cX1_hasWayTo 37 = .ok (.if_icmp .ne 5, 3) := by decide +kernel
theorem dX1_hasWayTo_40 : decode cX1_hasWayTo 40 = .ok (.iconst 1, 1) := by decide +kernel
theorem dX1_hasWayTo_41 : decode cX1_hasWayTo 41 = .ok (.ireturn, 1) := by decide +kernel
theorem dX1_hasWayTo_42 : decode cX1_hasWayTo 42 = .ok (.iinc 4 1, 3) := by decide +kernel
theorem dX1_hasWayTo_45 : decode cX1_hasWayTo 45 = .ok (.goto (-32), 3) := by decide +kernel
theorem dX1_hasWayTo_48 : decode cX1_hasWayTo 48 = .ok (.iconst 0, 1) := by decide +kernel
theorem dX1_hasWayTo_49 : decode cX1_hasWayTo 49 = .ok (.ireturn, 1) := by decide +kernel
theorem dX1_moveHouse_0 : decode cX1_moveHouse 0 = .ok (.aload_n 0, 1) := by decide +kernel
theorem dX1_moveHouse_1 : decode cX1_moveHouse 1 = .ok (.dup, 1) := by decide +kernel
theorem dX1_moveHouse_2 : decode cX1_moveHouse 2 = .ok (.getfield 47, 3) := by decide +kernel
theorem dX1_moveHouse_5 : decode cX1_moveHouse 5 = .ok (.aload_n 0, 1) := by decide +kernel
theorem dX1_moveHouse_6 : decode cX1_moveHouse 6 = .ok (.getfield 21, 3) := by decide +kernel
theorem dX1_moveHouse_9 : decode cX1_moveHouse 9 = .ok (.aload_n 0, 1) := by decide +kernel
theorem dX1_moveHouse_10 : decode cX1_moveHouse 10 = .ok (.getfield 21, 3) := by decide +kernel
theorem dX1_moveHouse_13 : decode cX1_moveHouse 13 = .ok (.getfield 63, 3) := by decide +kernel
theorem dX1_moveHouse_16 : decode cX1_moveHouse 16 = .ok (.iload_n 1, 1) := by decide +kernel
theorem dX1_moveHouse_17 : decode cX1_moveHouse 17 = .ok (.iaload, 1) := by decide +kernel
theorem dX1_moveHouse_18 : decode cX1_moveHouse 18 = .ok (.aload_n 0, 1) := by decide +kernel
theorem dX1_moveHouse_19 : decode cX1_moveHouse 19 = .ok (.getfield 9, 3) := by decide +kernel
theorem dX1_moveHouse_22 : decode cX1_moveHouse 22 = .ok (.iload_n 1, 1) := by decide +kernel
theorem dX1_moveHouse_23 : decode cX1_moveHouse 23 = .ok (.iaload, 1) := by decide +kernel
theorem dX1_moveHouse_24 : decode cX1_moveHouse 24 = .ok (.invokevirtual 66, 3) := by decide +kernel
theorem dX1_moveHouse_27 : decode cX1_moveHouse 27 = .ok (.iconst (-1), 1) := by decide +kernel
theorem dX1_moveHouse_28 : decode cX1_moveHouse 28 = .ok (.ixor, 1) := by decide +kernel
theorem dX1_moveHouse_29 : decode cX1_moveHouse 29 = .ok (.iand, 1) := by decide +kernel
theorem dX1_moveHouse_30 : decode cX1_moveHouse 30 = .ok (.putfield 47, 3) := by decide +kernel
theorem dX1_moveHouse_33 : decode cX1_moveHouse 33 = .ok (.aload_n 0, 1) := by decide +kernel
theorem dX1_moveHouse_34 : decode cX1_moveHouse 34 = .ok (.getfield 9, 3) := by decide +kernel
theorem dX1_moveHouse_37 : decode cX1_moveHouse 37 = .ok (.iload_n 1, 1) := by decide +kernel
theorem dX1_moveHouse_38 : decode cX1_moveHouse 38 = .ok (.iload_n 2, 1) := by decide +kernel
theorem dX1_moveHouse_39 : decode cX1_moveHouse 39 = .ok (.iastore, 1) := by decide +kernel
theorem dX1_moveHouse_40 : decode cX1_moveHouse 40 = .ok (.aload_n 0, 1) := by decide +kernel
theorem dX1_moveHouse_41 : decode cX1_moveHouse 41 = .ok (.dup, 1) := by decide +kernel
theorem dX1_moveHouse_42 : decode cX1_moveHouse 42 = .ok (.getfield 47, 3) := by decide +kernel
theorem dX1_moveHouse_45 : decode cX1_moveHouse 45 = .ok (.aload_n 0, 1) := by decide +kernel
theorem dX1_moveHouse_46 : decode cX1_moveHouse 46 = .ok (.getfield 21, 3) := by decide +kernel
theorem dX1_moveHouse_49 : decode cX1_moveHouse 49 = .ok (.aload_n 0, 1) := by decide +kernel
theorem dX1_moveHouse_50 : decode cX1_moveHouse 50 = .ok (.getfield 21, 3) := by decide +kernel
theorem dX1_moveHouse_53 : decode cX1_moveHouse 53 = .ok (.getfield 63, 3) := by decide +kernel
theorem dX1_moveHouse_56 : decode cX1_moveHouse 56 = .ok (.iload_n 1, 1) := by decide +kernel
theorem dX1_moveHouse_57 : decode cX1_moveHouse 57 = .ok (.iaload, 1) := by decide +kernel
theorem dX1_moveHouse_58 : decode cX1_moveHouse 58 = .ok (.iload_n 2, 1) := by decide +kernel
theorem dX1_moveHouse_59 : decode cX1_moveHouse 59 = .ok (.invokevirtual 66, 3) := by decide +kernel
theorem dX1_moveHouse_62 : decode cX1_moveHouse 62 = .ok (.ior, 1) := by decide +kernel
theorem dX1_moveHouse_63 : decode cX1_moveHouse 63 = .ok (.putfield 47, 3) := by decide +kernel
theorem dX1_moveHouse_66 : decode cX1_moveHouse 66 = .ok (.return_, 1) := by decide +kernel
theorem dX1_passNight_0 : decode cX1_passNight 0 = .ok (.iload_n 1, 1) := by decide +kernel
theorem dX1_passNight_1 : decode cX1_passNight 1 = .ok (.tableswitch 55 1 3 #[27, 39, 47], 27) := by decide +kernel
theorem dX1_passNight_28 : decode cX1_passNight 28 = .ok (.aload_n 0, 1) := by decide +kernel
theorem dX1_passNight_29 : decode cX1_passNight 29 = .ok (.aload_n 0, 1) := by decide +kernel
theorem dX1_passNight_30 : decode cX1_passNight 30 = .ok (.getfield 51, 3) := by decide +kernel
theorem dX1_passNight_33 : decode cX1_passNight 33 = .ok (.invokevirtual 104, 3) := by decide +kernel
theorem dX1_passNight_36 : decode cX1_passNight 36 = .ok (.istore_n 2, 1) := by decide +kernel
theorem dX1_passNight_37 : decode cX1_passNight 37 = .ok (.goto 25, 3) := by decide +kernel
theorem dX1_passNight_40 : decode cX1_passNight 40 = .ok (.aload_n 0, 1) := by decide +kernel
theorem dX1_passNight_41 : decode cX1_passNight 41 = .ok (.invokevirtual 107, 3) := by decide +kernel
theorem dX1_passNight_44 : decode cX1_passNight 44 = .ok (.istore_n 2, 1) := by decide +kernel
theorem dX1_passNight_45 : decode cX1_passNight 45 = .ok (.goto 17, 3) := by decide +kernel
theorem dX1_passNight_48 : decode cX1_passNight 48 = .ok (.aload_n 0, 1) := by decide +kernel
theorem dX1_passNight_49 : decode cX1_passNight 49 = .ok (.invokevirtual 111, 3) := by decide +kernel
theorem dX1_passNight_52 : decode cX1_passNight 52 = .ok (.istore_n 2, 1) := by decide +kernel
theorem dX1_passNight_53 : decode cX1_passNight 53 = .ok (.goto 9, 3) := by decide +kernel
theorem dX1_passNight_56 : decode cX1_passNight 56 = .ok (.aload_n 0, 1) := by decide +kernel
theorem dX1_passNight_57 : decode cX1_passNight 57 = .ok (.iconst 0, 1) := by decide +kernel
theorem dX1_passNight_58 : decode cX1_passNight 58 = .ok (.invokevirtual 104, 3) := by decide +kernel
theorem dX1_passNight_61 : decode cX1_passNight 61 = .ok (.istore_n 2, 1) := by decide +kernel
theorem dX1_passNight_62 : decode cX1_passNight 62 = .ok (.iload_n 2, 1) := by decide +kernel
theorem dX1_passNight_63 : decode cX1_passNight 63 = .ok (.iconst (-1), 1) := by decide +kernel
theorem dX1_passNight_64 : decode cX1_passNight 64 = .ok (.if_icmp .ne 14, 3) := by decide +kernel
theorem dX1_passNight_67 : decode cX1_passNight 67 = .ok (.aload_n 0, 1) := by decide +kernel
theorem dX1_passNight_68 : decode cX1_passNight 68 = .ok (.dup, 1) := by decide +kernel
theorem dX1_passNight_69 : decode cX1_passNight 69 = .ok (.getfield 48, 3) := by decide +kernel
theorem dX1_passNight_72 : decode cX1_passNight 72 = .ok (.iconst 1, 1) := by decide +kernel
theorem dX1_passNight_73 : decode cX1_passNight 73 = .ok (.iadd, 1) := by decide +kernel
theorem dX1_passNight_74 : decode cX1_passNight 74 = .ok (.putfield 48, 3) := by decide +kernel
theorem dX1_passNight_77 : decode cX1_passNight 77 = .ok (.return_, 1) := by decide +kernel
theorem dX1_passNight_78 : decode cX1_passNight 78 = .ok (.aload_n 0, 1) := by decide +kernel
theorem dX1_passNight_79 : decode cX1_passNight 79 = .ok (.iload_n 2, 1) := by decide +kernel
theorem dX1_passNight_80 : decode cX1_passNight 80 = .ok (.bipush 20, 2) := by decide +kernel
theorem dX1_passNight_82 : decode cX1_passNight 82 = .ok (.idiv, 1) := by decide +kernel
theorem dX1_passNight_83 : decode cX1_passNight 83 = .ok (.iload_n 2, 1) := by decide +kernel
theorem dX1_passNight_84 : decode cX1_passNight 84 = .ok (.bipush 20, 2) := by decide +kernel
theorem dX1_passNight_86 : decode cX1_passNight 86 = .ok (.irem, 1) := by decide +kernel
theorem dX1_passNight_87 : decode cX1_passNight 87 = .ok (.iload_n 1, 1) := by decide +kernel
theorem dX1_passNight_88 : decode cX1_passNight 88 = .ok (.invokevirtual 114, 3) := by decide +kernel
theorem dX1_passNight_91 : decode cX1_passNight 91 = .ok (.return_, 1) := by decide +kernel
theorem dX1_passNightOf_0 : decode cX1_passNightOf 0 = .ok (.aload_n 0, 1) := by decide +kernel
theorem dX1_passNightOf_1 : decode cX1_passNightOf 1 = .ok (.dup, 1) := by decide +kernel
theorem dX1_passNightOf_2 : decode cX1_passNightOf 2 = .ok (.getfield 48, 3) := by decide +kernel
theorem dX1_passNightOf_5 : decode cX1_passNightOf 5 = .ok (.iconst 1, 1) := by decide +kernel
theorem dX1_passNightOf_6 : decode cX1_passNightOf 6 = .ok (.iadd, 1) := by decide +kernel
theorem dX1_passNightOf_7 : decode cX1_passNightOf 7 = .ok (.putfield 48, 3) := by decide +kernel
theorem dX1_passNightOf_10 : decode cX1_passNightOf 10 = .ok (.aload_n 0, 1) := by decide +kernel
theorem dX1_passNightOf_11 : decode cX1_passNightOf 11 = .ok (.iload_n 1, 1) := by decide +kernel
theorem dX1_passNightOf_12 : decode cX1_passNightOf 12 = .ok (.iload_n 2, 1) := by decide +kernel
theorem dX1_passNightOf_13 : decode cX1_passNightOf 13 = .ok (.invokevirtual 118, 3) := by decide +kernel
theorem dX1_passNightOf_16 : decode cX1_passNightOf 16 = .ok (.aload_n 0, 1) := by decide +kernel
theorem dX1_passNightOf_17 : decode cX1_passNightOf 17 = .ok (.getfield 15, 3) := by decide +kernel
theorem dX1_passNightOf_20 : decode cX1_passNightOf 20 = .ok (.iload_n 1, 1) := by decide +kernel
theorem dX1_passNightOf_21 : decode cX1_passNightOf 21 = .ok (.aload_n 0, 1) := by decide +kernel
theorem dX1_passNightOf_22 : decode cX1_passNightOf 22 = .ok (.getfield 48, 3) := by decide +kernel
theorem dX1_passNightOf_25 : decode cX1_passNightOf 25 = .ok (.iastore, 1) := by decide +kernel
theorem dX1_passNightOf_26 : decode cX1_passNightOf 26 = .ok (.iload_n 3, 1) := by decide +kernel
theorem dX1_passNightOf_27 : decode cX1_passNightOf 27 = .ok (.iconst 1, 1) := by decide +kernel
theorem dX1_passNightOf_28 : decode cX1_passNightOf 28 = .ok (.if_icmp .ne 27, 3) := by decide +kernel
theorem dX1_passNightOf_31 : decode cX1_passNightOf 31 = .ok (.aload_n 0, 1) := by decide +kernel
theorem dX1_passNightOf_32 : decode cX1_passNightOf 32 = .ok (.iload_n 1, 1) := by decide +kernel
theorem dX1_passNightOf_33 : decode cX1_passNightOf 33 = .ok (.iconst 1, 1) := by decide +kernel
theorem dX1_passNightOf_34 : decode cX1_passNightOf 34 = .ok (.iadd, 1) := by decide +kernel
theorem dX1_passNightOf_35 : decode cX1_passNightOf 35 = .ok (.aload_n 0, 1) := by decide +kernel
theorem dX1_passNightOf_36 : decode cX1_passNightOf 36 = .ok (.getfield 21, 3) := by decide +kernel
theorem dX1_passNightOf_39 : decode cX1_passNightOf 39 = .ok (.getfield 70, 3) := by decide +kernel
theorem dX1_passNightOf_42 : decode cX1_passNightOf 42 = .ok (.if_icmp .ge 9, 3) := by decide +kernel
theorem dX1_passNightOf_45 : decode cX1_passNightOf 45 = .ok (.iload_n 1, 1) := by decide +kernel
theorem dX1_passNightOf_46 : decode cX1_passNightOf 46 = .ok (.iconst 1, 1) := by decide +kernel
theorem dX1_passNightOf_47 : decode cX1_passNightOf 47 = .ok (.iadd, 1) := by decide +kernel
theorem dX1_passNightOf_48 : decode cX1_passNightOf 48 = .ok (.goto 4, 3) := by decide +kernel
theorem dX1_passNightOf_51 : decode cX1_passNightOf 51 = .ok (.iconst 0, 1) := by decide +kernel
theorem dX1_passNightOf_52 : decode cX1_passNightOf 52 = .ok (.putfield 51, 3) := by decide +kernel
theorem dX1_passNightOf_55 : decode cX1_passNightOf 55 = .ok (.return_, 1) := by decide +kernel
theorem dX1_firstFrom_0 : decode cX1_firstFrom 0 = .ok (.iload_n 1, 1) := by decide +kernel
theorem dX1_firstFrom_1 : decode cX1_firstFrom 1 = .ok (.istore_n 2, 1) := by decide +kernel
theorem dX1_firstFrom_2 : decode cX1_firstFrom 2 = .ok (.iconst 0, 1) := by decide +kernel
theorem dX1_firstFrom_3 : decode cX1_firstFrom 3 = .ok (.istore_n 3, 1) := by decide +kernel
theorem dX1_firstFrom_4 : decode cX1_firstFrom 4 = .ok (.iload_n 3, 1) := by decide +kernel
theorem dX1_firstFrom_5 : decode cX1_firstFrom 5 = .ok (.aload_n 0, 1) := by decide +kernel
theorem dX1_firstFrom_6 : decode cX1_firstFrom 6 = .ok (.getfield 21, 3) := by decide +kernel
theorem dX1_firstFrom_9 : decode cX1_firstFrom 9 = .ok (.getfield 70, 3) := by decide +kernel
theorem dX1_firstFrom_12 : decode cX1_firstFrom 12 = .ok (.if_icmp .ge 54, 3) := by decide +kernel
theorem dX1_firstFrom_15 : decode cX1_firstFrom 15 = .ok (.aload_n 0, 1) := by decide +kernel
theorem dX1_firstFrom_16 : decode cX1_firstFrom 16 = .ok (.iload_n 2, 1) := by decide +kernel
theorem dX1_firstFrom_17 : decode cX1_firstFrom 17 = .ok (.aload_n 0, 1) := by decide +kernel
theorem dX1_firstFrom_18 : decode cX1_firstFrom 18 = .ok (.getfield 18, 3) := by decide +kernel
theorem dX1_firstFrom_21 : decode cX1_firstFrom 21 = .ok (.invokevirtual 100, 3) := by decide +kernel
theorem dX1_firstFrom_24 : decode cX1_firstFrom 24 = .ok (.ifCond .le 15, 3) := by decide +kernel
theorem dX1_firstFrom_27 : decode cX1_firstFrom 27 = .ok (.bipush 20, 2) := by decide +kernel
theorem dX1_firstFrom_29 : decode cX1_firstFrom 29 = .ok (.iload_n 2, 1) := by decide +kernel
theorem dX1_firstFrom_30 : decode cX1_firstFrom 30 = .ok (.imul, 1) := by decide +kernel
theorem dX1_firstFrom_31 : decode cX1_firstFrom 31 = .ok (.aload_n 0, 1) := by decide +kernel
theorem dX1_firstFrom_32 : decode cX1_firstFrom 32 = .ok (.getfield 18, 3) := by decide +kernel
theorem dX1_firstFrom_35 : decode cX1_firstFrom 35 = .ok (.iconst 0, 1) := by decide +kernel
theorem dX1_firstFrom_36 : decode cX1_firstFrom 36 = .ok (.iaload, 1) := by decide +kernel
theorem dX1_firstFrom_37 : decode cX1_firstFrom 37 = .ok (.iadd, 1) := by decide +kernel
theorem dX1_firstFrom_38 : decode cX1_firstFrom 38 = .ok (.ireturn, 1) := by decide +kernel
theorem dX1_firstFrom_39 : decode cX1_firstFrom 39 = .ok (.iload_n 2, 1) := by decide +kernel
theorem dX1_firstFrom_40 : decode cX1_firstFrom 40 = .ok (.iconst 1, 1) := by decide +kernel
theorem dX1_firstFrom_41 : decode cX1_firstFrom 41 = .ok (.iadd, 1) := by decide +kernel
theorem dX1_firstFrom_42 : decode cX1_firstFrom 42 = .ok (.aload_n 0, 1) := by decide +kernel
theorem dX1_firstFrom_43 : decode cX1_firstFrom 43 = .ok (.getfield 21, 3) := by decide +kernel
theorem dX1_firstFrom_46 : decode cX1_firstFrom 46 = .ok (.getfield 70, 3) := by decide +kernel
theorem dX1_firstFrom_49 : decode cX1_firstFrom 49 = .ok (.if_icmp .ge 9, 3) := by decide +kernel
theorem dX1_firstFrom_52 : decode cX1_firstFrom 52 = .ok (.iload_n 2, 1) := by decide +kernel
theorem dX1_firstFrom_53 : decode cX1_firstFrom 53 = .ok (.iconst 1, 1) := by decide +kernel
theorem dX1_firstFrom_54 : decode cX1_firstFrom 54 = .ok (.iadd, 1) := by decide +kernel
theorem dX1_firstFrom_55 : decode cX1_firstFrom 55 = .ok (.goto 4, 3) := by decide +kernel
theorem dX1_firstFrom_58 : decode cX1_firstFrom 58 = .ok (.iconst 0, 1) := by decide +kernel
theorem dX1_firstFrom_59 : decode cX1_firstFrom 59 = .ok (.istore_n 2, 1) := by decide +kernel
theorem dX1_firstFrom_60 : decode cX1_firstFrom 60 = .ok (.iinc 3 1, 3) := by decide +kernel
theorem dX1_firstFrom_63 : decode cX1_firstFrom 63 = .ok (.goto (-59), 3) := by decide +kernel
theorem dX1_firstFrom_66 : decode cX1_firstFrom 66 = .ok (.iconst (-1), 1) := by decide +kernel
theorem dX1_firstFrom_67 : decode cX1_firstFrom 67 = .ok (.ireturn, 1) := by decide +kernel
theorem dX1_longestRested_0 : decode cX1_longestRested 0 = .ok (.iconst (-1), 1) := by decide +kernel
theorem dX1_longestRested_1 : decode cX1_longestRested 1 = .ok (.istore_n 1, 1) := by decide +kernel
theorem dX1_longestRested_2 : decode cX1_longestRested 2 = .ok (.iconst (-1), 1) := by decide +kernel
theorem dX1_longestRested_3 : decode cX1_longestRested 3 = .ok (.istore_n 2, 1) := by decide +kernel
theorem dX1_longestRested_4 : decode cX1_longestRested 4 = .ok (.iconst 0, 1) := by decide +kernel
theorem dX1_longestRested_5 : decode cX1_longestRested 5 = .ok (.istore_n 3, 1) := by decide +kernel
theorem dX1_longestRested_6 : decode cX1_longestRested 6 = .ok (.iload_n 3, 1) := by decide +kernel
theorem dX1_longestRested_7 : decode cX1_longestRested 7 = .ok (.aload_n 0, 1) := by decide +kernel
theorem dX1_longestRested_8 : decode cX1_longestRested 8 = .ok (.getfield 21, 3) := by decide +kernel
theorem dX1_longestRested_11 : decode cX1_longestRested 11 = .ok (.getfield 70, 3) := by decide +kernel
theorem dX1_longestRested_14 : decode cX1_longestRested 14 = .ok (.if_icmp .ge 67, 3) := by decide +kernel
theorem dX1_longestRested_17 : decode cX1_longestRested 17 = .ok (.iload_n 1, 1) := by decide +kernel
theorem dX1_longestRested_18 : decode cX1_longestRested 18 = .ok (.iconst (-1), 1) := by decide +kernel
theorem dX1_longestRested_19 : decode cX1_longestRested 19 = .ok (.if_icmp .eq 18, 3) := by decide +kernel
theorem dX1_longestRested_22 : decode cX1_longestRested 22 = .ok (.aload_n 0, 1) := by decide +kernel
theorem dX1_longestRested_23 : decode cX1_longestRested 23 = .ok (.getfield 15, 3) := by decide +kernel
theorem dX1_longestRested_26 : decode cX1_longestRested 26 = .ok (.iload_n 3, 1) := by decide +kernel
theorem dX1_longestRested_27 : decode cX1_longestRested 27 = .ok (.iaload, 1) := by decide +kernel
theorem dX1_longestRested_28 : decode cX1_longestRested 28 = .ok (.aload_n 0, 1) := by decide +kernel
theorem dX1_longestRested_29 : decode cX1_longestRested 29 = .ok (.getfield 15, 3) := by decide +kernel
theorem dX1_longestRested_32 : decode cX1_longestRested 32 = .ok (.iload_n 1, 1) := by decide +kernel
theorem dX1_longestRested_33 : decode cX1_longestRested 33 = .ok (.iaload, 1) := by decide +kernel
theorem dX1_longestRested_34 : decode cX1_longestRested 34 = .ok (.if_icmp .ge 7, 3) := by decide +kernel
theorem dX1_longestRested_37 : decode cX1_longestRested 37 = .ok (.iconst 1, 1) := by decide +kernel
theorem dX1_longestRested_38 : decode cX1_longestRested 38 = .ok (.goto 4, 3) := by decide +kernel
theorem dX1_longestRested_41 : decode cX1_longestRested 41 = .ok (.iconst 0, 1) := by decide +kernel
theorem dX1_longestRested_42 : decode cX1_longestRested 42 = .ok (.istore 4, 2) := by decide +kernel
theorem dX1_longestRested_44 : decode cX1_longestRested 44 = .ok (.iload 4, 2) := by decide +kernel
theorem dX1_longestRested_46 : decode cX1_longestRested 46 = .ok (.ifCond .eq 29, 3) := by decide +kernel
theorem dX1_longestRested_49 : decode cX1_longestRested 49 = .ok (.aload_n 0, 1) := by decide +kernel
theorem dX1_longestRested_50 : decode cX1_longestRested 50 = .ok (.iload_n 3, 1) := by decide +kernel
theorem dX1_longestRested_51 : decode cX1_longestRested 51 = .ok (.aload_n 0, 1) := by decide +kernel
theorem dX1_longestRested_52 : decode cX1_longestRested 52 = .ok (.getfield 18, 3) := by decide +kernel
theorem dX1_longestRested_55 : decode cX1_longestRested 55 = .ok (.invokevirtual 100, 3) := by decide +kernel
theorem dX1_longestRested_58 : decode cX1_longestRested 58 = .ok (.ifCond .le 17, 3) := by decide +kernel
theorem dX1_longestRested_61 : decode cX1_longestRested 61 = .ok (.iload_n 3, 1) := by decide +kernel
theorem dX1_longestRested_62 : decode cX1_longestRested 62 = .ok (.istore_n 1, 1) := by decide +kernel
theorem dX1_longestRested_63 : decode cX1_longestRested 63 = .ok (.bipush 20, 2) := by decide +kernel
theorem dX1_longestRested_65 : decode cX1_longestRested 65 = .ok (.iload_n 3, 1) := by decide +kernel
theorem dX1_longestRested_66 : decode cX1_longestRested 66 = .ok (.imul, 1) := by decide +kernel
theorem dX1_longestRested_67 : decode cX1_longestRested 67 = .ok (.aload_n 0, 1) := by decide +kernel
theorem dX1_longestRested_68 : decode cX1_longestRested 68 = .ok (.getfield 18, 3) := by decide +kernel
theorem dX1_longestRested_71 : decode cX1_longestRested 71 = .ok (.iconst 0, 1) := by decide +kernel
theorem dX1_longestRested_72 : decode cX1_longestRested 72 = .ok (.iaload, 1) := by decide +kernel
theorem dX1_longestRested_73 : decode cX1_longestRested 73 = .ok (.iadd, 1) := by decide +kernel
theorem dX1_longestRested_74 : decode cX1_longestRested 74 = .ok (.istore_n 2, 1) := by decide +kernel
theorem dX1_longestRested_75 : decode cX1_longestRested 75 = .ok (.iinc 3 1, 3) := by decide +kernel
theorem dX1_longestRested_78 : decode cX1_longestRested 78 = .ok (.goto (-72), 3) := by decide +kernel
theorem dX1_longestRested_81 : decode cX1_longestRested 81 = .ok (.iload_n 2, 1) := by decide +kernel
theorem dX1_longestRested_82 : decode cX1_longestRested 82 = .ok (.ireturn, 1) := by decide +kernel
theorem dX1_drawn_0 : decode cX1_drawn 0 = .ok (.iconst 0, 1) := by decide +kernel
theorem dX1_drawn_1 : decode cX1_drawn 1 = .ok (.istore_n 1, 1) := by decide +kernel
theorem dX1_drawn_2 : decode cX1_drawn 2 = .ok (.iconst 0, 1) := by decide +kernel
theorem dX1_drawn_3 : decode cX1_drawn 3 = .ok (.istore_n 2, 1) := by decide +kernel
theorem dX1_drawn_4 : decode cX1_drawn 4 = .ok (.iload_n 2, 1) := by decide +kernel
theorem dX1_drawn_5 : decode cX1_drawn 5 = .ok (.aload_n 0, 1) := by decide +kernel
theorem dX1_drawn_6 : decode cX1_drawn 6 = .ok (.getfield 21, 3) := by decide +kernel
theorem dX1_drawn_9 : decode cX1_drawn 9 = .ok (.getfield 70, 3) := by decide +kernel
theorem dX1_drawn_12 : decode cX1_drawn 12 = .ok (.if_icmp .ge 21, 3) := by decide +kernel
theorem dX1_drawn_15 : decode cX1_drawn 15 = .ok (.iload_n 1, 1) := by decide +kernel
theorem dX1_drawn_16 : decode cX1_drawn 16 = .ok (.aload_n 0, 1) := by decide +kernel
theorem dX1_drawn_17 : decode cX1_drawn 17 = .ok (.iload_n 2, 1) := by decide +kernel
theorem dX1_drawn_18 : decode cX1_drawn 18 = .ok (.aload_n 0, 1) := by decide +kernel
theorem dX1_drawn_19 : decode cX1_drawn 19 = .ok (.getfield 18, 3) := by decide +kernel
theorem dX1_drawn_22 : decode cX1_drawn 22 = .ok (.invokevirtual 100, 3) := by decide +kernel
theorem dX1_drawn_25 : decode cX1_drawn 25 = .ok (.iadd, 1) := by decide +kernel
theorem dX1_drawn_26 : decode cX1_drawn 26 = .ok (.istore_n 1, 1) := by decide +kernel
theorem dX1_drawn_27 : decode cX1_drawn 27 = .ok (.iinc 2 1, 3) := by decide +kernel
theorem dX1_drawn_30 : decode cX1_drawn 30 = .ok (.goto (-26), 3) := by decide +kernel
theorem dX1_drawn_33 : decode cX1_drawn 33 = .ok (.iload_n 1, 1) := by decide +kernel
theorem dX1_drawn_34 : decode cX1_drawn 34 = .ok (.ifCond .gt 5, 3) := by decide +kernel
theorem dX1_drawn_37 : decode cX1_drawn 37 = .ok (.iconst (-1), 1) := by decide +kernel
theorem dX1_drawn_38 : decode cX1_drawn 38 = .ok (.ireturn, 1) := by decide +kernel
theorem dX1_drawn_39 : decode cX1_drawn 39 = .ok (.aload_n 0, 1) := by decide +kernel
theorem dX1_drawn_40 : decode cX1_drawn 40 = .ok (.sipush 16807, 3) := by decide +kernel
theorem dX1_drawn_43 : decode cX1_drawn 43 = .ok (.aload_n 0, 1) := by decide +kernel
theorem dX1_drawn_44 : decode cX1_drawn 44 = .ok (.getfield 57, 3) := by decide +kernel
theorem dX1_drawn_47 : decode cX1_drawn 47 = .ok (.imul, 1) := by decide +kernel
theorem dX1_drawn_48 : decode cX1_drawn 48 = .ok (.ldc 122, 2) := by decide +kernel
theorem dX1_drawn_50 : decode cX1_drawn 50 = .ok (.irem, 1) := by decide +kernel
theorem dX1_drawn_51 : decode cX1_drawn 51 = .ok (.putfield 57, 3) := by decide +kernel
theorem dX1_drawn_54 : decode cX1_drawn 54 = .ok (.aload_n 0, 1) := by decide +kernel
theorem dX1_drawn_55 : decode cX1_drawn 55 = .ok (.getfield 57, 3) := by decide +kernel
theorem dX1_drawn_58 : decode cX1_drawn 58 = .ok (.iload_n 1, 1) := by decide +kernel
theorem dX1_drawn_59 : decode cX1_drawn 59 = .ok (.irem, 1) := by decide +kernel
theorem dX1_drawn_60 : decode cX1_drawn 60 = .ok (.istore_n 2, 1) := by decide +kernel
theorem dX1_drawn_61 : decode cX1_drawn 61 = .ok (.iconst 0, 1) := by decide +kernel
theorem dX1_drawn_62 : decode cX1_drawn 62 = .ok (.istore_n 3, 1) := by decide +kernel
theorem dX1_drawn_63 : decode cX1_drawn 63 = .ok (.iload_n 3, 1) := by decide +kernel
theorem dX1_drawn_64 : decode cX1_drawn 64 = .ok (.aload_n 0, 1) := by decide +kernel
theorem dX1_drawn_65 : decode cX1_drawn 65 = .ok (.getfield 21, 3) := by decide +kernel
theorem dX1_drawn_68 : decode cX1_drawn 68 = .ok (.getfield 70, 3) := by decide +kernel
theorem dX1_drawn_71 : decode cX1_drawn 71 = .ok (.if_icmp .ge 56, 3) := by decide +kernel
theorem dX1_drawn_74 : decode cX1_drawn 74 = .ok (.aload_n 0, 1) := by decide +kernel
theorem dX1_drawn_75 : decode cX1_drawn 75 = .ok (.iload_n 3, 1) := by decide +kernel
theorem dX1_drawn_76 : decode cX1_drawn 76 = .ok (.aload_n 0, 1) := by decide +kernel
theorem dX1_drawn_77 : decode cX1_drawn 77 = .ok (.getfield 18, 3) := by decide +kernel
theorem dX1_drawn_80 : decode cX1_drawn 80 = .ok (.invokevirtual 100, 3) := by decide +kernel
theorem dX1_drawn_83 : decode cX1_drawn 83 = .ok (.istore 4, 2) := by decide +kernel
theorem dX1_drawn_85 : decode cX1_drawn 85 = .ok (.iload_n 2, 1) := by decide +kernel
theorem dX1_drawn_86 : decode cX1_drawn 86 = .ok (.ifCond .lt 30, 3) := by decide +kernel
theorem dX1_drawn_89 : decode cX1_drawn 89 = .ok (.iload_n 2, 1) := by decide +kernel
theorem dX1_drawn_90 : decode cX1_drawn 90 = .ok (.iload 4, 2) := by decide +kernel
theorem dX1_drawn_92 : decode cX1_drawn 92 = .ok (.if_icmp .ge 24, 3) := by decide +kernel
theorem dX1_drawn_95 : decode cX1_drawn 95 = .ok (.iload_n 2, 1) := by decide +kernel
theorem dX1_drawn_96 : decode cX1_drawn 96 = .ok (.aload_n 0, 1) := by decide +kernel
theorem dX1_drawn_97 : decode cX1_drawn 97 = .ok (.getfield 18, 3) := by decide +kernel
theorem dX1_drawn_100 : decode cX1_drawn 100 = .ok (.arraylength, 1) := by decide +kernel
theorem dX1_drawn_101 : decode cX1_drawn 101 = .ok (.if_icmp .ge 15, 3) := by decide +kernel
theorem dX1_drawn_104 : decode cX1_drawn 104 = .ok (.bipush 20, 2) := by decide +kernel
theorem dX1_drawn_106 : decode cX1_drawn 106 = .ok (.iload_n 3, 1) := by decide +kernel
theorem dX1_drawn_107 : decode cX1_drawn 107 = .ok (.imul, 1) := by decide +kernel
theorem dX1_drawn_108 : decode cX1_drawn 108 = .ok (.aload_n 0, 1) := by decide +kernel
theorem dX1_drawn_109 : decode cX1_drawn 109 = .ok (.getfield 18, 3) := by decide +kernel
theorem dX1_drawn_112 : decode cX1_drawn 112 = .ok (.iload_n 2, 1) := by decide +kernel
theorem dX1_drawn_113 : decode cX1_drawn 113 = .ok (.iaload, 1) := by decide +kernel
theorem dX1_drawn_114 : decode cX1_drawn 114 = .ok (.iadd, 1) := by decide +kernel
theorem dX1_drawn_115 : decode cX1_drawn 115 = .ok (.ireturn, 1) := by decide +kernel
theorem dX1_drawn_116 : decode cX1_drawn 116 = .ok (.iload_n 2, 1) := by decide +kernel
theorem dX1_drawn_117 : decode cX1_drawn 117 = .ok (.iload 4, 2) := by decide +kernel
theorem dX1_drawn_119 : decode cX1_drawn 119 = .ok (.isub, 1) := by decide +kernel
theorem dX1_drawn_120 : decode cX1_drawn 120 = .ok (.istore_n 2, 1) := by decide +kernel
theorem dX1_drawn_121 : decode cX1_drawn 121 = .ok (.iinc 3 1, 3) := by decide +kernel
theorem dX1_drawn_124 : decode cX1_drawn 124 = .ok (.goto (-61), 3) := by decide +kernel
theorem dX1_drawn_127 : decode cX1_drawn 127 = .ok (.iconst (-1), 1) := by decide +kernel
theorem dX1_drawn_128 : decode cX1_drawn 128 = .ok (.ireturn, 1) := by decide +kernel
theorem dX1_meets_0 : decode cX1_meets 0 = .ok (.iload_n 3, 1) := by decide +kernel
theorem dX1_meets_1 : decode cX1_meets 1 = .ok (.ifCond .ne 12, 3) := by decide +kernel
theorem dX1_meets_4 : decode cX1_meets 4 = .ok (.aload_n 0, 1) := by decide +kernel
theorem dX1_meets_5 : decode cX1_meets 5 = .ok (.iload_n 1, 1) := by decide +kernel
theorem dX1_meets_6 : decode cX1_meets 6 = .ok (.iload_n 2, 1) := by decide +kernel
theorem dX1_meets_7 : decode cX1_meets 7 = .ok (.invokevirtual 123, 3) := by decide +kernel
theorem dX1_meets_10 : decode cX1_meets 10 = .ok (.goto 9, 3) := by decide +kernel
theorem dX1_meets_13 : decode cX1_meets 13 = .ok (.aload_n 0, 1) := by decide +kernel
theorem dX1_meets_14 : decode cX1_meets 14 = .ok (.iload_n 1, 1) := by decide +kernel
theorem dX1_meets_15 : decode cX1_meets 15 = .ok (.iload_n 2, 1) := by decide +kernel
theorem dX1_meets_16 : decode cX1_meets 16 = .ok (.invokevirtual 127, 3) := by decide +kernel
theorem dX1_meets_19 : decode cX1_meets 19 = .ok (.ireturn, 1) := by decide +kernel
theorem dX1_areBeside_0 : decode cX1_areBeside 0 = .ok (.aload_n 0, 1) := by decide +kernel
theorem dX1_areBeside_1 : decode cX1_areBeside 1 = .ok (.getfield 21, 3) := by decide +kernel
theorem dX1_areBeside_4 : decode cX1_areBeside 4 = .ok (.aload_n 0, 1) := by decide +kernel
theorem dX1_areBeside_5 : decode cX1_areBeside 5 = .ok (.iload_n 1, 1) := by decide +kernel
theorem dX1_areBeside_6 : decode cX1_areBeside 6 = .ok (.invokevirtual 73, 3) := by decide +kernel
theorem dX1_areBeside_9 : decode cX1_areBeside 9 = .ok (.invokevirtual 130, 3) := by decide +kernel
theorem dX1_areBeside_12 : decode cX1_areBeside 12 = .ok (.aload_n 0, 1) := by decide +kernel
theorem dX1_areBeside_13 : decode cX1_areBeside 13 = .ok (.iload_n 2, 1) := by decide +kernel
theorem dX1_areBeside_14 : decode cX1_areBeside 14 = .ok (.invokevirtual 73, 3) := by decide +kernel
theorem dX1_areBeside_17 : decode cX1_areBeside 17 = .ok (.iand, 1) := by decide +kernel
theorem dX1_areBeside_18 : decode cX1_areBeside 18 = .ok (.ifCond .eq 7, 3) := by decide +kernel
theorem dX1_areBeside_21 : decode cX1_areBeside 21 = .ok (.iconst 1, 1) := by decide +kernel
theorem dX1_areBeside_22 : decode cX1_areBeside 22 = .ok (.goto 4, 3) := by decide +kernel
theorem dX1_areBeside_25 : decode cX1_areBeside 25 = .ok (.iconst 0, 1) := by decide +kernel
theorem dX1_areBeside_26 : decode cX1_areBeside 26 = .ok (.ireturn, 1) := by decide +kernel
theorem dX1_areOpposite_0 : decode cX1_areOpposite 0 = .ok (.iconst 2, 1) := by decide +kernel
theorem dX1_areOpposite_1 : decode cX1_areOpposite 1 = .ok (.aload_n 0, 1) := by decide +kernel
theorem dX1_areOpposite_2 : decode cX1_areOpposite 2 = .ok (.getfield 9, 3) := by decide +kernel
theorem dX1_areOpposite_5 : decode cX1_areOpposite 5 = .ok (.iload_n 1, 1) := by decide +kernel
theorem dX1_areOpposite_6 : decode cX1_areOpposite 6 = .ok (.iaload, 1) := by decide +kernel
theorem dX1_areOpposite_7 : decode cX1_areOpposite 7 = .ok (.aload_n 0, 1) := by decide +kernel
theorem dX1_areOpposite_8 : decode cX1_areOpposite 8 = .ok (.getfield 9, 3) := by decide +kernel
theorem dX1_areOpposite_11 : decode cX1_areOpposite 11 = .ok (.iload_n 2, 1) := by decide +kernel
theorem dX1_areOpposite_12 : decode cX1_areOpposite 12 = .ok (.iaload, 1) := by decide +kernel
theorem dX1_areOpposite_13 : decode cX1_areOpposite 13 = .ok (.isub, 1) := by decide +kernel
theorem dX1_areOpposite_14 : decode cX1_areOpposite 14 = .ok (.invokestatic 133, 3) := by decide +kernel
theorem dX1_areOpposite_17 : decode cX1_areOpposite 17 = .ok (.imul, 1) := by decide +kernel
theorem dX1_areOpposite_18 : decode cX1_areOpposite 18 = .ok (.aload_n 0, 1) := by decide +kernel
theorem dX1_areOpposite_19 : decode cX1_areOpposite 19 = .ok (.getfield 21, 3) := by decide +kernel
theorem dX1_areOpposite_22 : decode cX1_areOpposite 22 = .ok (.getfield 138, 3) := by decide +kernel
theorem dX1_areOpposite_25 : decode cX1_areOpposite 25 = .ok (.if_icmp .ne 7, 3) := by decide +kernel
theorem dX1_areOpposite_28 : decode cX1_areOpposite 28 = .ok (.iconst 1, 1) := by decide +kernel
theorem dX1_areOpposite_29 : decode cX1_areOpposite 29 = .ok (.goto 4, 3) := by decide +kernel
theorem dX1_areOpposite_32 : decode cX1_areOpposite 32 = .ok (.iconst 0, 1) := by decide +kernel
theorem dX1_areOpposite_33 : decode cX1_areOpposite 33 = .ok (.ireturn, 1) := by decide +kernel
theorem dX1_hasFeudBeside_0 : decode cX1_hasFeudBeside 0 = .ok (.iconst 0, 1) := by decide +kernel
theorem dX1_hasFeudBeside_1 : decode cX1_hasFeudBeside 1 = .ok (.istore_n 1, 1) := by decide +kernel
theorem dX1_hasFeudBeside_2 : decode cX1_hasFeudBeside 2 = .ok (.iload_n 1, 1) := by decide +kernel
theorem dX1_hasFeudBeside_3 : decode cX1_hasFeudBeside 3 = .ok (.aload_n 0, 1) := by decide +kernel
theorem dX1_hasFeudBeside_4 : decode cX1_hasFeudBeside 4 = .ok (.getfield 21, 3) := by decide +kernel
theorem dX1_hasFeudBeside_7 : decode cX1_hasFeudBeside 7 = .ok (.getfield 141, 3) := by decide +kernel
theorem dX1_hasFeudBeside_10 : decode cX1_hasFeudBeside 10 = .ok (.if_icmp .ge 36, 3) := by decide +kernel
theorem dX1_hasFeudBeside_13 : decode cX1_hasFeudBeside 13 = .ok (.aload_n 0, 1) := by decide +kernel
theorem dX1_hasFeudBeside_14 : decode cX1_hasFeudBeside 14 = .ok (.aload_n 0, 1) := by decide +kernel
theorem dX1_hasFeudBeside_15 : decode cX1_hasFeudBeside 15 = .ok (.getfield 21, 3) := by decide +kernel
theorem dX1_hasFeudBeside_18 : decode cX1_hasFeudBeside 18 = .ok (.getfield 144, 3) := by decide +kernel
theorem dX1_hasFeudBeside_21 : decode cX1_hasFeudBeside 21 = .ok (.iload_n 1, 1) := by decide +kernel
theorem dX1_hasFeudBeside_22 : decode cX1_hasFeudBeside 22 = .ok (.iaload, 1) := by decide +kernel
theorem dX1_hasFeudBeside_23 : decode cX1_hasFeudBeside 23 = .ok (.aload_n 0, 1) := by decide +kernel
theorem dX1_hasFeudBeside_24 : decode cX1_hasFeudBeside 24 = .ok (.getfield 21, 3) := by decide +kernel
theorem dX1_hasFeudBeside_27 : decode cX1_hasFeudBeside 27 = .ok (.getfield 147, 3) := by decide +kernel
theorem dX1_hasFeudBeside_30 : decode cX1_hasFeudBeside 30 = .ok (.iload_n 1, 1) := by decide +kernel
theorem dX1_hasFeudBeside_31 : decode cX1_hasFeudBeside 31 = .ok (.iaload, 1) := by decide +kernel
theorem dX1_hasFeudBeside_32 : decode cX1_hasFeudBeside 32 = .ok (.invokevirtual 123, 3) := by decide +kernel
theorem dX1_hasFeudBeside_35 : decode cX1_hasFeudBeside 35 = .ok (.ifCond .eq 5, 3) := by decide +kernel
theorem dX1_hasFeudBeside_38 : decode cX1_hasFeudBeside 38 = .ok (.iconst 1, 1) := by decide +kernel
theorem dX1_hasFeudBeside_39 : decode cX1_hasFeudBeside 39 = .ok (.ireturn, 1) := by decide +kernel
theorem dX1_hasFeudBeside_40 : decode cX1_hasFeudBeside 40 = .ok (.iinc 1 1, 3) := by decide +kernel
theorem dX1_hasFeudBeside_43 : decode cX1_hasFeudBeside 43 = .ok (.goto (-41), 3) := by decide +kernel
theorem dX1_hasFeudBeside_46 : decode cX1_hasFeudBeside 46 = .ok (.iconst 0, 1) := by decide +kernel
theorem dX1_hasFeudBeside_47 : decode cX1_hasFeudBeside 47 = .ok (.ireturn, 1) := by decide +kernel
theorem dX1_placesKey_0 : decode cX1_placesKey 0 = .ok (.lconst 0, 1) := by decide +kernel
theorem dX1_placesKey_1 : decode cX1_placesKey 1 = .ok (.lstore_n 1, 1) := by decide +kernel
theorem dX1_placesKey_2 : decode cX1_placesKey 2 = .ok (.iconst 0, 1) := by decide +kernel
theorem dX1_placesKey_3 : decode cX1_placesKey 3 = .ok (.istore_n 3, 1) := by decide +kernel
theorem dX1_placesKey_4 : decode cX1_placesKey 4 = .ok (.iload_n 3, 1) := by decide +kernel
theorem dX1_placesKey_5 : decode cX1_placesKey 5 = .ok (.aload_n 0, 1) := by decide +kernel
theorem dX1_placesKey_6 : decode cX1_placesKey 6 = .ok (.getfield 21, 3) := by decide +kernel
theorem dX1_placesKey_9 : decode cX1_placesKey 9 = .ok (.getfield 70, 3) := by decide +kernel
theorem dX1_placesKey_12 : decode cX1_placesKey 12 = .ok (.if_icmp .ge 21, 3) := by decide +kernel
theorem dX1_placesKey_15 : decode cX1_placesKey 15 = .ok (.lload_n 1, 1) := by decide +kernel
theorem dX1_placesKey_16 : decode cX1_placesKey 16 = .ok (.iconst 4, 1) := by decide +kernel
theorem dX1_placesKey_17 : decode cX1_placesKey 17 = .ok (.lshl, 1) := by decide +kernel
theorem dX1_placesKey_18 : decode cX1_placesKey 18 = .ok (.aload_n 0, 1) := by decide +kernel
theorem dX1_placesKey_19 : decode cX1_placesKey 19 = .ok (.getfield 9, 3) := by decide +kernel
theorem dX1_placesKey_22 : decode cX1_placesKey 22 = .ok (.iload_n 3, 1) := by decide +kernel
theorem dX1_placesKey_23 : decode cX1_placesKey 23 = .ok (.iaload, 1) := by decide +kernel
theorem dX1_placesKey_24 : decode cX1_placesKey 24 = .ok (.i2l, 1) := by decide +kernel
theorem dX1_placesKey_25 : decode cX1_placesKey 25 = .ok (.lor, 1) := by decide +kernel
theorem dX1_placesKey_26 : decode cX1_placesKey 26 = .ok (.lstore_n 1, 1) := by decide +kernel
theorem dX1_placesKey_27 : decode cX1_placesKey 27 = .ok (.iinc 3 1, 3) := by decide +kernel
theorem dX1_placesKey_30 : decode cX1_placesKey 30 = .ok (.goto (-26), 3) := by decide +kernel
theorem dX1_placesKey_33 : decode cX1_placesKey 33 = .ok (.lload_n 1, 1) := by decide +kernel
theorem dX1_placesKey_34 : decode cX1_placesKey 34 = .ok (.lreturn, 1) := by decide +kernel
theorem dX1_stateKey_0 : decode cX1_stateKey 0 = .ok (.aload_n 0, 1) := by decide +kernel
theorem dX1_stateKey_1 : decode cX1_stateKey 1 = .ok (.invokevirtual 150, 3) := by decide +kernel
theorem dX1_stateKey_4 : decode cX1_stateKey 4 = .ok (.lstore_n 2, 1) := by decide +kernel
theorem dX1_stateKey_5 : decode cX1_stateKey 5 = .ok (.iload_n 1, 1) := by decide +kernel
theorem dX1_stateKey_6 : decode cX1_stateKey 6 = .ok (.tableswitch 53 1 3 #[26, 36, 42], 26) := by decide +kernel
theorem dX1_stateKey_32 : decode cX1_stateKey 32 = .ok (.lload_n 2, 1) := by decide +kernel
theorem dX1_stateKey_33 : decode cX1_stateKey 33 = .ok (.iconst 3, 1) := by decide +kernel
theorem dX1_stateKey_34 : decode cX1_stateKey 34 = .ok (.lshl, 1) := by decide +kernel
theorem dX1_stateKey_35 : decode cX1_stateKey 35 = .ok (.aload_n 0, 1) := by decide +kernel
theorem dX1_stateKey_36 : decode cX1_stateKey 36 = .ok (.getfield 51, 3) := by decide +kernel
theorem dX1_stateKey_39 : decode cX1_stateKey 39 = .ok (.i2l, 1) := by decide +kernel
theorem dX1_stateKey_40 : decode cX1_stateKey 40 = .ok (.lor, 1) := by decide +kernel
theorem dX1_stateKey_41 : decode cX1_stateKey 41 = .ok (.lreturn, 1) := by decide +kernel
theorem dX1_stateKey_42 : decode cX1_stateKey 42 = .ok (.aload_n 0, 1) := by decide +kernel
theorem dX1_stateKey_43 : decode cX1_stateKey 43 = .ok (.lload_n 2, 1) := by decide +kernel
theorem dX1_stateKey_44 : decode cX1_stateKey 44 = .ok (.invokevirtual 154, 3) := by decide +kernel
theorem dX1_stateKey_47 : decode cX1_stateKey 47 = .ok (.lreturn, 1) := by decide +kernel
theorem dX1_stateKey_48 : decode cX1_stateKey 48 = .ok (.lload_n 2, 1) := by decide +kernel
theorem dX1_stateKey_49 : decode cX1_stateKey 49 = .ok (.bipush 16, 2) := by decide +kernel
theorem dX1_stateKey_51 : decode cX1_stateKey 51 = .ok (.lshl, 1) := by decide +kernel
theorem dX1_stateKey_52 : decode cX1_stateKey 52 = .ok (.aload_n 0, 1) := by decide +kernel
theorem dX1_stateKey_53 : decode cX1_stateKey 53 = .ok (.getfield 57, 3) := by decide +kernel
theorem dX1_stateKey_56 : decode cX1_stateKey 56 = .ok (.i2l, 1) := by decide +kernel
theorem dX1_stateKey_57 : decode cX1_stateKey 57 = .ok (.lor, 1) := by decide +kernel
theorem dX1_stateKey_58 : decode cX1_stateKey 58 = .ok (.lreturn, 1) := by decide +kernel
theorem dX1_stateKey_59 : decode cX1_stateKey 59 = .ok (.lload_n 2, 1) := by decide +kernel
theorem dX1_stateKey_60 : decode cX1_stateKey 60 = .ok (.lreturn, 1) := by decide +kernel
theorem dX1_restKey_0 : decode cX1_restKey 0 = .ok (.lload_n 1, 1) := by decide +kernel
theorem dX1_restKey_1 : decode cX1_restKey 1 = .ok (.lstore_n 3, 1) := by decide +kernel
theorem dX1_restKey_2 : decode cX1_restKey 2 = .ok (.iconst 0, 1) := by decide +kernel
theorem dX1_restKey_3 : decode cX1_restKey 3 = .ok (.istore 5, 2) := by decide +kernel
theorem dX1_restKey_5 : decode cX1_restKey 5 = .ok (.iload 5, 2) := by decide +kernel
theorem dX1_restKey_7 : decode cX1_restKey 7 = .ok (.aload_n 0, 1) := by decide +kernel
theorem dX1_restKey_8 : decode cX1_restKey 8 = .ok (.getfield 21, 3) := by decide +kernel
theorem dX1_restKey_11 : decode cX1_restKey 11 = .ok (.getfield 70, 3) := by decide +kernel
theorem dX1_restKey_14 : decode cX1_restKey 14 = .ok (.if_icmp .ge 21, 3) := by decide +kernel
theorem dX1_restKey_17 : decode cX1_restKey 17 = .ok (.lload_n 3, 1) := by decide +kernel
theorem dX1_restKey_18 : decode cX1_restKey 18 = .ok (.iconst 3, 1) := by decide +kernel
theorem dX1_restKey_19 : decode cX1_restKey 19 = .ok (.lshl, 1) := by decide +kernel
theorem dX1_restKey_20 : decode cX1_restKey 20 = .ok (.aload_n 0, 1) := by decide +kernel
theorem dX1_restKey_21 : decode cX1_restKey 21 = .ok (.iload 5, 2) := by decide +kernel
theorem dX1_restKey_23 : decode cX1_restKey 23 = .ok (.invokevirtual 158, 3) := by decide +kernel
theorem dX1_restKey_26 : decode cX1_restKey 26 = .ok (.i2l, 1) := by decide +kernel
theorem dX1_restKey_27 : decode cX1_restKey 27 = .ok (.lor, 1) := by decide +kernel
theorem dX1_restKey_28 : decode cX1_restKey 28 = .ok (.lstore_n 3, 1) := by decide +kernel
theorem dX1_restKey_29 : decode cX1_restKey 29 = .ok (.iinc 5 1, 3) := by decide +kernel
theorem dX1_restKey_32 : decode cX1_restKey 32 = .ok (.goto (-27), 3) := by decide +kernel
theorem dX1_restKey_35 : decode cX1_restKey 35 = .ok (.lload_n 3, 1) := by decide +kernel
theorem dX1_restKey_36 : decode cX1_restKey 36 = .ok (.lreturn, 1) := by decide +kernel
theorem dX1_restRank_0 : decode cX1_restRank 0 = .ok (.iconst 0, 1) := by decide +kernel
theorem dX1_restRank_1 : decode cX1_restRank 1 = .ok (.istore_n 2, 1) := by decide +kernel
theorem dX1_restRank_2 : decode cX1_restRank 2 = .ok (.iconst 0, 1) := by decide +kernel
theorem dX1_restRank_3 : decode cX1_restRank 3 = .ok (.istore_n 3, 1) := by decide +kernel
theorem dX1_restRank_4 : decode cX1_restRank 4 = .ok (.iload_n 3, 1) := by decide +kernel
theorem dX1_restRank_5 : decode cX1_restRank 5 = .ok (.aload_n 0, 1) := by decide +kernel
theorem dX1_restRank_6 : decode cX1_restRank 6 = .ok (.getfield 21, 3) := by decide +kernel
theorem dX1_restRank_9 : decode cX1_restRank 9 = .ok (.getfield 70, 3) := by decide +kernel
theorem dX1_restRank_12 : decode cX1_restRank 12 = .ok (.if_icmp .ge 27, 3) := by decide +kernel
theorem dX1_restRank_15 : decode cX1_restRank 15 = .ok (.aload_n 0, 1) := by decide +kernel
theorem dX1_restRank_16 : decode cX1_restRank 16 = .ok (.getfield 15, 3) := by decide +kernel
theorem dX1_restRank_19 : decode cX1_restRank 19 = .ok (.iload_n 3, 1) := by decide +kernel
theorem dX1_restRank_20 : decode cX1_restRank 20 = .ok (.iaload, 1) := by decide +kernel
theorem dX1_restRank_21 : decode cX1_restRank 21 = .ok (.aload_n 0, 1) := by decide +kernel
theorem dX1_restRank_22 : decode cX1_restRank 22 = .ok (.getfield 15, 3) := by decide +kernel
theorem dX1_restRank_25 : decode cX1_restRank 25 = .ok (.iload_n 1, 1) := by decide +kernel
theorem dX1_restRank_26 : decode cX1_restRank 26 = .ok (.iaload, 1) := by decide +kernel
theorem dX1_restRank_27 : decode cX1_restRank 27 = .ok (.if_icmp .ge 6, 3) := by decide +kernel
theorem dX1_restRank_30 : decode cX1_restRank 30 = .ok (.iinc 2 1, 3) := by decide +kernel
theorem dX1_restRank_33 : decode cX1_restRank 33 = .ok (.iinc 3 1, 3) := by decide +kernel
theorem dX1_restRank_36 : decode cX1_restRank 36 = .ok (.goto (-32), 3) := by decide +kernel
theorem dX1_restRank_39 : decode cX1_restRank 39 = .ok (.iload_n 2, 1) := by decide +kernel
theorem dX1_restRank_40 : decode cX1_restRank 40 = .ok (.ireturn, 1) := by decide +kernel
