theorem dX0_init_0 : decode cX0_init 0 = .ok (.aload_n 0, 1) := by decide +kernel
theorem dX0_init_1 : decode cX0_init 1 = .ok (.invokespecial 3, 3) := by decide +kernel
theorem dX0_init_4 : decode cX0_init 4 = .ok (.aload_n 0, 1) := by decide +kernel
theorem dX0_init_5 : decode cX0_init 5 = .ok (.bipush 20, 2) := by decide +kernel
theorem dX0_init_7 : decode cX0_init 7 = .ok (.newarray .int, 2) := by decide +kernel
theorem dX0_init_9 : decode cX0_init 9 = .ok (.putfield 9, 3) := by decide +kernel
theorem dX0_init_12 : decode cX0_init 12 = .ok (.aload_n 0, 1) := by decide +kernel
theorem dX0_init_13 : decode cX0_init 13 = .ok (.bipush 20, 2) := by decide +kernel
theorem dX0_init_15 : decode cX0_init 15 = .ok (.newarray .int, 2) := by decide +kernel
theorem dX0_init_17 : decode cX0_init 17 = .ok (.putfield 15, 3) := by decide +kernel
theorem dX0_init_20 : decode cX0_init 20 = .ok (.iconst 0, 1) := by decide +kernel
theorem dX0_init_21 : decode cX0_init 21 = .ok (.istore_n 1, 1) := by decide +kernel
theorem dX0_init_22 : decode cX0_init 22 = .ok (.iload_n 1, 1) := by decide +kernel
theorem dX0_init_23 : decode cX0_init 23 = .ok (.bipush 20, 2) := by decide +kernel
theorem dX0_init_25 : decode cX0_init 25 = .ok (.if_icmp .ge 16, 3) := by decide +kernel
theorem dX0_init_28 : decode cX0_init 28 = .ok (.aload_n 0, 1) := by decide +kernel
theorem dX0_init_29 : decode cX0_init 29 = .ok (.getfield 15, 3) := by decide +kernel
theorem dX0_init_32 : decode cX0_init 32 = .ok (.iload_n 1, 1) := by decide +kernel
theorem dX0_init_33 : decode cX0_init 33 = .ok (.iconst (-1), 1) := by decide +kernel
theorem dX0_init_34 : decode cX0_init 34 = .ok (.iastore, 1) := by decide +kernel
theorem dX0_init_35 : decode cX0_init 35 = .ok (.iinc 1 1, 3) := by decide +kernel
theorem dX0_init_38 : decode cX0_init 38 = .ok (.goto (-16), 3) := by decide +kernel
theorem dX0_init_41 : decode cX0_init 41 = .ok (.aload_n 0, 1) := by decide +kernel
theorem dX0_init_42 : decode cX0_init 42 = .ok (.bipush 8, 2) := by decide +kernel
theorem dX0_init_44 : decode cX0_init 44 = .ok (.anewarray 18, 3) := by decide +kernel
theorem dX0_init_47 : decode cX0_init 47 = .ok (.putfield 20, 3) := by decide +kernel
theorem dX0_init_50 : decode cX0_init 50 = .ok (.iconst 0, 1) := by decide +kernel
theorem dX0_init_51 : decode cX0_init 51 = .ok (.istore_n 1, 1) := by decide +kernel
theorem dX0_init_52 : decode cX0_init 52 = .ok (.iload_n 1, 1) := by decide +kernel
theorem dX0_init_53 : decode cX0_init 53 = .ok (.bipush 8, 2) := by decide +kernel
theorem dX0_init_55 : decode cX0_init 55 = .ok (.if_icmp .ge 22, 3) := by decide +kernel
theorem dX0_init_58 : decode cX0_init 58 = .ok (.aload_n 0, 1) := by decide +kernel
theorem dX0_init_59 : decode cX0_init 59 = .ok (.getfield 20, 3) := by decide +kernel
theorem dX0_init_62 : decode cX0_init 62 = .ok (.iload_n 1, 1) := by decide +kernel
theorem dX0_init_63 : decode cX0_init 63 = .ok (.new 18, 3) := by decide +kernel
theorem dX0_init_66 : decode cX0_init 66 = .ok (.dup, 1) := by decide +kernel
theorem dX0_init_67 : decode cX0_init 67 = .ok (.invokespecial 24, 3) := by decide +kernel
theorem dX0_init_70 : decode cX0_init 70 = .ok (.aastore, 1) := by decide +kernel
theorem dX0_init_71 : decode cX0_init 71 = .ok (.iinc 1 1, 3) := by decide +kernel
theorem dX0_init_74 : decode cX0_init 74 = .ok (.goto (-22), 3) := by decide +kernel
theorem dX0_init_77 : decode cX0_init 77 = .ok (.aload_n 0, 1) := by decide +kernel
theorem dX0_init_78 : decode cX0_init 78 = .ok (.bipush 10, 2) := by decide +kernel
theorem dX0_init_80 : decode cX0_init 80 = .ok (.putfield 25, 3) := by decide +kernel
theorem dX0_init_83 : decode cX0_init 83 = .ok (.aload_n 0, 1) := by decide +kernel
theorem dX0_init_84 : decode cX0_init 84 = .ok (.bipush 20, 2) := by decide +kernel
theorem dX0_init_86 : decode cX0_init 86 = .ok (.putfield 29, 3) := by decide +kernel
theorem dX0_init_89 : decode cX0_init 89 = .ok (.return_, 1) := by decide +kernel
theorem dX0_takeFrom_0 : decode cX0_takeFrom 0 = .ok (.aload_n 1, 1) := by decide +kernel
theorem dX0_takeFrom_1 : decode cX0_takeFrom 1 = .ok (.getfield 9, 3) := by decide +kernel
theorem dX0_takeFrom_4 : decode cX0_takeFrom 4 = .ok (.iconst 0, 1) := by decide +kernel
theorem dX0_takeFrom_5 : decode cX0_takeFrom 5 = .ok (.aload_n 0, 1) := by decide +kernel
theorem dX0_takeFrom_6 : decode cX0_takeFrom 6 = .ok (.getfield 9, 3) := by decide +kernel
theorem dX0_takeFrom_9 : decode cX0_takeFrom 9 = .ok (.iconst 0, 1) := by decide +kernel
theorem dX0_takeFrom_10 : decode cX0_takeFrom 10 = .ok (.bipush 20, 2) := by decide +kernel
theorem dX0_takeFrom_12 : decode cX0_takeFrom 12 = .ok (.invokestatic 32, 3) := by decide +kernel
theorem dX0_takeFrom_15 : decode cX0_takeFrom 15 = .ok (.aload_n 1, 1) := by decide +kernel
theorem dX0_takeFrom_16 : decode cX0_takeFrom 16 = .ok (.getfield 15, 3) := by decide +kernel
theorem dX0_takeFrom_19 : decode cX0_takeFrom 19 = .ok (.iconst 0, 1) := by decide +kernel
theorem dX0_takeFrom_20 : decode cX0_takeFrom 20 = .ok (.aload_n 0, 1) := by decide +kernel
theorem dX0_takeFrom_21 : decode cX0_takeFrom 21 = .ok (.getfield 15, 3) := by decide +kernel
theorem dX0_takeFrom_24 : decode cX0_takeFrom 24 = .ok (.iconst 0, 1) := by decide +kernel
theorem dX0_takeFrom_25 : decode cX0_takeFrom 25 = .ok (.bipush 20, 2) := by decide +kernel
theorem dX0_takeFrom_27 : decode cX0_takeFrom 27 = .ok (.invokestatic 32, 3) := by decide +kernel
theorem dX0_takeFrom_30 : decode cX0_takeFrom 30 = .ok (.aload_n 0, 1) := by decide +kernel
theorem dX0_takeFrom_31 : decode cX0_takeFrom 31 = .ok (.aload_n 1, 1) := by decide +kernel
theorem dX0_takeFrom_32 : decode cX0_takeFrom 32 = .ok (.getfield 38, 3) := by decide +kernel
theorem dX0_takeFrom_35 : decode cX0_takeFrom 35 = .ok (.putfield 38, 3) := by decide +kernel
theorem dX0_takeFrom_38 : decode cX0_takeFrom 38 = .ok (.iconst 0, 1) := by decide +kernel
theorem dX0_takeFrom_39 : decode cX0_takeFrom 39 = .ok (.istore_n 2, 1) := by decide +kernel
theorem dX0_takeFrom_40 : decode cX0_takeFrom 40 = .ok (.iload_n 2, 1) := by decide +kernel
theorem dX0_takeFrom_41 : decode cX0_takeFrom 41 = .ok (.aload_n 0, 1) := by decide +kernel
theorem dX0_takeFrom_42 : decode cX0_takeFrom 42 = .ok (.getfield 38, 3) := by decide +kernel
theorem dX0_takeFrom_45 : decode cX0_takeFrom 45 = .ok (.if_icmp .ge 24, 3) := by decide +kernel
theorem dX0_takeFrom_48 : decode cX0_takeFrom 48 = .ok (.aload_n 0, 1) := by decide +kernel
theorem dX0_takeFrom_49 : decode cX0_takeFrom 49 = .ok (.getfield 20, 3) := by decide +kernel
theorem dX0_takeFrom_52 : decode cX0_takeFrom 52 = .ok (.iload_n 2, 1) := by decide +kernel
theorem dX0_takeFrom_53 : decode cX0_takeFrom 53 = .ok (.aaload, 1) := by decide +kernel
theorem dX0_takeFrom_54 : decode cX0_takeFrom 54 = .ok (.aload_n 1, 1) := by decide +kernel
theorem dX0_takeFrom_55 : decode cX0_takeFrom 55 = .ok (.getfield 20, 3) := by decide +kernel
theorem dX0_takeFrom_58 : decode cX0_takeFrom 58 = .ok (.iload_n 2, 1) := by decide +kernel
theorem dX0_takeFrom_59 : decode cX0_takeFrom 59 = .ok (.aaload, 1) := by decide +kernel
theorem dX0_takeFrom_60 : decode cX0_takeFrom 60 = .ok (.invokevirtual 41, 3) := by decide +kernel
theorem dX0_takeFrom_63 : decode cX0_takeFrom 63 = .ok (.iinc 2 1, 3) := by decide +kernel
theorem dX0_takeFrom_66 : decode cX0_takeFrom 66 = .ok (.goto (-26), 3) := by decide +kernel
theorem dX0_takeFrom_69 : decode cX0_takeFrom 69 = .ok (.aload_n 0, 1) := by decide +kernel
theorem dX0_takeFrom_70 : decode cX0_takeFrom 70 = .ok (.aload_n 1, 1) := by decide +kernel
theorem dX0_takeFrom_71 : decode cX0_takeFrom 71 = .ok (.getfield 25, 3) := by decide +kernel
theorem dX0_takeFrom_74 : decode cX0_takeFrom 74 = .ok (.putfield 25, 3) := by decide +kernel
theorem dX0_takeFrom_77 : decode cX0_takeFrom 77 = .ok (.aload_n 0, 1) := by decide +kernel
theorem dX0_takeFrom_78 : decode cX0_takeFrom 78 = .ok (.aload_n 1, 1) := by decide +kernel
theorem dX0_takeFrom_79 : decode cX0_takeFrom 79 = .ok (.getfield 29, 3) := by decide +kernel
theorem dX0_takeFrom_82 : decode cX0_takeFrom 82 = .ok (.putfield 29, 3) := by decide +kernel
theorem dX0_takeFrom_85 : decode cX0_takeFrom 85 = .ok (.aload_n 0, 1) := by decide +kernel
theorem dX0_takeFrom_86 : decode cX0_takeFrom 86 = .ok (.aload_n 1, 1) := by decide +kernel
theorem dX0_takeFrom_87 : decode cX0_takeFrom 87 = .ok (.getfield 45, 3) := by decide +kernel
theorem dX0_takeFrom_90 : decode cX0_takeFrom 90 = .ok (.putfield 45, 3) := by decide +kernel
theorem dX0_takeFrom_93 : decode cX0_takeFrom 93 = .ok (.aload_n 0, 1) := by decide +kernel
theorem dX0_takeFrom_94 : decode cX0_takeFrom 94 = .ok (.aload_n 1, 1) := by decide +kernel
theorem dX0_takeFrom_95 : decode cX0_takeFrom 95 = .ok (.getfield 48, 3) := by decide +kernel
theorem dX0_takeFrom_98 : decode cX0_takeFrom 98 = .ok (.putfield 48, 3) := by decide +kernel
theorem dX0_takeFrom_101 : decode cX0_takeFrom 101 = .ok (.aload_n 0, 1) := by decide +kernel
theorem dX0_takeFrom_102 : decode cX0_takeFrom 102 = .ok (.aload_n 1, 1) := by decide +kernel
theorem dX0_takeFrom_103 : decode cX0_takeFrom 103 = .ok (.getfield 51, 3) := by decide +kernel
theorem dX0_takeFrom_106 : decode cX0_takeFrom 106 = .ok (.putfield 51, 3) := by decide +kernel
theorem dX0_takeFrom_109 : decode cX0_takeFrom 109 = .ok (.return_, 1) := by decide +kernel
theorem dX0_takeAsHeard_0 : decode cX0_takeAsHeard 0 = .ok (.aload_n 0, 1) := by decide +kernel
theorem dX0_takeAsHeard_1 : decode cX0_takeAsHeard 1 = .ok (.aload_n 1, 1) := by decide +kernel
theorem dX0_takeAsHeard_2 : decode cX0_takeAsHeard 2 = .ok (.invokevirtual 54, 3) := by decide +kernel
theorem dX0_takeAsHeard_5 : decode cX0_takeAsHeard 5 = .ok (.iconst 0, 1) := by decide +kernel
theorem dX0_takeAsHeard_6 : decode cX0_takeAsHeard 6 = .ok (.istore_n 2, 1) := by decide +kernel
theorem dX0_takeAsHeard_7 : decode cX0_takeAsHeard 7 = .ok (.iload_n 2, 1) := by decide +kernel
theorem dX0_takeAsHeard_8 : decode cX0_takeAsHeard 8 = .ok (.aload_n 0, 1) := by decide +kernel
theorem dX0_takeAsHeard_9 : decode cX0_takeAsHeard 9 = .ok (.getfield 38, 3) := by decide +kernel
theorem dX0_takeAsHeard_12 : decode cX0_takeAsHeard 12 = .ok (.if_icmp .ge 27, 3) := by decide +kernel
theorem dX0_takeAsHeard_15 : decode cX0_takeAsHeard 15 = .ok (.aload_n 0, 1) := by decide +kernel
theorem dX0_takeAsHeard_16 : decode cX0_takeAsHeard 16 = .ok (.getfield 20, 3) := by decide +kernel
theorem dX0_takeAsHeard_19 : decode cX0_takeAsHeard 19 = .ok (.iload_n 2, 1) := by decide +kernel
theorem dX0_takeAsHeard_20 : decode cX0_takeAsHeard 20 = .ok (.aaload, 1) := by decide +kernel
theorem dX0_takeAsHeard_21 : decode cX0_takeAsHeard 21 = .ok (.aload_n 0, 1) := by decide +kernel
theorem dX0_takeAsHeard_22 : decode cX0_takeAsHeard 22 = .ok (.getfield 20, 3) := by decide +kernel
theorem dX0_takeAsHeard_25 : decode cX0_takeAsHeard 25 = .ok (.iload_n 2, 1) := by decide +kernel
theorem dX0_takeAsHeard_26 : decode cX0_takeAsHeard 26 = .ok (.aaload, 1) := by decide +kernel
theorem dX0_takeAsHeard_27 : decode cX0_takeAsHeard 27 = .ok (.getfield 57, 3) := by decide +kernel
theorem dX0_takeAsHeard_30 : decode cX0_takeAsHeard 30 = .ok (.putfield 61, 3) := by decide +kernel
theorem dX0_takeAsHeard_33 : decode cX0_takeAsHeard 33 = .ok (.iinc 2 1, 3) := by decide +kernel
theorem dX0_takeAsHeard_36 : decode cX0_takeAsHeard 36 = .ok (.goto (-29), 3) := by decide +kernel
theorem dX0_takeAsHeard_39 : decode cX0_takeAsHeard 39 = .ok (.aload_n 0, 1) := by decide +kernel
theorem dX0_takeAsHeard_40 : decode cX0_takeAsHeard 40 = .ok (.invokevirtual 64, 3) := by decide +kernel
theorem dX0_takeAsHeard_43 : decode cX0_takeAsHeard 43 = .ok (.return_, 1) := by decide +kernel
theorem dX0_wireNumbered_0 : decode cX0_wireNumbered 0 = .ok (.iload_n 1, 1) := by decide +kernel
theorem dX0_wireNumbered_1 : decode cX0_wireNumbered 1 = .ok (.ifCond .lt 20, 3) := by decide +kernel
theorem dX0_wireNumbered_4 : decode cX0_wireNumbered 4 = .ok (.iload_n 1, 1) := by decide +kernel
theorem dX0_wireNumbered_5 : decode cX0_wireNumbered 5 = .ok (.aload_n 0, 1) := by decide +kernel
theorem dX0_wireNumbered_6 : decode cX0_wireNumbered 6 = .ok (.getfield 38, 3) := by decide +kernel
theorem dX0_wireNumbered_9 : decode cX0_wireNumbered 9 = .ok (.if_icmp .ge 12, 3) := by decide +kernel
theorem dX0_wireNumbered_12 : decode cX0_wireNumbered 12 = .ok (.aload_n 0, 1) := by decide +kernel
theorem dX0_wireNumbered_13 : decode cX0_wireNumbered 13 = .ok (.getfield 20, 3) := by decide +kernel
theorem dX0_wireNumbered_16 : decode cX0_wireNumbered 16 = .ok (.iload_n 1, 1) := by decide +kernel
theorem dX0_wireNumbered_17 : decode cX0_wireNumbered 17 = .ok (.aaload, 1) := by decide +kernel
theorem dX0_wireNumbered_18 : decode cX0_wireNumbered 18 = .ok (.goto 4, 3) := by decide +kernel
theorem dX0_wireNumbered_21 : decode cX0_wireNumbered 21 = .ok (.aconst_null, 1) := by decide +kernel
theorem dX0_wireNumbered_22 : decode cX0_wireNumbered 22 = .ok (.areturn, 1) := by decide +kernel
theorem dX0_changeSetting_0 : decode cX0_changeSetting 0 = .ok (.iload_n 2, 1) := by decide +kernel
theorem dX0_changeSetting_1 : decode cX0_changeSetting 1 = .ok (.iconst 0, 1) := by decide +kernel
theorem dX0_changeSetting_2 : decode cX0_changeSetting 2 = .ok (.bipush 100, 2) := by decide +kernel
theorem dX0_changeSetting_4 : decode cX0_changeSetting 4 = .ok (.invokestatic 67, 3) := by decide +kernel
theorem dX0_changeSetting_7 : decode cX0_changeSetting 7 = .ok (.ifCond .ne 6, 3) := by decide +kernel
theorem dX0_changeSetting_10 : decode cX0_changeSetting 10 = .ok (.bipush (-2), 2) := by decide +kernel
theorem dX0_changeSetting_12 : decode cX0_changeSetting 12 = .ok (.ireturn, 1) := by decide +kernel
theorem dX0_changeSetting_13 : decode cX0_changeSetting 13 = .ok (.iload_n 1, 1) := by decide +kernel
theorem dX0_changeSetting_14 : decode cX0_changeSetting 14 = .ok (.ifCond .ne 15, 3) := by decide +kernel
theorem dX0_changeSetting_17 : decode cX0_changeSetting 17 = .ok (.aload_n 0, 1) := by decide +kernel
theorem dX0_changeSetting_18 : decode cX0_changeSetting 18 = .ok (.getfield 25, 3) := by decide +kernel
theorem dX0_changeSetting_21 : decode cX0_changeSetting 21 = .ok (.istore_n 3, 1) := by decide +kernel
theorem dX0_changeSetting_22 : decode cX0_changeSetting 22 = .ok (.aload_n 0, 1) := by decide +kernel
theorem dX0_changeSetting_23 : decode cX0_changeSetting 23 = .ok (.iload_n 2, 1) := by decide +kernel
theorem dX0_changeSetting_24 : decode cX0_changeSetting 24 = .ok (.putfield 25, 3) := by decide +kernel
theorem dX0_changeSetting_27 : decode cX0_changeSetting 27 = .ok (.iload_n 3, 1) := by decide +kernel
theorem dX0_changeSetting_28 : decode cX0_changeSetting 28 = .ok (.ireturn, 1) := by decide +kernel
theorem dX0_changeSetting_29 : decode cX0_changeSetting 29 = .ok (.iload_n 1, 1) := by decide +kernel
theorem dX0_changeSetting_30 : decode cX0_changeSetting 30 = .ok (.iconst 1, 1) := by decide +kernel
theorem dX0_changeSetting_31 : decode cX0_changeSetting 31 = .ok (.if_icmp .ne 15, 3) := by decide +kernel
theorem dX0_changeSetting_34 : decode cX0_changeSetting 34 = .ok (.aload_n 0, 1) := by decide +kernel
theorem dX0_changeSetting_35 : decode cX0_changeSetting 35 = .ok (.getfield 29, 3) := by decide +kernel
theorem dX0_changeSetting_38 : decode cX0_changeSetting 38 = .ok (.istore_n 3, 1) := by decide +kernel
theorem dX0_changeSetting_39 : decode cX0_changeSetting 39 = .ok (.aload_n 0, 1) := by decide +kernel
theorem dX0_changeSetting_40 : decode cX0_changeSetting 40 = .ok (.iload_n 2, 1) := by decide +kernel
theorem dX0_changeSetting_41 : decode cX0_changeSetting 41 = .ok (.putfield 29, 3) := by decide +kernel
theorem dX0_changeSetting_44 : decode cX0_changeSetting 44 = .ok (.iload_n 3, 1) := by decide +kernel
theorem dX0_changeSetting_45 : decode cX0_changeSetting 45 = .ok (.ireturn, 1) := by decide +kernel
theorem dX0_changeSetting_46 : decode cX0_changeSetting 46 = .ok (.bipush (-2), 2) := by decide +kernel
theorem dX0_changeSetting_48 : decode cX0_changeSetting 48 = .ok (.ireturn, 1) := by decide +kernel
theorem dX0_hang_0 : decode cX0_hang 0 = .ok (.iload_n 1, 1) := by decide +kernel
theorem dX0_hang_1 : decode cX0_hang 1 = .ok (.iconst 0, 1) := by decide +kernel
theorem dX0_hang_2 : decode cX0_hang 2 = .ok (.bipush 19, 2) := by decide +kernel
theorem dX0_hang_4 : decode cX0_hang 4 = .ok (.invokestatic 67, 3) := by decide +kernel
theorem dX0_hang_7 : decode cX0_hang 7 = .ok (.ifCond .eq 48, 3) := by decide +kernel
theorem dX0_hang_10 : decode cX0_hang 10 = .ok (.iload_n 2, 1) := by decide +kernel
theorem dX0_hang_11 : decode cX0_hang 11 = .ok (.bipush 10, 2) := by decide +kernel
theorem dX0_hang_13 : decode cX0_hang 13 = .ok (.sipush 200, 3) := by decide +kernel
theorem dX0_hang_16 : decode cX0_hang 16 = .ok (.invokestatic 67, 3) := by decide +kernel
theorem dX0_hang_19 : decode cX0_hang 19 = .ok (.ifCond .eq 36, 3) := by decide +kernel
theorem dX0_hang_22 : decode cX0_hang 22 = .ok (.iload_n 3, 1) := by decide +kernel
theorem dX0_hang_23 : decode cX0_hang 23 = .ok (.iconst 1, 1) := by decide +kernel
theorem dX0_hang_24 : decode cX0_hang 24 = .ok (.bipush 20, 2) := by decide +kernel
theorem dX0_hang_26 : decode cX0_hang 26 = .ok (.invokestatic 67, 3) := by decide +kernel
theorem dX0_hang_29 : decode cX0_hang 29 = .ok (.ifCond .eq 26, 3) := by decide +kernel
theorem dX0_hang_32 : decode cX0_hang 32 = .ok (.iload 4, 2) := by decide +kernel
theorem dX0_hang_34 : decode cX0_hang 34 = .ok (.bipush 100, 2) := by decide +kernel
theorem dX0_hang_36 : decode cX0_hang 36 = .ok (.ldc 71, 2) := by decide +kernel
theorem dX0_hang_38 : decode cX0_hang 38 = .ok (.invokestatic 67, 3) := by decide +kernel
theorem dX0_hang_41 : decode cX0_hang 41 = .ok (.ifCond .eq 14, 3) := by decide +kernel
theorem dX0_hang_44 : decode cX0_hang 44 = .ok (.iload 5, 2) := by decide +kernel
theorem dX0_hang_46 : decode cX0_hang 46 = .ok (.iconst 0, 1) := by decide +kernel
theorem dX0_hang_47 : decode cX0_hang 47 = .ok (.ldc 71, 2) := by decide +kernel
theorem dX0_hang_49 : decode cX0_hang 49 = .ok (.invokestatic 67, 3) := by decide +kernel
theorem dX0_hang_52 : decode cX0_hang 52 = .ok (.ifCond .ne 6, 3) := by decide +kernel
theorem dX0_hang_55 : decode cX0_hang 55 = .ok (.bipush (-2), 2) := by decide +kernel
theorem dX0_hang_57 : decode cX0_hang 57 = .ok (.ireturn, 1) := by decide +kernel
theorem dX0_hang_58 : decode cX0_hang 58 = .ok (.aload_n 0, 1) := by decide +kernel
theorem dX0_hang_59 : decode cX0_hang 59 = .ok (.getfield 38, 3) := by decide +kernel
theorem dX0_hang_62 : decode cX0_hang 62 = .ok (.bipush 8, 2) := by decide +kernel
theorem dX0_hang_64 : decode cX0_hang 64 = .ok (.if_icmp .lt 6, 3) := by decide +kernel
theorem dX0_hang_67 : decode cX0_hang 67 = .ok (.bipush (-4), 2) := by decide +kernel
theorem dX0_hang_69 : decode cX0_hang 69 = .ok (.ireturn, 1) := by decide +kernel
theorem dX0_hang_70 : decode cX0_hang 70 = .ok (.aload_n 0, 1) := by decide +kernel
theorem dX0_hang_71 : decode cX0_hang 71 = .ok (.getfield 15, 3) := by decide +kernel
theorem dX0_hang_74 : decode cX0_hang 74 = .ok (.iload_n 1, 1) := by decide +kernel
theorem dX0_hang_75 : decode cX0_hang 75 = .ok (.iaload, 1) := by decide +kernel
theorem dX0_hang_76 : decode cX0_hang 76 = .ok (.iconst (-1), 1) := by decide +kernel
theorem dX0_hang_77 : decode cX0_hang 77 = .ok (.if_icmp .ne 10, 3) := by decide +kernel
theorem dX0_hang_80 : decode cX0_hang 80 = .ok (.iload 5, 2) := by decide +kernel
theorem dX0_hang_82 : decode cX0_hang 82 = .ok (.iload 4, 2) := by decide +kernel
theorem dX0_hang_84 : decode cX0_hang 84 = .ok (.if_icmp .le 6, 3) := by decide +kernel
theorem dX0_hang_87 : decode cX0_hang 87 = .ok (.bipush (-5), 2) := by decide +kernel
theorem dX0_hang_89 : decode cX0_hang 89 = .ok (.ireturn, 1) := by decide +kernel
theorem dX0_hang_90 : decode cX0_hang 90 = .ok (.aload_n 0, 1) := by decide +kernel
theorem dX0_hang_91 : decode cX0_hang 91 = .ok (.getfield 38, 3) := by decide +kernel
theorem dX0_hang_94 : decode cX0_hang 94 = .ok (.istore 6, 2) := by decide +kernel
theorem dX0_hang_96 : decode cX0_hang 96 = .ok (.aload_n 0, 1) := by decide +kernel
theorem dX0_hang_97 : decode cX0_hang 97 = .ok (.getfield 20, 3) := by decide +kernel
theorem dX0_hang_100 : decode cX0_hang 100 = .ok (.iload 6, 2) := by decide +kernel
theorem dX0_hang_102 : decode cX0_hang 102 = .ok (.aaload, 1) := by decide +kernel
theorem dX0_hang_103 : decode cX0_hang 103 = .ok (.iload_n 1, 1) := by decide +kernel
theorem dX0_hang_104 : decode cX0_hang 104 = .ok (.iload_n 2, 1) := by decide +kernel
theorem dX0_hang_105 : decode cX0_hang 105 = .ok (.iload_n 3, 1) := by decide +kernel
theorem dX0_hang_106 : decode cX0_hang 106 = .ok (.iload 4, 2) := by decide +kernel
theorem dX0_hang_108 : decode cX0_hang 108 = .ok (.iload 5, 2) := by decide +kernel
theorem dX0_hang_110 : decode cX0_hang 110 = .ok (.invokevirtual 72, 3) := by decide +kernel
theorem dX0_hang_113 : decode cX0_hang 113 = .ok (.aload_n 0, 1) := by decide +kernel
theorem dX0_hang_114 : decode cX0_hang 114 = .ok (.getfield 15, 3) := by decide +kernel
theorem dX0_hang_117 : decode cX0_hang 117 = .ok (.iload_n 1, 1) := by decide +kernel
theorem dX0_hang_118 : decode cX0_hang 118 = .ok (.iload 6, 2) := by decide +kernel
theorem dX0_hang_120 : decode cX0_hang 120 = .ok (.iastore, 1) := by decide +kernel
theorem dX0_hang_121 : decode cX0_hang 121 = .ok (.aload_n 0, 1) := by decide +kernel
theorem dX0_hang_122 : decode cX0_hang 122 = .ok (.dup, 1) := by decide +kernel
theorem dX0_hang_123 : decode cX0_hang 123 = .ok (.getfield 38, 3) := by decide +kernel
theorem dX0_hang_126 : decode cX0_hang 126 = .ok (.iconst 1, 1) := by decide +kernel
theorem dX0_hang_127 : decode cX0_hang 127 = .ok (.iadd, 1) := by decide +kernel
theorem dX0_hang_128 : decode cX0_hang 128 = .ok (.putfield 38, 3) := by decide +kernel
theorem dX0_hang_131 : decode cX0_hang 131 = .ok (.aload_n 0, 1) := by decide +kernel
theorem dX0_hang_132 : decode cX0_hang 132 = .ok (.invokevirtual 64, 3) := by decide +kernel
theorem dX0_hang_135 : decode cX0_hang 135 = .ok (.aload_n 0, 1) := by decide +kernel
theorem dX0_hang_136 : decode cX0_hang 136 = .ok (.invokevirtual 76, 3) := by decide +kernel
theorem dX0_hang_139 : decode cX0_hang 139 = .ok (.pop, 1) := by decide +kernel
theorem dX0_hang_140 : decode cX0_hang 140 = .ok (.iload 6, 2) := by decide +kernel
theorem dX0_hang_142 : decode cX0_hang 142 = .ok (.ireturn, 1) := by decide +kernel
theorem dX0_changeLoad_0 : decode cX0_changeLoad 0 = .ok (.iload_n 1, 1) := by decide +kernel
theorem dX0_changeLoad_1 : decode cX0_changeLoad 1 = .ok (.iconst 0, 1) := by decide +kernel
theorem dX0_changeLoad_2 : decode cX0_changeLoad 2 = .ok (.bipush 19, 2) := by decide +kernel
theorem dX0_changeLoad_4 : decode cX0_changeLoad 4 = .ok (.invokestatic 67, 3) := by decide +kernel
theorem dX0_changeLoad_7 : decode cX0_changeLoad 7 = .ok (.ifCond .ne 5, 3) := by decide +kernel
theorem dX0_changeLoad_10 : decode cX0_changeLoad 10 = .ok (.iconst (-1), 1) := by decide +kernel
theorem dX0_changeLoad_11 : decode cX0_changeLoad 11 = .ok (.ireturn, 1) := by decide +kernel
theorem dX0_changeLoad_12 : decode cX0_changeLoad 12 = .ok (.iload_n 2, 1) := by decide +kernel
theorem dX0_changeLoad_13 : decode cX0_changeLoad 13 = .ok (.iconst 0, 1) := by decide +kernel
theorem dX0_changeLoad_14 : decode cX0_changeLoad 14 = .ok (.sipush 1000, 3) := by decide +kernel
theorem dX0_changeLoad_17 : decode cX0_changeLoad 17 = .ok (.invokestatic 67, 3) := by decide +kernel
theorem dX0_changeLoad_20 : decode cX0_changeLoad 20 = .ok (.ifCond .ne 6, 3) := by decide +kernel
theorem dX0_changeLoad_23 : decode cX0_changeLoad 23 = .ok (.bipush (-2), 2) := by decide +kernel
theorem dX0_changeLoad_25 : decode cX0_changeLoad 25 = .ok (.ireturn, 1) := by decide +kernel
theorem dX0_changeLoad_26 : decode cX0_changeLoad 26 = .ok (.aload_n 0, 1) := by decide +kernel
theorem dX0_changeLoad_27 : decode cX0_changeLoad 27 = .ok (.getfield 9, 3) := by decide +kernel
theorem dX0_changeLoad_30 : decode cX0_changeLoad 30 = .ok (.iload_n 1, 1) := by decide +kernel
theorem dX0_changeLoad_31 : decode cX0_changeLoad 31 = .ok (.iaload, 1) := by decide +kernel
theorem dX0_changeLoad_32 : decode cX0_changeLoad 32 = .ok (.istore_n 3, 1) := by decide +kernel
theorem dX0_changeLoad_33 : decode cX0_changeLoad 33 = .ok (.aload_n 0, 1) := by decide +kernel
theorem dX0_changeLoad_34 : decode cX0_changeLoad 34 = .ok (.getfield 9, 3) := by decide +kernel
theorem dX0_changeLoad_37 : decode cX0_changeLoad 37 = .ok (.iload_n 1, 1) := by decide +kernel
theorem dX0_changeLoad_38 : decode cX0_changeLoad 38 = .ok (.iload_n 2, 1) := by decide +kernel
theorem dX0_changeLoad_39 : decode cX0_changeLoad 39 = .ok (.iastore, 1) := by decide +kernel
theorem dX0_changeLoad_40 : decode cX0_changeLoad 40 = .ok (.aload_n 0, 1) := by decide +kernel
theorem dX0_changeLoad_41 : decode cX0_changeLoad 41 = .ok (.invokevirtual 64, 3) := by decide +kernel
theorem dX0_changeLoad_44 : decode cX0_changeLoad 44 = .ok (.aload_n 0, 1) := by decide +kernel
theorem dX0_changeLoad_45 : decode cX0_changeLoad 45 = .ok (.invokevirtual 76, 3) := by decide +kernel
theorem dX0_changeLoad_48 : decode cX0_changeLoad 48 = .ok (.pop, 1) := by decide +kernel
theorem dX0_changeLoad_49 : decode cX0_changeLoad 49 = .ok (.iload_n 3, 1) := by decide +kernel
theorem dX0_changeLoad_50 : decode cX0_changeLoad 50 = .ok (.ireturn, 1) := by decide +kernel
theorem dX0_letPass_0 : decode cX0_letPass 0 = .ok (.iload_n 1, 1) := by decide +kernel
theorem dX0_letPass_1 : decode cX0_letPass 1 = .ok (.iconst 1, 1) := by decide +kernel
theorem dX0_letPass_2 : decode cX0_letPass 2 = .ok (.bipush 100, 2) := by decide +kernel
theorem dX0_letPass_4 : decode cX0_letPass 4 = .ok (.invokestatic 67, 3) := by decide +kernel
theorem dX0_letPass_7 : decode cX0_letPass 7 = .ok (.ifCond .ne 6, 3) := by decide +kernel
theorem dX0_letPass_10 : decode cX0_letPass 10 = .ok (.bipush (-2), 2) := by decide +kernel
theorem dX0_letPass_12 : decode cX0_letPass 12 = .ok (.ireturn, 1) := by decide +kernel
theorem dX0_letPass_13 : decode cX0_letPass 13 = .ok (.iconst 0, 1) := by decide +kernel
theorem dX0_letPass_14 : decode cX0_letPass 14 = .ok (.istore_n 2, 1) := by decide +kernel
theorem dX0_letPass_15 : decode cX0_letPass 15 = .ok (.iconst 0, 1) := by decide +kernel
theorem dX0_letPass_16 : decode cX0_letPass 16 = .ok (.istore_n 3, 1) := by decide +kernel
theorem dX0_letPass_17 : decode cX0_letPass 17 = .ok (.iload_n 3, 1) := by decide +kernel
theorem dX0_letPass_18 : decode cX0_letPass 18 = .ok (.iload_n 1, 1) := by decide +kernel
theorem dX0_letPass_19 : decode cX0_letPass 19 = .ok (.if_icmp .ge 61, 3) := by decide +kernel
theorem dX0_letPass_22 : decode cX0_letPass 22 = .ok (.iconst 0, 1) := by decide +kernel
theorem dX0_letPass_23 : decode cX0_letPass 23 = .ok (.istore 4, 2) := by decide +kernel
theorem dX0_letPass_25 : decode cX0_letPass 25 = .ok (.iload 4, 2) := by decide +kernel
theorem dX0_letPass_27 : decode cX0_letPass 27 = .ok (.aload_n 0, 1) := by decide +kernel
theorem dX0_letPass_28 : decode cX0_letPass 28 = .ok (.getfield 38, 3) := by decide +kernel
theorem dX0_letPass_31 : decode cX0_letPass 31 = .ok (.if_icmp .ge 23, 3) := by decide +kernel
theorem dX0_letPass_34 : decode cX0_letPass 34 = .ok (.aload_n 0, 1) := by decide +kernel
theorem dX0_letPass_35 : decode cX0_letPass 35 = .ok (.getfield 20, 3) := by decide +kernel
theorem dX0_letPass_38 : decode cX0_letPass 38 = .ok (.iload 4, 2) := by decide +kernel
theorem dX0_letPass_40 : decode cX0_letPass 40 = .ok (.aaload, 1) := by decide +kernel
theorem dX0_letPass_41 : decode cX0_letPass 41 = .ok (.aload_n 0, 1) := by decide +kernel
theorem dX0_letPass_42 : decode cX0_letPass 42 = .ok (.getfield 25, 3) := by decide +kernel
theorem dX0_letPass_45 : decode cX0_letPass 45 = .ok (.invokevirtual 80, 3) := by decide +kernel
theorem dX0_letPass_48 : decode cX0_letPass 48 = .ok (.iinc 4 1, 3) := by decide +kernel
theorem dX0_letPass_51 : decode cX0_letPass 51 = .ok (.goto (-26), 3) := by decide +kernel
theorem dX0_letPass_54 : decode cX0_letPass 54 = .ok (.iload_n 2, 1) := by decide +kernel
theorem dX0_letPass_55 : decode cX0_letPass 55 = .ok (.aload_n 0, 1) := by decide +kernel
theorem dX0_letPass_56 : decode cX0_letPass 56 = .ok (.invokevirtual 76, 3) := by decide +kernel
theorem dX0_letPass_59 : decode cX0_letPass 59 = .ok (.invokestatic 84, 3) := by decide +kernel
theorem dX0_letPass_62 : decode cX0_letPass 62 = .ok (.iadd, 1) := by decide +kernel
theorem dX0_letPass_63 : decode cX0_letPass 63 = .ok (.istore_n 2, 1) := by decide +kernel
theorem dX0_letPass_64 : decode cX0_letPass 64 = .ok (.aload_n 0, 1) := by decide +kernel
theorem dX0_letPass_65 : decode cX0_letPass 65 = .ok (.dup, 1) := by decide +kernel
theorem dX0_letPass_66 : decode cX0_letPass 66 = .ok (.getfield 45, 3) := by decide +kernel
theorem dX0_letPass_69 : decode cX0_letPass 69 = .ok (.iconst 1, 1) := by decide +kernel
theorem dX0_letPass_70 : decode cX0_letPass 70 = .ok (.iadd, 1) := by decide +kernel
theorem dX0_letPass_71 : decode cX0_letPass 71 = .ok (.putfield 45, 3) := by decide +kernel
theorem dX0_letPass_74 : decode cX0_letPass 74 = .ok (.iinc 3 1, 3) := by decide +kernel
theorem dX0_letPass_77 : decode cX0_letPass 77 = .ok (.goto (-60), 3) := by decide +kernel
theorem dX0_letPass_80 : decode cX0_letPass 80 = .ok (.iload_n 2, 1) := by decide +kernel
theorem dX0_letPass_81 : decode cX0_letPass 81 = .ok (.ireturn, 1) := by decide +kernel
theorem dX0_goTo_0 : decode cX0_goTo 0 = .ok (.iload_n 1, 1) := by decide +kernel
theorem dX0_goTo_1 : decode cX0_goTo 1 = .ok (.iconst 0, 1) := by decide +kernel
theorem dX0_goTo_2 : decode cX0_goTo 2 = .ok (.bipush 19, 2) := by decide +kernel
theorem dX0_goTo_4 : decode cX0_goTo 4 = .ok (.invokestatic 67, 3) := by decide +kernel
theorem dX0_goTo_7 : decode cX0_goTo 7 = .ok (.ifCond .ne 5, 3) := by decide +kernel
theorem dX0_goTo_10 : decode cX0_goTo 10 = .ok (.iconst (-1), 1) := by decide +kernel
theorem dX0_goTo_11 : decode cX0_goTo 11 = .ok (.ireturn, 1) := by decide +kernel
theorem dX0_goTo_12 : decode cX0_goTo 12 = .ok (.iload_n 1, 1) := by decide +kernel
theorem dX0_goTo_13 : decode cX0_goTo 13 = .ok (.aload_n 0, 1) := by decide +kernel
theorem dX0_goTo_14 : decode cX0_goTo 14 = .ok (.getfield 48, 3) := by decide +kernel
theorem dX0_goTo_17 : decode cX0_goTo 17 = .ok (.isub, 1) := by decide +kernel
theorem dX0_goTo_18 : decode cX0_goTo 18 = .ok (.invokestatic 90, 3) := by decide +kernel
theorem dX0_goTo_21 : decode cX0_goTo 21 = .ok (.istore_n 2, 1) := by decide +kernel
theorem dX0_goTo_22 : decode cX0_goTo 22 = .ok (.aload_n 0, 1) := by decide +kernel
theorem dX0_goTo_23 : decode cX0_goTo 23 = .ok (.iload_n 1, 1) := by decide +kernel
theorem dX0_goTo_24 : decode cX0_goTo 24 = .ok (.putfield 48, 3) := by decide +kernel
theorem dX0_goTo_27 : decode cX0_goTo 27 = .ok (.aload_n 0, 1) := by decide +kernel
theorem dX0_goTo_28 : decode cX0_goTo 28 = .ok (.dup, 1) := by decide +kernel
theorem dX0_goTo_29 : decode cX0_goTo 29 = .ok (.getfield 51, 3) := by decide +kernel
theorem dX0_goTo_32 : decode cX0_goTo 32 = .ok (.iload_n 2, 1) := by decide +kernel
theorem dX0_goTo_33 : decode cX0_goTo 33 = .ok (.iadd, 1) := by decide +kernel
theorem dX0_goTo_34 : decode cX0_goTo 34 = .ok (.putfield 51, 3) := by decide +kernel
theorem dX0_goTo_37 : decode cX0_goTo 37 = .ok (.iload_n 2, 1) := by decide +kernel
theorem dX0_goTo_38 : decode cX0_goTo 38 = .ok (.ireturn, 1) := by decide +kernel
theorem dX0_wireHere_0 : decode cX0_wireHere 0 = .ok (.aload_n 0, 1) := by decide +kernel
theorem dX0_wireHere_1 : decode cX0_wireHere 1 = .ok (.getfield 48, 3) := by decide +kernel
theorem dX0_wireHere_4 : decode cX0_wireHere 4 = .ok (.iconst 0, 1) := by decide +kernel
theorem dX0_wireHere_5 : decode cX0_wireHere 5 = .ok (.bipush 19, 2) := by decide +kernel
theorem dX0_wireHere_7 : decode cX0_wireHere 7 = .ok (.invokestatic 67, 3) := by decide +kernel
theorem dX0_wireHere_10 : decode cX0_wireHere 10 = .ok (.ifCond .eq 19, 3) := by decide +kernel
theorem dX0_wireHere_13 : decode cX0_wireHere 13 = .ok (.aload_n 0, 1) := by decide +kernel
theorem dX0_wireHere_14 : decode cX0_wireHere 14 = .ok (.aload_n 0, 1) := by decide +kernel
theorem dX0_wireHere_15 : decode cX0_wireHere 15 = .ok (.getfield 15, 3) := by decide +kernel
theorem dX0_wireHere_18 : decode cX0_wireHere 18 = .ok (.aload_n 0, 1) := by decide +kernel
theorem dX0_wireHere_19 : decode cX0_wireHere 19 = .ok (.getfield 48, 3) := by decide +kernel
theorem dX0_wireHere_22 : decode cX0_wireHere 22 = .ok (.iaload, 1) := by decide +kernel
theorem dX0_wireHere_23 : decode cX0_wireHere 23 = .ok (.invokevirtual 95, 3) := by decide +kernel
theorem dX0_wireHere_26 : decode cX0_wireHere 26 = .ok (.goto 4, 3) := by decide +kernel
theorem dX0_wireHere_29 : decode cX0_wireHere 29 = .ok (.aconst_null, 1) := by decide +kernel
theorem dX0_wireHere_30 : decode cX0_wireHere 30 = .ok (.areturn, 1) := by decide +kernel
theorem dX0_listen_0 : decode cX0_listen 0 = .ok (.aload_n 0, 1) := by decide +kernel
theorem dX0_listen_1 : decode cX0_listen 1 = .ok (.invokevirtual 99, 3) := by decide +kernel
theorem dX0_listen_4 : decode cX0_listen 4 = .ok (.astore_n 1, 1) := by decide +kernel
theorem dX0_listen_5 : decode cX0_listen 5 = .ok (.aload_n 1, 1) := by decide +kernel
theorem dX0_listen_6 : decode cX0_listen 6 = .ok (.ifnonnull 8, 3) := by decide +kernel
theorem dX0_listen_9 : decode cX0_listen 9 = .ok (.bipush (-5), 2) := by decide +kernel
theorem dX0_listen_11 : decode cX0_listen 11 = .ok (.goto 11, 3) := by decide +kernel
theorem dX0_listen_14 : decode cX0_listen 14 = .ok (.aload_n 1, 1) := by decide +kernel
theorem dX0_listen_15 : decode cX0_listen 15 = .ok (.aload_n 0, 1) := by decide +kernel
theorem dX0_listen_16 : decode cX0_listen 16 = .ok (.getfield 45, 3) := by decide +kernel
theorem dX0_listen_19 : decode cX0_listen 19 = .ok (.invokevirtual 103, 3) := by decide +kernel
theorem dX0_listen_22 : decode cX0_listen 22 = .ok (.ireturn, 1) := by decide +kernel
theorem dX0_changeTension_0 : decode cX0_changeTension 0 = .ok (.iload_n 1, 1) := by decide +kernel
theorem dX0_changeTension_1 : decode cX0_changeTension 1 = .ok (.iconst 0, 1) := by decide +kernel
theorem dX0_changeTension_2 : decode cX0_changeTension 2 = .ok (.ldc 71, 2) := by decide +kernel
theorem dX0_changeTension_4 : decode cX0_changeTension 4 = .ok (.invokestatic 67, 3) := by decide +kernel
theorem dX0_changeTension_7 : decode cX0_changeTension 7 = .ok (.ifCond .ne 6, 3) := by decide +kernel
theorem dX0_changeTension_10 : decode cX0_changeTension 10 = .ok (.bipush (-2), 2) := by decide +kernel
theorem dX0_changeTension_12 : decode cX0_changeTension 12 = .ok (.ireturn, 1) := by decide +kernel
theorem dX0_changeTension_13 : decode cX0_changeTension 13 = .ok (.aload_n 0, 1) := by decide +kernel
theorem dX0_changeTension_14 : decode cX0_changeTension 14 = .ok (.invokevirtual 99, 3) := by decide +kernel
theorem dX0_changeTension_17 : decode cX0_changeTension 17 = .ok (.astore_n 2, 1) := by decide +kernel
theorem dX0_changeTension_18 : decode cX0_changeTension 18 = .ok (.aload_n 2, 1) := by decide +kernel
theorem dX0_changeTension_19 : decode cX0_changeTension 19 = .ok (.ifnull 18, 3) := by decide +kernel
theorem dX0_changeTension_22 : decode cX0_changeTension 22 = .ok (.aload_n 2, 1) := by decide +kernel
theorem dX0_changeTension_23 : decode cX0_changeTension 23 = .ok (.getfield 61, 3) := by decide +kernel
theorem dX0_changeTension_26 : decode cX0_changeTension 26 = .ok (.ifCond .ne 11, 3) := by decide +kernel
theorem dX0_changeTension_29 : decode cX0_changeTension 29 = .ok (.iload_n 1, 1) := by decide +kernel
theorem dX0_changeTension_30 : decode cX0_changeTension 30 = .ok (.aload_n 2, 1) := by decide +kernel
theorem dX0_changeTension_31 : decode cX0_changeTension 31 = .ok (.getfield 106, 3) := by decide +kernel
theorem dX0_changeTension_34 : decode cX0_changeTension 34 = .ok (.if_icmp .le 6, 3) := by decide +kernel
theorem dX0_changeTension_37 : decode cX0_changeTension 37 = .ok (.bipush (-5), 2) := by decide +kernel
theorem dX0_changeTension_39 : decode cX0_changeTension 39 = .ok (.ireturn, 1) := by decide +kernel
theorem dX0_changeTension_40 : decode cX0_changeTension 40 = .ok (.aload_n 2, 1) := by decide +kernel
theorem dX0_changeTension_41 : decode cX0_changeTension 41 = .ok (.getfield 109, 3) := by decide +kernel
theorem dX0_changeTension_44 : decode cX0_changeTension 44 = .ok (.istore_n 3, 1) := by decide +kernel
theorem dX0_changeTension_45 : decode cX0_changeTension 45 = .ok (.aload_n 2, 1) := by decide +kernel
theorem dX0_changeTension_46 : decode cX0_changeTension 46 = .ok (.iload_n 1, 1) := by decide +kernel
theorem dX0_changeTension_47 : decode cX0_changeTension 47 = .ok (.aload_n 0, 1) := by decide +kernel
theorem dX0_changeTension_48 : decode cX0_changeTension 48 = .ok (.getfield 45, 3) := by decide +kernel
theorem dX0_changeTension_51 : decode cX0_changeTension 51 = .ok (.invokevirtual 112, 3) := by decide +kernel
theorem dX0_changeTension_54 : decode cX0_changeTension 54 = .ok (.iload_n 3, 1) := by decide +kernel
theorem dX0_changeTension_55 : decode cX0_changeTension 55 = .ok (.ireturn, 1) := by decide +kernel
theorem dX0_settle_0 : decode cX0_settle 0 = .ok (.iconst 0, 1) := by decide +kernel
theorem dX0_settle_1 : decode cX0_settle 1 = .ok (.istore_n 1, 1) := by decide +kernel
theorem dX0_settle_2 : decode cX0_settle 2 = .ok (.iconst 0, 1) := by decide +kernel
theorem dX0_settle_3 : decode cX0_settle 3 = .ok (.istore_n 2, 1) := by decide +kernel
theorem dX0_settle_4 : decode cX0_settle 4 = .ok (.iload_n 2, 1) := by decide +kernel
theorem dX0_settle_5 : decode cX0_settle 5 = .ok (.bipush 8, 2) := by decide +kernel
theorem dX0_settle_7 : decode cX0_settle 7 = .ok (.if_icmp .ge 44, 3) := by decide +kernel
theorem dX0_settle_10 : decode cX0_settle 10 = .ok (.aload_n 0, 1) := by decide +kernel
theorem dX0_settle_11 : decode cX0_settle 11 = .ok (.invokevirtual 116, 3) := by decide +kernel
theorem dX0_settle_14 : decode cX0_settle 14 = .ok (.istore_n 3, 1) := by decide +kernel
theorem dX0_settle_15 : decode cX0_settle 15 = .ok (.iload_n 3, 1) := by decide +kernel
theorem dX0_settle_16 : decode cX0_settle 16 = .ok (.iconst (-1), 1) := by decide +kernel
theorem dX0_settle_17 : decode cX0_settle 17 = .ok (.if_icmp .ne 5, 3) := by decide +kernel
theorem dX0_settle_20 : decode cX0_settle 20 = .ok (.iload_n 1, 1) := by decide +kernel
theorem dX0_settle_21 : decode cX0_settle 21 = .ok (.ireturn, 1) := by decide +kernel
theorem dX0_settle_22 : decode cX0_settle 22 = .ok (.aload_n 0, 1) := by decide +kernel
theorem dX0_settle_23 : decode cX0_settle 23 = .ok (.getfield 20, 3) := by decide +kernel
theorem dX0_settle_26 : decode cX0_settle 26 = .ok (.iload_n 3, 1) := by decide +kernel
theorem dX0_settle_27 : decode cX0_settle 27 = .ok (.aaload, 1) := by decide +kernel
theorem dX0_settle_28 : decode cX0_settle 28 = .ok (.aload_n 0, 1) := by decide +kernel
theorem dX0_settle_29 : decode cX0_settle 29 = .ok (.getfield 45, 3) := by decide +kernel
theorem dX0_settle_32 : decode cX0_settle 32 = .ok (.invokevirtual 119, 3) := by decide +kernel
theorem dX0_settle_35 : decode cX0_settle 35 = .ok (.iload_n 1, 1) := by decide +kernel
theorem dX0_settle_36 : decode cX0_settle 36 = .ok (.iconst 1, 1) := by decide +kernel
theorem dX0_settle_37 : decode cX0_settle 37 = .ok (.iload_n 3, 1) := by decide +kernel
theorem dX0_settle_38 : decode cX0_settle 38 = .ok (.ishl, 1) := by decide +kernel
theorem dX0_settle_39 : decode cX0_settle 39 = .ok (.ior, 1) := by decide +kernel
theorem dX0_settle_40 : decode cX0_settle 40 = .ok (.istore_n 1, 1) := by decide +kernel
theorem dX0_settle_41 : decode cX0_settle 41 = .ok (.aload_n 0, 1) := by decide +kernel
theorem dX0_settle_42 : decode cX0_settle 42 = .ok (.invokevirtual 64, 3) := by decide +kernel
theorem dX0_settle_45 : decode cX0_settle 45 = .ok (.iinc 2 1, 3) := by decide +kernel
theorem dX0_settle_48 : decode cX0_settle 48 = .ok (.goto (-44), 3) := by decide +kernel
theorem dX0_settle_51 : decode cX0_settle 51 = .ok (.iload_n 1, 1) := by decide +kernel
theorem dX0_settle_52 : decode cX0_settle 52 = .ok (.ireturn, 1) := by decide +kernel
theorem dX0_worstBursting_0 : decode cX0_worstBursting 0 = .ok (.iconst (-1), 1) := by decide +kernel
theorem dX0_worstBursting_1 : decode cX0_worstBursting 1 = .ok (.istore_n 1, 1) := by decide +kernel
theorem dX0_worstBursting_2 : decode cX0_worstBursting 2 = .ok (.iconst 0, 1) := by decide +kernel
theorem dX0_worstBursting_3 : decode cX0_worstBursting 3 = .ok (.istore_n 2, 1) := by decide +kernel
theorem dX0_worstBursting_4 : decode cX0_worstBursting 4 = .ok (.iconst 0, 1) := by decide +kernel
theorem dX0_worstBursting_5 : decode cX0_worstBursting 5 = .ok (.istore_n 3, 1) := by decide +kernel
theorem dX0_worstBursting_6 : decode cX0_worstBursting 6 = .ok (.iload_n 3, 1) := by decide +kernel
theorem dX0_worstBursting_7 : decode cX0_worstBursting 7 = .ok (.aload_n 0, 1) := by decide +kernel
theorem dX0_worstBursting_8 : decode cX0_worstBursting 8 = .ok (.getfield 38, 3) := by decide +kernel
theorem dX0_worstBursting_11 : decode cX0_worstBursting 11 = .ok (.if_icmp .ge 41, 3) := by decide +kernel
theorem dX0_worstBursting_14 : decode cX0_worstBursting 14 = .ok (.aload_n 0, 1) := by decide +kernel
theorem dX0_worstBursting_15 : decode cX0_worstBursting 15 = .ok (.getfield 20, 3) := by decide +kernel
theorem dX0_worstBursting_18 : decode cX0_worstBursting 18 = .ok (.iload_n 3, 1) := by decide +kernel
theorem dX0_worstBursting_19 : decode cX0_worstBursting 19 = .ok (.aaload, 1) := by decide +kernel
theorem dX0_worstBursting_20 : decode cX0_worstBursting 20 = .ok (.getfield 122, 3) := by decide +kernel
theorem dX0_worstBursting_23 : decode cX0_worstBursting 23 = .ok (.aload_n 0, 1) := by decide +kernel
theorem dX0_worstBursting_24 : decode cX0_worstBursting 24 = .ok (.getfield 20, 3) := by decide +kernel
theorem dX0_worstBursting_27 : decode cX0_worstBursting 27 = .ok (.iload_n 3, 1) := by decide +kernel
theorem dX0_worstBursting_28 : decode cX0_worstBursting 28 = .ok (.aaload, 1) := by decide +kernel
theorem dX0_worstBursting_29 : decode cX0_worstBursting 29 = .ok (.getfield 106, 3) := by decide +kernel
theorem dX0_worstBursting_32 : decode cX0_worstBursting 32 = .ok (.isub, 1) := by decide +kernel
theorem dX0_worstBursting_33 : decode cX0_worstBursting 33 = .ok (.istore 4, 2) := by decide +kernel
theorem dX0_worstBursting_35 : decode cX0_worstBursting 35 = .ok (.iload 4, 2) := by decide +kernel
theorem dX0_worstBursting_37 : decode cX0_worstBursting 37 = .ok (.iload_n 2, 1) := by decide +kernel
theorem dX0_worstBursting_38 : decode cX0_worstBursting 38 = .ok (.if_icmp .le 8, 3) := by decide +kernel
theorem dX0_worstBursting_41 : decode cX0_worstBursting 41 = .ok (.iload_n 3, 1) := by decide +kernel
theorem dX0_worstBursting_42 : decode cX0_worstBursting 42 = .ok (.istore_n 1, 1) := by decide +kernel
theorem dX0_worstBursting_43 : decode cX0_worstBursting 43 = .ok (.iload 4, 2) := by decide +kernel
theorem dX0_worstBursting_45 : decode cX0_worstBursting 45 = .ok (.istore_n 2, 1) := by decide +kernel
theorem dX0_worstBursting_46 : decode cX0_worstBursting 46 = .ok (.iinc 3 1, 3) := by decide +kernel
theorem dX0_worstBursting_49 : decode cX0_worstBursting 49 = .ok (.goto (-43), 3) := by decide +kernel
theorem dX0_worstBursting_52 : decode cX0_worstBursting 52 = .ok (.iload_n 1, 1) := by decide +kernel
theorem dX0_worstBursting_53 : decode cX0_worstBursting 53 = .ok (.ireturn, 1) := by decide +kernel
theorem dX0_standsWith_0 : decode cX0_standsWith 0 = .ok (.iload_n 1, 1) := by decide +kernel
theorem dX0_standsWith_1 : decode cX0_standsWith 1 = .ok (.iconst 0, 1) := by decide +kernel
theorem dX0_standsWith_2 : decode cX0_standsWith 2 = .ok (.bipush 19, 2) := by decide +kernel
theorem dX0_standsWith_4 : decode cX0_standsWith 4 = .ok (.invokestatic 67, 3) := by decide +kernel
theorem dX0_standsWith_7 : decode cX0_standsWith 7 = .ok (.ifCond .ne 5, 3) := by decide +kernel
theorem dX0_standsWith_10 : decode cX0_standsWith 10 = .ok (.iconst 0, 1) := by decide +kernel
theorem dX0_standsWith_11 : decode cX0_standsWith 11 = .ok (.ireturn, 1) := by decide +kernel
theorem dX0_standsWith_12 : decode cX0_standsWith 12 = .ok (.aload_n 0, 1) := by decide +kernel
theorem dX0_standsWith_13 : decode cX0_standsWith 13 = .ok (.getfield 9, 3) := by decide +kernel
theorem dX0_standsWith_16 : decode cX0_standsWith 16 = .ok (.iload_n 1, 1) := by decide +kernel
theorem dX0_standsWith_17 : decode cX0_standsWith 17 = .ok (.iload_n 2, 1) := by decide +kernel
theorem dX0_standsWith_18 : decode cX0_standsWith 18 = .ok (.iastore, 1) := by decide +kernel
theorem dX0_standsWith_19 : decode cX0_standsWith 19 = .ok (.aload_n 0, 1) := by decide +kernel
theorem dX0_standsWith_20 : decode cX0_standsWith 20 = .ok (.invokevirtual 64, 3) := by decide +kernel
theorem dX0_standsWith_23 : decode cX0_standsWith 23 = .ok (.aload_n 0, 1) := by decide +kernel
theorem dX0_standsWith_24 : decode cX0_standsWith 24 = .ok (.invokevirtual 116, 3) := by decide +kernel
theorem dX0_standsWith_27 : decode cX0_standsWith 27 = .ok (.iconst (-1), 1) := by decide +kernel
theorem dX0_standsWith_28 : decode cX0_standsWith 28 = .ok (.if_icmp .ne 7, 3) := by decide +kernel
theorem dX0_standsWith_31 : decode cX0_standsWith 31 = .ok (.iconst 1, 1) := by decide +kernel
theorem dX0_standsWith_32 : decode cX0_standsWith 32 = .ok (.goto 4, 3) := by decide +kernel
theorem dX0_standsWith_35 : decode cX0_standsWith 35 = .ok (.iconst 0, 1) := by decide +kernel
theorem dX0_standsWith_36 : decode cX0_standsWith 36 = .ok (.ireturn, 1) := by decide +kernel
theorem dX0_reckon_0 : decode cX0_reckon 0 = .ok (.iconst 0, 1) := by decide +kernel
theorem dX0_reckon_1 : decode cX0_reckon 1 = .ok (.istore_n 1, 1) := by decide +kernel
theorem dX0_reckon_2 : decode cX0_reckon 2 = .ok (.iload_n 1, 1) := by decide +kernel
theorem dX0_reckon_3 : decode cX0_reckon 3 = .ok (.aload_n 0, 1) := by decide +kernel
theorem dX0_reckon_4 : decode cX0_reckon 4 = .ok (.getfield 38, 3) := by decide +kernel
theorem dX0_reckon_7 : decode cX0_reckon 7 = .ok (.if_icmp .ge 19, 3) := by decide +kernel
theorem dX0_reckon_10 : decode cX0_reckon 10 = .ok (.aload_n 0, 1) := by decide +kernel
theorem dX0_reckon_11 : decode cX0_reckon 11 = .ok (.getfield 20, 3) := by decide +kernel
theorem dX0_reckon_14 : decode cX0_reckon 14 = .ok (.iload_n 1, 1) := by decide +kernel
theorem dX0_reckon_15 : decode cX0_reckon 15 = .ok (.aaload, 1) := by decide +kernel
theorem dX0_reckon_16 : decode cX0_reckon 16 = .ok (.iconst 0, 1) := by decide +kernel
theorem dX0_reckon_17 : decode cX0_reckon 17 = .ok (.putfield 122, 3) := by decide +kernel
theorem dX0_reckon_20 : decode cX0_reckon 20 = .ok (.iinc 1 1, 3) := by decide +kernel
theorem dX0_reckon_23 : decode cX0_reckon 23 = .ok (.goto (-21), 3) := by decide +kernel
theorem dX0_reckon_26 : decode cX0_reckon 26 = .ok (.aconst_null, 1) := by decide +kernel
theorem dX0_reckon_27 : decode cX0_reckon 27 = .ok (.astore_n 1, 1) := by decide +kernel
theorem dX0_reckon_28 : decode cX0_reckon 28 = .ok (.aload_n 0, 1) := by decide +kernel
theorem dX0_reckon_29 : decode cX0_reckon 29 = .ok (.iconst 0, 1) := by decide +kernel
theorem dX0_reckon_30 : decode cX0_reckon 30 = .ok (.invokevirtual 125, 3) := by decide +kernel
theorem dX0_reckon_33 : decode cX0_reckon 33 = .ok (.astore_n 2, 1) := by decide +kernel
theorem dX0_reckon_34 : decode cX0_reckon 34 = .ok (.iconst 0, 1) := by decide +kernel
theorem dX0_reckon_35 : decode cX0_reckon 35 = .ok (.istore_n 3, 1) := by decide +kernel
theorem dX0_reckon_36 : decode cX0_reckon 36 = .ok (.iload_n 3, 1) := by decide +kernel
theorem dX0_reckon_37 : decode cX0_reckon 37 = .ok (.bipush 20, 2) := by decide +kernel
theorem dX0_reckon_39 : decode cX0_reckon 39 = .ok (.if_icmp .ge 48, 3) := by decide +kernel
theorem dX0_reckon_42 : decode cX0_reckon 42 = .ok (.aload_n 2, 1) := by decide +kernel
theorem dX0_reckon_43 : decode cX0_reckon 43 = .ok (.ifnull 17, 3) := by decide +kernel
theorem dX0_reckon_46 : decode cX0_reckon 46 = .ok (.aload_n 2, 1) := by decide +kernel
theorem dX0_reckon_47 : decode cX0_reckon 47 = .ok (.getfield 128, 3) := by decide +kernel
theorem dX0_reckon_50 : decode cX0_reckon 50 = .ok (.iload_n 3, 1) := by decide +kernel
theorem dX0_reckon_51 : decode cX0_reckon 51 = .ok (.if_icmp .ge 9, 3) := by decide +kernel
theorem dX0_reckon_54 : decode cX0_reckon 54 = .ok (.aload_n 0, 1) := by decide +kernel
theorem dX0_reckon_55 : decode cX0_reckon 55 = .ok (.iload_n 3, 1) := by decide +kernel
theorem dX0_reckon_56 : decode cX0_reckon 56 = .ok (.invokevirtual 125, 3) := by decide +kernel
theorem dX0_reckon_59 : decode cX0_reckon 59 = .ok (.astore_n 2, 1) := by decide +kernel
theorem dX0_reckon_60 : decode cX0_reckon 60 = .ok (.aload_n 2, 1) := by decide +kernel
theorem dX0_reckon_61 : decode cX0_reckon 61 = .ok (.ifnull 13, 3) := by decide +kernel
theorem dX0_reckon_64 : decode cX0_reckon 64 = .ok (.aload_n 2, 1) := by decide +kernel
theorem dX0_reckon_65 : decode cX0_reckon 65 = .ok (.getfield 128, 3) := by decide +kernel
theorem dX0_reckon_68 : decode cX0_reckon 68 = .ok (.iload_n 3, 1) := by decide +kernel
theorem dX0_reckon_69 : decode cX0_reckon 69 = .ok (.if_icmp .ne 5, 3) := by decide +kernel
theorem dX0_reckon_72 : decode cX0_reckon 72 = .ok (.aload_n 2, 1) := by decide +kernel
theorem dX0_reckon_73 : decode cX0_reckon 73 = .ok (.astore_n 1, 1) := by decide +kernel
theorem dX0_reckon_74 : decode cX0_reckon 74 = .ok (.aload_n 0, 1) := by decide +kernel
theorem dX0_reckon_75 : decode cX0_reckon 75 = .ok (.iload_n 3, 1) := by decide +kernel
theorem dX0_reckon_76 : decode cX0_reckon 76 = .ok (.aload_n 1, 1) := by decide +kernel
theorem dX0_reckon_77 : decode cX0_reckon 77 = .ok (.aload_n 2, 1) := by decide +kernel
theorem dX0_reckon_78 : decode cX0_reckon 78 = .ok (.invokevirtual 129, 3) := by decide +kernel
theorem dX0_reckon_81 : decode cX0_reckon 81 = .ok (.iinc 3 1, 3) := by decide +kernel
theorem dX0_reckon_84 : decode cX0_reckon 84 = .ok (.goto (-48), 3) := by decide +kernel
theorem dX0_reckon_87 : decode cX0_reckon 87 = .ok (.return_, 1) := by decide +kernel
theorem dX0_nextWhole_0 : decode cX0_nextWhole 0 = .ok (.iconst 0, 1) := by decide +kernel
theorem dX0_nextWhole_1 : decode cX0_nextWhole 1 = .ok (.istore_n 2, 1) := by decide +kernel
theorem dX0_nextWhole_2 : decode cX0_nextWhole 2 = .ok (.iload_n 2, 1) := by decide +kernel
theorem dX0_nextWhole_3 : decode cX0_nextWhole 3 = .ok (.bipush 20, 2) := by decide +kernel
theorem dX0_nextWhole_5 : decode cX0_nextWhole 5 = .ok (.if_icmp .ge 52, 3) := by decide +kernel
theorem dX0_nextWhole_8 : decode cX0_nextWhole 8 = .ok (.aload_n 0, 1) := by decide +kernel
theorem dX0_nextWhole_9 : decode cX0_nextWhole 9 = .ok (.getfield 15, 3) := by decide +kernel
theorem dX0_nextWhole_12 : decode cX0_nextWhole 12 = .ok (.iload_n 2, 1) := by decide +kernel
theorem dX0_nextWhole_13 : decode cX0_nextWhole 13 = .ok (.iaload, 1) := by decide +kernel
theorem dX0_nextWhole_14 : decode cX0_nextWhole 14 = .ok (.istore_n 3, 1) := by decide +kernel
theorem dX0_nextWhole_15 : decode cX0_nextWhole 15 = .ok (.iload_n 2, 1) := by decide +kernel
theorem dX0_nextWhole_16 : decode cX0_nextWhole 16 = .ok (.iload_n 1, 1) := by decide +kernel
theorem dX0_nextWhole_17 : decode cX0_nextWhole 17 = .ok (.if_icmp .lt 34, 3) := by decide +kernel
theorem dX0_nextWhole_20 : decode cX0_nextWhole 20 = .ok (.iload_n 3, 1) := by decide +kernel
theorem dX0_nextWhole_21 : decode cX0_nextWhole 21 = .ok (.ifCond .lt 30, 3) := by decide +kernel
theorem dX0_nextWhole_24 : decode cX0_nextWhole 24 = .ok (.iload_n 3, 1) := by decide +kernel
theorem dX0_nextWhole_25 : decode cX0_nextWhole 25 = .ok (.aload_n 0, 1) := by decide +kernel
theorem dX0_nextWhole_26 : decode cX0_nextWhole 26 = .ok (.getfield 38, 3) := by decide +kernel
theorem dX0_nextWhole_29 : decode cX0_nextWhole 29 = .ok (.if_icmp .ge 22, 3) := by decide +kernel
theorem dX0_nextWhole_32 : decode cX0_nextWhole 32 = .ok (.aload_n 0, 1) := by decide +kernel
theorem dX0_nextWhole_33 : decode cX0_nextWhole 33 = .ok (.getfield 20, 3) := by decide +kernel
theorem dX0_nextWhole_36 : decode cX0_nextWhole 36 = .ok (.iload_n 3, 1) := by decide +kernel
theorem dX0_nextWhole_37 : decode cX0_nextWhole 37 = .ok (.aaload, 1) := by decide +kernel
theorem dX0_nextWhole_38 : decode cX0_nextWhole 38 = .ok (.getfield 61, 3) := by decide +kernel
theorem dX0_nextWhole_41 : decode cX0_nextWhole 41 = .ok (.ifCond .ne 10, 3) := by decide +kernel
theorem dX0_nextWhole_44 : decode cX0_nextWhole 44 = .ok (.aload_n 0, 1) := by decide +kernel
theorem dX0_nextWhole_45 : decode cX0_nextWhole 45 = .ok (.getfield 20, 3) := by decide +kernel
theorem dX0_nextWhole_48 : decode cX0_nextWhole 48 = .ok (.iload_n 3, 1) := by decide +kernel
theorem dX0_nextWhole_49 : decode cX0_nextWhole 49 = .ok (.aaload, 1) := by decide +kernel
theorem dX0_nextWhole_50 : decode cX0_nextWhole 50 = .ok (.areturn, 1) := by decide +kernel
theorem dX0_nextWhole_51 : decode cX0_nextWhole 51 = .ok (.iinc 2 1, 3) := by decide +kernel
theorem dX0_nextWhole_54 : decode cX0_nextWhole 54 = .ok (.goto (-52), 3) := by decide +kernel
theorem dX0_nextWhole_57 : decode cX0_nextWhole 57 = .ok (.aconst_null, 1) := by decide +kernel
theorem dX0_nextWhole_58 : decode cX0_nextWhole 58 = .ok (.areturn, 1) := by decide +kernel
theorem dX0_share_0 : decode cX0_share 0 = .ok (.bipush 10, 2) := by decide +kernel
theorem dX0_share_2 : decode cX0_share 2 = .ok (.aload_n 0, 1) := by decide +kernel
theorem dX0_share_3 : decode cX0_share 3 = .ok (.getfield 9, 3) := by decide +kernel
theorem dX0_share_6 : decode cX0_share 6 = .ok (.iload_n 1, 1) := by decide +kernel
theorem dX0_share_7 : decode cX0_share 7 = .ok (.iaload, 1) := by decide +kernel
theorem dX0_share_8 : decode cX0_share 8 = .ok (.imul, 1) := by decide +kernel
theorem dX0_share_9 : decode cX0_share 9 = .ok (.istore 4, 2) := by decide +kernel
theorem dX0_share_11 : decode cX0_share 11 = .ok (.aload_n 2, 1) := by decide +kernel
theorem dX0_share_12 : decode cX0_share 12 = .ok (.ifnonnull 19, 3) := by decide +kernel
theorem dX0_share_15 : decode cX0_share 15 = .ok (.aload_n 3, 1) := by decide +kernel
theorem dX0_share_16 : decode cX0_share 16 = .ok (.ifnull 14, 3) := by decide +kernel
theorem dX0_share_19 : decode cX0_share 19 = .ok (.aload_n 3, 1) := by decide +kernel
theorem dX0_share_20 : decode cX0_share 20 = .ok (.dup, 1) := by decide +kernel
theorem dX0_share_21 : decode cX0_share 21 = .ok (.getfield 122, 3) := by decide +kernel
theorem dX0_share_24 : decode cX0_share 24 = .ok (.iload 4, 2) := by decide +kernel
theorem dX0_share_26 : decode cX0_share 26 = .ok (.iadd, 1) := by decide +kernel
theorem dX0_share_27 : decode cX0_share 27 = .ok (.putfield 122, 3) := by decide +kernel
theorem dX0_share_30 : decode cX0_share 30 = .ok (.return_, 1) := by decide +kernel
theorem dX0_share_31 : decode cX0_share 31 = .ok (.aload_n 3, 1) := by decide +kernel
theorem dX0_share_32 : decode cX0_share 32 = .ok (.ifnonnull 15, 3) := by decide +kernel
theorem dX0_share_35 : decode cX0_share 35 = .ok (.aload_n 2, 1) := by decide +kernel
theorem dX0_share_36 : decode cX0_share 36 = .ok (.dup, 1) := by decide +kernel
theorem dX0_share_37 : decode cX0_share 37 = .ok (.getfield 122, 3) := by decide +kernel
theorem dX0_share_40 : decode cX0_share 40 = .ok (.iload 4, 2) := by decide +kernel
theorem dX0_share_42 : decode cX0_share 42 = .ok (.iadd, 1) := by decide +kernel
theorem dX0_share_43 : decode cX0_share 43 = .ok (.putfield 122, 3) := by decide +kernel
theorem dX0_share_46 : decode cX0_share 46 = .ok (.return_, 1) := by decide +kernel
theorem dX0_share_47 : decode cX0_share 47 = .ok (.aload_n 3, 1) := by decide +kernel
theorem dX0_share_48 : decode cX0_share 48 = .ok (.getfield 128, 3) := by decide +kernel
theorem dX0_share_51 : decode cX0_share 51 = .ok (.aload_n 2, 1) := by decide +kernel
theorem dX0_share_52 : decode cX0_share 52 = .ok (.getfield 128, 3) := by decide +kernel
theorem dX0_share_55 : decode cX0_share 55 = .ok (.isub, 1) := by decide +kernel
theorem dX0_share_56 : decode cX0_share 56 = .ok (.istore 5, 2) := by decide +kernel
theorem dX0_share_58 : decode cX0_share 58 = .ok (.iload 5, 2) := by decide +kernel
theorem dX0_share_60 : decode cX0_share 60 = .ok (.ifCond .gt 7, 3) := by decide +kernel
theorem dX0_share_63 : decode cX0_share 63 = .ok (.iconst 0, 1) := by decide +kernel
theorem dX0_share_64 : decode cX0_share 64 = .ok (.goto 19, 3) := by decide +kernel
theorem dX0_share_67 : decode cX0_share 67 = .ok (.aload_n 0, 1) := by decide +kernel
theorem dX0_share_68 : decode cX0_share 68 = .ok (.getfield 9, 3) := by decide +kernel
theorem dX0_share_71 : decode cX0_share 71 = .ok (.iload_n 1, 1) := by decide +kernel
theorem dX0_share_72 : decode cX0_share 72 = .ok (.iaload, 1) := by decide +kernel
theorem dX0_share_73 : decode cX0_share 73 = .ok (.iload_n 1, 1) := by decide +kernel
theorem dX0_share_74 : decode cX0_share 74 = .ok (.aload_n 2, 1) := by decide +kernel
theorem dX0_share_75 : decode cX0_share 75 = .ok (.getfield 128, 3) := by decide +kernel
theorem dX0_share_78 : decode cX0_share 78 = .ok (.isub, 1) := by decide +kernel
theorem dX0_share_79 : decode cX0_share 79 = .ok (.imul, 1) := by decide +kernel
theorem dX0_share_80 : decode cX0_share 80 = .ok (.iload 5, 2) := by decide +kernel
theorem dX0_share_82 : decode cX0_share 82 = .ok (.idiv, 1) := by decide +kernel
theorem dX0_share_83 : decode cX0_share 83 = .ok (.istore 6, 2) := by decide +kernel
theorem dX0_share_85 : decode cX0_share 85 = .ok (.aload_n 3, 1) := by decide +kernel
theorem dX0_share_86 : decode cX0_share 86 = .ok (.dup, 1) := by decide +kernel
theorem dX0_share_87 : decode cX0_share 87 = .ok (.getfield 122, 3) := by decide +kernel
theorem dX0_share_90 : decode cX0_share 90 = .ok (.bipush 10, 2) := by decide +kernel
theorem dX0_share_92 : decode cX0_share 92 = .ok (.iload 6, 2) := by decide +kernel
theorem dX0_share_94 : decode cX0_share 94 = .ok (.imul, 1) := by decide +kernel
theorem dX0_share_95 : decode cX0_share 95 = .ok (.iadd, 1) := by decide +kernel
theorem dX0_share_96 : decode cX0_share 96 = .ok (.putfield 122, 3) := by decide +kernel
theorem dX0_share_99 : decode cX0_share 99 = .ok (.aload_n 2, 1) := by decide +kernel
theorem dX0_share_100 : decode cX0_share 100 = .ok (.dup, 1) := by decide +kernel
theorem dX0_share_101 : decode cX0_share 101 = .ok (.getfield 122, 3) := by decide +kernel
theorem dX0_share_104 : decode cX0_share 104 = .ok (.iload 4, 2) := by decide +kernel
theorem dX0_share_106 : decode cX0_share 106 = .ok (.bipush 10, 2) := by decide +kernel
theorem dX0_share_108 : decode cX0_share 108 = .ok (.iload 6, 2) := by decide +kernel
theorem dX0_share_110 : decode cX0_share 110 = .ok (.imul, 1) := by decide +kernel
theorem dX0_share_111 : decode cX0_share 111 = .ok (.isub, 1) := by decide +kernel
theorem dX0_share_112 : decode cX0_share 112 = .ok (.iadd, 1) := by decide +kernel
theorem dX0_share_113 : decode cX0_share 113 = .ok (.putfield 122, 3) := by decide +kernel
theorem dX0_share_116 : decode cX0_share 116 = .ok (.return_, 1) := by decide +kernel
theorem dX0_walkToDoubtful_0 : decode cX0_walkToDoubtful 0 = .ok (.bipush 20, 2) := by decide +kernel
theorem dX0_walkToDoubtful_2 : decode cX0_walkToDoubtful 2 = .ok (.istore_n 1, 1) := by decide +kernel
theorem dX0_walkToDoubtful_3 : decode cX0_walkToDoubtful 3 = .ok (.iconst (-1), 1) := by decide +kernel
theorem dX0_walkToDoubtful_4 : decode cX0_walkToDoubtful 4 = .ok (.istore_n 2, 1) := by decide +kernel
theorem dX0_walkToDoubtful_5 : decode cX0_walkToDoubtful 5 = .ok (.iconst 0, 1) := by decide +kernel
theorem dX0_walkToDoubtful_6 : decode cX0_walkToDoubtful 6 = .ok (.istore_n 3, 1) := by decide +kernel
theorem dX0_walkToDoubtful_7 : decode cX0_walkToDoubtful 7 = .ok (.iload_n 3, 1) := by decide +kernel
theorem dX0_walkToDoubtful_8 : decode cX0_walkToDoubtful 8 = .ok (.aload_n 0, 1) := by decide +kernel
theorem dX0_walkToDoubtful_9 : decode cX0_walkToDoubtful 9 = .ok (.getfield 38, 3) := by decide +kernel
theorem dX0_walkToDoubtful_12 : decode cX0_walkToDoubtful 12 = .ok (.if_icmp .ge 61, 3) := by decide +kernel
theorem dX0_walkToDoubtful_15 : decode cX0_walkToDoubtful 15 = .ok (.aload_n 0, 1) := by decide +kernel
theorem dX0_walkToDoubtful_16 : decode cX0_walkToDoubtful 16 = .ok (.getfield 20, 3) := by decide +kernel
theorem dX0_walkToDoubtful_19 : decode cX0_walkToDoubtful 19 = .ok (.iload_n 3, 1) := by decide +kernel
theorem dX0_walkToDoubtful_20 : decode cX0_walkToDoubtful 20 = .ok (.aaload, 1) := by decide +kernel
theorem dX0_walkToDoubtful_21 : decode cX0_walkToDoubtful 21 = .ok (.astore 4, 2) := by decide +kernel
theorem dX0_walkToDoubtful_23 : decode cX0_walkToDoubtful 23 = .ok (.aload 4, 2) := by decide +kernel
theorem dX0_walkToDoubtful_25 : decode cX0_walkToDoubtful 25 = .ok (.getfield 57, 3) := by decide +kernel
theorem dX0_walkToDoubtful_28 : decode cX0_walkToDoubtful 28 = .ok (.ifCond .ne 39, 3) := by decide +kernel
theorem dX0_walkToDoubtful_31 : decode cX0_walkToDoubtful 31 = .ok (.aload 4, 2) := by decide +kernel
theorem dX0_walkToDoubtful_33 : decode cX0_walkToDoubtful 33 = .ok (.invokevirtual 133, 3) := by decide +kernel
theorem dX0_walkToDoubtful_36 : decode cX0_walkToDoubtful 36 = .ok (.ifCond .ne 11, 3) := by decide +kernel
theorem dX0_walkToDoubtful_39 : decode cX0_walkToDoubtful 39 = .ok (.aload 4, 2) := by decide +kernel
theorem dX0_walkToDoubtful_41 : decode cX0_walkToDoubtful 41 = .ok (.invokevirtual 137, 3) := by decide +kernel
theorem dX0_walkToDoubtful_44 : decode cX0_walkToDoubtful 44 = .ok (.ifCond .eq 23, 3) := by decide +kernel
theorem dX0_walkToDoubtful_47 : decode cX0_walkToDoubtful 47 = .ok (.iload_n 1, 1) := by decide +kernel
theorem dX0_walkToDoubtful_48 : decode cX0_walkToDoubtful 48 = .ok (.aload 4, 2) := by decide +kernel
theorem dX0_walkToDoubtful_50 : decode cX0_walkToDoubtful 50 = .ok (.getfield 128, 3) := by decide +kernel
theorem dX0_walkToDoubtful_53 : decode cX0_walkToDoubtful 53 = .ok (.invokestatic 140, 3) := by decide +kernel
theorem dX0_walkToDoubtful_56 : decode cX0_walkToDoubtful 56 = .ok (.istore_n 1, 1) := by decide +kernel
theorem dX0_walkToDoubtful_57 : decode cX0_walkToDoubtful 57 = .ok (.iload_n 2, 1) := by decide +kernel
theorem dX0_walkToDoubtful_58 : decode cX0_walkToDoubtful 58 = .ok (.aload 4, 2) := by decide +kernel
theorem dX0_walkToDoubtful_60 : decode cX0_walkToDoubtful 60 = .ok (.getfield 128, 3) := by decide +kernel
theorem dX0_walkToDoubtful_63 : decode cX0_walkToDoubtful 63 = .ok (.invokestatic 144, 3) := by decide +kernel
theorem dX0_walkToDoubtful_66 : decode cX0_walkToDoubtful 66 = .ok (.istore_n 2, 1) := by decide +kernel
theorem dX0_walkToDoubtful_67 : decode cX0_walkToDoubtful 67 = .ok (.iinc 3 1, 3) := by decide +kernel
theorem dX0_walkToDoubtful_70 : decode cX0_walkToDoubtful 70 = .ok (.goto (-63), 3) := by decide +kernel
theorem dX0_walkToDoubtful_73 : decode cX0_walkToDoubtful 73 = .ok (.iload_n 2, 1) := by decide +kernel
theorem dX0_walkToDoubtful_74 : decode cX0_walkToDoubtful 74 = .ok (.iload_n 1, 1) := by decide +kernel
theorem dX0_walkToDoubtful_75 : decode cX0_walkToDoubtful 75 = .ok (.if_icmp .ge 5, 3) := by decide +kernel
theorem dX0_walkToDoubtful_78 : decode cX0_walkToDoubtful 78 = .ok (.iconst 0, 1) := by decide +kernel
theorem dX0_walkToDoubtful_79 : decode cX0_walkToDoubtful 79 = .ok (.ireturn, 1) := by decide +kernel
theorem dX0_walkToDoubtful_80 : decode cX0_walkToDoubtful 80 = .ok (.iload_n 2, 1) := by decide +kernel
theorem dX0_walkToDoubtful_81 : decode cX0_walkToDoubtful 81 = .ok (.iload_n 1, 1) := by decide +kernel
theorem dX0_walkToDoubtful_82 : decode cX0_walkToDoubtful 82 = .ok (.isub, 1) := by decide +kernel
theorem dX0_walkToDoubtful_83 : decode cX0_walkToDoubtful 83 = .ok (.aload_n 0, 1) := by decide +kernel
theorem dX0_walkToDoubtful_84 : decode cX0_walkToDoubtful 84 = .ok (.getfield 48, 3) := by decide +kernel
theorem dX0_walkToDoubtful_87 : decode cX0_walkToDoubtful 87 = .ok (.iload_n 1, 1) := by decide +kernel
theorem dX0_walkToDoubtful_88 : decode cX0_walkToDoubtful 88 = .ok (.isub, 1) := by decide +kernel
theorem dX0_walkToDoubtful_89 : decode cX0_walkToDoubtful 89 = .ok (.invokestatic 90, 3) := by decide +kernel
theorem dX0_walkToDoubtful_92 : decode cX0_walkToDoubtful 92 = .ok (.aload_n 0, 1) := by decide +kernel
theorem dX0_walkToDoubtful_93 : decode cX0_walkToDoubtful 93 = .ok (.getfield 48, 3) := by decide +kernel
theorem dX0_walkToDoubtful_96 : decode cX0_walkToDoubtful 96 = .ok (.iload_n 2, 1) := by decide +kernel
theorem dX0_walkToDoubtful_97 : decode cX0_walkToDoubtful 97 = .ok (.isub, 1) := by decide +kernel
theorem dX0_walkToDoubtful_98 : decode cX0_walkToDoubtful 98 = .ok (.invokestatic 90, 3) := by decide +kernel
theorem dX0_walkToDoubtful_101 : decode cX0_walkToDoubtful 101 = .ok (.invokestatic 140, 3) := by decide +kernel
theorem dX0_walkToDoubtful_104 : decode cX0_walkToDoubtful 104 = .ok (.iadd, 1) := by decide +kernel
theorem dX0_walkToDoubtful_105 : decode cX0_walkToDoubtful 105 = .ok (.ireturn, 1) := by decide +kernel
theorem dX0_allLoads_0 : decode cX0_allLoads 0 = .ok (.iconst 0, 1) := by decide +kernel
theorem dX0_allLoads_1 : decode cX0_allLoads 1 = .ok (.istore_n 1, 1) := by decide +kernel
theorem dX0_allLoads_2 : decode cX0_allLoads 2 = .ok (.iconst 0, 1) := by decide +kernel
theorem dX0_allLoads_3 : decode cX0_allLoads 3 = .ok (.istore_n 2, 1) := by decide +kernel
theorem dX0_allLoads_4 : decode cX0_allLoads 4 = .ok (.iload_n 2, 1) := by decide +kernel
theorem dX0_allLoads_5 : decode cX0_allLoads 5 = .ok (.bipush 20, 2) := by decide +kernel
theorem dX0_allLoads_7 : decode cX0_allLoads 7 = .ok (.if_icmp .ge 18, 3) := by decide +kernel
theorem dX0_allLoads_10 : decode cX0_allLoads 10 = .ok (.iload_n 1, 1) := by decide +kernel
theorem dX0_allLoads_11 : decode cX0_allLoads 11 = .ok (.aload_n 0, 1) := by decide +kernel
theorem dX0_allLoads_12 : decode cX0_allLoads 12 = .ok (.getfield 9, 3) := by decide +kernel
theorem dX0_allLoads_15 : decode cX0_allLoads 15 = .ok (.iload_n 2, 1) := by decide +kernel
theorem dX0_allLoads_16 : decode cX0_allLoads 16 = .ok (.iaload, 1) := by decide +kernel
theorem dX0_allLoads_17 : decode cX0_allLoads 17 = .ok (.iadd, 1) := by decide +kernel
theorem dX0_allLoads_18 : decode cX0_allLoads 18 = .ok (.istore_n 1, 1) := by decide +kernel
theorem dX0_allLoads_19 : decode cX0_allLoads 19 = .ok (.iinc 2 1, 3) := by decide +kernel
theorem dX0_allLoads_22 : decode cX0_allLoads 22 = .ok (.goto (-18), 3) := by decide +kernel
theorem dX0_allLoads_25 : decode cX0_allLoads 25 = .ok (.iload_n 1, 1) := by decide +kernel
theorem dX0_allLoads_26 : decode cX0_allLoads 26 = .ok (.ireturn, 1) := by decide +kernel
theorem dX0_wholeWires_0 : decode cX0_wholeWires 0 = .ok (.iconst 0, 1) := by decide +kernel
theorem dX0_wholeWires_1 : decode cX0_wholeWires 1 = .ok (.istore_n 1, 1) := by decide +kernel
theorem dX0_wholeWires_2 : decode cX0_wholeWires 2 = .ok (.iconst 0, 1) := by decide +kernel
theorem dX0_wholeWires_3 : decode cX0_wholeWires 3 = .ok (.istore_n 2, 1) := by decide +kernel
theorem dX0_wholeWires_4 : decode cX0_wholeWires 4 = .ok (.iload_n 2, 1) := by decide +kernel
theorem dX0_wholeWires_5 : decode cX0_wholeWires 5 = .ok (.aload_n 0, 1) := by decide +kernel
theorem dX0_wholeWires_6 : decode cX0_wholeWires 6 = .ok (.getfield 38, 3) := by decide +kernel
theorem dX0_wholeWires_9 : decode cX0_wholeWires 9 = .ok (.if_icmp .ge 32, 3) := by decide +kernel
theorem dX0_wholeWires_12 : decode cX0_wholeWires 12 = .ok (.iload_n 1, 1) := by decide +kernel
theorem dX0_wholeWires_13 : decode cX0_wholeWires 13 = .ok (.aload_n 0, 1) := by decide +kernel
theorem dX0_wholeWires_14 : decode cX0_wholeWires 14 = .ok (.getfield 20, 3) := by decide +kernel
theorem dX0_wholeWires_17 : decode cX0_wholeWires 17 = .ok (.iload_n 2, 1) := by decide +kernel
theorem dX0_wholeWires_18 : decode cX0_wholeWires 18 = .ok (.aaload, 1) := by decide +kernel
theorem dX0_wholeWires_19 : decode cX0_wholeWires 19 = .ok (.getfield 61, 3) := by decide +kernel
theorem dX0_wholeWires_22 : decode cX0_wholeWires 22 = .ok (.ifCond .ne 7, 3) := by decide +kernel
theorem dX0_wholeWires_25 : decode cX0_wholeWires 25 = .ok (.iconst 1, 1) := by decide +kernel
theorem dX0_wholeWires_26 : decode cX0_wholeWires 26 = .ok (.goto 4, 3) := by decide +kernel
theorem dX0_wholeWires_29 : decode cX0_wholeWires 29 = .ok (.iconst 0, 1) := by decide +kernel
theorem dX0_wholeWires_30 : decode cX0_wholeWires 30 = .ok (.invokestatic 147, 3) := by decide +kernel
theorem dX0_wholeWires_33 : decode cX0_wholeWires 33 = .ok (.iadd, 1) := by decide +kernel
theorem dX0_wholeWires_34 : decode cX0_wholeWires 34 = .ok (.istore_n 1, 1) := by decide +kernel
theorem dX0_wholeWires_35 : decode cX0_wholeWires 35 = .ok (.iinc 2 1, 3) := by decide +kernel
theorem dX0_wholeWires_38 : decode cX0_wholeWires 38 = .ok (.goto (-34), 3) := by decide +kernel
theorem dX0_wholeWires_41 : decode cX0_wholeWires 41 = .ok (.iload_n 1, 1) := by decide +kernel
theorem dX0_wholeWires_42 : decode cX0_wholeWires 42 = .ok (.ireturn, 1) := by decide +kernel
theorem dX0_slackWires_0 : decode cX0_slackWires 0 = .ok (.iconst 0, 1) := by decide +kernel
theorem dX0_slackWires_1 : decode cX0_slackWires 1 = .ok (.istore_n 1, 1) := by decide +kernel
theorem dX0_slackWires_2 : decode cX0_slackWires 2 = .ok (.iconst 0, 1) := by decide +kernel
theorem dX0_slackWires_3 : decode cX0_slackWires 3 = .ok (.istore_n 2, 1) := by decide +kernel
theorem dX0_slackWires_4 : decode cX0_slackWires 4 = .ok (.iload_n 2, 1) := by decide +kernel
theorem dX0_slackWires_5 : decode cX0_slackWires 5 = .ok (.aload_n 0, 1) := by decide +kernel
theorem dX0_slackWires_6 : decode cX0_slackWires 6 = .ok (.getfield 38, 3) := by decide +kernel
theorem dX0_slackWires_9 : decode cX0_slackWires 9 = .ok (.if_icmp .ge 24, 3) := by decide +kernel
theorem dX0_slackWires_12 : decode cX0_slackWires 12 = .ok (.iload_n 1, 1) := by decide +kernel
theorem dX0_slackWires_13 : decode cX0_slackWires 13 = .ok (.aload_n 0, 1) := by decide +kernel
theorem dX0_slackWires_14 : decode cX0_slackWires 14 = .ok (.getfield 20, 3) := by decide +kernel
theorem dX0_slackWires_17 : decode cX0_slackWires 17 = .ok (.iload_n 2, 1) := by decide +kernel
theorem dX0_slackWires_18 : decode cX0_slackWires 18 = .ok (.aaload, 1) := by decide +kernel
theorem dX0_slackWires_19 : decode cX0_slackWires 19 = .ok (.invokevirtual 151, 3) := by decide +kernel
theorem dX0_slackWires_22 : decode cX0_slackWires 22 = .ok (.invokestatic 147, 3) := by decide +kernel
theorem dX0_slackWires_25 : decode cX0_slackWires 25 = .ok (.iadd, 1) := by decide +kernel
theorem dX0_slackWires_26 : decode cX0_slackWires 26 = .ok (.istore_n 1, 1) := by decide +kernel
theorem dX0_slackWires_27 : decode cX0_slackWires 27 = .ok (.iinc 2 1, 3) := by decide +kernel
theorem dX0_slackWires_30 : decode cX0_slackWires 30 = .ok (.goto (-26), 3) := by decide +kernel
theorem dX0_slackWires_33 : decode cX0_slackWires 33 = .ok (.iload_n 1, 1) := by decide +kernel
theorem dX0_slackWires_34 : decode cX0_slackWires 34 = .ok (.ireturn, 1) := by decide +kernel
theorem dX0_tooTightWires_0 : decode cX0_tooTightWires 0 = .ok (.iconst 0, 1) := by decide +kernel
theorem dX0_tooTightWires_1 : decode cX0_tooTightWires 1 = .ok (.istore_n 1, 1) := by decide +kernel
theorem dX0_tooTightWires_2 : decode cX0_tooTightWires 2 = .ok (.iconst 0, 1) := by decide +kernel
theorem dX0_tooTightWires_3 : decode cX0_tooTightWires 3 = .ok (.istore_n 2, 1) := by decide +kernel
theorem dX0_tooTightWires_4 : decode cX0_tooTightWires 4 = .ok (.iload_n 2, 1) := by decide +kernel
theorem dX0_tooTightWires_5 : decode cX0_tooTightWires 5 = .ok (.aload_n 0, 1) := by decide +kernel
theorem dX0_tooTightWires_6 : decode cX0_tooTightWires 6 = .ok (.getfield 38, 3) := by decide +kernel
theorem dX0_tooTightWires_9 : decode cX0_tooTightWires 9 = .ok (.if_icmp .ge 28, 3) := by decide +kernel
theorem dX0_tooTightWires_12 : decode cX0_tooTightWires 12 = .ok (.iload_n 1, 1) := by decide +kernel
theorem dX0_tooTightWires_13 : decode cX0_tooTightWires 13 = .ok (.aload_n 0, 1) := by decide +kernel
theorem dX0_tooTightWires_14 : decode cX0_tooTightWires 14 = .ok (.getfield 20, 3) := by decide +kernel
theorem dX0_tooTightWires_17 : decode cX0_tooTightWires 17 = .ok (.iload_n 2, 1) := by decide +kernel
theorem dX0_tooTightWires_18 : decode cX0_tooTightWires 18 = .ok (.aaload, 1) := by decide +kernel
theorem dX0_tooTightWires_19 : decode cX0_tooTightWires 19 = .ok (.aload_n 0, 1) := by decide +kernel
theorem dX0_tooTightWires_20 : decode cX0_tooTightWires 20 = .ok (.getfield 29, 3) := by decide +kernel
theorem dX0_tooTightWires_23 : decode cX0_tooTightWires 23 = .ok (.invokevirtual 154, 3) := by decide +kernel
theorem dX0_tooTightWires_26 : decode cX0_tooTightWires 26 = .ok (.invokestatic 147, 3) := by decide +kernel
theorem dX0_tooTightWires_29 : decode cX0_tooTightWires 29 = .ok (.iadd, 1) := by decide +kernel
theorem dX0_tooTightWires_30 : decode cX0_tooTightWires 30 = .ok (.istore_n 1, 1) := by decide +kernel
theorem dX0_tooTightWires_31 : decode cX0_tooTightWires 31 = .ok (.iinc 2 1, 3) := by decide +kernel
theorem dX0_tooTightWires_34 : decode cX0_tooTightWires 34 = .ok (.goto (-30), 3) := by decide +kernel
theorem dX0_tooTightWires_37 : decode cX0_tooTightWires 37 = .ok (.iload_n 1, 1) := by decide +kernel
theorem dX0_tooTightWires_38 : decode cX0_tooTightWires 38 = .ok (.ireturn, 1) := by decide +kernel
theorem dX1_init_0 : decode cX1_init 0 = .ok (.aload_n 0, 1) := by decide +kernel
theorem dX1_init_1 : decode cX1_init 1 = .ok (.invokespecial 3, 3) := by decide +kernel
theorem dX1_init_4 : decode cX1_init 4 = .ok (.aload_n 0, 1) := by decide +kernel
theorem dX1_init_5 : decode cX1_init 5 = .ok (.bipush 7, 2) := by decide +kernel
theorem dX1_init_7 : decode cX1_init 7 = .ok (.anewarray 9, 3) := by decide +kernel
theorem dX1_init_10 : decode cX1_init 10 = .ok (.putfield 11, 3) := by decide +kernel
theorem dX1_init_13 : decode cX1_init 13 = .ok (.iconst 0, 1) := by decide +kernel
theorem dX1_init_14 : decode cX1_init 14 = .ok (.istore_n 1, 1) := by decide +kernel
theorem dX1_init_15 : decode cX1_init 15 = .ok (.iload_n 1, 1) := by decide +kernel
theorem dX1_init_16 : decode cX1_init 16 = .ok (.bipush 6, 2) := by decide +kernel
theorem dX1_init_18 : decode cX1_init 18 = .ok (.if_icmp .gt 22, 3) := by decide +kernel
theorem dX1_init_21 : decode cX1_init 21 = .ok (.aload_n 0, 1) := by decide +kernel
theorem dX1_init_22 : decode cX1_init 22 = .ok (.getfield 11, 3) := by decide +kernel
theorem dX1_init_25 : decode cX1_init 25 = .ok (.iload_n 1, 1) := by decide +kernel
theorem dX1_init_26 : decode cX1_init 26 = .ok (.new 9, 3) := by decide +kernel
theorem dX1_init_29 : decode cX1_init 29 = .ok (.dup, 1) := by decide +kernel
theorem dX1_init_30 : decode cX1_init 30 = .ok (.invokespecial 17, 3) := by decide +kernel
theorem dX1_init_33 : decode cX1_init 33 = .ok (.aastore, 1) := by decide +kernel
theorem dX1_init_34 : decode cX1_init 34 = .ok (.iinc 1 1, 3) := by decide +kernel
theorem dX1_init_37 : decode cX1_init 37 = .ok (.goto (-22), 3) := by decide +kernel
theorem dX1_init_40 : decode cX1_init 40 = .ok (.return_, 1) := by decide +kernel
theorem dX1_note_0 : decode cX1_note 0 = .ok (.aload_n 0, 1) := by decide +kernel
theorem dX1_note_1 : decode cX1_note 1 = .ok (.getfield 18, 3) := by decide +kernel
theorem dX1_note_4 : decode cX1_note 4 = .ok (.iconst 0, 1) := by decide +kernel
theorem dX1_note_5 : decode cX1_note 5 = .ok (.bipush 6, 2) := by decide +kernel
theorem dX1_note_7 : decode cX1_note 7 = .ok (.invokestatic 22, 3) := by decide +kernel
theorem dX1_note_10 : decode cX1_note 10 = .ok (.ifCond .eq 16, 3) := by decide +kernel
theorem dX1_note_13 : decode cX1_note 13 = .ok (.aload_n 0, 1) := by decide +kernel
theorem dX1_note_14 : decode cX1_note 14 = .ok (.getfield 11, 3) := by decide +kernel
theorem dX1_note_17 : decode cX1_note 17 = .ok (.aload_n 0, 1) := by decide +kernel
theorem dX1_note_18 : decode cX1_note 18 = .ok (.getfield 18, 3) := by decide +kernel
theorem dX1_note_21 : decode cX1_note 21 = .ok (.aaload, 1) := by decide +kernel
theorem dX1_note_22 : decode cX1_note 22 = .ok (.aload_n 1, 1) := by decide +kernel
theorem dX1_note_23 : decode cX1_note 23 = .ok (.invokevirtual 26, 3) := by decide +kernel
theorem dX1_note_26 : decode cX1_note 26 = .ok (.return_, 1) := by decide +kernel
theorem dX1_keepUnlessError_0 : decode cX1_keepUnlessError 0 = .ok (.iload_n 1, 1) := by decide +kernel
theorem dX1_keepUnlessError_1 : decode cX1_keepUnlessError 1 = .ok (.invokestatic 30, 3) := by decide +kernel
theorem dX1_keepUnlessError_4 : decode cX1_keepUnlessError 4 = .ok (.ifCond .eq 5, 3) := by decide +kernel
theorem dX1_keepUnlessError_7 : decode cX1_keepUnlessError 7 = .ok (.iload_n 1, 1) := by decide +kernel
theorem dX1_keepUnlessError_8 : decode cX1_keepUnlessError 8 = .ok (.ireturn, 1) := by decide +kernel
theorem dX1_keepUnlessError_9 : decode cX1_keepUnlessError 9 = .ok (.aload_n 0, 1) := by decide +kernel
theorem dX1_keepUnlessError_10 : decode cX1_keepUnlessError 10 = .ok (.getfield 18, 3) := by decide +kernel
theorem dX1_keepUnlessError_13 : decode cX1_keepUnlessError 13 = .ok (.bipush 6, 2) := by decide +kernel
theorem dX1_keepUnlessError_15 : decode cX1_keepUnlessError 15 = .ok (.if_icmp .ge 16, 3) := by decide +kernel
theorem dX1_keepUnlessError_18 : decode cX1_keepUnlessError 18 = .ok (.aload_n 0, 1) := by decide +kernel
theorem dX1_keepUnlessError_19 : decode cX1_keepUnlessError 19 = .ok (.dup, 1) := by decide +kernel
theorem dX1_keepUnlessError_20 : decode cX1_keepUnlessError 20 = .ok (.getfield 18, 3) := by decide +kernel
theorem dX1_keepUnlessError_23 : decode cX1_keepUnlessError 23 = .ok (.iconst 1, 1) := by decide +kernel
theorem dX1_keepUnlessError_24 : decode cX1_keepUnlessError 24 = .ok (.iadd, 1) := by decide +kernel
theorem dX1_keepUnlessError_25 : decode cX1_keepUnlessError 25 = .ok (.putfield 18, 3) := by decide +kernel
theorem dX1_keepUnlessError_28 : decode cX1_keepUnlessError 28 = .ok (.goto 7, 3) := by decide +kernel
theorem dX1_keepUnlessError_31 : decode cX1_keepUnlessError 31 = .ok (.aload_n 0, 1) := by decide +kernel
theorem dX1_keepUnlessError_32 : decode cX1_keepUnlessError 32 = .ok (.invokevirtual 34, 3) := by decide +kernel
theorem dX1_keepUnlessError_35 : decode cX1_keepUnlessError 35 = .ok (.iload_n 1, 1) := by decide +kernel
theorem dX1_keepUnlessError_36 : decode cX1_keepUnlessError 36 = .ok (.ireturn, 1) := by decide +kernel
theorem dX1_dropOldest_0 : decode cX1_dropOldest 0 = .ok (.aload_n 0, 1) := by decide +kernel
theorem dX1_dropOldest_1 : decode cX1_dropOldest 1 = .ok (.getfield 11, 3) := by decide +kernel
theorem dX1_dropOldest_4 : decode cX1_dropOldest 4 = .ok (.iconst 0, 1) := by decide +kernel
theorem dX1_dropOldest_5 : decode cX1_dropOldest 5 = .ok (.aaload, 1) := by decide +kernel
theorem dX1_dropOldest_6 : decode cX1_dropOldest 6 = .ok (.astore_n 1, 1) := by decide +kernel
theorem dX1_dropOldest_7 : decode cX1_dropOldest 7 = .ok (.iconst 0, 1) := by decide +kernel
theorem dX1_dropOldest_8 : decode cX1_dropOldest 8 = .ok (.istore_n 2, 1) := by decide +kernel
theorem dX1_dropOldest_9 : decode cX1_dropOldest 9 = .ok (.iload_n 2, 1) := by decide +kernel
theorem dX1_dropOldest_10 : decode cX1_dropOldest 10 = .ok (.bipush 6, 2) := by decide +kernel
theorem dX1_dropOldest_12 : decode cX1_dropOldest 12 = .ok (.if_icmp .ge 23, 3) := by decide +kernel
theorem dX1_dropOldest_15 : decode cX1_dropOldest 15 = .ok (.aload_n 0, 1) := by decide +kernel
theorem dX1_dropOldest_16 : decode cX1_dropOldest 16 = .ok (.getfield 11, 3) := by decide +kernel
theorem dX1_dropOldest_19 : decode cX1_dropOldest 19 = .ok (.iload_n 2, 1) := by decide +kernel
theorem dX1_dropOldest_20 : decode cX1_dropOldest 20 = .ok (.aload_n 0, 1) := by decide +kernel
theorem dX1_dropOldest_21 : decode cX1_dropOldest 21 = .ok (.getfield 11, 3) := by decide +kernel
theorem dX1_dropOldest_24 : decode cX1_dropOldest 24 = .ok (.iload_n 2, 1) := by decide +kernel
theorem dX1_dropOldest_25 : decode cX1_dropOldest 25 = .ok (.iconst 1, 1) := by decide +kernel
theorem dX1_dropOldest_26 : decode cX1_dropOldest 26 = .ok (.iadd, 1) := by decide +kernel
theorem dX1_dropOldest_27 : decode cX1_dropOldest 27 = .ok (.aaload, 1) := by decide +kernel
theorem dX1_dropOldest_28 : decode cX1_dropOldest 28 = .ok (.aastore, 1) := by decide +kernel
theorem dX1_dropOldest_29 : decode cX1_dropOldest 29 = .ok (.iinc 2 1, 3) := by decide +kernel
theorem dX1_dropOldest_32 : decode cX1_dropOldest 32 = .ok (.goto (-23), 3) := by decide +kernel
theorem dX1_dropOldest_35 : decode cX1_dropOldest 35 = .ok (.aload_n 0, 1) := by decide +kernel
theorem dX1_dropOldest_36 : decode cX1_dropOldest 36 = .ok (.getfield 11, 3) := by decide +kernel
theorem dX1_dropOldest_39 : decode cX1_dropOldest 39 = .ok (.bipush 6, 2) := by decide +kernel
theorem dX1_dropOldest_41 : decode cX1_dropOldest 41 = .ok (.aload_n 1, 1) := by decide +kernel
theorem dX1_dropOldest_42 : decode cX1_dropOldest 42 = .ok (.aastore, 1) := by decide +kernel
theorem dX1_dropOldest_43 : decode cX1_dropOldest 43 = .ok (.return_, 1) := by decide +kernel
theorem dX1_giveBack_0 : decode cX1_giveBack 0 = .ok (.aload_n 0, 1) := by decide +kernel
theorem dX1_giveBack_1 : decode cX1_giveBack 1 = .ok (.getfield 18, 3) := by decide +kernel
theorem dX1_giveBack_4 : decode cX1_giveBack 4 = .ok (.ifCond .gt 6, 3) := by decide +kernel
theorem dX1_giveBack_7 : decode cX1_giveBack 7 = .ok (.bipush (-5), 2) := by decide +kernel
theorem dX1_giveBack_9 : decode cX1_giveBack 9 = .ok (.ireturn, 1) := by decide +kernel
theorem dX1_giveBack_10 : decode cX1_giveBack 10 = .ok (.aload_n 0, 1) := by decide +kernel
theorem dX1_giveBack_11 : decode cX1_giveBack 11 = .ok (.dup, 1) := by decide +kernel
theorem dX1_giveBack_12 : decode cX1_giveBack 12 = .ok (.getfield 18, 3) := by decide +kernel
theorem dX1_giveBack_15 : decode cX1_giveBack 15 = .ok (.iconst 1, 1) := by decide +kernel
theorem dX1_giveBack_16 : decode cX1_giveBack 16 = .ok (.isub, 1) := by decide +kernel
theorem dX1_giveBack_17 : decode cX1_giveBack 17 = .ok (.putfield 18, 3) := by decide +kernel
theorem dX1_giveBack_20 : decode cX1_giveBack 20 = .ok (.aload_n 1, 1) := by decide +kernel
theorem dX1_giveBack_21 : decode cX1_giveBack 21 = .ok (.aload_n 0, 1) := by decide +kernel
theorem dX1_giveBack_22 : decode cX1_giveBack 22 = .ok (.getfield 11, 3) := by decide +kernel
theorem dX1_giveBack_25 : decode cX1_giveBack 25 = .ok (.aload_n 0, 1) := by decide +kernel
theorem dX1_giveBack_26 : decode cX1_giveBack 26 = .ok (.getfield 18, 3) := by decide +kernel
theorem dX1_giveBack_29 : decode cX1_giveBack 29 = .ok (.aaload, 1) := by decide +kernel
theorem dX1_giveBack_30 : decode cX1_giveBack 30 = .ok (.invokevirtual 26, 3) := by decide +kernel
theorem dX1_giveBack_33 : decode cX1_giveBack 33 = .ok (.aload_n 0, 1) := by decide +kernel
theorem dX1_giveBack_34 : decode cX1_giveBack 34 = .ok (.getfield 18, 3) := by decide +kernel
theorem dX1_giveBack_37 : decode cX1_giveBack 37 = .ok (.ireturn, 1) := by decide +kernel
theorem dX2_init_0 : decode cX2_init 0 = .ok (.aload_n 0, 1) := by decide +kernel
theorem dX2_init_1 : decode cX2_init 1 = .ok (.invokespecial 3, 3) := by decide +kernel
theorem dX2_init_4 : decode cX2_init 4 = .ok (.aload_n 0, 1) := by decide +kernel
theorem dX2_init_5 : decode cX2_init 5 = .ok (.bipush 60, 2) := by decide +kernel
theorem dX2_init_7 : decode cX2_init 7 = .ok (.newarray .char, 2) := by decide +kernel
theorem dX2_init_9 : decode cX2_init 9 = .ok (.putfield 9, 3) := by decide +kernel
theorem dX2_init_12 : decode cX2_init 12 = .ok (.return_, 1) := by decide +kernel
theorem dX2_append_0 : decode cX2_append 0 = .ok (.lload_n 1, 1) := by decide +kernel
theorem dX2_append_1 : decode cX2_append 1 = .ok (.invokestatic 15, 3) := by decide +kernel
theorem dX2_append_4 : decode cX2_append 4 = .ok (.istore_n 3, 1) := by decide +kernel
theorem dX2_append_5 : decode cX2_append 5 = .ok (.iload_n 3, 1) := by decide +kernel
theorem dX2_append_6 : decode cX2_append 6 = .ok (.ifCond .gt 6, 3) := by decide +kernel
theorem dX2_append_9 : decode cX2_append 9 = .ok (.bipush (-2), 2) := by decide +kernel
theorem dX2_append_11 : decode cX2_append 11 = .ok (.ireturn, 1) := by decide +kernel
theorem dX2_append_12 : decode cX2_append 12 = .ok (.aload_n 0, 1) := by decide +kernel
theorem dX2_append_13 : decode cX2_append 13 = .ok (.getfield 19, 3) := by decide +kernel
theorem dX2_append_16 : decode cX2_append 16 = .ok (.iload_n 3, 1) := by decide +kernel
theorem dX2_append_17 : decode cX2_append 17 = .ok (.iadd, 1) := by decide +kernel
theorem dX2_append_18 : decode cX2_append 18 = .ok (.bipush 60, 2) := by decide +kernel
theorem dX2_append_20 : decode cX2_append 20 = .ok (.if_icmp .le 6, 3) := by decide +kernel
theorem dX2_append_23 : decode cX2_append 23 = .ok (.bipush (-4), 2) := by decide +kernel
theorem dX2_append_25 : decode cX2_append 25 = .ok (.ireturn, 1) := by decide +kernel
theorem dX2_append_26 : decode cX2_append 26 = .ok (.iload_n 3, 1) := by decide +kernel
theorem dX2_append_27 : decode cX2_append 27 = .ok (.iconst 1, 1) := by decide +kernel
theorem dX2_append_28 : decode cX2_append 28 = .ok (.isub, 1) := by decide +kernel
theorem dX2_append_29 : decode cX2_append 29 = .ok (.istore 4, 2) := by decide +kernel
theorem dX2_append_31 : decode cX2_append 31 = .ok (.iload 4, 2) := by decide +kernel
theorem dX2_append_33 : decode cX2_append 33 = .ok (.ifCond .lt 35, 3) := by decide +kernel
theorem dX2_append_36 : decode cX2_append 36 = .ok (.aload_n 0, 1) := by decide +kernel
theorem dX2_append_37 : decode cX2_append 37 = .ok (.getfield 9, 3) := by decide +kernel
theorem dX2_append_40 : decode cX2_append 40 = .ok (.aload_n 0, 1) := by decide +kernel
theorem dX2_append_41 : decode cX2_append 41 = .ok (.getfield 19, 3) := by decide +kernel
theorem dX2_append_44 : decode cX2_append 44 = .ok (.lload_n 1, 1) := by decide +kernel
theorem dX2_append_45 : decode cX2_append 45 = .ok (.iload 4, 2) := by decide +kernel
theorem dX2_append_47 : decode cX2_append 47 = .ok (.invokestatic 23, 3) := by decide +kernel
theorem dX2_append_50 : decode cX2_append 50 = .ok (.i2c, 1) := by decide +kernel
theorem dX2_append_51 : decode cX2_append 51 = .ok (.castore, 1) := by decide +kernel
theorem dX2_append_52 : decode cX2_append 52 = .ok (.aload_n 0, 1) := by decide +kernel
theorem dX2_append_53 : decode cX2_append 53 = .ok (.dup, 1) := by decide +kernel
theorem dX2_append_54 : decode cX2_append 54 = .ok (.getfield 19, 3) := by decide +kernel
theorem dX2_append_57 : decode cX2_append 57 = .ok (.iconst 1, 1) := by decide +kernel
theorem dX2_append_58 : decode cX2_append 58 = .ok (.iadd, 1) := by decide +kernel
theorem dX2_append_59 : decode cX2_append 59 = .ok (.putfield 19, 3) := by decide +kernel
theorem dX2_append_62 : decode cX2_append 62 = .ok (.iinc 4 (-1), 3) := by decide +kernel
theorem dX2_append_65 : decode cX2_append 65 = .ok (.goto (-34), 3) := by decide +kernel
theorem dX2_append_68 : decode cX2_append 68 = .ok (.aload_n 0, 1) := by decide +kernel
theorem dX2_append_69 : decode cX2_append 69 = .ok (.getfield 19, 3) := by decide +kernel
theorem dX2_append_72 : decode cX2_append 72 = .ok (.ireturn, 1) := by decide +kernel
theorem dX2_charactersIn_0 : decode cX2_charactersIn 0 = .ok (.iconst 0, 1) := by decide +kernel
theorem dX2_charactersIn_1 : decode cX2_charactersIn 1 = .ok (.istore_n 2, 1) := by decide +kernel
theorem dX2_charactersIn_2 : decode cX2_charactersIn 2 = .ok (.iload_n 2, 1) := by decide +kernel
theorem dX2_charactersIn_3 : decode cX2_charactersIn 3 = .ok (.bipush 8, 2) := by decide +kernel
theorem dX2_charactersIn_5 : decode cX2_charactersIn 5 = .ok (.if_icmp .ge 49, 3) := by decide +kernel
theorem dX2_charactersIn_8 : decode cX2_charactersIn 8 = .ok (.lload_n 0, 1) := by decide +kernel
theorem dX2_charactersIn_9 : decode cX2_charactersIn 9 = .ok (.iload_n 2, 1) := by decide +kernel
theorem dX2_charactersIn_10 : decode cX2_charactersIn 10 = .ok (.invokestatic 23, 3) := by decide +kernel
theorem dX2_charactersIn_13 : decode cX2_charactersIn 13 = .ok (.istore_n 3, 1) := by decide +kernel
theorem dX2_charactersIn_14 : decode cX2_charactersIn 14 = .ok (.iload_n 3, 1) := by decide +kernel
theorem dX2_charactersIn_15 : decode cX2_charactersIn 15 = .ok (.ifCond .ne 20, 3) := by decide +kernel
theorem dX2_charactersIn_18 : decode cX2_charactersIn 18 = .ok (.lload_n 0, 1) := by decide +kernel
theorem dX2_charactersIn_19 : decode cX2_charactersIn 19 = .ok (.bipush 8, 2) := by decide +kernel
theorem dX2_charactersIn_21 : decode cX2_charactersIn 21 = .ok (.iload_n 2, 1) := by decide +kernel
theorem dX2_charactersIn_22 : decode cX2_charactersIn 22 = .ok (.imul, 1) := by decide +kernel
theorem dX2_charactersIn_23 : decode cX2_charactersIn 23 = .ok (.lushr, 1) := by decide +kernel
theorem dX2_charactersIn_24 : decode cX2_charactersIn 24 = .ok (.lconst 0, 1) := by decide +kernel
theorem dX2_charactersIn_25 : decode cX2_charactersIn 25 = .ok (.lcmp, 1) := by decide +kernel
theorem dX2_charactersIn_26 : decode cX2_charactersIn 26 = .ok (.ifCond .ne 7, 3) := by decide +kernel
theorem dX2_charactersIn_29 : decode cX2_charactersIn 29 = .ok (.iload_n 2, 1) := by decide +kernel
theorem dX2_charactersIn_30 : decode cX2_charactersIn 30 = .ok (.goto 4, 3) := by decide +kernel
theorem dX2_charactersIn_33 : decode cX2_charactersIn 33 = .ok (.iconst 0, 1) := by decide +kernel
theorem dX2_charactersIn_34 : decode cX2_charactersIn 34 = .ok (.ireturn, 1) := by decide +kernel
theorem dX2_charactersIn_35 : decode cX2_charactersIn 35 = .ok (.iload_n 3, 1) := by decide +kernel
theorem dX2_charactersIn_36 : decode cX2_charactersIn 36 = .ok (.bipush 33, 2) := by decide +kernel
theorem dX2_charactersIn_38 : decode cX2_charactersIn 38 = .ok (.bipush 126, 2) := by decide +kernel
theorem dX2_charactersIn_40 : decode cX2_charactersIn 40 = .ok (.invokestatic 27, 3) := by decide +kernel
theorem dX2_charactersIn_43 : decode cX2_charactersIn 43 = .ok (.ifCond .ne 5, 3) := by decide +kernel
theorem dX2_charactersIn_46 : decode cX2_charactersIn 46 = .ok (.iconst 0, 1) := by decide +kernel
theorem dX2_charactersIn_47 : decode cX2_charactersIn 47 = .ok (.ireturn, 1) := by decide +kernel
theorem dX2_charactersIn_48 : decode cX2_charactersIn 48 = .ok (.iinc 2 1, 3) := by decide +kernel
theorem dX2_charactersIn_51 : decode cX2_charactersIn 51 = .ok (.goto (-49), 3) := by decide +kernel
theorem dX2_charactersIn_54 : decode cX2_charactersIn 54 = .ok (.bipush 8, 2) := by decide +kernel
theorem dX2_charactersIn_56 : decode cX2_charactersIn 56 = .ok (.ireturn, 1) := by decide +kernel
theorem dX2_codeAt_0 : decode cX2_codeAt 0 = .ok (.lload_n 0, 1) := by decide +kernel
theorem dX2_codeAt_1 : decode cX2_codeAt 1 = .ok (.bipush 8, 2) := by decide +kernel
theorem dX2_codeAt_3 : decode cX2_codeAt 3 = .ok (.iload_n 2, 1) := by decide +kernel
theorem dX2_codeAt_4 : decode cX2_codeAt 4 = .ok (.imul, 1) := by decide +kernel
theorem dX2_codeAt_5 : decode cX2_codeAt 5 = .ok (.lushr, 1) := by decide +kernel
theorem dX2_codeAt_6 : decode cX2_codeAt 6 = .ok (.l2i, 1) := by decide +kernel
theorem dX2_codeAt_7 : decode cX2_codeAt 7 = .ok (.sipush 255, 3) := by decide +kernel
theorem dX2_codeAt_10 : decode cX2_codeAt 10 = .ok (.iand, 1) := by decide +kernel
theorem dX2_codeAt_11 : decode cX2_codeAt 11 = .ok (.ireturn, 1) := by decide +kernel
theorem dX2_empty_0 : decode cX2_empty 0 = .ok (.aload_n 0, 1) := by decide +kernel
theorem dX2_empty_1 : decode cX2_empty 1 = .ok (.getfield 19, 3) := by decide +kernel
theorem dX2_empty_4 : decode cX2_empty 4 = .ok (.istore_n 1, 1) := by decide +kernel
theorem dX2_empty_5 : decode cX2_empty 5 = .ok (.aload_n 0, 1) := by decide +kernel
theorem dX2_empty_6 : decode cX2_empty 6 = .ok (.iconst 0, 1) := by decide +kernel
theorem dX2_empty_7 : decode cX2_empty 7 = .ok (.putfield 19, 3) := by decide +kernel
theorem dX2_empty_10 : decode cX2_empty 10 = .ok (.iload_n 1, 1) := by decide +kernel
theorem dX2_empty_11 : decode cX2_empty 11 = .ok (.ireturn, 1) := by decide +kernel
theorem dX2_firstFault_0 : decode cX2_firstFault 0 = .ok (.aload_n 0, 1) := by decide +kernel
theorem dX2_firstFault_1 : decode cX2_firstFault 1 = .ok (.iconst 0, 1) := by decide +kernel
theorem dX2_firstFault_2 : decode cX2_firstFault 2 = .ok (.putfield 31, 3) := by decide +kernel
theorem dX2_firstFault_5 : decode cX2_firstFault 5 = .ok (.aload_n 0, 1) := by decide +kernel
theorem dX2_firstFault_6 : decode cX2_firstFault 6 = .ok (.iconst 0, 1) := by decide +kernel
theorem dX2_firstFault_7 : decode cX2_firstFault 7 = .ok (.putfield 34, 3) := by decide +kernel
theorem dX2_firstFault_10 : decode cX2_firstFault 10 = .ok (.iconst 0, 1) := by decide +kernel
theorem dX2_firstFault_11 : decode cX2_firstFault 11 = .ok (.istore_n 1, 1) := by decide +kernel
theorem dX2_firstFault_12 : decode cX2_firstFault 12 = .ok (.iload_n 1, 1) := by decide +kernel
theorem dX2_firstFault_13 : decode cX2_firstFault 13 = .ok (.aload_n 0, 1) := by decide +kernel
theorem dX2_firstFault_14 : decode cX2_firstFault 14 = .ok (.getfield 19, 3) := by decide +kernel
theorem dX2_firstFault_17 : decode cX2_firstFault 17 = .ok (.if_icmp .ge 24, 3) := by decide +kernel
theorem dX2_firstFault_20 : decode cX2_firstFault 20 = .ok (.aload_n 0, 1) := by decide +kernel
theorem dX2_firstFault_21 : decode cX2_firstFault 21 = .ok (.aload_n 0, 1) := by decide +kernel
theorem dX2_firstFault_22 : decode cX2_firstFault 22 = .ok (.getfield 9, 3) := by decide +kernel
theorem dX2_firstFault_25 : decode cX2_firstFault 25 = .ok (.iload_n 1, 1) := by decide +kernel
theorem dX2_firstFault_26 : decode cX2_firstFault 26 = .ok (.caload, 1) := by decide +kernel
theorem dX2_firstFault_27 : decode cX2_firstFault 27 = .ok (.invokevirtual 38, 3) := by decide +kernel
theorem dX2_firstFault_30 : decode cX2_firstFault 30 = .ok (.ifCond .ne 5, 3) := by decide +kernel
theorem dX2_firstFault_33 : decode cX2_firstFault 33 = .ok (.iload_n 1, 1) := by decide +kernel
theorem dX2_firstFault_34 : decode cX2_firstFault 34 = .ok (.ireturn, 1) := by decide +kernel
theorem dX2_firstFault_35 : decode cX2_firstFault 35 = .ok (.iinc 1 1, 3) := by decide +kernel
theorem dX2_firstFault_38 : decode cX2_firstFault 38 = .ok (.goto (-26), 3) := by decide +kernel
theorem dX2_firstFault_41 : decode cX2_firstFault 41 = .ok (.aload_n 0, 1) := by decide +kernel
theorem dX2_firstFault_42 : decode cX2_firstFault 42 = .ok (.getfield 31, 3) := by decide +kernel
theorem dX2_firstFault_45 : decode cX2_firstFault 45 = .ok (.iconst 3, 1) := by decide +kernel
theorem dX2_firstFault_46 : decode cX2_firstFault 46 = .ok (.if_icmp .eq 18, 3) := by decide +kernel
theorem dX2_firstFault_49 : decode cX2_firstFault 49 = .ok (.aload_n 0, 1) := by decide +kernel
theorem dX2_firstFault_50 : decode cX2_firstFault 50 = .ok (.getfield 31, 3) := by decide +kernel
theorem dX2_firstFault_53 : decode cX2_firstFault 53 = .ok (.iconst 2, 1) := by decide +kernel
theorem dX2_firstFault_54 : decode cX2_firstFault 54 = .ok (.if_icmp .ne 14, 3) := by decide +kernel
theorem dX2_firstFault_57 : decode cX2_firstFault 57 = .ok (.aload_n 0, 1) := by decide +kernel
theorem dX2_firstFault_58 : decode cX2_firstFault 58 = .ok (.getfield 34, 3) := by decide +kernel
theorem dX2_firstFault_61 : decode cX2_firstFault 61 = .ok (.ifCond .ne 7, 3) := by decide +kernel
theorem dX2_firstFault_64 : decode cX2_firstFault 64 = .ok (.iconst 1, 1) := by decide +kernel
theorem dX2_firstFault_65 : decode cX2_firstFault 65 = .ok (.goto 4, 3) := by decide +kernel
theorem dX2_firstFault_68 : decode cX2_firstFault 68 = .ok (.iconst 0, 1) := by decide +kernel
theorem dX2_firstFault_69 : decode cX2_firstFault 69 = .ok (.istore_n 1, 1) := by decide +kernel
theorem dX2_firstFault_70 : decode cX2_firstFault 70 = .ok (.iload_n 1, 1) := by decide +kernel
theorem dX2_firstFault_71 : decode cX2_firstFault 71 = .ok (.ifCond .eq 8, 3) := by decide +kernel
theorem dX2_firstFault_74 : decode cX2_firstFault 74 = .ok (.bipush (-6), 2) := by decide +kernel
theorem dX2_firstFault_76 : decode cX2_firstFault 76 = .ok (.goto 7, 3) := by decide +kernel
theorem dX2_firstFault_79 : decode cX2_firstFault 79 = .ok (.aload_n 0, 1) := by decide +kernel
theorem dX2_firstFault_80 : decode cX2_firstFault 80 = .ok (.getfield 19, 3) := by decide +kernel
theorem dX2_firstFault_83 : decode cX2_firstFault 83 = .ok (.ireturn, 1) := by decide +kernel
theorem dX2_canStand_0 : decode cX2_canStand 0 = .ok (.aload_n 0, 1) := by decide +kernel
theorem dX2_canStand_1 : decode cX2_canStand 1 = .ok (.getfield 31, 3) := by decide +kernel
theorem dX2_canStand_4 : decode cX2_canStand 4 = .ok (.tableswitch 61 0 2 #[28, 34, 40], 28) := by decide +kernel
theorem dX2_canStand_32 : decode cX2_canStand 32 = .ok (.aload_n 0, 1) := by decide +kernel
theorem dX2_canStand_33 : decode cX2_canStand 33 = .ok (.iload_n 1, 1) := by decide +kernel
theorem dX2_canStand_34 : decode cX2_canStand 34 = .ok (.invokevirtual 42, 3) := by decide +kernel
theorem dX2_canStand_37 : decode cX2_canStand 37 = .ok (.ireturn, 1) := by decide +kernel
theorem dX2_canStand_38 : decode cX2_canStand 38 = .ok (.aload_n 0, 1) := by decide +kernel
theorem dX2_canStand_39 : decode cX2_canStand 39 = .ok (.iload_n 1, 1) := by decide +kernel
theorem dX2_canStand_40 : decode cX2_canStand 40 = .ok (.invokevirtual 45, 3) := by decide +kernel
theorem dX2_canStand_43 : decode cX2_canStand 43 = .ok (.ireturn, 1) := by decide +kernel
theorem dX2_canStand_44 : decode cX2_canStand 44 = .ok (.iload_n 1, 1) := by decide +kernel
theorem dX2_canStand_45 : decode cX2_canStand 45 = .ok (.invokestatic 48, 3) := by decide +kernel
theorem dX2_canStand_48 : decode cX2_canStand 48 = .ok (.ifCond .eq 11, 3) := by decide +kernel
theorem dX2_canStand_51 : decode cX2_canStand 51 = .ok (.aload_n 0, 1) := by decide +kernel
theorem dX2_canStand_52 : decode cX2_canStand 52 = .ok (.iload_n 1, 1) := by decide +kernel
theorem dX2_canStand_53 : decode cX2_canStand 53 = .ok (.invokevirtual 51, 3) := by decide +kernel
theorem dX2_canStand_56 : decode cX2_canStand 56 = .ok (.goto 8, 3) := by decide +kernel
theorem dX2_canStand_59 : decode cX2_canStand 59 = .ok (.aload_n 0, 1) := by decide +kernel
theorem dX2_canStand_60 : decode cX2_canStand 60 = .ok (.iload_n 1, 1) := by decide +kernel
theorem dX2_canStand_61 : decode cX2_canStand 61 = .ok (.invokevirtual 54, 3) := by decide +kernel
theorem dX2_canStand_64 : decode cX2_canStand 64 = .ok (.ireturn, 1) := by decide +kernel
theorem dX2_canStand_65 : decode cX2_canStand 65 = .ok (.aload_n 0, 1) := by decide +kernel
theorem dX2_canStand_66 : decode cX2_canStand 66 = .ok (.iload_n 1, 1) := by decide +kernel
theorem dX2_canStand_67 : decode cX2_canStand 67 = .ok (.invokevirtual 57, 3) := by decide +kernel
theorem dX2_canStand_70 : decode cX2_canStand 70 = .ok (.ireturn, 1) := by decide +kernel
theorem dX2_startsOrder_0 : decode cX2_startsOrder 0 = .ok (.aload_n 0, 1) := by decide +kernel
theorem dX2_startsOrder_1 : decode cX2_startsOrder 1 = .ok (.iload_n 1, 1) := by decide +kernel
theorem dX2_startsOrder_2 : decode cX2_startsOrder 2 = .ok (.bipush 104, 2) := by decide +kernel
theorem dX2_startsOrder_4 : decode cX2_startsOrder 4 = .ok (.if_icmp .ne 7, 3) := by decide +kernel
theorem dX2_startsOrder_7 : decode cX2_startsOrder 7 = .ok (.iconst 3, 1) := by decide +kernel
theorem dX2_startsOrder_8 : decode cX2_startsOrder 8 = .ok (.goto 4, 3) := by decide +kernel
theorem dX2_startsOrder_11 : decode cX2_startsOrder 11 = .ok (.iconst 1, 1) := by decide +kernel
theorem dX2_startsOrder_12 : decode cX2_startsOrder 12 = .ok (.putfield 31, 3) := by decide +kernel
theorem dX2_startsOrder_15 : decode cX2_startsOrder 15 = .ok (.aload_n 0, 1) := by decide +kernel
theorem dX2_startsOrder_16 : decode cX2_startsOrder 16 = .ok (.iload_n 1, 1) := by decide +kernel
theorem dX2_startsOrder_17 : decode cX2_startsOrder 17 = .ok (.bipush 112, 2) := by decide +kernel
theorem dX2_startsOrder_19 : decode cX2_startsOrder 19 = .ok (.if_icmp .ne 7, 3) := by decide +kernel
theorem dX2_startsOrder_22 : decode cX2_startsOrder 22 = .ok (.iconst 1, 1) := by decide +kernel
theorem dX2_startsOrder_23 : decode cX2_startsOrder 23 = .ok (.goto 4, 3) := by decide +kernel
theorem dX2_startsOrder_26 : decode cX2_startsOrder 26 = .ok (.iconst 0, 1) := by decide +kernel
theorem dX2_startsOrder_27 : decode cX2_startsOrder 27 = .ok (.putfield 34, 3) := by decide +kernel
theorem dX2_startsOrder_30 : decode cX2_startsOrder 30 = .ok (.iload_n 1, 1) := by decide +kernel
theorem dX2_startsOrder_31 : decode cX2_startsOrder 31 = .ok (.bipush 103, 2) := by decide +kernel
theorem dX2_startsOrder_33 : decode cX2_startsOrder 33 = .ok (.if_icmp .eq 27, 3) := by decide +kernel
theorem dX2_startsOrder_36 : decode cX2_startsOrder 36 = .ok (.iload_n 1, 1) := by decide +kernel
theorem dX2_startsOrder_37 : decode cX2_startsOrder 37 = .ok (.bipush 104, 2) := by decide +kernel
theorem dX2_startsOrder_39 : decode cX2_startsOrder 39 = .ok (.if_icmp .eq 21, 3) := by decide +kernel
theorem dX2_startsOrder_42 : decode cX2_startsOrder 42 = .ok (.iload_n 1, 1) := by decide +kernel
theorem dX2_startsOrder_43 : decode cX2_startsOrder 43 = .ok (.bipush 116, 2) := by decide +kernel
theorem dX2_startsOrder_45 : decode cX2_startsOrder 45 = .ok (.if_icmp .eq 15, 3) := by decide +kernel
theorem dX2_startsOrder_48 : decode cX2_startsOrder 48 = .ok (.iload_n 1, 1) := by decide +kernel
theorem dX2_startsOrder_49 : decode cX2_startsOrder 49 = .ok (.bipush 112, 2) := by decide +kernel
theorem dX2_startsOrder_51 : decode cX2_startsOrder 51 = .ok (.if_icmp .eq 9, 3) := by decide +kernel
theorem dX2_startsOrder_54 : decode cX2_startsOrder 54 = .ok (.iload_n 1, 1) := by decide +kernel
theorem dX2_startsOrder_55 : decode cX2_startsOrder 55 = .ok (.bipush 100, 2) := by decide +kernel
theorem dX2_startsOrder_57 : decode cX2_startsOrder 57 = .ok (.if_icmp .ne 7, 3) := by decide +kernel
theorem dX2_startsOrder_60 : decode cX2_startsOrder 60 = .ok (.iconst 1, 1) := by decide +kernel
theorem dX2_startsOrder_61 : decode cX2_startsOrder 61 = .ok (.goto 4, 3) := by decide +kernel
theorem dX2_startsOrder_64 : decode cX2_startsOrder 64 = .ok (.iconst 0, 1) := by decide +kernel
theorem dX2_startsOrder_65 : decode cX2_startsOrder 65 = .ok (.ireturn, 1) := by decide +kernel
theorem dX2_startsNumber_0 : decode cX2_startsNumber 0 = .ok (.aload_n 0, 1) := by decide +kernel
theorem dX2_startsNumber_1 : decode cX2_startsNumber 1 = .ok (.iload_n 1, 1) := by decide +kernel
theorem dX2_startsNumber_2 : decode cX2_startsNumber 2 = .ok (.bipush 48, 2) := by decide +kernel
theorem dX2_startsNumber_4 : decode cX2_startsNumber 4 = .ok (.isub, 1) := by decide +kernel
theorem dX2_startsNumber_5 : decode cX2_startsNumber 5 = .ok (.putfield 60, 3) := by decide +kernel
theorem dX2_startsNumber_8 : decode cX2_startsNumber 8 = .ok (.aload_n 0, 1) := by decide +kernel
theorem dX2_startsNumber_9 : decode cX2_startsNumber 9 = .ok (.iconst 2, 1) := by decide +kernel
theorem dX2_startsNumber_10 : decode cX2_startsNumber 10 = .ok (.putfield 31, 3) := by decide +kernel
theorem dX2_startsNumber_13 : decode cX2_startsNumber 13 = .ok (.iload_n 1, 1) := by decide +kernel
theorem dX2_startsNumber_14 : decode cX2_startsNumber 14 = .ok (.invokestatic 48, 3) := by decide +kernel
theorem dX2_startsNumber_17 : decode cX2_startsNumber 17 = .ok (.ireturn, 1) := by decide +kernel
theorem dX2_growsNumber_0 : decode cX2_growsNumber 0 = .ok (.aload_n 0, 1) := by decide +kernel
theorem dX2_growsNumber_1 : decode cX2_growsNumber 1 = .ok (.getfield 60, 3) := by decide +kernel
theorem dX2_growsNumber_4 : decode cX2_growsNumber 4 = .ok (.ifCond .ne 5, 3) := by decide +kernel
theorem dX2_growsNumber_7 : decode cX2_growsNumber 7 = .ok (.iconst 0, 1) := by decide +kernel
theorem dX2_growsNumber_8 : decode cX2_growsNumber 8 = .ok (.ireturn, 1) := by decide +kernel
theorem dX2_growsNumber_9 : decode cX2_growsNumber 9 = .ok (.aload_n 0, 1) := by decide +kernel
theorem dX2_growsNumber_10 : decode cX2_growsNumber 10 = .ok (.bipush 10, 2) := by decide +kernel
theorem dX2_growsNumber_12 : decode cX2_growsNumber 12 = .ok (.aload_n 0, 1) := by decide +kernel
theorem dX2_growsNumber_13 : decode cX2_growsNumber 13 = .ok (.getfield 60, 3) := by decide +kernel
theorem dX2_growsNumber_16 : decode cX2_growsNumber 16 = .ok (.imul, 1) := by decide +kernel
theorem dX2_growsNumber_17 : decode cX2_growsNumber 17 = .ok (.iload_n 1, 1) := by decide +kernel
theorem dX2_growsNumber_18 : decode cX2_growsNumber 18 = .ok (.bipush 48, 2) := by decide +kernel
theorem dX2_growsNumber_20 : decode cX2_growsNumber 20 = .ok (.isub, 1) := by decide +kernel
theorem dX2_growsNumber_21 : decode cX2_growsNumber 21 = .ok (.iadd, 1) := by decide +kernel
theorem dX2_growsNumber_22 : decode cX2_growsNumber 22 = .ok (.putfield 60, 3) := by decide +kernel
theorem dX2_growsNumber_25 : decode cX2_growsNumber 25 = .ok (.aload_n 0, 1) := by decide +kernel
theorem dX2_growsNumber_26 : decode cX2_growsNumber 26 = .ok (.getfield 60, 3) := by decide +kernel
theorem dX2_growsNumber_29 : decode cX2_growsNumber 29 = .ok (.ldc 63, 2) := by decide +kernel
theorem dX2_growsNumber_31 : decode cX2_growsNumber 31 = .ok (.if_icmp .gt 7, 3) := by decide +kernel
theorem dX2_growsNumber_34 : decode cX2_growsNumber 34 = .ok (.iconst 1, 1) := by decide +kernel
theorem dX2_growsNumber_35 : decode cX2_growsNumber 35 = .ok (.goto 4, 3) := by decide +kernel
theorem dX2_growsNumber_38 : decode cX2_growsNumber 38 = .ok (.iconst 0, 1) := by decide +kernel
theorem dX2_growsNumber_39 : decode cX2_growsNumber 39 = .ok (.ireturn, 1) := by decide +kernel
theorem dX2_endsNumber_0 : decode cX2_endsNumber 0 = .ok (.aload_n 0, 1) := by decide +kernel
theorem dX2_endsNumber_1 : decode cX2_endsNumber 1 = .ok (.getfield 34, 3) := by decide +kernel
theorem dX2_endsNumber_4 : decode cX2_endsNumber 4 = .ok (.ifCond .eq 25, 3) := by decide +kernel
theorem dX2_endsNumber_7 : decode cX2_endsNumber 7 = .ok (.aload_n 0, 1) := by decide +kernel
theorem dX2_endsNumber_8 : decode cX2_endsNumber 8 = .ok (.iconst 0, 1) := by decide +kernel
theorem dX2_endsNumber_9 : decode cX2_endsNumber 9 = .ok (.putfield 34, 3) := by decide +kernel
theorem dX2_endsNumber_12 : decode cX2_endsNumber 12 = .ok (.aload_n 0, 1) := by decide +kernel
theorem dX2_endsNumber_13 : decode cX2_endsNumber 13 = .ok (.iconst 1, 1) := by decide +kernel
theorem dX2_endsNumber_14 : decode cX2_endsNumber 14 = .ok (.putfield 31, 3) := by decide +kernel
theorem dX2_endsNumber_17 : decode cX2_endsNumber 17 = .ok (.iload_n 1, 1) := by decide +kernel
theorem dX2_endsNumber_18 : decode cX2_endsNumber 18 = .ok (.bipush 61, 2) := by decide +kernel
theorem dX2_endsNumber_20 : decode cX2_endsNumber 20 = .ok (.if_icmp .ne 7, 3) := by decide +kernel
theorem dX2_endsNumber_23 : decode cX2_endsNumber 23 = .ok (.iconst 1, 1) := by decide +kernel
theorem dX2_endsNumber_24 : decode cX2_endsNumber 24 = .ok (.goto 4, 3) := by decide +kernel
theorem dX2_endsNumber_27 : decode cX2_endsNumber 27 = .ok (.iconst 0, 1) := by decide +kernel
theorem dX2_endsNumber_28 : decode cX2_endsNumber 28 = .ok (.ireturn, 1) := by decide +kernel
theorem dX2_endsNumber_29 : decode cX2_endsNumber 29 = .ok (.aload_n 0, 1) := by decide +kernel
theorem dX2_endsNumber_30 : decode cX2_endsNumber 30 = .ok (.iload_n 1, 1) := by decide +kernel
theorem dX2_endsNumber_31 : decode cX2_endsNumber 31 = .ok (.invokevirtual 57, 3) := by decide +kernel
theorem dX2_endsNumber_34 : decode cX2_endsNumber 34 = .ok (.ireturn, 1) := by decide +kernel
theorem dX2_endsOrder_0 : decode cX2_endsOrder 0 = .ok (.aload_n 0, 1) := by decide +kernel
theorem dX2_endsOrder_1 : decode cX2_endsOrder 1 = .ok (.iconst 0, 1) := by decide +kernel
theorem dX2_endsOrder_2 : decode cX2_endsOrder 2 = .ok (.putfield 31, 3) := by decide +kernel
theorem dX2_endsOrder_5 : decode cX2_endsOrder 5 = .ok (.iload_n 1, 1) := by decide +kernel
theorem dX2_endsOrder_6 : decode cX2_endsOrder 6 = .ok (.bipush 59, 2) := by decide +kernel
theorem dX2_endsOrder_8 : decode cX2_endsOrder 8 = .ok (.if_icmp .ne 7, 3) := by decide +kernel
theorem dX2_endsOrder_11 : decode cX2_endsOrder 11 = .ok (.iconst 1, 1) := by decide +kernel
theorem dX2_endsOrder_12 : decode cX2_endsOrder 12 = .ok (.goto 4, 3) := by decide +kernel
theorem dX2_endsOrder_15 : decode cX2_endsOrder 15 = .ok (.iconst 0, 1) := by decide +kernel
theorem dX2_endsOrder_16 : decode cX2_endsOrder 16 = .ok (.ireturn, 1) := by decide +kernel
theorem dX2_isDigit_0 : decode cX2_isDigit 0 = .ok (.iload_n 0, 1) := by decide +kernel
theorem dX2_isDigit_1 : decode cX2_isDigit 1 = .ok (.bipush 48, 2) := by decide +kernel
theorem dX2_isDigit_3 : decode cX2_isDigit 3 = .ok (.if_icmp .lt 13, 3) := by decide +kernel
theorem dX2_isDigit_6 : decode cX2_isDigit 6 = .ok (.iload_n 0, 1) := by decide +kernel
theorem dX2_isDigit_7 : decode cX2_isDigit 7 = .ok (.bipush 57, 2) := by decide +kernel
theorem dX2_isDigit_9 : decode cX2_isDigit 9 = .ok (.if_icmp .gt 7, 3) := by decide +kernel
theorem dX2_isDigit_12 : decode cX2_isDigit 12 = .ok (.iconst 1, 1) := by decide +kernel
theorem dX2_isDigit_13 : decode cX2_isDigit 13 = .ok (.goto 4, 3) := by decide +kernel
theorem dX2_isDigit_16 : decode cX2_isDigit 16 = .ok (.iconst 0, 1) := by decide +kernel
theorem dX2_isDigit_17 : decode cX2_isDigit 17 = .ok (.ireturn, 1) := by decide +kernel
theorem dX2_startReading_0 : decode cX2_startReading 0 = .ok (.aload_n 0, 1) := by decide +kernel
theorem dX2_startReading_1 : decode cX2_startReading 1 = .ok (.iconst 0, 1) := by decide +kernel
theorem dX2_startReading_2 : decode cX2_startReading 2 = .ok (.putfield 64, 3) := by decide +kernel
theorem dX2_startReading_5 : decode cX2_startReading 5 = .ok (.return_, 1) := by decide +kernel
theorem dX2_readOrder_0 : decode cX2_readOrder 0 = .ok (.aload_n 0, 1) := by decide +kernel
theorem dX2_readOrder_1 : decode cX2_readOrder 1 = .ok (.getfield 64, 3) := by decide +kernel
theorem dX2_readOrder_4 : decode cX2_readOrder 4 = .ok (.aload_n 0, 1) := by decide +kernel
theorem dX2_readOrder_5 : decode cX2_readOrder 5 = .ok (.getfield 19, 3) := by decide +kernel
theorem dX2_readOrder_8 : decode cX2_readOrder 8 = .ok (.if_icmp .lt 5, 3) := by decide +kernel
theorem dX2_readOrder_11 : decode cX2_readOrder 11 = .ok (.iconst 0, 1) := by decide +kernel
theorem dX2_readOrder_12 : decode cX2_readOrder 12 = .ok (.ireturn, 1) := by decide +kernel
theorem dX2_readOrder_13 : decode cX2_readOrder 13 = .ok (.aload_n 0, 1) := by decide +kernel
theorem dX2_readOrder_14 : decode cX2_readOrder 14 = .ok (.aload_n 0, 1) := by decide +kernel
theorem dX2_readOrder_15 : decode cX2_readOrder 15 = .ok (.getfield 9, 3) := by decide +kernel
theorem dX2_readOrder_18 : decode cX2_readOrder 18 = .ok (.aload_n 0, 1) := by decide +kernel
theorem dX2_readOrder_19 : decode cX2_readOrder 19 = .ok (.getfield 64, 3) := by decide +kernel
theorem dX2_readOrder_22 : decode cX2_readOrder 22 = .ok (.caload, 1) := by decide +kernel
theorem dX2_readOrder_23 : decode cX2_readOrder 23 = .ok (.putfield 67, 3) := by decide +kernel
theorem dX2_readOrder_26 : decode cX2_readOrder 26 = .ok (.aload_n 0, 1) := by decide +kernel
theorem dX2_readOrder_27 : decode cX2_readOrder 27 = .ok (.dup, 1) := by decide +kernel
theorem dX2_readOrder_28 : decode cX2_readOrder 28 = .ok (.getfield 64, 3) := by decide +kernel
theorem dX2_readOrder_31 : decode cX2_readOrder 31 = .ok (.iconst 1, 1) := by decide +kernel
theorem dX2_readOrder_32 : decode cX2_readOrder 32 = .ok (.iadd, 1) := by decide +kernel
theorem dX2_readOrder_33 : decode cX2_readOrder 33 = .ok (.putfield 64, 3) := by decide +kernel
theorem dX2_readOrder_36 : decode cX2_readOrder 36 = .ok (.aload_n 0, 1) := by decide +kernel
theorem dX2_readOrder_37 : decode cX2_readOrder 37 = .ok (.aload_n 0, 1) := by decide +kernel
theorem dX2_readOrder_38 : decode cX2_readOrder 38 = .ok (.invokevirtual 71, 3) := by decide +kernel
theorem dX2_readOrder_41 : decode cX2_readOrder 41 = .ok (.putfield 75, 3) := by decide +kernel
theorem dX2_readOrder_44 : decode cX2_readOrder 44 = .ok (.aload_n 0, 1) := by decide +kernel
theorem dX2_readOrder_45 : decode cX2_readOrder 45 = .ok (.iconst 0, 1) := by decide +kernel
theorem dX2_readOrder_46 : decode cX2_readOrder 46 = .ok (.putfield 78, 3) := by decide +kernel
theorem dX2_readOrder_49 : decode cX2_readOrder 49 = .ok (.aload_n 0, 1) := by decide +kernel
theorem dX2_readOrder_50 : decode cX2_readOrder 50 = .ok (.getfield 64, 3) := by decide +kernel
theorem dX2_readOrder_53 : decode cX2_readOrder 53 = .ok (.aload_n 0, 1) := by decide +kernel
theorem dX2_readOrder_54 : decode cX2_readOrder 54 = .ok (.getfield 19, 3) := by decide +kernel
theorem dX2_readOrder_57 : decode cX2_readOrder 57 = .ok (.if_icmp .ge 35, 3) := by decide +kernel
theorem dX2_readOrder_60 : decode cX2_readOrder 60 = .ok (.aload_n 0, 1) := by decide +kernel
theorem dX2_readOrder_61 : decode cX2_readOrder 61 = .ok (.getfield 9, 3) := by decide +kernel
theorem dX2_readOrder_64 : decode cX2_readOrder 64 = .ok (.aload_n 0, 1) := by decide +kernel
theorem dX2_readOrder_65 : decode cX2_readOrder 65 = .ok (.getfield 64, 3) := by decide +kernel
theorem dX2_readOrder_68 : decode cX2_readOrder 68 = .ok (.caload, 1) := by decide +kernel
theorem dX2_readOrder_69 : decode cX2_readOrder 69 = .ok (.bipush 61, 2) := by decide +kernel
theorem dX2_readOrder_71 : decode cX2_readOrder 71 = .ok (.if_icmp .ne 21, 3) := by decide +kernel
theorem dX2_readOrder_74 : decode cX2_readOrder 74 = .ok (.aload_n 0, 1) := by decide +kernel
theorem dX2_readOrder_75 : decode cX2_readOrder 75 = .ok (.dup, 1) := by decide +kernel
theorem dX2_readOrder_76 : decode cX2_readOrder 76 = .ok (.getfield 64, 3) := by decide +kernel
theorem dX2_readOrder_79 : decode cX2_readOrder 79 = .ok (.iconst 1, 1) := by decide +kernel
theorem dX2_readOrder_80 : decode cX2_readOrder 80 = .ok (.iadd, 1) := by decide +kernel
theorem dX2_readOrder_81 : decode cX2_readOrder 81 = .ok (.putfield 64, 3) := by decide +kernel
theorem dX2_readOrder_84 : decode cX2_readOrder 84 = .ok (.aload_n 0, 1) := by decide +kernel
theorem dX2_readOrder_85 : decode cX2_readOrder 85 = .ok (.aload_n 0, 1) := by decide +kernel
theorem dX2_readOrder_86 : decode cX2_readOrder 86 = .ok (.invokevirtual 71, 3) := by decide +kernel
theorem dX2_readOrder_89 : decode cX2_readOrder 89 = .ok (.putfield 78, 3) := by decide +kernel
theorem dX2_readOrder_92 : decode cX2_readOrder 92 = .ok (.aload_n 0, 1) := by decide +kernel
theorem dX2_readOrder_93 : decode cX2_readOrder 93 = .ok (.dup, 1) := by decide +kernel
theorem dX2_readOrder_94 : decode cX2_readOrder 94 = .ok (.getfield 64, 3) := by decide +kernel
theorem dX2_readOrder_97 : decode cX2_readOrder 97 = .ok (.iconst 1, 1) := by decide +kernel
theorem dX2_readOrder_98 : decode cX2_readOrder 98 = .ok (.iadd, 1) := by decide +kernel
theorem dX2_readOrder_99 : decode cX2_readOrder 99 = .ok (.putfield 64, 3) := by decide +kernel
theorem dX2_readOrder_102 : decode cX2_readOrder 102 = .ok (.iconst 1, 1) := by decide +kernel
theorem dX2_readOrder_103 : decode cX2_readOrder 103 = .ok (.ireturn, 1) := by decide +kernel
theorem dX2_readNumber_0 : decode cX2_readNumber 0 = .ok (.iconst 0, 1) := by decide +kernel
theorem dX2_readNumber_1 : decode cX2_readNumber 1 = .ok (.istore_n 1, 1) := by decide +kernel
theorem dX2_readNumber_2 : decode cX2_readNumber 2 = .ok (.aload_n 0, 1) := by decide +kernel
theorem dX2_readNumber_3 : decode cX2_readNumber 3 = .ok (.getfield 64, 3) := by decide +kernel
theorem dX2_readNumber_6 : decode cX2_readNumber 6 = .ok (.aload_n 0, 1) := by decide +kernel
theorem dX2_readNumber_7 : decode cX2_readNumber 7 = .ok (.getfield 19, 3) := by decide +kernel
theorem dX2_readNumber_10 : decode cX2_readNumber 10 = .ok (.if_icmp .ge 49, 3) := by decide +kernel
theorem dX2_readNumber_13 : decode cX2_readNumber 13 = .ok (.aload_n 0, 1) := by decide +kernel
theorem dX2_readNumber_14 : decode cX2_readNumber 14 = .ok (.getfield 9, 3) := by decide +kernel
theorem dX2_readNumber_17 : decode cX2_readNumber 17 = .ok (.aload_n 0, 1) := by decide +kernel
theorem dX2_readNumber_18 : decode cX2_readNumber 18 = .ok (.getfield 64, 3) := by decide +kernel
theorem dX2_readNumber_21 : decode cX2_readNumber 21 = .ok (.caload, 1) := by decide +kernel
theorem dX2_readNumber_22 : decode cX2_readNumber 22 = .ok (.invokestatic 48, 3) := by decide +kernel
theorem dX2_readNumber_25 : decode cX2_readNumber 25 = .ok (.ifCond .eq 34, 3) := by decide +kernel
theorem dX2_readNumber_28 : decode cX2_readNumber 28 = .ok (.bipush 10, 2) := by decide +kernel
theorem dX2_readNumber_30 : decode cX2_readNumber 30 = .ok (.iload_n 1, 1) := by decide +kernel
theorem dX2_readNumber_31 : decode cX2_readNumber 31 = .ok (.imul, 1) := by decide +kernel
theorem dX2_readNumber_32 : decode cX2_readNumber 32 = .ok (.aload_n 0, 1) := by decide +kernel
theorem dX2_readNumber_33 : decode cX2_readNumber 33 = .ok (.getfield 9, 3) := by decide +kernel
theorem dX2_readNumber_36 : decode cX2_readNumber 36 = .ok (.aload_n 0, 1) := by decide +kernel
theorem dX2_readNumber_37 : decode cX2_readNumber 37 = .ok (.getfield 64, 3) := by decide +kernel
theorem dX2_readNumber_40 : decode cX2_readNumber 40 = .ok (.caload, 1) := by decide +kernel
theorem dX2_readNumber_41 : decode cX2_readNumber 41 = .ok (.bipush 48, 2) := by decide +kernel
theorem dX2_readNumber_43 : decode cX2_readNumber 43 = .ok (.isub, 1) := by decide +kernel
theorem dX2_readNumber_44 : decode cX2_readNumber 44 = .ok (.iadd, 1) := by decide +kernel
theorem dX2_readNumber_45 : decode cX2_readNumber 45 = .ok (.istore_n 1, 1) := by decide +kernel
theorem dX2_readNumber_46 : decode cX2_readNumber 46 = .ok (.aload_n 0, 1) := by decide +kernel
theorem dX2_readNumber_47 : decode cX2_readNumber 47 = .ok (.dup, 1) := by decide +kernel
theorem dX2_readNumber_48 : decode cX2_readNumber 48 = .ok (.getfield 64, 3) := by decide +kernel
theorem dX2_readNumber_51 : decode cX2_readNumber 51 = .ok (.iconst 1, 1) := by decide +kernel
theorem dX2_readNumber_52 : decode cX2_readNumber 52 = .ok (.iadd, 1) := by decide +kernel
theorem dX2_readNumber_53 : decode cX2_readNumber 53 = .ok (.putfield 64, 3) := by decide +kernel
theorem dX2_readNumber_56 : decode cX2_readNumber 56 = .ok (.goto (-54), 3) := by decide +kernel
theorem dX2_readNumber_59 : decode cX2_readNumber 59 = .ok (.iload_n 1, 1) := by decide +kernel
theorem dX2_readNumber_60 : decode cX2_readNumber 60 = .ok (.ireturn, 1) := by decide +kernel
theorem dX3_init_0 : decode cX3_init 0 = .ok (.aload_n 0, 1) := by decide +kernel
theorem dX3_init_1 : decode cX3_init 1 = .ok (.invokespecial 3, 3) := by decide +kernel
theorem dX3_init_4 : decode cX3_init 4 = .ok (.return_, 1) := by decide +kernel
theorem dX3_makeNew_0 : decode cX3_makeNew 0 = .ok (.aload_n 0, 1) := by decide +kernel
theorem dX3_makeNew_1 : decode cX3_makeNew 1 = .ok (.iload_n 1, 1) := by decide +kernel
theorem dX3_makeNew_2 : decode cX3_makeNew 2 = .ok (.putfield 9, 3) := by decide +kernel
theorem dX3_makeNew_5 : decode cX3_makeNew 5 = .ok (.aload_n 0, 1) := by decide +kernel
theorem dX3_makeNew_6 : decode cX3_makeNew 6 = .ok (.iload_n 2, 1) := by decide +kernel
theorem dX3_makeNew_7 : decode cX3_makeNew 7 = .ok (.putfield 15, 3) := by decide +kernel
theorem dX3_makeNew_10 : decode cX3_makeNew 10 = .ok (.aload_n 0, 1) := by decide +kernel
theorem dX3_makeNew_11 : decode cX3_makeNew 11 = .ok (.iload_n 3, 1) := by decide +kernel
theorem dX3_makeNew_12 : decode cX3_makeNew 12 = .ok (.putfield 18, 3) := by decide +kernel
theorem dX3_makeNew_15 : decode cX3_makeNew 15 = .ok (.aload_n 0, 1) := by decide +kernel
theorem dX3_makeNew_16 : decode cX3_makeNew 16 = .ok (.iload 4, 2) := by decide +kernel
theorem dX3_makeNew_18 : decode cX3_makeNew 18 = .ok (.putfield 21, 3) := by decide +kernel
theorem dX3_makeNew_21 : decode cX3_makeNew 21 = .ok (.aload_n 0, 1) := by decide +kernel
theorem dX3_makeNew_22 : decode cX3_makeNew 22 = .ok (.iload 5, 2) := by decide +kernel
theorem dX3_makeNew_24 : decode cX3_makeNew 24 = .ok (.putfield 24, 3) := by decide +kernel
theorem dX3_makeNew_27 : decode cX3_makeNew 27 = .ok (.aload_n 0, 1) := by decide +kernel
theorem dX3_makeNew_28 : decode cX3_makeNew 28 = .ok (.iconst 0, 1) := by decide +kernel
theorem dX3_makeNew_29 : decode cX3_makeNew 29 = .ok (.putfield 27, 3) := by decide +kernel
theorem dX3_makeNew_32 : decode cX3_makeNew 32 = .ok (.aload_n 0, 1) := by decide +kernel
theorem dX3_makeNew_33 : decode cX3_makeNew 33 = .ok (.iconst 0, 1) := by decide +kernel
theorem dX3_makeNew_34 : decode cX3_makeNew 34 = .ok (.putfield 30, 3) := by decide +kernel
theorem dX3_makeNew_37 : decode cX3_makeNew 37 = .ok (.aload_n 0, 1) := by decide +kernel
theorem dX3_makeNew_38 : decode cX3_makeNew 38 = .ok (.bipush (-6), 2) := by decide +kernel
theorem dX3_makeNew_40 : decode cX3_makeNew 40 = .ok (.putfield 34, 3) := by decide +kernel
theorem dX3_makeNew_43 : decode cX3_makeNew 43 = .ok (.aload_n 0, 1) := by decide +kernel
theorem dX3_makeNew_44 : decode cX3_makeNew 44 = .ok (.bipush (-6), 2) := by decide +kernel
theorem dX3_makeNew_46 : decode cX3_makeNew 46 = .ok (.putfield 37, 3) := by decide +kernel
theorem dX3_makeNew_49 : decode cX3_makeNew 49 = .ok (.aload_n 0, 1) := by decide +kernel
theorem dX3_makeNew_50 : decode cX3_makeNew 50 = .ok (.iconst 0, 1) := by decide +kernel
theorem dX3_makeNew_51 : decode cX3_makeNew 51 = .ok (.putfield 40, 3) := by decide +kernel
theorem dX3_makeNew_54 : decode cX3_makeNew 54 = .ok (.aload_n 0, 1) := by decide +kernel
theorem dX3_makeNew_55 : decode cX3_makeNew 55 = .ok (.iconst 0, 1) := by decide +kernel
theorem dX3_makeNew_56 : decode cX3_makeNew 56 = .ok (.putfield 43, 3) := by decide +kernel
theorem dX3_makeNew_59 : decode cX3_makeNew 59 = .ok (.aload_n 0, 1) := by decide +kernel
theorem dX3_makeNew_60 : decode cX3_makeNew 60 = .ok (.iconst 0, 1) := by decide +kernel
theorem dX3_makeNew_61 : decode cX3_makeNew 61 = .ok (.putfield 46, 3) := by decide +kernel
theorem dX3_makeNew_64 : decode cX3_makeNew 64 = .ok (.return_, 1) := by decide +kernel
theorem dX3_takeFrom_0 : decode cX3_takeFrom 0 = .ok (.aload_n 0, 1) := by decide +kernel
theorem dX3_takeFrom_1 : decode cX3_takeFrom 1 = .ok (.aload_n 1, 1) := by decide +kernel
theorem dX3_takeFrom_2 : decode cX3_takeFrom 2 = .ok (.getfield 9, 3) := by decide +kernel
theorem dX3_takeFrom_5 : decode cX3_takeFrom 5 = .ok (.putfield 9, 3) := by decide +kernel
theorem dX3_takeFrom_8 : decode cX3_takeFrom 8 = .ok (.aload_n 0, 1) := by decide +kernel
theorem dX3_takeFrom_9 : decode cX3_takeFrom 9 = .ok (.aload_n 1, 1) := by decide +kernel
theorem dX3_takeFrom_10 : decode cX3_takeFrom 10 = .ok (.getfield 15, 3) := by decide +kernel
theorem dX3_takeFrom_13 : decode cX3_takeFrom 13 = .ok (.putfield 15, 3) := by decide +kernel
theorem dX3_takeFrom_16 : decode cX3_takeFrom 16 = .ok (.aload_n 0, 1) := by decide +kernel
theorem dX3_takeFrom_17 : decode cX3_takeFrom 17 = .ok (.aload_n 1, 1) := by decide +kernel
theorem dX3_takeFrom_18 : decode cX3_takeFrom 18 = .ok (.getfield 18, 3) := by decide +kernel
theorem dX3_takeFrom_21 : decode cX3_takeFrom 21 = .ok (.putfield 18, 3) := by decide +kernel
theorem dX3_takeFrom_24 : decode cX3_takeFrom 24 = .ok (.aload_n 0, 1) := by decide +kernel
theorem dX3_takeFrom_25 : decode cX3_takeFrom 25 = .ok (.aload_n 1, 1) := by decide +kernel
theorem dX3_takeFrom_26 : decode cX3_takeFrom 26 = .ok (.getfield 21, 3) := by decide +kernel
theorem dX3_takeFrom_29 : decode cX3_takeFrom 29 = .ok (.putfield 21, 3) := by decide +kernel
theorem dX3_takeFrom_32 : decode cX3_takeFrom 32 = .ok (.aload_n 0, 1) := by decide +kernel
theorem dX3_takeFrom_33 : decode cX3_takeFrom 33 = .ok (.aload_n 1, 1) := by decide +kernel
theorem dX3_takeFrom_34 : decode cX3_takeFrom 34 = .ok (.getfield 24, 3) := by decide +kernel
theorem dX3_takeFrom_37 : decode cX3_takeFrom 37 = .ok (.putfield 24, 3) := by decide +kernel
theorem dX3_takeFrom_40 : decode cX3_takeFrom 40 = .ok (.aload_n 0, 1) := by decide +kernel
theorem dX3_takeFrom_41 : decode cX3_takeFrom 41 = .ok (.aload_n 1, 1) := by decide +kernel
theorem dX3_takeFrom_42 : decode cX3_takeFrom 42 = .ok (.getfield 27, 3) := by decide +kernel
theorem dX3_takeFrom_45 : decode cX3_takeFrom 45 = .ok (.putfield 27, 3) := by decide +kernel
theorem dX3_takeFrom_48 : decode cX3_takeFrom 48 = .ok (.aload_n 0, 1) := by decide +kernel
theorem dX3_takeFrom_49 : decode cX3_takeFrom 49 = .ok (.aload_n 1, 1) := by decide +kernel
theorem dX3_takeFrom_50 : decode cX3_takeFrom 50 = .ok (.getfield 30, 3) := by decide +kernel
theorem dX3_takeFrom_53 : decode cX3_takeFrom 53 = .ok (.putfield 30, 3) := by decide +kernel
theorem dX3_takeFrom_56 : decode cX3_takeFrom 56 = .ok (.aload_n 0, 1) := by decide +kernel
theorem dX3_takeFrom_57 : decode cX3_takeFrom 57 = .ok (.aload_n 1, 1) := by decide +kernel
theorem dX3_takeFrom_58 : decode cX3_takeFrom 58 = .ok (.getfield 34, 3) := by decide +kernel
theorem dX3_takeFrom_61 : decode cX3_takeFrom 61 = .ok (.putfield 34, 3) := by decide +kernel
theorem dX3_takeFrom_64 : decode cX3_takeFrom 64 = .ok (.aload_n 0, 1) := by decide +kernel
theorem dX3_takeFrom_65 : decode cX3_takeFrom 65 = .ok (.aload_n 1, 1) := by decide +kernel
theorem dX3_takeFrom_66 : decode cX3_takeFrom 66 = .ok (.getfield 37, 3) := by decide +kernel
theorem dX3_takeFrom_69 : decode cX3_takeFrom 69 = .ok (.putfield 37, 3) := by decide +kernel
theorem dX3_takeFrom_72 : decode cX3_takeFrom 72 = .ok (.aload_n 0, 1) := by decide +kernel
theorem dX3_takeFrom_73 : decode cX3_takeFrom 73 = .ok (.aload_n 1, 1) := by decide +kernel
theorem dX3_takeFrom_74 : decode cX3_takeFrom 74 = .ok (.getfield 40, 3) := by decide +kernel
theorem dX3_takeFrom_77 : decode cX3_takeFrom 77 = .ok (.putfield 40, 3) := by decide +kernel
theorem dX3_takeFrom_80 : decode cX3_takeFrom 80 = .ok (.aload_n 0, 1) := by decide +kernel
theorem dX3_takeFrom_81 : decode cX3_takeFrom 81 = .ok (.aload_n 1, 1) := by decide +kernel
theorem dX3_takeFrom_82 : decode cX3_takeFrom 82 = .ok (.getfield 43, 3) := by decide +kernel
theorem dX3_takeFrom_85 : decode cX3_takeFrom 85 = .ok (.putfield 43, 3) := by decide +kernel
theorem dX3_takeFrom_88 : decode cX3_takeFrom 88 = .ok (.aload_n 0, 1) := by decide +kernel
theorem dX3_takeFrom_89 : decode cX3_takeFrom 89 = .ok (.aload_n 1, 1) := by decide +kernel
theorem dX3_takeFrom_90 : decode cX3_takeFrom 90 = .ok (.getfield 46, 3) := by decide +kernel
theorem dX3_takeFrom_93 : decode cX3_takeFrom 93 = .ok (.putfield 46, 3) := by decide +kernel
theorem dX3_takeFrom_96 : decode cX3_takeFrom 96 = .ok (.return_, 1) := by decide +kernel
theorem dX3_weight_0 : decode cX3_weight 0 = .ok (.aload_n 0, 1) := by decide +kernel
theorem dX3_weight_1 : decode cX3_weight 1 = .ok (.getfield 15, 3) := by decide +kernel
theorem dX3_weight_4 : decode cX3_weight 4 = .ok (.i2l, 1) := by decide +kernel
theorem dX3_weight_5 : decode cX3_weight 5 = .ok (.aload_n 0, 1) := by decide +kernel
theorem dX3_weight_6 : decode cX3_weight 6 = .ok (.getfield 15, 3) := by decide +kernel
theorem dX3_weight_9 : decode cX3_weight 9 = .ok (.i2l, 1) := by decide +kernel
theorem dX3_weight_10 : decode cX3_weight 10 = .ok (.lmul, 1) := by decide +kernel
theorem dX3_weight_11 : decode cX3_weight 11 = .ok (.aload_n 0, 1) := by decide +kernel
theorem dX3_weight_12 : decode cX3_weight 12 = .ok (.getfield 18, 3) := by decide +kernel
theorem dX3_weight_15 : decode cX3_weight 15 = .ok (.i2l, 1) := by decide +kernel
theorem dX3_weight_16 : decode cX3_weight 16 = .ok (.lmul, 1) := by decide +kernel
theorem dX3_weight_17 : decode cX3_weight 17 = .ok (.lreturn, 1) := by decide +kernel
theorem dX3_pitchWith_0 : decode cX3_pitchWith 0 = .ok (.iload_n 1, 1) := by decide +kernel
theorem dX3_pitchWith_1 : decode cX3_pitchWith 1 = .ok (.i2l, 1) := by decide +kernel
theorem dX3_pitchWith_2 : decode cX3_pitchWith 2 = .ok (.ldc2_w 49, 3) := by decide +kernel
theorem dX3_pitchWith_5 : decode cX3_pitchWith 5 = .ok (.lmul, 1) := by decide +kernel
theorem dX3_pitchWith_6 : decode cX3_pitchWith 6 = .ok (.lstore_n 2, 1) := by decide +kernel
theorem dX3_pitchWith_7 : decode cX3_pitchWith 7 = .ok (.aload_n 0, 1) := by decide +kernel
theorem dX3_pitchWith_8 : decode cX3_pitchWith 8 = .ok (.invokevirtual 51, 3) := by decide +kernel
theorem dX3_pitchWith_11 : decode cX3_pitchWith 11 = .ok (.lstore 4, 2) := by decide +kernel
theorem dX3_pitchWith_13 : decode cX3_pitchWith 13 = .ok (.lconst 0, 1) := by decide +kernel
theorem dX3_pitchWith_14 : decode cX3_pitchWith 14 = .ok (.lstore 6, 2) := by decide +kernel
theorem dX3_pitchWith_16 : decode cX3_pitchWith 16 = .ok (.ldc2_w 55, 3) := by decide +kernel
theorem dX3_pitchWith_19 : decode cX3_pitchWith 19 = .ok (.lstore 8, 2) := by decide +kernel
theorem dX3_pitchWith_21 : decode cX3_pitchWith 21 = .ok (.lload 8, 2) := by decide +kernel
theorem dX3_pitchWith_23 : decode cX3_pitchWith 23 = .ok (.lconst 0, 1) := by decide +kernel
theorem dX3_pitchWith_24 : decode cX3_pitchWith 24 = .ok (.lcmp, 1) := by decide +kernel
theorem dX3_pitchWith_25 : decode cX3_pitchWith 25 = .ok (.ifCond .le 40, 3) := by decide +kernel
theorem dX3_pitchWith_28 : decode cX3_pitchWith 28 = .ok (.lload 6, 2) := by decide +kernel
theorem dX3_pitchWith_30 : decode cX3_pitchWith 30 = .ok (.lload 8, 2) := by decide +kernel
theorem dX3_pitchWith_32 : decode cX3_pitchWith 32 = .ok (.ladd, 1) := by decide +kernel
theorem dX3_pitchWith_33 : decode cX3_pitchWith 33 = .ok (.lload 6, 2) := by decide +kernel
theorem dX3_pitchWith_35 : decode cX3_pitchWith 35 = .ok (.lload 8, 2) := by decide +kernel
theorem dX3_pitchWith_37 : decode cX3_pitchWith 37 = .ok (.ladd, 1) := by decide +kernel
theorem dX3_pitchWith_38 : decode cX3_pitchWith 38 = .ok (.lmul, 1) := by decide +kernel
theorem dX3_pitchWith_39 : decode cX3_pitchWith 39 = .ok (.lload 4, 2) := by decide +kernel
theorem dX3_pitchWith_41 : decode cX3_pitchWith 41 = .ok (.lmul, 1) := by decide +kernel
theorem dX3_pitchWith_42 : decode cX3_pitchWith 42 = .ok (.lload_n 2, 1) := by decide +kernel
theorem dX3_pitchWith_43 : decode cX3_pitchWith 43 = .ok (.lcmp, 1) := by decide +kernel
theorem dX3_pitchWith_44 : decode cX3_pitchWith 44 = .ok (.ifCond .gt 10, 3) := by decide +kernel
theorem dX3_pitchWith_47 : decode cX3_pitchWith 47 = .ok (.lload 6, 2) := by decide +kernel
theorem dX3_pitchWith_49 : decode cX3_pitchWith 49 = .ok (.lload 8, 2) := by decide +kernel
theorem dX3_pitchWith_51 : decode cX3_pitchWith 51 = .ok (.ladd, 1) := by decide +kernel
theorem dX3_pitchWith_52 : decode cX3_pitchWith 52 = .ok (.lstore 6, 2) := by decide +kernel
theorem dX3_pitchWith_54 : decode cX3_pitchWith 54 = .ok (.lload 8, 2) := by decide +kernel
theorem dX3_pitchWith_56 : decode cX3_pitchWith 56 = .ok (.ldc2_w 57, 3) := by decide +kernel
theorem dX3_pitchWith_59 : decode cX3_pitchWith 59 = .ok (.ldiv, 1) := by decide +kernel
theorem dX3_pitchWith_60 : decode cX3_pitchWith 60 = .ok (.lstore 8, 2) := by decide +kernel
theorem dX3_pitchWith_62 : decode cX3_pitchWith 62 = .ok (.goto (-41), 3) := by decide +kernel
theorem dX3_pitchWith_65 : decode cX3_pitchWith 65 = .ok (.lload 6, 2) := by decide +kernel
theorem dX3_pitchWith_67 : decode cX3_pitchWith 67 = .ok (.l2i, 1) := by decide +kernel
theorem dX3_pitchWith_68 : decode cX3_pitchWith 68 = .ok (.ireturn, 1) := by decide +kernel
theorem dX3_leastTension_0 : decode cX3_leastTension 0 = .ok (.lload_n 1, 1) := by decide +kernel
theorem dX3_leastTension_1 : decode cX3_leastTension 1 = .ok (.lload_n 1, 1) := by decide +kernel
theorem dX3_leastTension_2 : decode cX3_leastTension 2 = .ok (.lmul, 1) := by decide +kernel
theorem dX3_leastTension_3 : decode cX3_leastTension 3 = .ok (.aload_n 0, 1) := by decide +kernel
theorem dX3_leastTension_4 : decode cX3_leastTension 4 = .ok (.invokevirtual 51, 3) := by decide +kernel
theorem dX3_leastTension_7 : decode cX3_leastTension 7 = .ok (.lmul, 1) := by decide +kernel
theorem dX3_leastTension_8 : decode cX3_leastTension 8 = .ok (.ldc2_w 49, 3) := by decide +kernel
theorem dX3_leastTension_11 : decode cX3_leastTension 11 = .ok (.ladd, 1) := by decide +kernel
theorem dX3_leastTension_12 : decode cX3_leastTension 12 = .ok (.lconst 1, 1) := by decide +kernel
theorem dX3_leastTension_13 : decode cX3_leastTension 13 = .ok (.lsub, 1) := by decide +kernel
theorem dX3_leastTension_14 : decode cX3_leastTension 14 = .ok (.ldc2_w 49, 3) := by decide +kernel
theorem dX3_leastTension_17 : decode cX3_leastTension 17 = .ok (.ldiv, 1) := by decide +kernel
theorem dX3_leastTension_18 : decode cX3_leastTension 18 = .ok (.lreturn, 1) := by decide +kernel
theorem dX3_snap_0 : decode cX3_snap 0 = .ok (.aload_n 0, 1) := by decide +kernel
theorem dX3_snap_1 : decode cX3_snap 1 = .ok (.iconst 1, 1) := by decide +kernel
theorem dX3_snap_2 : decode cX3_snap 2 = .ok (.putfield 30, 3) := by decide +kernel
theorem dX3_snap_5 : decode cX3_snap 5 = .ok (.aload_n 0, 1) := by decide +kernel
theorem dX3_snap_6 : decode cX3_snap 6 = .ok (.iload_n 1, 1) := by decide +kernel
theorem dX3_snap_7 : decode cX3_snap 7 = .ok (.putfield 34, 3) := by decide +kernel
theorem dX3_snap_10 : decode cX3_snap 10 = .ok (.aload_n 0, 1) := by decide +kernel
theorem dX3_snap_11 : decode cX3_snap 11 = .ok (.iconst 0, 1) := by decide +kernel
theorem dX3_snap_12 : decode cX3_snap 12 = .ok (.putfield 24, 3) := by decide +kernel
theorem dX3_snap_15 : decode cX3_snap 15 = .ok (.return_, 1) := by decide +kernel
theorem dX3_pull_0 : decode cX3_pull 0 = .ok (.aload_n 0, 1) := by decide +kernel
theorem dX3_pull_1 : decode cX3_pull 1 = .ok (.iload_n 1, 1) := by decide +kernel
theorem dX3_pull_2 : decode cX3_pull 2 = .ok (.putfield 24, 3) := by decide +kernel
theorem dX3_pull_5 : decode cX3_pull 5 = .ok (.aload_n 0, 1) := by decide +kernel
theorem dX3_pull_6 : decode cX3_pull 6 = .ok (.iload_n 1, 1) := by decide +kernel
theorem dX3_pull_7 : decode cX3_pull 7 = .ok (.putfield 40, 3) := by decide +kernel
theorem dX3_pull_10 : decode cX3_pull 10 = .ok (.aload_n 0, 1) := by decide +kernel
theorem dX3_pull_11 : decode cX3_pull 11 = .ok (.iload_n 1, 1) := by decide +kernel
theorem dX3_pull_12 : decode cX3_pull 12 = .ok (.putfield 43, 3) := by decide +kernel
theorem dX3_pull_15 : decode cX3_pull 15 = .ok (.aload_n 0, 1) := by decide +kernel
theorem dX3_pull_16 : decode cX3_pull 16 = .ok (.iload_n 2, 1) := by decide +kernel
theorem dX3_pull_17 : decode cX3_pull 17 = .ok (.putfield 37, 3) := by decide +kernel
theorem dX3_pull_20 : decode cX3_pull 20 = .ok (.return_, 1) := by decide +kernel
theorem dX3_sing_0 : decode cX3_sing 0 = .ok (.aload_n 0, 1) := by decide +kernel
theorem dX3_sing_1 : decode cX3_sing 1 = .ok (.iload_n 1, 1) := by decide +kernel
theorem dX3_sing_2 : decode cX3_sing 2 = .ok (.putfield 37, 3) := by decide +kernel
theorem dX3_sing_5 : decode cX3_sing 5 = .ok (.aload_n 0, 1) := by decide +kernel
theorem dX3_sing_6 : decode cX3_sing 6 = .ok (.getfield 30, 3) := by decide +kernel
theorem dX3_sing_9 : decode cX3_sing 9 = .ok (.ifCond .eq 21, 3) := by decide +kernel
theorem dX3_sing_12 : decode cX3_sing 12 = .ok (.aload_n 0, 1) := by decide +kernel
theorem dX3_sing_13 : decode cX3_sing 13 = .ok (.iconst 1, 1) := by decide +kernel
theorem dX3_sing_14 : decode cX3_sing 14 = .ok (.putfield 46, 3) := by decide +kernel
theorem dX3_sing_17 : decode cX3_sing 17 = .ok (.aload_n 0, 1) := by decide +kernel
theorem dX3_sing_18 : decode cX3_sing 18 = .ok (.iconst 0, 1) := by decide +kernel
theorem dX3_sing_19 : decode cX3_sing 19 = .ok (.putfield 40, 3) := by decide +kernel
theorem dX3_sing_22 : decode cX3_sing 22 = .ok (.aload_n 0, 1) := by decide +kernel
theorem dX3_sing_23 : decode cX3_sing 23 = .ok (.iconst 0, 1) := by decide +kernel
theorem dX3_sing_24 : decode cX3_sing 24 = .ok (.putfield 43, 3) := by decide +kernel
theorem dX3_sing_27 : decode cX3_sing 27 = .ok (.bipush (-6), 2) := by decide +kernel
theorem dX3_sing_29 : decode cX3_sing 29 = .ok (.ireturn, 1) := by decide +kernel
theorem dX3_sing_30 : decode cX3_sing 30 = .ok (.aload_n 0, 1) := by decide +kernel
theorem dX3_sing_31 : decode cX3_sing 31 = .ok (.aload_n 0, 1) := by decide +kernel
theorem dX3_sing_32 : decode cX3_sing 32 = .ok (.getfield 24, 3) := by decide +kernel
theorem dX3_sing_35 : decode cX3_sing 35 = .ok (.invokevirtual 59, 3) := by decide +kernel
theorem dX3_sing_38 : decode cX3_sing 38 = .ok (.istore_n 2, 1) := by decide +kernel
theorem dX3_sing_39 : decode cX3_sing 39 = .ok (.aload_n 0, 1) := by decide +kernel
theorem dX3_sing_40 : decode cX3_sing 40 = .ok (.aload_n 0, 1) := by decide +kernel
theorem dX3_sing_41 : decode cX3_sing 41 = .ok (.iload_n 2, 1) := by decide +kernel
theorem dX3_sing_42 : decode cX3_sing 42 = .ok (.i2l, 1) := by decide +kernel
theorem dX3_sing_43 : decode cX3_sing 43 = .ok (.invokevirtual 63, 3) := by decide +kernel
theorem dX3_sing_46 : decode cX3_sing 46 = .ok (.l2i, 1) := by decide +kernel
theorem dX3_sing_47 : decode cX3_sing 47 = .ok (.putfield 40, 3) := by decide +kernel
theorem dX3_sing_50 : decode cX3_sing 50 = .ok (.aload_n 0, 1) := by decide +kernel
theorem dX3_sing_51 : decode cX3_sing 51 = .ok (.aload_n 0, 1) := by decide +kernel
theorem dX3_sing_52 : decode cX3_sing 52 = .ok (.iload_n 2, 1) := by decide +kernel
theorem dX3_sing_53 : decode cX3_sing 53 = .ok (.iconst 1, 1) := by decide +kernel
theorem dX3_sing_54 : decode cX3_sing 54 = .ok (.iadd, 1) := by decide +kernel
theorem dX3_sing_55 : decode cX3_sing 55 = .ok (.i2l, 1) := by decide +kernel
theorem dX3_sing_56 : decode cX3_sing 56 = .ok (.invokevirtual 63, 3) := by decide +kernel
theorem dX3_sing_59 : decode cX3_sing 59 = .ok (.lconst 1, 1) := by decide +kernel
theorem dX3_sing_60 : decode cX3_sing 60 = .ok (.lsub, 1) := by decide +kernel
theorem dX3_sing_61 : decode cX3_sing 61 = .ok (.ldc2_w 67, 3) := by decide +kernel
theorem dX3_sing_64 : decode cX3_sing 64 = .ok (.invokestatic 69, 3) := by decide +kernel
theorem dX3_sing_67 : decode cX3_sing 67 = .ok (.l2i, 1) := by decide +kernel
theorem dX3_sing_68 : decode cX3_sing 68 = .ok (.putfield 43, 3) := by decide +kernel
theorem dX3_sing_71 : decode cX3_sing 71 = .ok (.iload_n 2, 1) := by decide +kernel
theorem dX3_sing_72 : decode cX3_sing 72 = .ok (.ireturn, 1) := by decide +kernel
theorem dX3_loosen_0 : decode cX3_loosen 0 = .ok (.aload_n 0, 1) := by decide +kernel
theorem dX3_loosen_1 : decode cX3_loosen 1 = .ok (.aload_n 0, 1) := by decide +kernel
theorem dX3_loosen_2 : decode cX3_loosen 2 = .ok (.getfield 24, 3) := by decide +kernel
theorem dX3_loosen_5 : decode cX3_loosen 5 = .ok (.iload_n 1, 1) := by decide +kernel
theorem dX3_loosen_6 : decode cX3_loosen 6 = .ok (.invokestatic 75, 3) := by decide +kernel
theorem dX3_loosen_9 : decode cX3_loosen 9 = .ok (.putfield 24, 3) := by decide +kernel
theorem dX3_loosen_12 : decode cX3_loosen 12 = .ok (.aload_n 0, 1) := by decide +kernel
theorem dX3_loosen_13 : decode cX3_loosen 13 = .ok (.aload_n 0, 1) := by decide +kernel
theorem dX3_loosen_14 : decode cX3_loosen 14 = .ok (.getfield 40, 3) := by decide +kernel
theorem dX3_loosen_17 : decode cX3_loosen 17 = .ok (.iload_n 1, 1) := by decide +kernel
theorem dX3_loosen_18 : decode cX3_loosen 18 = .ok (.invokestatic 75, 3) := by decide +kernel
theorem dX3_loosen_21 : decode cX3_loosen 21 = .ok (.putfield 40, 3) := by decide +kernel
theorem dX3_loosen_24 : decode cX3_loosen 24 = .ok (.aload_n 0, 1) := by decide +kernel
theorem dX3_loosen_25 : decode cX3_loosen 25 = .ok (.aload_n 0, 1) := by decide +kernel
theorem dX3_loosen_26 : decode cX3_loosen 26 = .ok (.getfield 43, 3) := by decide +kernel
theorem dX3_loosen_29 : decode cX3_loosen 29 = .ok (.iload_n 1, 1) := by decide +kernel
theorem dX3_loosen_30 : decode cX3_loosen 30 = .ok (.invokestatic 75, 3) := by decide +kernel
theorem dX3_loosen_33 : decode cX3_loosen 33 = .ok (.putfield 43, 3) := by decide +kernel
theorem dX3_loosen_36 : decode cX3_loosen 36 = .ok (.return_, 1) := by decide +kernel
theorem dX3_isSlack_0 : decode cX3_isSlack 0 = .ok (.aload_n 0, 1) := by decide +kernel
theorem dX3_isSlack_1 : decode cX3_isSlack 1 = .ok (.getfield 30, 3) := by decide +kernel
theorem dX3_isSlack_4 : decode cX3_isSlack 4 = .ok (.ifCond .ne 18, 3) := by decide +kernel
theorem dX3_isSlack_7 : decode cX3_isSlack 7 = .ok (.aload_n 0, 1) := by decide +kernel
theorem dX3_isSlack_8 : decode cX3_isSlack 8 = .ok (.getfield 24, 3) := by decide +kernel
theorem dX3_isSlack_11 : decode cX3_isSlack 11 = .ok (.aload_n 0, 1) := by decide +kernel
theorem dX3_isSlack_12 : decode cX3_isSlack 12 = .ok (.getfield 27, 3) := by decide +kernel
theorem dX3_isSlack_15 : decode cX3_isSlack 15 = .ok (.if_icmp .ge 7, 3) := by decide +kernel
theorem dX3_isSlack_18 : decode cX3_isSlack 18 = .ok (.iconst 1, 1) := by decide +kernel
theorem dX3_isSlack_19 : decode cX3_isSlack 19 = .ok (.goto 4, 3) := by decide +kernel
theorem dX3_isSlack_22 : decode cX3_isSlack 22 = .ok (.iconst 0, 1) := by decide +kernel
theorem dX3_isSlack_23 : decode cX3_isSlack 23 = .ok (.ireturn, 1) := by decide +kernel
theorem dX3_isTooTight_0 : decode cX3_isTooTight 0 = .ok (.aload_n 0, 1) := by decide +kernel
theorem dX3_isTooTight_1 : decode cX3_isTooTight 1 = .ok (.getfield 30, 3) := by decide +kernel
theorem dX3_isTooTight_4 : decode cX3_isTooTight 4 = .ok (.ifCond .ne 38, 3) := by decide +kernel
theorem dX3_isTooTight_7 : decode cX3_isTooTight 7 = .ok (.aload_n 0, 1) := by decide +kernel
theorem dX3_isTooTight_8 : decode cX3_isTooTight 8 = .ok (.getfield 24, 3) := by decide +kernel
theorem dX3_isTooTight_11 : decode cX3_isTooTight 11 = .ok (.sipush 1000, 3) := by decide +kernel
theorem dX3_isTooTight_14 : decode cX3_isTooTight 14 = .ok (.if_icmp .le 28, 3) := by decide +kernel
theorem dX3_isTooTight_17 : decode cX3_isTooTight 17 = .ok (.aload_n 0, 1) := by decide +kernel
theorem dX3_isTooTight_18 : decode cX3_isTooTight 18 = .ok (.getfield 24, 3) := by decide +kernel
theorem dX3_isTooTight_21 : decode cX3_isTooTight 21 = .ok (.aload_n 0, 1) := by decide +kernel
theorem dX3_isTooTight_22 : decode cX3_isTooTight 22 = .ok (.getfield 27, 3) := by decide +kernel
theorem dX3_isTooTight_25 : decode cX3_isTooTight 25 = .ok (.aload_n 0, 1) := by decide +kernel
theorem dX3_isTooTight_26 : decode cX3_isTooTight 26 = .ok (.getfield 27, 3) := by decide +kernel
theorem dX3_isTooTight_29 : decode cX3_isTooTight 29 = .ok (.iload_n 1, 1) := by decide +kernel
theorem dX3_isTooTight_30 : decode cX3_isTooTight 30 = .ok (.imul, 1) := by decide +kernel
theorem dX3_isTooTight_31 : decode cX3_isTooTight 31 = .ok (.bipush 100, 2) := by decide +kernel
theorem dX3_isTooTight_33 : decode cX3_isTooTight 33 = .ok (.idiv, 1) := by decide +kernel
theorem dX3_isTooTight_34 : decode cX3_isTooTight 34 = .ok (.iadd, 1) := by decide +kernel
theorem dX3_isTooTight_35 : decode cX3_isTooTight 35 = .ok (.if_icmp .le 7, 3) := by decide +kernel
theorem dX3_isTooTight_38 : decode cX3_isTooTight 38 = .ok (.iconst 1, 1) := by decide +kernel
theorem dX3_isTooTight_39 : decode cX3_isTooTight 39 = .ok (.goto 4, 3) := by decide +kernel
theorem dX3_isTooTight_42 : decode cX3_isTooTight 42 = .ok (.iconst 0, 1) := by decide +kernel
theorem dX3_isTooTight_43 : decode cX3_isTooTight 43 = .ok (.ireturn, 1) := by decide +kernel
theorem dX3_isKnown_0 : decode cX3_isKnown 0 = .ok (.aload_n 0, 1) := by decide +kernel
theorem dX3_isKnown_1 : decode cX3_isKnown 1 = .ok (.getfield 37, 3) := by decide +kernel
theorem dX3_isKnown_4 : decode cX3_isKnown 4 = .ok (.bipush (-6), 2) := by decide +kernel
theorem dX3_isKnown_6 : decode cX3_isKnown 6 = .ok (.if_icmp .eq 7, 3) := by decide +kernel
theorem dX3_isKnown_9 : decode cX3_isKnown 9 = .ok (.iconst 1, 1) := by decide +kernel
theorem dX3_isKnown_10 : decode cX3_isKnown 10 = .ok (.goto 4, 3) := by decide +kernel
theorem dX3_isKnown_13 : decode cX3_isKnown 13 = .ok (.iconst 0, 1) := by decide +kernel
theorem dX3_isKnown_14 : decode cX3_isKnown 14 = .ok (.ireturn, 1) := by decide +kernel
theorem dX3_isSurelySlack_0 : decode cX3_isSurelySlack 0 = .ok (.aload_n 0, 1) := by decide +kernel
theorem dX3_isSurelySlack_1 : decode cX3_isSurelySlack 1 = .ok (.invokevirtual 79, 3) := by decide +kernel
theorem dX3_isSurelySlack_4 : decode cX3_isSurelySlack 4 = .ok (.ifCond .eq 18, 3) := by decide +kernel
theorem dX3_isSurelySlack_7 : decode cX3_isSurelySlack 7 = .ok (.aload_n 0, 1) := by decide +kernel
theorem dX3_isSurelySlack_8 : decode cX3_isSurelySlack 8 = .ok (.getfield 43, 3) := by decide +kernel
theorem dX3_isSurelySlack_11 : decode cX3_isSurelySlack 11 = .ok (.aload_n 0, 1) := by decide +kernel
theorem dX3_isSurelySlack_12 : decode cX3_isSurelySlack 12 = .ok (.getfield 27, 3) := by decide +kernel
theorem dX3_isSurelySlack_15 : decode cX3_isSurelySlack 15 = .ok (.if_icmp .ge 7, 3) := by decide +kernel
theorem dX3_isSurelySlack_18 : decode cX3_isSurelySlack 18 = .ok (.iconst 1, 1) := by decide +kernel
theorem dX3_isSurelySlack_19 : decode cX3_isSurelySlack 19 = .ok (.goto 4, 3) := by decide +kernel
theorem dX3_isSurelySlack_22 : decode cX3_isSurelySlack 22 = .ok (.iconst 0, 1) := by decide +kernel
theorem dX3_isSurelySlack_23 : decode cX3_isSurelySlack 23 = .ok (.ireturn, 1) := by decide +kernel
theorem dX3_maybeSlack_0 : decode cX3_maybeSlack 0 = .ok (.aload_n 0, 1) := by decide +kernel
theorem dX3_maybeSlack_1 : decode cX3_maybeSlack 1 = .ok (.getfield 46, 3) := by decide +kernel
theorem dX3_maybeSlack_4 : decode cX3_maybeSlack 4 = .ok (.ifCond .ne 32, 3) := by decide +kernel
theorem dX3_maybeSlack_7 : decode cX3_maybeSlack 7 = .ok (.aload_n 0, 1) := by decide +kernel
theorem dX3_maybeSlack_8 : decode cX3_maybeSlack 8 = .ok (.invokevirtual 83, 3) := by decide +kernel
theorem dX3_maybeSlack_11 : decode cX3_maybeSlack 11 = .ok (.ifCond .ne 25, 3) := by decide +kernel
theorem dX3_maybeSlack_14 : decode cX3_maybeSlack 14 = .ok (.aload_n 0, 1) := by decide +kernel
theorem dX3_maybeSlack_15 : decode cX3_maybeSlack 15 = .ok (.invokevirtual 79, 3) := by decide +kernel
theorem dX3_maybeSlack_18 : decode cX3_maybeSlack 18 = .ok (.ifCond .eq 14, 3) := by decide +kernel
theorem dX3_maybeSlack_21 : decode cX3_maybeSlack 21 = .ok (.aload_n 0, 1) := by decide +kernel
theorem dX3_maybeSlack_22 : decode cX3_maybeSlack 22 = .ok (.getfield 40, 3) := by decide +kernel
theorem dX3_maybeSlack_25 : decode cX3_maybeSlack 25 = .ok (.aload_n 0, 1) := by decide +kernel
theorem dX3_maybeSlack_26 : decode cX3_maybeSlack 26 = .ok (.getfield 27, 3) := by decide +kernel
theorem dX3_maybeSlack_29 : decode cX3_maybeSlack 29 = .ok (.if_icmp .ge 7, 3) := by decide +kernel
theorem dX3_maybeSlack_32 : decode cX3_maybeSlack 32 = .ok (.iconst 1, 1) := by decide +kernel
theorem dX3_maybeSlack_33 : decode cX3_maybeSlack 33 = .ok (.goto 4, 3) := by decide +kernel
theorem dX3_maybeSlack_36 : decode cX3_maybeSlack 36 = .ok (.iconst 0, 1) := by decide +kernel
theorem dX3_maybeSlack_37 : decode cX3_maybeSlack 37 = .ok (.ireturn, 1) := by decide +kernel
