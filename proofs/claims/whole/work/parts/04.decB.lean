theorem dX4_init_0 : decode cX4_init 0 = .ok (.aload_n 0, 1) := by decide +kernel
theorem dX4_init_1 : decode cX4_init 1 = .ok (.invokespecial 1, 3) := by decide +kernel
theorem dX4_init_4 : decode cX4_init 4 = .ok (.aload_n 0, 1) := by decide +kernel
theorem dX4_init_5 : decode cX4_init 5 = .ok (.new 7, 3) := by decide +kernel
theorem dX4_init_8 : decode cX4_init 8 = .ok (.dup, 1) := by decide +kernel
theorem dX4_init_9 : decode cX4_init 9 = .ok (.invokespecial 9, 3) := by decide +kernel
theorem dX4_init_12 : decode cX4_init 12 = .ok (.putfield 10, 3) := by decide +kernel
theorem dX4_init_15 : decode cX4_init 15 = .ok (.aload_n 0, 1) := by decide +kernel
theorem dX4_init_16 : decode cX4_init 16 = .ok (.new 7, 3) := by decide +kernel
theorem dX4_init_19 : decode cX4_init 19 = .ok (.dup, 1) := by decide +kernel
theorem dX4_init_20 : decode cX4_init 20 = .ok (.invokespecial 9, 3) := by decide +kernel
theorem dX4_init_23 : decode cX4_init 23 = .ok (.putfield 16, 3) := by decide +kernel
theorem dX4_init_26 : decode cX4_init 26 = .ok (.aload_n 0, 1) := by decide +kernel
theorem dX4_init_27 : decode cX4_init 27 = .ok (.new 19, 3) := by decide +kernel
theorem dX4_init_30 : decode cX4_init 30 = .ok (.dup, 1) := by decide +kernel
theorem dX4_init_31 : decode cX4_init 31 = .ok (.invokespecial 21, 3) := by decide +kernel
theorem dX4_init_34 : decode cX4_init 34 = .ok (.putfield 22, 3) := by decide +kernel
theorem dX4_init_37 : decode cX4_init 37 = .ok (.aload_n 0, 1) := by decide +kernel
theorem dX4_init_38 : decode cX4_init 38 = .ok (.iconst 2, 1) := by decide +kernel
theorem dX4_init_39 : decode cX4_init 39 = .ok (.anewarray 7, 3) := by decide +kernel
theorem dX4_init_42 : decode cX4_init 42 = .ok (.putfield 26, 3) := by decide +kernel
theorem dX4_init_45 : decode cX4_init 45 = .ok (.iconst 0, 1) := by decide +kernel
theorem dX4_init_46 : decode cX4_init 46 = .ok (.istore_n 1, 1) := by decide +kernel
theorem dX4_init_47 : decode cX4_init 47 = .ok (.iload_n 1, 1) := by decide +kernel
theorem dX4_init_48 : decode cX4_init 48 = .ok (.iconst 2, 1) := by decide +kernel
theorem dX4_init_49 : decode cX4_init 49 = .ok (.if_icmp .ge 22, 3) := by decide +kernel
theorem dX4_init_52 : decode cX4_init 52 = .ok (.aload_n 0, 1) := by decide +kernel
theorem dX4_init_53 : decode cX4_init 53 = .ok (.getfield 26, 3) := by decide +kernel
theorem dX4_init_56 : decode cX4_init 56 = .ok (.iload_n 1, 1) := by decide +kernel
theorem dX4_init_57 : decode cX4_init 57 = .ok (.new 7, 3) := by decide +kernel
theorem dX4_init_60 : decode cX4_init 60 = .ok (.dup, 1) := by decide +kernel
theorem dX4_init_61 : decode cX4_init 61 = .ok (.invokespecial 9, 3) := by decide +kernel
theorem dX4_init_64 : decode cX4_init 64 = .ok (.aastore, 1) := by decide +kernel
theorem dX4_init_65 : decode cX4_init 65 = .ok (.iinc 1 1, 3) := by decide +kernel
theorem dX4_init_68 : decode cX4_init 68 = .ok (.goto (-21), 3) := by decide +kernel
theorem dX4_init_71 : decode cX4_init 71 = .ok (.aload_n 0, 1) := by decide +kernel
theorem dX4_init_72 : decode cX4_init 72 = .ok (.iconst 2, 1) := by decide +kernel
theorem dX4_init_73 : decode cX4_init 73 = .ok (.newarray .boolean, 2) := by decide +kernel
theorem dX4_init_75 : decode cX4_init 75 = .ok (.putfield 30, 3) := by decide +kernel
theorem dX4_init_78 : decode cX4_init 78 = .ok (.aload_n 0, 1) := by decide +kernel
theorem dX4_init_79 : decode cX4_init 79 = .ok (.new 34, 3) := by decide +kernel
theorem dX4_init_82 : decode cX4_init 82 = .ok (.dup, 1) := by decide +kernel
theorem dX4_init_83 : decode cX4_init 83 = .ok (.invokespecial 36, 3) := by decide +kernel
theorem dX4_init_86 : decode cX4_init 86 = .ok (.putfield 37, 3) := by decide +kernel
theorem dX4_init_89 : decode cX4_init 89 = .ok (.return_, 1) := by decide +kernel
theorem dX4_set_0 : decode cX4_set 0 = .ok (.aload_n 0, 1) := by decide +kernel
theorem dX4_set_1 : decode cX4_set 1 = .ok (.getfield 22, 3) := by decide +kernel
theorem dX4_set_4 : decode cX4_set 4 = .ok (.aload_n 0, 1) := by decide +kernel
theorem dX4_set_5 : decode cX4_set 5 = .ok (.getfield 10, 3) := by decide +kernel
theorem dX4_set_8 : decode cX4_set 8 = .ok (.invokevirtual 41, 3) := by decide +kernel
theorem dX4_set_11 : decode cX4_set 11 = .ok (.aload_n 0, 1) := by decide +kernel
theorem dX4_set_12 : decode cX4_set 12 = .ok (.getfield 22, 3) := by decide +kernel
theorem dX4_set_15 : decode cX4_set 15 = .ok (.aload_n 0, 1) := by decide +kernel
theorem dX4_set_16 : decode cX4_set 16 = .ok (.getfield 10, 3) := by decide +kernel
theorem dX4_set_19 : decode cX4_set 19 = .ok (.iload_n 1, 1) := by decide +kernel
theorem dX4_set_20 : decode cX4_set 20 = .ok (.iload_n 2, 1) := by decide +kernel
theorem dX4_set_21 : decode cX4_set 21 = .ok (.invokevirtual 45, 3) := by decide +kernel
theorem dX4_set_24 : decode cX4_set 24 = .ok (.invokevirtual 49, 3) := by decide +kernel
theorem dX4_set_27 : decode cX4_set 27 = .ok (.ireturn, 1) := by decide +kernel
theorem dX4_wire_0 : decode cX4_wire 0 = .ok (.aload_n 0, 1) := by decide +kernel
theorem dX4_wire_1 : decode cX4_wire 1 = .ok (.getfield 22, 3) := by decide +kernel
theorem dX4_wire_4 : decode cX4_wire 4 = .ok (.aload_n 0, 1) := by decide +kernel
theorem dX4_wire_5 : decode cX4_wire 5 = .ok (.getfield 10, 3) := by decide +kernel
theorem dX4_wire_8 : decode cX4_wire 8 = .ok (.invokevirtual 41, 3) := by decide +kernel
theorem dX4_wire_11 : decode cX4_wire 11 = .ok (.aload_n 0, 1) := by decide +kernel
theorem dX4_wire_12 : decode cX4_wire 12 = .ok (.getfield 22, 3) := by decide +kernel
theorem dX4_wire_15 : decode cX4_wire 15 = .ok (.aload_n 0, 1) := by decide +kernel
theorem dX4_wire_16 : decode cX4_wire 16 = .ok (.getfield 10, 3) := by decide +kernel
theorem dX4_wire_19 : decode cX4_wire 19 = .ok (.iload_n 1, 1) := by decide +kernel
theorem dX4_wire_20 : decode cX4_wire 20 = .ok (.iload_n 2, 1) := by decide +kernel
theorem dX4_wire_21 : decode cX4_wire 21 = .ok (.iload_n 3, 1) := by decide +kernel
theorem dX4_wire_22 : decode cX4_wire 22 = .ok (.iload 4, 2) := by decide +kernel
theorem dX4_wire_24 : decode cX4_wire 24 = .ok (.iload 5, 2) := by decide +kernel
theorem dX4_wire_26 : decode cX4_wire 26 = .ok (.invokevirtual 53, 3) := by decide +kernel
theorem dX4_wire_29 : decode cX4_wire 29 = .ok (.invokevirtual 49, 3) := by decide +kernel
theorem dX4_wire_32 : decode cX4_wire 32 = .ok (.ireturn, 1) := by decide +kernel
theorem dX4_load_0 : decode cX4_load 0 = .ok (.aload_n 0, 1) := by decide +kernel
theorem dX4_load_1 : decode cX4_load 1 = .ok (.getfield 22, 3) := by decide +kernel
theorem dX4_load_4 : decode cX4_load 4 = .ok (.aload_n 0, 1) := by decide +kernel
theorem dX4_load_5 : decode cX4_load 5 = .ok (.getfield 10, 3) := by decide +kernel
theorem dX4_load_8 : decode cX4_load 8 = .ok (.invokevirtual 41, 3) := by decide +kernel
theorem dX4_load_11 : decode cX4_load 11 = .ok (.aload_n 0, 1) := by decide +kernel
theorem dX4_load_12 : decode cX4_load 12 = .ok (.getfield 22, 3) := by decide +kernel
theorem dX4_load_15 : decode cX4_load 15 = .ok (.aload_n 0, 1) := by decide +kernel
theorem dX4_load_16 : decode cX4_load 16 = .ok (.getfield 10, 3) := by decide +kernel
theorem dX4_load_19 : decode cX4_load 19 = .ok (.iload_n 1, 1) := by decide +kernel
theorem dX4_load_20 : decode cX4_load 20 = .ok (.iload_n 2, 1) := by decide +kernel
theorem dX4_load_21 : decode cX4_load 21 = .ok (.invokevirtual 57, 3) := by decide +kernel
theorem dX4_load_24 : decode cX4_load 24 = .ok (.invokevirtual 49, 3) := by decide +kernel
theorem dX4_load_27 : decode cX4_load 27 = .ok (.ireturn, 1) := by decide +kernel
theorem dX4_days_0 : decode cX4_days 0 = .ok (.aload_n 0, 1) := by decide +kernel
theorem dX4_days_1 : decode cX4_days 1 = .ok (.getfield 22, 3) := by decide +kernel
theorem dX4_days_4 : decode cX4_days 4 = .ok (.aload_n 0, 1) := by decide +kernel
theorem dX4_days_5 : decode cX4_days 5 = .ok (.getfield 10, 3) := by decide +kernel
theorem dX4_days_8 : decode cX4_days 8 = .ok (.invokevirtual 41, 3) := by decide +kernel
theorem dX4_days_11 : decode cX4_days 11 = .ok (.aload_n 0, 1) := by decide +kernel
theorem dX4_days_12 : decode cX4_days 12 = .ok (.getfield 22, 3) := by decide +kernel
theorem dX4_days_15 : decode cX4_days 15 = .ok (.aload_n 0, 1) := by decide +kernel
theorem dX4_days_16 : decode cX4_days 16 = .ok (.getfield 10, 3) := by decide +kernel
theorem dX4_days_19 : decode cX4_days 19 = .ok (.iload_n 1, 1) := by decide +kernel
theorem dX4_days_20 : decode cX4_days 20 = .ok (.invokevirtual 60, 3) := by decide +kernel
theorem dX4_days_23 : decode cX4_days 23 = .ok (.invokevirtual 49, 3) := by decide +kernel
theorem dX4_days_26 : decode cX4_days 26 = .ok (.ireturn, 1) := by decide +kernel
theorem dX4_walk_0 : decode cX4_walk 0 = .ok (.aload_n 0, 1) := by decide +kernel
theorem dX4_walk_1 : decode cX4_walk 1 = .ok (.getfield 22, 3) := by decide +kernel
theorem dX4_walk_4 : decode cX4_walk 4 = .ok (.aload_n 0, 1) := by decide +kernel
theorem dX4_walk_5 : decode cX4_walk 5 = .ok (.getfield 10, 3) := by decide +kernel
theorem dX4_walk_8 : decode cX4_walk 8 = .ok (.invokevirtual 41, 3) := by decide +kernel
theorem dX4_walk_11 : decode cX4_walk 11 = .ok (.aload_n 0, 1) := by decide +kernel
theorem dX4_walk_12 : decode cX4_walk 12 = .ok (.getfield 22, 3) := by decide +kernel
theorem dX4_walk_15 : decode cX4_walk 15 = .ok (.aload_n 0, 1) := by decide +kernel
theorem dX4_walk_16 : decode cX4_walk 16 = .ok (.getfield 10, 3) := by decide +kernel
theorem dX4_walk_19 : decode cX4_walk 19 = .ok (.iload_n 1, 1) := by decide +kernel
theorem dX4_walk_20 : decode cX4_walk 20 = .ok (.invokevirtual 63, 3) := by decide +kernel
theorem dX4_walk_23 : decode cX4_walk 23 = .ok (.invokevirtual 49, 3) := by decide +kernel
theorem dX4_walk_26 : decode cX4_walk 26 = .ok (.ireturn, 1) := by decide +kernel
theorem dX4_hear_0 : decode cX4_hear 0 = .ok (.aload_n 0, 1) := by decide +kernel
theorem dX4_hear_1 : decode cX4_hear 1 = .ok (.getfield 22, 3) := by decide +kernel
theorem dX4_hear_4 : decode cX4_hear 4 = .ok (.aload_n 0, 1) := by decide +kernel
theorem dX4_hear_5 : decode cX4_hear 5 = .ok (.getfield 10, 3) := by decide +kernel
theorem dX4_hear_8 : decode cX4_hear 8 = .ok (.invokevirtual 41, 3) := by decide +kernel
theorem dX4_hear_11 : decode cX4_hear 11 = .ok (.aload_n 0, 1) := by decide +kernel
theorem dX4_hear_12 : decode cX4_hear 12 = .ok (.getfield 22, 3) := by decide +kernel
theorem dX4_hear_15 : decode cX4_hear 15 = .ok (.aload_n 0, 1) := by decide +kernel
theorem dX4_hear_16 : decode cX4_hear 16 = .ok (.getfield 10, 3) := by decide +kernel
theorem dX4_hear_19 : decode cX4_hear 19 = .ok (.invokevirtual 66, 3) := by decide +kernel
theorem dX4_hear_22 : decode cX4_hear 22 = .ok (.invokevirtual 49, 3) := by decide +kernel
theorem dX4_hear_25 : decode cX4_hear 25 = .ok (.ireturn, 1) := by decide +kernel
theorem dX4_tighten_0 : decode cX4_tighten 0 = .ok (.aload_n 0, 1) := by decide +kernel
theorem dX4_tighten_1 : decode cX4_tighten 1 = .ok (.getfield 22, 3) := by decide +kernel
theorem dX4_tighten_4 : decode cX4_tighten 4 = .ok (.aload_n 0, 1) := by decide +kernel
theorem dX4_tighten_5 : decode cX4_tighten 5 = .ok (.getfield 10, 3) := by decide +kernel
theorem dX4_tighten_8 : decode cX4_tighten 8 = .ok (.invokevirtual 41, 3) := by decide +kernel
theorem dX4_tighten_11 : decode cX4_tighten 11 = .ok (.aload_n 0, 1) := by decide +kernel
theorem dX4_tighten_12 : decode cX4_tighten 12 = .ok (.getfield 22, 3) := by decide +kernel
theorem dX4_tighten_15 : decode cX4_tighten 15 = .ok (.aload_n 0, 1) := by decide +kernel
theorem dX4_tighten_16 : decode cX4_tighten 16 = .ok (.getfield 10, 3) := by decide +kernel
theorem dX4_tighten_19 : decode cX4_tighten 19 = .ok (.iload_n 1, 1) := by decide +kernel
theorem dX4_tighten_20 : decode cX4_tighten 20 = .ok (.invokevirtual 70, 3) := by decide +kernel
theorem dX4_tighten_23 : decode cX4_tighten 23 = .ok (.invokevirtual 49, 3) := by decide +kernel
theorem dX4_tighten_26 : decode cX4_tighten 26 = .ok (.ireturn, 1) := by decide +kernel
theorem dX4_ofWire_0 : decode cX4_ofWire 0 = .ok (.aload_n 0, 1) := by decide +kernel
theorem dX4_ofWire_1 : decode cX4_ofWire 1 = .ok (.getfield 10, 3) := by decide +kernel
theorem dX4_ofWire_4 : decode cX4_ofWire 4 = .ok (.iload_n 1, 1) := by decide +kernel
theorem dX4_ofWire_5 : decode cX4_ofWire 5 = .ok (.invokevirtual 73, 3) := by decide +kernel
theorem dX4_ofWire_8 : decode cX4_ofWire 8 = .ok (.astore_n 3, 1) := by decide +kernel
theorem dX4_ofWire_9 : decode cX4_ofWire 9 = .ok (.aload_n 3, 1) := by decide +kernel
theorem dX4_ofWire_10 : decode cX4_ofWire 10 = .ok (.ifnonnull 5, 3) := by decide +kernel
theorem dX4_ofWire_13 : decode cX4_ofWire 13 = .ok (.iconst (-1), 1) := by decide +kernel
theorem dX4_ofWire_14 : decode cX4_ofWire 14 = .ok (.ireturn, 1) := by decide +kernel
theorem dX4_ofWire_15 : decode cX4_ofWire 15 = .ok (.iload_n 2, 1) := by decide +kernel
theorem dX4_ofWire_16 : decode cX4_ofWire 16 = .ok (.tableswitch 135 0 10 #[60, 65, 70, 75, 80, 85, 93, 102, 107, 115, 130], 60) := by decide +kernel
theorem dX4_ofWire_76 : decode cX4_ofWire 76 = .ok (.aload_n 3, 1) := by decide +kernel
theorem dX4_ofWire_77 : decode cX4_ofWire 77 = .ok (.getfield 77, 3) := by decide +kernel
theorem dX4_ofWire_80 : decode cX4_ofWire 80 = .ok (.ireturn, 1) := by decide +kernel
theorem dX4_ofWire_81 : decode cX4_ofWire 81 = .ok (.aload_n 3, 1) := by decide +kernel
theorem dX4_ofWire_82 : decode cX4_ofWire 82 = .ok (.getfield 83, 3) := by decide +kernel
theorem dX4_ofWire_85 : decode cX4_ofWire 85 = .ok (.ireturn, 1) := by decide +kernel
theorem dX4_ofWire_86 : decode cX4_ofWire 86 = .ok (.aload_n 3, 1) := by decide +kernel
theorem dX4_ofWire_87 : decode cX4_ofWire 87 = .ok (.getfield 86, 3) := by decide +kernel
theorem dX4_ofWire_90 : decode cX4_ofWire 90 = .ok (.ireturn, 1) := by decide +kernel
theorem dX4_ofWire_91 : decode cX4_ofWire 91 = .ok (.aload_n 3, 1) := by decide +kernel
theorem dX4_ofWire_92 : decode cX4_ofWire 92 = .ok (.getfield 89, 3) := by decide +kernel
theorem dX4_ofWire_95 : decode cX4_ofWire 95 = .ok (.ireturn, 1) := by decide +kernel
theorem dX4_ofWire_96 : decode cX4_ofWire 96 = .ok (.aload_n 3, 1) := by decide +kernel
theorem dX4_ofWire_97 : decode cX4_ofWire 97 = .ok (.getfield 92, 3) := by decide +kernel
theorem dX4_ofWire_100 : decode cX4_ofWire 100 = .ok (.ireturn, 1) := by decide +kernel
theorem dX4_ofWire_101 : decode cX4_ofWire 101 = .ok (.aload_n 3, 1) := by decide +kernel
theorem dX4_ofWire_102 : decode cX4_ofWire 102 = .ok (.getfield 95, 3) := by decide +kernel
theorem dX4_ofWire_105 : decode cX4_ofWire 105 = .ok (.invokestatic 99, 3) := by decide +kernel
theorem dX4_ofWire_108 : decode cX4_ofWire 108 = .ok (.ireturn, 1) := by decide +kernel
theorem dX4_ofWire_109 : decode cX4_ofWire 109 = .ok (.aload_n 3, 1) := by decide +kernel
theorem dX4_ofWire_110 : decode cX4_ofWire 110 = .ok (.aload_n 3, 1) := by decide +kernel
theorem dX4_ofWire_111 : decode cX4_ofWire 111 = .ok (.getfield 92, 3) := by decide +kernel
theorem dX4_ofWire_114 : decode cX4_ofWire 114 = .ok (.invokevirtual 103, 3) := by decide +kernel
theorem dX4_ofWire_117 : decode cX4_ofWire 117 = .ok (.ireturn, 1) := by decide +kernel
theorem dX4_ofWire_118 : decode cX4_ofWire 118 = .ok (.aload_n 3, 1) := by decide +kernel
theorem dX4_ofWire_119 : decode cX4_ofWire 119 = .ok (.getfield 106, 3) := by decide +kernel
theorem dX4_ofWire_122 : decode cX4_ofWire 122 = .ok (.ireturn, 1) := by decide +kernel
theorem dX4_ofWire_123 : decode cX4_ofWire 123 = .ok (.aload_n 3, 1) := by decide +kernel
theorem dX4_ofWire_124 : decode cX4_ofWire 124 = .ok (.invokevirtual 109, 3) := by decide +kernel
theorem dX4_ofWire_127 : decode cX4_ofWire 127 = .ok (.invokestatic 99, 3) := by decide +kernel
theorem dX4_ofWire_130 : decode cX4_ofWire 130 = .ok (.ireturn, 1) := by decide +kernel
theorem dX4_ofWire_131 : decode cX4_ofWire 131 = .ok (.aload_n 3, 1) := by decide +kernel
theorem dX4_ofWire_132 : decode cX4_ofWire 132 = .ok (.aload_n 0, 1) := by decide +kernel
theorem dX4_ofWire_133 : decode cX4_ofWire 133 = .ok (.getfield 10, 3) := by decide +kernel
theorem dX4_ofWire_136 : decode cX4_ofWire 136 = .ok (.getfield 113, 3) := by decide +kernel
theorem dX4_ofWire_139 : decode cX4_ofWire 139 = .ok (.invokevirtual 116, 3) := by decide +kernel
theorem dX4_ofWire_142 : decode cX4_ofWire 142 = .ok (.invokestatic 99, 3) := by decide +kernel
theorem dX4_ofWire_145 : decode cX4_ofWire 145 = .ok (.ireturn, 1) := by decide +kernel
theorem dX4_ofWire_146 : decode cX4_ofWire 146 = .ok (.aload_n 3, 1) := by decide +kernel
theorem dX4_ofWire_147 : decode cX4_ofWire 147 = .ok (.getfield 120, 3) := by decide +kernel
theorem dX4_ofWire_150 : decode cX4_ofWire 150 = .ok (.ireturn, 1) := by decide +kernel
theorem dX4_ofWire_151 : decode cX4_ofWire 151 = .ok (.bipush (-2), 2) := by decide +kernel
theorem dX4_ofWire_153 : decode cX4_ofWire 153 = .ok (.ireturn, 1) := by decide +kernel
theorem dX4_known_0 : decode cX4_known 0 = .ok (.aload_n 0, 1) := by decide +kernel
theorem dX4_known_1 : decode cX4_known 1 = .ok (.getfield 16, 3) := by decide +kernel
theorem dX4_known_4 : decode cX4_known 4 = .ok (.aload_n 0, 1) := by decide +kernel
theorem dX4_known_5 : decode cX4_known 5 = .ok (.getfield 10, 3) := by decide +kernel
theorem dX4_known_8 : decode cX4_known 8 = .ok (.invokevirtual 123, 3) := by decide +kernel
theorem dX4_known_11 : decode cX4_known 11 = .ok (.aload_n 0, 1) := by decide +kernel
theorem dX4_known_12 : decode cX4_known 12 = .ok (.getfield 16, 3) := by decide +kernel
theorem dX4_known_15 : decode cX4_known 15 = .ok (.iload_n 1, 1) := by decide +kernel
theorem dX4_known_16 : decode cX4_known 16 = .ok (.invokevirtual 73, 3) := by decide +kernel
theorem dX4_known_19 : decode cX4_known 19 = .ok (.astore_n 3, 1) := by decide +kernel
theorem dX4_known_20 : decode cX4_known 20 = .ok (.aload_n 3, 1) := by decide +kernel
theorem dX4_known_21 : decode cX4_known 21 = .ok (.ifnonnull 5, 3) := by decide +kernel
theorem dX4_known_24 : decode cX4_known 24 = .ok (.iconst (-1), 1) := by decide +kernel
theorem dX4_known_25 : decode cX4_known 25 = .ok (.ireturn, 1) := by decide +kernel
theorem dX4_known_26 : decode cX4_known 26 = .ok (.iload_n 2, 1) := by decide +kernel
theorem dX4_known_27 : decode cX4_known 27 = .ok (.tableswitch 109 0 6 #[41, 46, 63, 80, 88, 93, 101], 41) := by decide +kernel
theorem dX4_known_68 : decode cX4_known 68 = .ok (.aload_n 3, 1) := by decide +kernel
theorem dX4_known_69 : decode cX4_known 69 = .ok (.getfield 126, 3) := by decide +kernel
theorem dX4_known_72 : decode cX4_known 72 = .ok (.ireturn, 1) := by decide +kernel
theorem dX4_known_73 : decode cX4_known 73 = .ok (.aload_n 3, 1) := by decide +kernel
theorem dX4_known_74 : decode cX4_known 74 = .ok (.invokevirtual 129, 3) := by decide +kernel
theorem dX4_known_77 : decode cX4_known 77 = .ok (.ifCond .eq 10, 3) := by decide +kernel
theorem dX4_known_80 : decode cX4_known 80 = .ok (.aload_n 3, 1) := by decide +kernel
theorem dX4_known_81 : decode cX4_known 81 = .ok (.getfield 132, 3) := by decide +kernel
theorem dX4_known_84 : decode cX4_known 84 = .ok (.goto 5, 3) := by decide +kernel
theorem dX4_known_87 : decode cX4_known 87 = .ok (.bipush (-6), 2) := by decide +kernel
theorem dX4_known_89 : decode cX4_known 89 = .ok (.ireturn, 1) := by decide +kernel
theorem dX4_known_90 : decode cX4_known 90 = .ok (.aload_n 3, 1) := by decide +kernel
theorem dX4_known_91 : decode cX4_known 91 = .ok (.invokevirtual 129, 3) := by decide +kernel
theorem dX4_known_94 : decode cX4_known 94 = .ok (.ifCond .eq 10, 3) := by decide +kernel
theorem dX4_known_97 : decode cX4_known 97 = .ok (.aload_n 3, 1) := by decide +kernel
theorem dX4_known_98 : decode cX4_known 98 = .ok (.getfield 135, 3) := by decide +kernel
theorem dX4_known_101 : decode cX4_known 101 = .ok (.goto 5, 3) := by decide +kernel
theorem dX4_known_104 : decode cX4_known 104 = .ok (.bipush (-6), 2) := by decide +kernel
theorem dX4_known_106 : decode cX4_known 106 = .ok (.ireturn, 1) := by decide +kernel
theorem dX4_known_107 : decode cX4_known 107 = .ok (.aload_n 3, 1) := by decide +kernel
theorem dX4_known_108 : decode cX4_known 108 = .ok (.getfield 138, 3) := by decide +kernel
theorem dX4_known_111 : decode cX4_known 111 = .ok (.invokestatic 99, 3) := by decide +kernel
theorem dX4_known_114 : decode cX4_known 114 = .ok (.ireturn, 1) := by decide +kernel
theorem dX4_known_115 : decode cX4_known 115 = .ok (.aload_n 3, 1) := by decide +kernel
theorem dX4_known_116 : decode cX4_known 116 = .ok (.getfield 106, 3) := by decide +kernel
theorem dX4_known_119 : decode cX4_known 119 = .ok (.ireturn, 1) := by decide +kernel
theorem dX4_known_120 : decode cX4_known 120 = .ok (.aload_n 3, 1) := by decide +kernel
theorem dX4_known_121 : decode cX4_known 121 = .ok (.invokevirtual 141, 3) := by decide +kernel
theorem dX4_known_124 : decode cX4_known 124 = .ok (.invokestatic 99, 3) := by decide +kernel
theorem dX4_known_127 : decode cX4_known 127 = .ok (.ireturn, 1) := by decide +kernel
theorem dX4_known_128 : decode cX4_known 128 = .ok (.aload_n 3, 1) := by decide +kernel
theorem dX4_known_129 : decode cX4_known 129 = .ok (.invokevirtual 144, 3) := by decide +kernel
theorem dX4_known_132 : decode cX4_known 132 = .ok (.invokestatic 99, 3) := by decide +kernel
theorem dX4_known_135 : decode cX4_known 135 = .ok (.ireturn, 1) := by decide +kernel
theorem dX4_known_136 : decode cX4_known 136 = .ok (.bipush (-2), 2) := by decide +kernel
theorem dX4_known_138 : decode cX4_known 138 = .ok (.ireturn, 1) := by decide +kernel
theorem dX4_count_0 : decode cX4_count 0 = .ok (.iload_n 1, 1) := by decide +kernel
theorem dX4_count_1 : decode cX4_count 1 = .ok (.tableswitch 193 0 12 #[67, 75, 83, 99, 107, 115, 123, 145, 153, 161, 169, 177, 185], 67) := by decide +kernel
theorem dX4_count_68 : decode cX4_count 68 = .ok (.aload_n 0, 1) := by decide +kernel
theorem dX4_count_69 : decode cX4_count 69 = .ok (.getfield 10, 3) := by decide +kernel
theorem dX4_count_72 : decode cX4_count 72 = .ok (.getfield 147, 3) := by decide +kernel
theorem dX4_count_75 : decode cX4_count 75 = .ok (.ireturn, 1) := by decide +kernel
theorem dX4_count_76 : decode cX4_count 76 = .ok (.aload_n 0, 1) := by decide +kernel
theorem dX4_count_77 : decode cX4_count 77 = .ok (.getfield 10, 3) := by decide +kernel
theorem dX4_count_80 : decode cX4_count 80 = .ok (.getfield 150, 3) := by decide +kernel
theorem dX4_count_83 : decode cX4_count 83 = .ok (.ireturn, 1) := by decide +kernel
theorem dX4_count_84 : decode cX4_count 84 = .ok (.aload_n 0, 1) := by decide +kernel
theorem dX4_count_85 : decode cX4_count 85 = .ok (.getfield 10, 3) := by decide +kernel
theorem dX4_count_88 : decode cX4_count 88 = .ok (.getfield 150, 3) := by decide +kernel
theorem dX4_count_91 : decode cX4_count 91 = .ok (.aload_n 0, 1) := by decide +kernel
theorem dX4_count_92 : decode cX4_count 92 = .ok (.getfield 10, 3) := by decide +kernel
theorem dX4_count_95 : decode cX4_count 95 = .ok (.invokevirtual 153, 3) := by decide +kernel
theorem dX4_count_98 : decode cX4_count 98 = .ok (.isub, 1) := by decide +kernel
theorem dX4_count_99 : decode cX4_count 99 = .ok (.ireturn, 1) := by decide +kernel
theorem dX4_count_100 : decode cX4_count 100 = .ok (.aload_n 0, 1) := by decide +kernel
theorem dX4_count_101 : decode cX4_count 101 = .ok (.getfield 10, 3) := by decide +kernel
theorem dX4_count_104 : decode cX4_count 104 = .ok (.getfield 156, 3) := by decide +kernel
theorem dX4_count_107 : decode cX4_count 107 = .ok (.ireturn, 1) := by decide +kernel
theorem dX4_count_108 : decode cX4_count 108 = .ok (.aload_n 0, 1) := by decide +kernel
theorem dX4_count_109 : decode cX4_count 109 = .ok (.getfield 10, 3) := by decide +kernel
theorem dX4_count_112 : decode cX4_count 112 = .ok (.getfield 157, 3) := by decide +kernel
theorem dX4_count_115 : decode cX4_count 115 = .ok (.ireturn, 1) := by decide +kernel
theorem dX4_count_116 : decode cX4_count 116 = .ok (.aload_n 0, 1) := by decide +kernel
theorem dX4_count_117 : decode cX4_count 117 = .ok (.getfield 10, 3) := by decide +kernel
theorem dX4_count_120 : decode cX4_count 120 = .ok (.invokevirtual 160, 3) := by decide +kernel
theorem dX4_count_123 : decode cX4_count 123 = .ok (.ireturn, 1) := by decide +kernel
theorem dX4_count_124 : decode cX4_count 124 = .ok (.aload_n 0, 1) := by decide +kernel
theorem dX4_count_125 : decode cX4_count 125 = .ok (.getfield 10, 3) := by decide +kernel
theorem dX4_count_128 : decode cX4_count 128 = .ok (.invokevirtual 153, 3) := by decide +kernel
theorem dX4_count_131 : decode cX4_count 131 = .ok (.ifCond .ne 13, 3) := by decide +kernel
theorem dX4_count_134 : decode cX4_count 134 = .ok (.aload_n 0, 1) := by decide +kernel
theorem dX4_count_135 : decode cX4_count 135 = .ok (.getfield 10, 3) := by decide +kernel
theorem dX4_count_138 : decode cX4_count 138 = .ok (.invokevirtual 160, 3) := by decide +kernel
theorem dX4_count_141 : decode cX4_count 141 = .ok (.goto 4, 3) := by decide +kernel
theorem dX4_count_144 : decode cX4_count 144 = .ok (.iconst 0, 1) := by decide +kernel
theorem dX4_count_145 : decode cX4_count 145 = .ok (.ireturn, 1) := by decide +kernel
theorem dX4_count_146 : decode cX4_count 146 = .ok (.aload_n 0, 1) := by decide +kernel
theorem dX4_count_147 : decode cX4_count 147 = .ok (.getfield 10, 3) := by decide +kernel
theorem dX4_count_150 : decode cX4_count 150 = .ok (.invokevirtual 163, 3) := by decide +kernel
theorem dX4_count_153 : decode cX4_count 153 = .ok (.ireturn, 1) := by decide +kernel
theorem dX4_count_154 : decode cX4_count 154 = .ok (.aload_n 0, 1) := by decide +kernel
theorem dX4_count_155 : decode cX4_count 155 = .ok (.getfield 10, 3) := by decide +kernel
theorem dX4_count_158 : decode cX4_count 158 = .ok (.invokevirtual 166, 3) := by decide +kernel
theorem dX4_count_161 : decode cX4_count 161 = .ok (.ireturn, 1) := by decide +kernel
theorem dX4_count_162 : decode cX4_count 162 = .ok (.aload_n 0, 1) := by decide +kernel
theorem dX4_count_163 : decode cX4_count 163 = .ok (.getfield 37, 3) := by decide +kernel
theorem dX4_count_166 : decode cX4_count 166 = .ok (.getfield 169, 3) := by decide +kernel
theorem dX4_count_169 : decode cX4_count 169 = .ok (.ireturn, 1) := by decide +kernel
theorem dX4_count_170 : decode cX4_count 170 = .ok (.aload_n 0, 1) := by decide +kernel
theorem dX4_count_171 : decode cX4_count 171 = .ok (.getfield 22, 3) := by decide +kernel
theorem dX4_count_174 : decode cX4_count 174 = .ok (.getfield 170, 3) := by decide +kernel
theorem dX4_count_177 : decode cX4_count 177 = .ok (.ireturn, 1) := by decide +kernel
theorem dX4_count_178 : decode cX4_count 178 = .ok (.aload_n 0, 1) := by decide +kernel
theorem dX4_count_179 : decode cX4_count 179 = .ok (.getfield 10, 3) := by decide +kernel
theorem dX4_count_182 : decode cX4_count 182 = .ok (.getfield 173, 3) := by decide +kernel
theorem dX4_count_185 : decode cX4_count 185 = .ok (.ireturn, 1) := by decide +kernel
theorem dX4_count_186 : decode cX4_count 186 = .ok (.aload_n 0, 1) := by decide +kernel
theorem dX4_count_187 : decode cX4_count 187 = .ok (.getfield 10, 3) := by decide +kernel
theorem dX4_count_190 : decode cX4_count 190 = .ok (.getfield 113, 3) := by decide +kernel
theorem dX4_count_193 : decode cX4_count 193 = .ok (.ireturn, 1) := by decide +kernel
theorem dX4_count_194 : decode cX4_count 194 = .ok (.bipush (-2), 2) := by decide +kernel
theorem dX4_count_196 : decode cX4_count 196 = .ok (.ireturn, 1) := by decide +kernel
theorem dX4_pitchAt_0 : decode cX4_pitchAt 0 = .ok (.aload_n 0, 1) := by decide +kernel
theorem dX4_pitchAt_1 : decode cX4_pitchAt 1 = .ok (.getfield 10, 3) := by decide +kernel
theorem dX4_pitchAt_4 : decode cX4_pitchAt 4 = .ok (.iload_n 1, 1) := by decide +kernel
theorem dX4_pitchAt_5 : decode cX4_pitchAt 5 = .ok (.invokevirtual 73, 3) := by decide +kernel
theorem dX4_pitchAt_8 : decode cX4_pitchAt 8 = .ok (.astore_n 3, 1) := by decide +kernel
theorem dX4_pitchAt_9 : decode cX4_pitchAt 9 = .ok (.aload_n 3, 1) := by decide +kernel
theorem dX4_pitchAt_10 : decode cX4_pitchAt 10 = .ok (.ifnonnull 5, 3) := by decide +kernel
theorem dX4_pitchAt_13 : decode cX4_pitchAt 13 = .ok (.iconst (-1), 1) := by decide +kernel
theorem dX4_pitchAt_14 : decode cX4_pitchAt 14 = .ok (.ireturn, 1) := by decide +kernel
theorem dX4_pitchAt_15 : decode cX4_pitchAt 15 = .ok (.iload_n 2, 1) := by decide +kernel
theorem dX4_pitchAt_16 : decode cX4_pitchAt 16 = .ok (.iconst 0, 1) := by decide +kernel
theorem dX4_pitchAt_17 : decode cX4_pitchAt 17 = .ok (.ldc 176, 2) := by decide +kernel
theorem dX4_pitchAt_19 : decode cX4_pitchAt 19 = .ok (.invokestatic 177, 3) := by decide +kernel
theorem dX4_pitchAt_22 : decode cX4_pitchAt 22 = .ok (.ifCond .ne 6, 3) := by decide +kernel
theorem dX4_pitchAt_25 : decode cX4_pitchAt 25 = .ok (.bipush (-2), 2) := by decide +kernel
theorem dX4_pitchAt_27 : decode cX4_pitchAt 27 = .ok (.ireturn, 1) := by decide +kernel
theorem dX4_pitchAt_28 : decode cX4_pitchAt 28 = .ok (.aload_n 3, 1) := by decide +kernel
theorem dX4_pitchAt_29 : decode cX4_pitchAt 29 = .ok (.iload_n 2, 1) := by decide +kernel
theorem dX4_pitchAt_30 : decode cX4_pitchAt 30 = .ok (.invokevirtual 103, 3) := by decide +kernel
theorem dX4_pitchAt_33 : decode cX4_pitchAt 33 = .ok (.ireturn, 1) := by decide +kernel
theorem dX4_tensionFor_0 : decode cX4_tensionFor 0 = .ok (.aload_n 0, 1) := by decide +kernel
theorem dX4_tensionFor_1 : decode cX4_tensionFor 1 = .ok (.getfield 10, 3) := by decide +kernel
theorem dX4_tensionFor_4 : decode cX4_tensionFor 4 = .ok (.iload_n 1, 1) := by decide +kernel
theorem dX4_tensionFor_5 : decode cX4_tensionFor 5 = .ok (.invokevirtual 73, 3) := by decide +kernel
theorem dX4_tensionFor_8 : decode cX4_tensionFor 8 = .ok (.astore_n 3, 1) := by decide +kernel
theorem dX4_tensionFor_9 : decode cX4_tensionFor 9 = .ok (.aload_n 3, 1) := by decide +kernel
theorem dX4_tensionFor_10 : decode cX4_tensionFor 10 = .ok (.ifnonnull 5, 3) := by decide +kernel
theorem dX4_tensionFor_13 : decode cX4_tensionFor 13 = .ok (.iconst (-1), 1) := by decide +kernel
theorem dX4_tensionFor_14 : decode cX4_tensionFor 14 = .ok (.ireturn, 1) := by decide +kernel
theorem dX4_tensionFor_15 : decode cX4_tensionFor 15 = .ok (.iload_n 2, 1) := by decide +kernel
theorem dX4_tensionFor_16 : decode cX4_tensionFor 16 = .ok (.iconst 0, 1) := by decide +kernel
theorem dX4_tensionFor_17 : decode cX4_tensionFor 17 = .ok (.ldc 181, 2) := by decide +kernel
theorem dX4_tensionFor_19 : decode cX4_tensionFor 19 = .ok (.invokestatic 177, 3) := by decide +kernel
theorem dX4_tensionFor_22 : decode cX4_tensionFor 22 = .ok (.ifCond .ne 6, 3) := by decide +kernel
theorem dX4_tensionFor_25 : decode cX4_tensionFor 25 = .ok (.bipush (-2), 2) := by decide +kernel
theorem dX4_tensionFor_27 : decode cX4_tensionFor 27 = .ok (.ireturn, 1) := by decide +kernel
theorem dX4_tensionFor_28 : decode cX4_tensionFor 28 = .ok (.aload_n 3, 1) := by decide +kernel
theorem dX4_tensionFor_29 : decode cX4_tensionFor 29 = .ok (.iload_n 2, 1) := by decide +kernel
theorem dX4_tensionFor_30 : decode cX4_tensionFor 30 = .ok (.i2l, 1) := by decide +kernel
theorem dX4_tensionFor_31 : decode cX4_tensionFor 31 = .ok (.invokevirtual 182, 3) := by decide +kernel
theorem dX4_tensionFor_34 : decode cX4_tensionFor 34 = .ok (.lstore 4, 2) := by decide +kernel
theorem dX4_tensionFor_36 : decode cX4_tensionFor 36 = .ok (.lload 4, 2) := by decide +kernel
theorem dX4_tensionFor_38 : decode cX4_tensionFor 38 = .ok (.ldc2_w 186, 3) := by decide +kernel
theorem dX4_tensionFor_41 : decode cX4_tensionFor 41 = .ok (.lcmp, 1) := by decide +kernel
theorem dX4_tensionFor_42 : decode cX4_tensionFor 42 = .ok (.ifCond .le 8, 3) := by decide +kernel
theorem dX4_tensionFor_45 : decode cX4_tensionFor 45 = .ok (.bipush (-6), 2) := by decide +kernel
theorem dX4_tensionFor_47 : decode cX4_tensionFor 47 = .ok (.goto 6, 3) := by decide +kernel
theorem dX4_tensionFor_50 : decode cX4_tensionFor 50 = .ok (.lload 4, 2) := by decide +kernel
theorem dX4_tensionFor_52 : decode cX4_tensionFor 52 = .ok (.l2i, 1) := by decide +kernel
theorem dX4_tensionFor_53 : decode cX4_tensionFor 53 = .ok (.ireturn, 1) := by decide +kernel
theorem dX4_fallsWith_0 : decode cX4_fallsWith 0 = .ok (.aload_n 0, 1) := by decide +kernel
theorem dX4_fallsWith_1 : decode cX4_fallsWith 1 = .ok (.getfield 10, 3) := by decide +kernel
theorem dX4_fallsWith_4 : decode cX4_fallsWith 4 = .ok (.iload_n 1, 1) := by decide +kernel
theorem dX4_fallsWith_5 : decode cX4_fallsWith 5 = .ok (.invokevirtual 73, 3) := by decide +kernel
theorem dX4_fallsWith_8 : decode cX4_fallsWith 8 = .ok (.astore_n 2, 1) := by decide +kernel
theorem dX4_fallsWith_9 : decode cX4_fallsWith 9 = .ok (.aload_n 2, 1) := by decide +kernel
theorem dX4_fallsWith_10 : decode cX4_fallsWith 10 = .ok (.ifnonnull 5, 3) := by decide +kernel
theorem dX4_fallsWith_13 : decode cX4_fallsWith 13 = .ok (.iconst (-1), 1) := by decide +kernel
theorem dX4_fallsWith_14 : decode cX4_fallsWith 14 = .ok (.ireturn, 1) := by decide +kernel
theorem dX4_fallsWith_15 : decode cX4_fallsWith 15 = .ok (.aload_n 2, 1) := by decide +kernel
theorem dX4_fallsWith_16 : decode cX4_fallsWith 16 = .ok (.getfield 95, 3) := by decide +kernel
theorem dX4_fallsWith_19 : decode cX4_fallsWith 19 = .ok (.ifCond .eq 6, 3) := by decide +kernel
theorem dX4_fallsWith_22 : decode cX4_fallsWith 22 = .ok (.bipush (-5), 2) := by decide +kernel
theorem dX4_fallsWith_24 : decode cX4_fallsWith 24 = .ok (.ireturn, 1) := by decide +kernel
theorem dX4_fallsWith_25 : decode cX4_fallsWith 25 = .ok (.aload_n 0, 1) := by decide +kernel
theorem dX4_fallsWith_26 : decode cX4_fallsWith 26 = .ok (.iload_n 1, 1) := by decide +kernel
theorem dX4_fallsWith_27 : decode cX4_fallsWith 27 = .ok (.invokevirtual 188, 3) := by decide +kernel
theorem dX4_fallsWith_30 : decode cX4_fallsWith 30 = .ok (.ireturn, 1) := by decide +kernel
theorem dX4_mostAt_0 : decode cX4_mostAt 0 = .ok (.iload_n 1, 1) := by decide +kernel
theorem dX4_mostAt_1 : decode cX4_mostAt 1 = .ok (.iconst 0, 1) := by decide +kernel
theorem dX4_mostAt_2 : decode cX4_mostAt 2 = .ok (.bipush 19, 2) := by decide +kernel
theorem dX4_mostAt_4 : decode cX4_mostAt 4 = .ok (.invokestatic 177, 3) := by decide +kernel
theorem dX4_mostAt_7 : decode cX4_mostAt 7 = .ok (.ifCond .ne 5, 3) := by decide +kernel
theorem dX4_mostAt_10 : decode cX4_mostAt 10 = .ok (.iconst (-1), 1) := by decide +kernel
theorem dX4_mostAt_11 : decode cX4_mostAt 11 = .ok (.ireturn, 1) := by decide +kernel
theorem dX4_mostAt_12 : decode cX4_mostAt 12 = .ok (.aload_n 0, 1) := by decide +kernel
theorem dX4_mostAt_13 : decode cX4_mostAt 13 = .ok (.getfield 16, 3) := by decide +kernel
theorem dX4_mostAt_16 : decode cX4_mostAt 16 = .ok (.aload_n 0, 1) := by decide +kernel
theorem dX4_mostAt_17 : decode cX4_mostAt 17 = .ok (.getfield 10, 3) := by decide +kernel
theorem dX4_mostAt_20 : decode cX4_mostAt 20 = .ok (.invokevirtual 191, 3) := by decide +kernel
theorem dX4_mostAt_23 : decode cX4_mostAt 23 = .ok (.aload_n 0, 1) := by decide +kernel
theorem dX4_mostAt_24 : decode cX4_mostAt 24 = .ok (.getfield 16, 3) := by decide +kernel
theorem dX4_mostAt_27 : decode cX4_mostAt 27 = .ok (.iload_n 1, 1) := by decide +kernel
theorem dX4_mostAt_28 : decode cX4_mostAt 28 = .ok (.iconst 0, 1) := by decide +kernel
theorem dX4_mostAt_29 : decode cX4_mostAt 29 = .ok (.invokevirtual 194, 3) := by decide +kernel
theorem dX4_mostAt_32 : decode cX4_mostAt 32 = .ok (.ifCond .ne 6, 3) := by decide +kernel
theorem dX4_mostAt_35 : decode cX4_mostAt 35 = .ok (.bipush (-6), 2) := by decide +kernel
theorem dX4_mostAt_37 : decode cX4_mostAt 37 = .ok (.ireturn, 1) := by decide +kernel
theorem dX4_mostAt_38 : decode cX4_mostAt 38 = .ok (.iconst 0, 1) := by decide +kernel
theorem dX4_mostAt_39 : decode cX4_mostAt 39 = .ok (.istore_n 2, 1) := by decide +kernel
theorem dX4_mostAt_40 : decode cX4_mostAt 40 = .ok (.sipush 512, 3) := by decide +kernel
theorem dX4_mostAt_43 : decode cX4_mostAt 43 = .ok (.istore_n 3, 1) := by decide +kernel
theorem dX4_mostAt_44 : decode cX4_mostAt 44 = .ok (.iload_n 3, 1) := by decide +kernel
theorem dX4_mostAt_45 : decode cX4_mostAt 45 = .ok (.ifCond .le 37, 3) := by decide +kernel
theorem dX4_mostAt_48 : decode cX4_mostAt 48 = .ok (.iload_n 2, 1) := by decide +kernel
theorem dX4_mostAt_49 : decode cX4_mostAt 49 = .ok (.iload_n 3, 1) := by decide +kernel
theorem dX4_mostAt_50 : decode cX4_mostAt 50 = .ok (.iadd, 1) := by decide +kernel
theorem dX4_mostAt_51 : decode cX4_mostAt 51 = .ok (.sipush 1000, 3) := by decide +kernel
theorem dX4_mostAt_54 : decode cX4_mostAt 54 = .ok (.if_icmp .gt 21, 3) := by decide +kernel
theorem dX4_mostAt_57 : decode cX4_mostAt 57 = .ok (.aload_n 0, 1) := by decide +kernel
theorem dX4_mostAt_58 : decode cX4_mostAt 58 = .ok (.getfield 16, 3) := by decide +kernel
theorem dX4_mostAt_61 : decode cX4_mostAt 61 = .ok (.iload_n 1, 1) := by decide +kernel
theorem dX4_mostAt_62 : decode cX4_mostAt 62 = .ok (.iload_n 2, 1) := by decide +kernel
theorem dX4_mostAt_63 : decode cX4_mostAt 63 = .ok (.iload_n 3, 1) := by decide +kernel
theorem dX4_mostAt_64 : decode cX4_mostAt 64 = .ok (.iadd, 1) := by decide +kernel
theorem dX4_mostAt_65 : decode cX4_mostAt 65 = .ok (.invokevirtual 194, 3) := by decide +kernel
theorem dX4_mostAt_68 : decode cX4_mostAt 68 = .ok (.ifCond .eq 7, 3) := by decide +kernel
theorem dX4_mostAt_71 : decode cX4_mostAt 71 = .ok (.iload_n 2, 1) := by decide +kernel
theorem dX4_mostAt_72 : decode cX4_mostAt 72 = .ok (.iload_n 3, 1) := by decide +kernel
theorem dX4_mostAt_73 : decode cX4_mostAt 73 = .ok (.iadd, 1) := by decide +kernel
theorem dX4_mostAt_74 : decode cX4_mostAt 74 = .ok (.istore_n 2, 1) := by decide +kernel
theorem dX4_mostAt_75 : decode cX4_mostAt 75 = .ok (.iload_n 3, 1) := by decide +kernel
theorem dX4_mostAt_76 : decode cX4_mostAt 76 = .ok (.iconst 2, 1) := by decide +kernel
theorem dX4_mostAt_77 : decode cX4_mostAt 77 = .ok (.idiv, 1) := by decide +kernel
theorem dX4_mostAt_78 : decode cX4_mostAt 78 = .ok (.istore_n 3, 1) := by decide +kernel
theorem dX4_mostAt_79 : decode cX4_mostAt 79 = .ok (.goto (-35), 3) := by decide +kernel
theorem dX4_mostAt_82 : decode cX4_mostAt 82 = .ok (.iload_n 2, 1) := by decide +kernel
theorem dX4_mostAt_83 : decode cX4_mostAt 83 = .ok (.ireturn, 1) := by decide +kernel
theorem dX4_slackIn_0 : decode cX4_slackIn 0 = .ok (.aload_n 0, 1) := by decide +kernel
theorem dX4_slackIn_1 : decode cX4_slackIn 1 = .ok (.getfield 10, 3) := by decide +kernel
theorem dX4_slackIn_4 : decode cX4_slackIn 4 = .ok (.iload_n 1, 1) := by decide +kernel
theorem dX4_slackIn_5 : decode cX4_slackIn 5 = .ok (.invokevirtual 73, 3) := by decide +kernel
theorem dX4_slackIn_8 : decode cX4_slackIn 8 = .ok (.astore_n 2, 1) := by decide +kernel
theorem dX4_slackIn_9 : decode cX4_slackIn 9 = .ok (.aload_n 2, 1) := by decide +kernel
theorem dX4_slackIn_10 : decode cX4_slackIn 10 = .ok (.ifnonnull 5, 3) := by decide +kernel
theorem dX4_slackIn_13 : decode cX4_slackIn 13 = .ok (.iconst (-1), 1) := by decide +kernel
theorem dX4_slackIn_14 : decode cX4_slackIn 14 = .ok (.ireturn, 1) := by decide +kernel
theorem dX4_slackIn_15 : decode cX4_slackIn 15 = .ok (.aload_n 2, 1) := by decide +kernel
theorem dX4_slackIn_16 : decode cX4_slackIn 16 = .ok (.getfield 95, 3) := by decide +kernel
theorem dX4_slackIn_19 : decode cX4_slackIn 19 = .ok (.ifCond .eq 6, 3) := by decide +kernel
theorem dX4_slackIn_22 : decode cX4_slackIn 22 = .ok (.bipush (-6), 2) := by decide +kernel
theorem dX4_slackIn_24 : decode cX4_slackIn 24 = .ok (.ireturn, 1) := by decide +kernel
theorem dX4_slackIn_25 : decode cX4_slackIn 25 = .ok (.aload_n 2, 1) := by decide +kernel
theorem dX4_slackIn_26 : decode cX4_slackIn 26 = .ok (.getfield 92, 3) := by decide +kernel
theorem dX4_slackIn_29 : decode cX4_slackIn 29 = .ok (.istore_n 3, 1) := by decide +kernel
theorem dX4_slackIn_30 : decode cX4_slackIn 30 = .ok (.iconst 0, 1) := by decide +kernel
theorem dX4_slackIn_31 : decode cX4_slackIn 31 = .ok (.istore 4, 2) := by decide +kernel
theorem dX4_slackIn_33 : decode cX4_slackIn 33 = .ok (.iload 4, 2) := by decide +kernel
theorem dX4_slackIn_35 : decode cX4_slackIn 35 = .ok (.sipush 300, 3) := by decide +kernel
theorem dX4_slackIn_38 : decode cX4_slackIn 38 = .ok (.if_icmp .gt 32, 3) := by decide +kernel
theorem dX4_slackIn_41 : decode cX4_slackIn 41 = .ok (.iload_n 3, 1) := by decide +kernel
theorem dX4_slackIn_42 : decode cX4_slackIn 42 = .ok (.aload_n 2, 1) := by decide +kernel
theorem dX4_slackIn_43 : decode cX4_slackIn 43 = .ok (.getfield 106, 3) := by decide +kernel
theorem dX4_slackIn_46 : decode cX4_slackIn 46 = .ok (.if_icmp .ge 6, 3) := by decide +kernel
theorem dX4_slackIn_49 : decode cX4_slackIn 49 = .ok (.iload 4, 2) := by decide +kernel
theorem dX4_slackIn_51 : decode cX4_slackIn 51 = .ok (.ireturn, 1) := by decide +kernel
theorem dX4_slackIn_52 : decode cX4_slackIn 52 = .ok (.iload_n 3, 1) := by decide +kernel
theorem dX4_slackIn_53 : decode cX4_slackIn 53 = .ok (.aload_n 0, 1) := by decide +kernel
theorem dX4_slackIn_54 : decode cX4_slackIn 54 = .ok (.getfield 10, 3) := by decide +kernel
theorem dX4_slackIn_57 : decode cX4_slackIn 57 = .ok (.getfield 173, 3) := by decide +kernel
theorem dX4_slackIn_60 : decode cX4_slackIn 60 = .ok (.invokestatic 198, 3) := by decide +kernel
theorem dX4_slackIn_63 : decode cX4_slackIn 63 = .ok (.istore_n 3, 1) := by decide +kernel
theorem dX4_slackIn_64 : decode cX4_slackIn 64 = .ok (.iinc 4 1, 3) := by decide +kernel
theorem dX4_slackIn_67 : decode cX4_slackIn 67 = .ok (.goto (-34), 3) := by decide +kernel
theorem dX4_slackIn_70 : decode cX4_slackIn 70 = .ok (.bipush (-6), 2) := by decide +kernel
theorem dX4_slackIn_72 : decode cX4_slackIn 72 = .ok (.ireturn, 1) := by decide +kernel
theorem dX4_round_0 : decode cX4_round 0 = .ok (.aload_n 0, 1) := by decide +kernel
theorem dX4_round_1 : decode cX4_round 1 = .ok (.getfield 16, 3) := by decide +kernel
theorem dX4_round_4 : decode cX4_round 4 = .ok (.aload_n 0, 1) := by decide +kernel
theorem dX4_round_5 : decode cX4_round 5 = .ok (.getfield 10, 3) := by decide +kernel
theorem dX4_round_8 : decode cX4_round 8 = .ok (.invokevirtual 123, 3) := by decide +kernel
theorem dX4_round_11 : decode cX4_round 11 = .ok (.aload_n 0, 1) := by decide +kernel
theorem dX4_round_12 : decode cX4_round 12 = .ok (.getfield 16, 3) := by decide +kernel
theorem dX4_round_15 : decode cX4_round 15 = .ok (.invokevirtual 201, 3) := by decide +kernel
theorem dX4_round_18 : decode cX4_round 18 = .ok (.ireturn, 1) := by decide +kernel
theorem dX4_weakest_0 : decode cX4_weakest 0 = .ok (.iload_n 1, 1) := by decide +kernel
theorem dX4_weakest_1 : decode cX4_weakest 1 = .ok (.ifCond .eq 11, 3) := by decide +kernel
theorem dX4_weakest_4 : decode cX4_weakest 4 = .ok (.iload_n 1, 1) := by decide +kernel
theorem dX4_weakest_5 : decode cX4_weakest 5 = .ok (.iconst 1, 1) := by decide +kernel
theorem dX4_weakest_6 : decode cX4_weakest 6 = .ok (.if_icmp .eq 6, 3) := by decide +kernel
theorem dX4_weakest_9 : decode cX4_weakest 9 = .ok (.bipush (-2), 2) := by decide +kernel
theorem dX4_weakest_11 : decode cX4_weakest 11 = .ok (.ireturn, 1) := by decide +kernel
theorem dX4_weakest_12 : decode cX4_weakest 12 = .ok (.bipush (-6), 2) := by decide +kernel
theorem dX4_weakest_14 : decode cX4_weakest 14 = .ok (.istore_n 2, 1) := by decide +kernel
theorem dX4_weakest_15 : decode cX4_weakest 15 = .ok (.bipush (-6), 2) := by decide +kernel
theorem dX4_weakest_17 : decode cX4_weakest 17 = .ok (.istore_n 3, 1) := by decide +kernel
theorem dX4_weakest_18 : decode cX4_weakest 18 = .ok (.iconst 0, 1) := by decide +kernel
theorem dX4_weakest_19 : decode cX4_weakest 19 = .ok (.istore 4, 2) := by decide +kernel
theorem dX4_weakest_21 : decode cX4_weakest 21 = .ok (.iload 4, 2) := by decide +kernel
theorem dX4_weakest_23 : decode cX4_weakest 23 = .ok (.aload_n 0, 1) := by decide +kernel
theorem dX4_weakest_24 : decode cX4_weakest 24 = .ok (.getfield 10, 3) := by decide +kernel
theorem dX4_weakest_27 : decode cX4_weakest 27 = .ok (.getfield 150, 3) := by decide +kernel
theorem dX4_weakest_30 : decode cX4_weakest 30 = .ok (.if_icmp .ge 56, 3) := by decide +kernel
theorem dX4_weakest_33 : decode cX4_weakest 33 = .ok (.aload_n 0, 1) := by decide +kernel
theorem dX4_weakest_34 : decode cX4_weakest 34 = .ok (.getfield 10, 3) := by decide +kernel
theorem dX4_weakest_37 : decode cX4_weakest 37 = .ok (.iload 4, 2) := by decide +kernel
theorem dX4_weakest_39 : decode cX4_weakest 39 = .ok (.invokevirtual 73, 3) := by decide +kernel
theorem dX4_weakest_42 : decode cX4_weakest 42 = .ok (.astore 5, 2) := by decide +kernel
theorem dX4_weakest_44 : decode cX4_weakest 44 = .ok (.aload 5, 2) := by decide +kernel
theorem dX4_weakest_46 : decode cX4_weakest 46 = .ok (.ifnull 34, 3) := by decide +kernel
theorem dX4_weakest_49 : decode cX4_weakest 49 = .ok (.aload 5, 2) := by decide +kernel
theorem dX4_weakest_51 : decode cX4_weakest 51 = .ok (.getfield 95, 3) := by decide +kernel
theorem dX4_weakest_54 : decode cX4_weakest 54 = .ok (.ifCond .ne 26, 3) := by decide +kernel
theorem dX4_weakest_57 : decode cX4_weakest 57 = .ok (.aload_n 0, 1) := by decide +kernel
theorem dX4_weakest_58 : decode cX4_weakest 58 = .ok (.iload 4, 2) := by decide +kernel
theorem dX4_weakest_60 : decode cX4_weakest 60 = .ok (.invokevirtual 188, 3) := by decide +kernel
theorem dX4_weakest_63 : decode cX4_weakest 63 = .ok (.invokestatic 204, 3) := by decide +kernel
theorem dX4_weakest_66 : decode cX4_weakest 66 = .ok (.istore 6, 2) := by decide +kernel
theorem dX4_weakest_68 : decode cX4_weakest 68 = .ok (.iload 6, 2) := by decide +kernel
theorem dX4_weakest_70 : decode cX4_weakest 70 = .ok (.iload_n 3, 1) := by decide +kernel
theorem dX4_weakest_71 : decode cX4_weakest 71 = .ok (.if_icmp .le 9, 3) := by decide +kernel
theorem dX4_weakest_74 : decode cX4_weakest 74 = .ok (.iload 6, 2) := by decide +kernel
theorem dX4_weakest_76 : decode cX4_weakest 76 = .ok (.istore_n 3, 1) := by decide +kernel
theorem dX4_weakest_77 : decode cX4_weakest 77 = .ok (.iload 4, 2) := by decide +kernel
theorem dX4_weakest_79 : decode cX4_weakest 79 = .ok (.istore_n 2, 1) := by decide +kernel
theorem dX4_weakest_80 : decode cX4_weakest 80 = .ok (.iinc 4 1, 3) := by decide +kernel
theorem dX4_weakest_83 : decode cX4_weakest 83 = .ok (.goto (-62), 3) := by decide +kernel
theorem dX4_weakest_86 : decode cX4_weakest 86 = .ok (.iload_n 1, 1) := by decide +kernel
theorem dX4_weakest_87 : decode cX4_weakest 87 = .ok (.ifCond .ne 7, 3) := by decide +kernel
theorem dX4_weakest_90 : decode cX4_weakest 90 = .ok (.iload_n 2, 1) := by decide +kernel
theorem dX4_weakest_91 : decode cX4_weakest 91 = .ok (.goto 4, 3) := by decide +kernel
theorem dX4_weakest_94 : decode cX4_weakest 94 = .ok (.iload_n 3, 1) := by decide +kernel
theorem dX4_weakest_95 : decode cX4_weakest 95 = .ok (.ireturn, 1) := by decide +kernel
theorem dX4_put_0 : decode cX4_put 0 = .ok (.aload_n 0, 1) := by decide +kernel
theorem dX4_put_1 : decode cX4_put 1 = .ok (.getfield 37, 3) := by decide +kernel
theorem dX4_put_4 : decode cX4_put 4 = .ok (.lload_n 1, 1) := by decide +kernel
theorem dX4_put_5 : decode cX4_put 5 = .ok (.invokevirtual 209, 3) := by decide +kernel
theorem dX4_put_8 : decode cX4_put 8 = .ok (.ireturn, 1) := by decide +kernel
theorem dX4_wipe_0 : decode cX4_wipe 0 = .ok (.aload_n 0, 1) := by decide +kernel
theorem dX4_wipe_1 : decode cX4_wipe 1 = .ok (.getfield 37, 3) := by decide +kernel
theorem dX4_wipe_4 : decode cX4_wipe 4 = .ok (.invokevirtual 213, 3) := by decide +kernel
theorem dX4_wipe_7 : decode cX4_wipe 7 = .ok (.ireturn, 1) := by decide +kernel
theorem dX4_fault_0 : decode cX4_fault 0 = .ok (.aload_n 0, 1) := by decide +kernel
theorem dX4_fault_1 : decode cX4_fault 1 = .ok (.getfield 37, 3) := by decide +kernel
theorem dX4_fault_4 : decode cX4_fault 4 = .ok (.invokevirtual 216, 3) := by decide +kernel
theorem dX4_fault_7 : decode cX4_fault 7 = .ok (.ireturn, 1) := by decide +kernel
theorem dX4_carryOut_0 : decode cX4_carryOut 0 = .ok (.aload_n 0, 1) := by decide +kernel
theorem dX4_carryOut_1 : decode cX4_carryOut 1 = .ok (.getfield 37, 3) := by decide +kernel
theorem dX4_carryOut_4 : decode cX4_carryOut 4 = .ok (.invokevirtual 216, 3) := by decide +kernel
theorem dX4_carryOut_7 : decode cX4_carryOut 7 = .ok (.bipush (-6), 2) := by decide +kernel
theorem dX4_carryOut_9 : decode cX4_carryOut 9 = .ok (.if_icmp .eq 6, 3) := by decide +kernel
theorem dX4_carryOut_12 : decode cX4_carryOut 12 = .ok (.bipush (-3), 2) := by decide +kernel
theorem dX4_carryOut_14 : decode cX4_carryOut 14 = .ok (.ireturn, 1) := by decide +kernel
theorem dX4_carryOut_15 : decode cX4_carryOut 15 = .ok (.aload_n 0, 1) := by decide +kernel
theorem dX4_carryOut_16 : decode cX4_carryOut 16 = .ok (.getfield 22, 3) := by decide +kernel
theorem dX4_carryOut_19 : decode cX4_carryOut 19 = .ok (.aload_n 0, 1) := by decide +kernel
theorem dX4_carryOut_20 : decode cX4_carryOut 20 = .ok (.getfield 10, 3) := by decide +kernel
theorem dX4_carryOut_23 : decode cX4_carryOut 23 = .ok (.invokevirtual 41, 3) := by decide +kernel
theorem dX4_carryOut_26 : decode cX4_carryOut 26 = .ok (.aload_n 0, 1) := by decide +kernel
theorem dX4_carryOut_27 : decode cX4_carryOut 27 = .ok (.getfield 22, 3) := by decide +kernel
theorem dX4_carryOut_30 : decode cX4_carryOut 30 = .ok (.aload_n 0, 1) := by decide +kernel
theorem dX4_carryOut_31 : decode cX4_carryOut 31 = .ok (.invokevirtual 219, 3) := by decide +kernel
theorem dX4_carryOut_34 : decode cX4_carryOut 34 = .ok (.invokevirtual 49, 3) := by decide +kernel
theorem dX4_carryOut_37 : decode cX4_carryOut 37 = .ok (.istore_n 1, 1) := by decide +kernel
theorem dX4_carryOut_38 : decode cX4_carryOut 38 = .ok (.aload_n 0, 1) := by decide +kernel
theorem dX4_carryOut_39 : decode cX4_carryOut 39 = .ok (.getfield 37, 3) := by decide +kernel
theorem dX4_carryOut_42 : decode cX4_carryOut 42 = .ok (.invokevirtual 213, 3) := by decide +kernel
theorem dX4_carryOut_45 : decode cX4_carryOut 45 = .ok (.pop, 1) := by decide +kernel
theorem dX4_carryOut_46 : decode cX4_carryOut 46 = .ok (.iload_n 1, 1) := by decide +kernel
theorem dX4_carryOut_47 : decode cX4_carryOut 47 = .ok (.ireturn, 1) := by decide +kernel
theorem dX4_undo_0 : decode cX4_undo 0 = .ok (.aload_n 0, 1) := by decide +kernel
theorem dX4_undo_1 : decode cX4_undo 1 = .ok (.getfield 22, 3) := by decide +kernel
theorem dX4_undo_4 : decode cX4_undo 4 = .ok (.aload_n 0, 1) := by decide +kernel
theorem dX4_undo_5 : decode cX4_undo 5 = .ok (.getfield 10, 3) := by decide +kernel
theorem dX4_undo_8 : decode cX4_undo 8 = .ok (.invokevirtual 222, 3) := by decide +kernel
theorem dX4_undo_11 : decode cX4_undo 11 = .ok (.ireturn, 1) := by decide +kernel
theorem dX4_save_0 : decode cX4_save 0 = .ok (.iload_n 1, 1) := by decide +kernel
theorem dX4_save_1 : decode cX4_save 1 = .ok (.iconst 0, 1) := by decide +kernel
theorem dX4_save_2 : decode cX4_save 2 = .ok (.iconst 1, 1) := by decide +kernel
theorem dX4_save_3 : decode cX4_save 3 = .ok (.invokestatic 177, 3) := by decide +kernel
theorem dX4_save_6 : decode cX4_save 6 = .ok (.ifCond .ne 6, 3) := by decide +kernel
theorem dX4_save_9 : decode cX4_save 9 = .ok (.bipush (-2), 2) := by decide +kernel
theorem dX4_save_11 : decode cX4_save 11 = .ok (.ireturn, 1) := by decide +kernel
theorem dX4_save_12 : decode cX4_save 12 = .ok (.aload_n 0, 1) := by decide +kernel
theorem dX4_save_13 : decode cX4_save 13 = .ok (.getfield 26, 3) := by decide +kernel
theorem dX4_save_16 : decode cX4_save 16 = .ok (.iload_n 1, 1) := by decide +kernel
theorem dX4_save_17 : decode cX4_save 17 = .ok (.aaload, 1) := by decide +kernel
theorem dX4_save_18 : decode cX4_save 18 = .ok (.aload_n 0, 1) := by decide +kernel
theorem dX4_save_19 : decode cX4_save 19 = .ok (.getfield 10, 3) := by decide +kernel
theorem dX4_save_22 : decode cX4_save 22 = .ok (.invokevirtual 191, 3) := by decide +kernel
theorem dX4_save_25 : decode cX4_save 25 = .ok (.aload_n 0, 1) := by decide +kernel
theorem dX4_save_26 : decode cX4_save 26 = .ok (.getfield 30, 3) := by decide +kernel
theorem dX4_save_29 : decode cX4_save 29 = .ok (.iload_n 1, 1) := by decide +kernel
theorem dX4_save_30 : decode cX4_save 30 = .ok (.iconst 1, 1) := by decide +kernel
theorem dX4_save_31 : decode cX4_save 31 = .ok (.bastore, 1) := by decide +kernel
theorem dX4_save_32 : decode cX4_save 32 = .ok (.aload_n 0, 1) := by decide +kernel
theorem dX4_save_33 : decode cX4_save 33 = .ok (.getfield 10, 3) := by decide +kernel
theorem dX4_save_36 : decode cX4_save 36 = .ok (.getfield 147, 3) := by decide +kernel
theorem dX4_save_39 : decode cX4_save 39 = .ok (.ireturn, 1) := by decide +kernel
theorem dX4_restore_0 : decode cX4_restore 0 = .ok (.iload_n 1, 1) := by decide +kernel
theorem dX4_restore_1 : decode cX4_restore 1 = .ok (.iconst 0, 1) := by decide +kernel
theorem dX4_restore_2 : decode cX4_restore 2 = .ok (.iconst 1, 1) := by decide +kernel
theorem dX4_restore_3 : decode cX4_restore 3 = .ok (.invokestatic 177, 3) := by decide +kernel
theorem dX4_restore_6 : decode cX4_restore 6 = .ok (.ifCond .ne 6, 3) := by decide +kernel
theorem dX4_restore_9 : decode cX4_restore 9 = .ok (.bipush (-2), 2) := by decide +kernel
theorem dX4_restore_11 : decode cX4_restore 11 = .ok (.ireturn, 1) := by decide +kernel
theorem dX4_restore_12 : decode cX4_restore 12 = .ok (.aload_n 0, 1) := by decide +kernel
theorem dX4_restore_13 : decode cX4_restore 13 = .ok (.getfield 30, 3) := by decide +kernel
theorem dX4_restore_16 : decode cX4_restore 16 = .ok (.iload_n 1, 1) := by decide +kernel
theorem dX4_restore_17 : decode cX4_restore 17 = .ok (.baload, 1) := by decide +kernel
theorem dX4_restore_18 : decode cX4_restore 18 = .ok (.ifCond .ne 6, 3) := by decide +kernel
theorem dX4_restore_21 : decode cX4_restore 21 = .ok (.bipush (-5), 2) := by decide +kernel
theorem dX4_restore_23 : decode cX4_restore 23 = .ok (.ireturn, 1) := by decide +kernel
theorem dX4_restore_24 : decode cX4_restore 24 = .ok (.aload_n 0, 1) := by decide +kernel
theorem dX4_restore_25 : decode cX4_restore 25 = .ok (.getfield 22, 3) := by decide +kernel
theorem dX4_restore_28 : decode cX4_restore 28 = .ok (.aload_n 0, 1) := by decide +kernel
theorem dX4_restore_29 : decode cX4_restore 29 = .ok (.getfield 10, 3) := by decide +kernel
theorem dX4_restore_32 : decode cX4_restore 32 = .ok (.invokevirtual 41, 3) := by decide +kernel
theorem dX4_restore_35 : decode cX4_restore 35 = .ok (.aload_n 0, 1) := by decide +kernel
theorem dX4_restore_36 : decode cX4_restore 36 = .ok (.getfield 10, 3) := by decide +kernel
theorem dX4_restore_39 : decode cX4_restore 39 = .ok (.aload_n 0, 1) := by decide +kernel
theorem dX4_restore_40 : decode cX4_restore 40 = .ok (.getfield 26, 3) := by decide +kernel
theorem dX4_restore_43 : decode cX4_restore 43 = .ok (.iload_n 1, 1) := by decide +kernel
theorem dX4_restore_44 : decode cX4_restore 44 = .ok (.aaload, 1) := by decide +kernel
theorem dX4_restore_45 : decode cX4_restore 45 = .ok (.invokevirtual 191, 3) := by decide +kernel
theorem dX4_restore_48 : decode cX4_restore 48 = .ok (.aload_n 0, 1) := by decide +kernel
theorem dX4_restore_49 : decode cX4_restore 49 = .ok (.getfield 22, 3) := by decide +kernel
theorem dX4_restore_52 : decode cX4_restore 52 = .ok (.aload_n 0, 1) := by decide +kernel
theorem dX4_restore_53 : decode cX4_restore 53 = .ok (.getfield 10, 3) := by decide +kernel
theorem dX4_restore_56 : decode cX4_restore 56 = .ok (.getfield 147, 3) := by decide +kernel
theorem dX4_restore_59 : decode cX4_restore 59 = .ok (.invokevirtual 49, 3) := by decide +kernel
theorem dX4_restore_62 : decode cX4_restore 62 = .ok (.ireturn, 1) := by decide +kernel
theorem dX4_fallenWith_0 : decode cX4_fallenWith 0 = .ok (.aload_n 0, 1) := by decide +kernel
theorem dX4_fallenWith_1 : decode cX4_fallenWith 1 = .ok (.getfield 16, 3) := by decide +kernel
theorem dX4_fallenWith_4 : decode cX4_fallenWith 4 = .ok (.aload_n 0, 1) := by decide +kernel
theorem dX4_fallenWith_5 : decode cX4_fallenWith 5 = .ok (.getfield 10, 3) := by decide +kernel
theorem dX4_fallenWith_8 : decode cX4_fallenWith 8 = .ok (.invokevirtual 191, 3) := by decide +kernel
theorem dX4_fallenWith_11 : decode cX4_fallenWith 11 = .ok (.aload_n 0, 1) := by decide +kernel
theorem dX4_fallenWith_12 : decode cX4_fallenWith 12 = .ok (.getfield 16, 3) := by decide +kernel
theorem dX4_fallenWith_15 : decode cX4_fallenWith 15 = .ok (.iload_n 1, 1) := by decide +kernel
theorem dX4_fallenWith_16 : decode cX4_fallenWith 16 = .ok (.invokevirtual 73, 3) := by decide +kernel
theorem dX4_fallenWith_19 : decode cX4_fallenWith 19 = .ok (.astore_n 2, 1) := by decide +kernel
theorem dX4_fallenWith_20 : decode cX4_fallenWith 20 = .ok (.aload_n 2, 1) := by decide +kernel
theorem dX4_fallenWith_21 : decode cX4_fallenWith 21 = .ok (.ifnonnull 5, 3) := by decide +kernel
theorem dX4_fallenWith_24 : decode cX4_fallenWith 24 = .ok (.iconst 0, 1) := by decide +kernel
theorem dX4_fallenWith_25 : decode cX4_fallenWith 25 = .ok (.ireturn, 1) := by decide +kernel
theorem dX4_fallenWith_26 : decode cX4_fallenWith 26 = .ok (.aload_n 2, 1) := by decide +kernel
theorem dX4_fallenWith_27 : decode cX4_fallenWith 27 = .ok (.aload_n 0, 1) := by decide +kernel
theorem dX4_fallenWith_28 : decode cX4_fallenWith 28 = .ok (.getfield 16, 3) := by decide +kernel
theorem dX4_fallenWith_31 : decode cX4_fallenWith 31 = .ok (.getfield 147, 3) := by decide +kernel
theorem dX4_fallenWith_34 : decode cX4_fallenWith 34 = .ok (.invokevirtual 226, 3) := by decide +kernel
theorem dX4_fallenWith_37 : decode cX4_fallenWith 37 = .ok (.aload_n 0, 1) := by decide +kernel
theorem dX4_fallenWith_38 : decode cX4_fallenWith 38 = .ok (.getfield 16, 3) := by decide +kernel
theorem dX4_fallenWith_41 : decode cX4_fallenWith 41 = .ok (.invokevirtual 230, 3) := by decide +kernel
theorem dX4_fallenWith_44 : decode cX4_fallenWith 44 = .ok (.iconst 1, 1) := by decide +kernel
theorem dX4_fallenWith_45 : decode cX4_fallenWith 45 = .ok (.iload_n 1, 1) := by decide +kernel
theorem dX4_fallenWith_46 : decode cX4_fallenWith 46 = .ok (.ishl, 1) := by decide +kernel
theorem dX4_fallenWith_47 : decode cX4_fallenWith 47 = .ok (.aload_n 0, 1) := by decide +kernel
theorem dX4_fallenWith_48 : decode cX4_fallenWith 48 = .ok (.getfield 16, 3) := by decide +kernel
theorem dX4_fallenWith_51 : decode cX4_fallenWith 51 = .ok (.invokevirtual 233, 3) := by decide +kernel
theorem dX4_fallenWith_54 : decode cX4_fallenWith 54 = .ok (.ior, 1) := by decide +kernel
theorem dX4_fallenWith_55 : decode cX4_fallenWith 55 = .ok (.ireturn, 1) := by decide +kernel
theorem dX4_ordersCarriedOut_0 : decode cX4_ordersCarriedOut 0 = .ok (.iconst 0, 1) := by decide +kernel
theorem dX4_ordersCarriedOut_1 : decode cX4_ordersCarriedOut 1 = .ok (.istore_n 1, 1) := by decide +kernel
theorem dX4_ordersCarriedOut_2 : decode cX4_ordersCarriedOut 2 = .ok (.aload_n 0, 1) := by decide +kernel
theorem dX4_ordersCarriedOut_3 : decode cX4_ordersCarriedOut 3 = .ok (.getfield 37, 3) := by decide +kernel
theorem dX4_ordersCarriedOut_6 : decode cX4_ordersCarriedOut 6 = .ok (.invokevirtual 236, 3) := by decide +kernel
theorem dX4_ordersCarriedOut_9 : decode cX4_ordersCarriedOut 9 = .ok (.iconst 0, 1) := by decide +kernel
theorem dX4_ordersCarriedOut_10 : decode cX4_ordersCarriedOut 10 = .ok (.istore_n 2, 1) := by decide +kernel
theorem dX4_ordersCarriedOut_11 : decode cX4_ordersCarriedOut 11 = .ok (.iload_n 2, 1) := by decide +kernel
theorem dX4_ordersCarriedOut_12 : decode cX4_ordersCarriedOut 12 = .ok (.bipush 60, 2) := by decide +kernel
theorem dX4_ordersCarriedOut_14 : decode cX4_ordersCarriedOut 14 = .ok (.if_icmp .ge 55, 3) := by decide +kernel
theorem dX4_ordersCarriedOut_17 : decode cX4_ordersCarriedOut 17 = .ok (.aload_n 0, 1) := by decide +kernel
theorem dX4_ordersCarriedOut_18 : decode cX4_ordersCarriedOut 18 = .ok (.getfield 37, 3) := by decide +kernel
theorem dX4_ordersCarriedOut_21 : decode cX4_ordersCarriedOut 21 = .ok (.invokevirtual 239, 3) := by decide +kernel
theorem dX4_ordersCarriedOut_24 : decode cX4_ordersCarriedOut 24 = .ok (.ifCond .eq 45, 3) := by decide +kernel
theorem dX4_ordersCarriedOut_27 : decode cX4_ordersCarriedOut 27 = .ok (.aload_n 0, 1) := by decide +kernel
theorem dX4_ordersCarriedOut_28 : decode cX4_ordersCarriedOut 28 = .ok (.aload_n 0, 1) := by decide +kernel
theorem dX4_ordersCarriedOut_29 : decode cX4_ordersCarriedOut 29 = .ok (.getfield 37, 3) := by decide +kernel
theorem dX4_ordersCarriedOut_32 : decode cX4_ordersCarriedOut 32 = .ok (.getfield 242, 3) := by decide +kernel
theorem dX4_ordersCarriedOut_35 : decode cX4_ordersCarriedOut 35 = .ok (.aload_n 0, 1) := by decide +kernel
theorem dX4_ordersCarriedOut_36 : decode cX4_ordersCarriedOut 36 = .ok (.getfield 37, 3) := by decide +kernel
theorem dX4_ordersCarriedOut_39 : decode cX4_ordersCarriedOut 39 = .ok (.getfield 246, 3) := by decide +kernel
theorem dX4_ordersCarriedOut_42 : decode cX4_ordersCarriedOut 42 = .ok (.aload_n 0, 1) := by decide +kernel
theorem dX4_ordersCarriedOut_43 : decode cX4_ordersCarriedOut 43 = .ok (.getfield 37, 3) := by decide +kernel
theorem dX4_ordersCarriedOut_46 : decode cX4_ordersCarriedOut 46 = .ok (.getfield 249, 3) := by decide +kernel
theorem dX4_ordersCarriedOut_49 : decode cX4_ordersCarriedOut 49 = .ok (.invokevirtual 252, 3) := by decide +kernel
theorem dX4_ordersCarriedOut_52 : decode cX4_ordersCarriedOut 52 = .ok (.invokestatic 256, 3) := by decide +kernel
theorem dX4_ordersCarriedOut_55 : decode cX4_ordersCarriedOut 55 = .ok (.ifCond .eq 5, 3) := by decide +kernel
theorem dX4_ordersCarriedOut_58 : decode cX4_ordersCarriedOut 58 = .ok (.iload_n 1, 1) := by decide +kernel
theorem dX4_ordersCarriedOut_59 : decode cX4_ordersCarriedOut 59 = .ok (.ireturn, 1) := by decide +kernel
theorem dX4_ordersCarriedOut_60 : decode cX4_ordersCarriedOut 60 = .ok (.iinc 1 1, 3) := by decide +kernel
theorem dX4_ordersCarriedOut_63 : decode cX4_ordersCarriedOut 63 = .ok (.iinc 2 1, 3) := by decide +kernel
theorem dX4_ordersCarriedOut_66 : decode cX4_ordersCarriedOut 66 = .ok (.goto (-55), 3) := by decide +kernel
theorem dX4_ordersCarriedOut_69 : decode cX4_ordersCarriedOut 69 = .ok (.iload_n 1, 1) := by decide +kernel
theorem dX4_ordersCarriedOut_70 : decode cX4_ordersCarriedOut 70 = .ok (.ireturn, 1) := by decide +kernel
theorem dX4_answerTo_0 : decode cX4_answerTo 0 = .ok (.iload_n 1, 1) := by decide +kernel
theorem dX4_answerTo_1 : decode cX4_answerTo 1 = .ok (.lookupswitch 96 #[(100, 87), (103, 51), (104, 60), (112, 77), (116, 68)], 51) := by decide +kernel
theorem dX4_answerTo_52 : decode cX4_answerTo 52 = .ok (.aload_n 0, 1) := by decide +kernel
theorem dX4_answerTo_53 : decode cX4_answerTo 53 = .ok (.getfield 10, 3) := by decide +kernel
theorem dX4_answerTo_56 : decode cX4_answerTo 56 = .ok (.iload_n 2, 1) := by decide +kernel
theorem dX4_answerTo_57 : decode cX4_answerTo 57 = .ok (.invokevirtual 63, 3) := by decide +kernel
theorem dX4_answerTo_60 : decode cX4_answerTo 60 = .ok (.ireturn, 1) := by decide +kernel
theorem dX4_answerTo_61 : decode cX4_answerTo 61 = .ok (.aload_n 0, 1) := by decide +kernel
theorem dX4_answerTo_62 : decode cX4_answerTo 62 = .ok (.getfield 10, 3) := by decide +kernel
theorem dX4_answerTo_65 : decode cX4_answerTo 65 = .ok (.invokevirtual 66, 3) := by decide +kernel
theorem dX4_answerTo_68 : decode cX4_answerTo 68 = .ok (.ireturn, 1) := by decide +kernel
theorem dX4_answerTo_69 : decode cX4_answerTo 69 = .ok (.aload_n 0, 1) := by decide +kernel
theorem dX4_answerTo_70 : decode cX4_answerTo 70 = .ok (.getfield 10, 3) := by decide +kernel
theorem dX4_answerTo_73 : decode cX4_answerTo 73 = .ok (.iload_n 2, 1) := by decide +kernel
theorem dX4_answerTo_74 : decode cX4_answerTo 74 = .ok (.invokevirtual 70, 3) := by decide +kernel
theorem dX4_answerTo_77 : decode cX4_answerTo 77 = .ok (.ireturn, 1) := by decide +kernel
theorem dX4_answerTo_78 : decode cX4_answerTo 78 = .ok (.aload_n 0, 1) := by decide +kernel
theorem dX4_answerTo_79 : decode cX4_answerTo 79 = .ok (.getfield 10, 3) := by decide +kernel
theorem dX4_answerTo_82 : decode cX4_answerTo 82 = .ok (.iload_n 2, 1) := by decide +kernel
theorem dX4_answerTo_83 : decode cX4_answerTo 83 = .ok (.iload_n 3, 1) := by decide +kernel
theorem dX4_answerTo_84 : decode cX4_answerTo 84 = .ok (.invokevirtual 57, 3) := by decide +kernel
theorem dX4_answerTo_87 : decode cX4_answerTo 87 = .ok (.ireturn, 1) := by decide +kernel
theorem dX4_answerTo_88 : decode cX4_answerTo 88 = .ok (.aload_n 0, 1) := by decide +kernel
theorem dX4_answerTo_89 : decode cX4_answerTo 89 = .ok (.getfield 10, 3) := by decide +kernel
theorem dX4_answerTo_92 : decode cX4_answerTo 92 = .ok (.iload_n 2, 1) := by decide +kernel
theorem dX4_answerTo_93 : decode cX4_answerTo 93 = .ok (.invokevirtual 60, 3) := by decide +kernel
theorem dX4_answerTo_96 : decode cX4_answerTo 96 = .ok (.ireturn, 1) := by decide +kernel
theorem dX4_answerTo_97 : decode cX4_answerTo 97 = .ok (.bipush (-3), 2) := by decide +kernel
theorem dX4_answerTo_99 : decode cX4_answerTo 99 = .ok (.ireturn, 1) := by decide +kernel
theorem dX4_isError_0 : decode cX4_isError 0 = .ok (.iload_n 0, 1) := by decide +kernel
theorem dX4_isError_1 : decode cX4_isError 1 = .ok (.ifCond .ge 13, 3) := by decide +kernel
theorem dX4_isError_4 : decode cX4_isError 4 = .ok (.iload_n 0, 1) := by decide +kernel
theorem dX4_isError_5 : decode cX4_isError 5 = .ok (.bipush (-6), 2) := by decide +kernel
theorem dX4_isError_7 : decode cX4_isError 7 = .ok (.if_icmp .eq 7, 3) := by decide +kernel
theorem dX4_isError_10 : decode cX4_isError 10 = .ok (.iconst 1, 1) := by decide +kernel
theorem dX4_isError_11 : decode cX4_isError 11 = .ok (.goto 4, 3) := by decide +kernel
theorem dX4_isError_14 : decode cX4_isError 14 = .ok (.iconst 0, 1) := by decide +kernel
theorem dX4_isError_15 : decode cX4_isError 15 = .ok (.ireturn, 1) := by decide +kernel
theorem dX4_within_0 : decode cX4_within 0 = .ok (.iload_n 0, 1) := by decide +kernel
theorem dX4_within_1 : decode cX4_within 1 = .ok (.iload_n 1, 1) := by decide +kernel
theorem dX4_within_2 : decode cX4_within 2 = .ok (.if_icmp .lt 12, 3) := by decide +kernel
theorem dX4_within_5 : decode cX4_within 5 = .ok (.iload_n 0, 1) := by decide +kernel
theorem dX4_within_6 : decode cX4_within 6 = .ok (.iload_n 2, 1) := by decide +kernel
theorem dX4_within_7 : decode cX4_within 7 = .ok (.if_icmp .gt 7, 3) := by decide +kernel
theorem dX4_within_10 : decode cX4_within 10 = .ok (.iconst 1, 1) := by decide +kernel
theorem dX4_within_11 : decode cX4_within 11 = .ok (.goto 4, 3) := by decide +kernel
theorem dX4_within_14 : decode cX4_within 14 = .ok (.iconst 0, 1) := by decide +kernel
theorem dX4_within_15 : decode cX4_within 15 = .ok (.ireturn, 1) := by decide +kernel
theorem dX4_oneIf_0 : decode cX4_oneIf 0 = .ok (.iload_n 0, 1) := by decide +kernel
theorem dX4_oneIf_1 : decode cX4_oneIf 1 = .ok (.ifCond .eq 7, 3) := by decide +kernel
theorem dX4_oneIf_4 : decode cX4_oneIf 4 = .ok (.iconst 1, 1) := by decide +kernel
theorem dX4_oneIf_5 : decode cX4_oneIf 5 = .ok (.goto 4, 3) := by decide +kernel
theorem dX4_oneIf_8 : decode cX4_oneIf 8 = .ok (.iconst 0, 1) := by decide +kernel
theorem dX4_oneIf_9 : decode cX4_oneIf 9 = .ok (.ireturn, 1) := by decide +kernel
theorem dX4_crept_0 : decode cX4_crept 0 = .ok (.iload_n 0, 1) := by decide +kernel
theorem dX4_crept_1 : decode cX4_crept 1 = .ok (.iload_n 0, 1) := by decide +kernel
theorem dX4_crept_2 : decode cX4_crept 2 = .ok (.iload_n 1, 1) := by decide +kernel
theorem dX4_crept_3 : decode cX4_crept 3 = .ok (.imul, 1) := by decide +kernel
theorem dX4_crept_4 : decode cX4_crept 4 = .ok (.sipush 999, 3) := by decide +kernel
theorem dX4_crept_7 : decode cX4_crept 7 = .ok (.iadd, 1) := by decide +kernel
theorem dX4_crept_8 : decode cX4_crept 8 = .ok (.sipush 1000, 3) := by decide +kernel
theorem dX4_crept_11 : decode cX4_crept 11 = .ok (.idiv, 1) := by decide +kernel
theorem dX4_crept_12 : decode cX4_crept 12 = .ok (.isub, 1) := by decide +kernel
theorem dX4_crept_13 : decode cX4_crept 13 = .ok (.ireturn, 1) := by decide +kernel
theorem dJ6_bitCount_0f7a4_0 : decode cJ6_bitCount_0f7a4 0 = .ok (.iload_n 0, 1) := by decide +kernel
theorem dJ6_bitCount_0f7a4_1 : decode cJ6_bitCount_0f7a4 1 = .ok (.iload_n 0, 1) := by decide +kernel
theorem dJ6_bitCount_0f7a4_2 : decode cJ6_bitCount_0f7a4 2 = .ok (.iconst 1, 1) := by decide +kernel
theorem dJ6_bitCount_0f7a4_3 : decode cJ6_bitCount_0f7a4 3 = .ok (.iushr, 1) := by decide +kernel
theorem dJ6_bitCount_0f7a4_4 : decode cJ6_bitCount_0f7a4 4 = .ok (.ldc_w 265, 3) := by decide +kernel
theorem dJ6_bitCount_0f7a4_7 : decode cJ6_bitCount_0f7a4 7 = .ok (.iand, 1) := by decide +kernel
theorem dJ6_bitCount_0f7a4_8 : decode cJ6_bitCount_0f7a4 8 = .ok (.isub, 1) := by decide +kernel
theorem dJ6_bitCount_0f7a4_9 : decode cJ6_bitCount_0f7a4 9 = .ok (.istore_n 0, 1) := by decide +kernel
theorem dJ6_bitCount_0f7a4_10 : decode cJ6_bitCount_0f7a4 10 = .ok (.iload_n 0, 1) := by decide +kernel
theorem dJ6_bitCount_0f7a4_11 : decode cJ6_bitCount_0f7a4 11 = .ok (.ldc_w 266, 3) := by decide +kernel
theorem dJ6_bitCount_0f7a4_14 : decode cJ6_bitCount_0f7a4 14 = .ok (.iand, 1) := by decide +kernel
theorem dJ6_bitCount_0f7a4_15 : decode cJ6_bitCount_0f7a4 15 = .ok (.iload_n 0, 1) := by decide +kernel
theorem dJ6_bitCount_0f7a4_16 : decode cJ6_bitCount_0f7a4 16 = .ok (.iconst 2, 1) := by decide +kernel
theorem dJ6_bitCount_0f7a4_17 : decode cJ6_bitCount_0f7a4 17 = .ok (.iushr, 1) := by decide +kernel
theorem dJ6_bitCount_0f7a4_18 : decode cJ6_bitCount_0f7a4 18 = .ok (.ldc_w 266, 3) := by decide +kernel
theorem dJ6_bitCount_0f7a4_21 : decode cJ6_bitCount_0f7a4 21 = .ok (.iand, 1) := by decide +kernel
theorem dJ6_bitCount_0f7a4_22 : decode cJ6_bitCount_0f7a4 22 = .ok (.iadd, 1) := by decide +kernel
theorem dJ6_bitCount_0f7a4_23 : decode cJ6_bitCount_0f7a4 23 = .ok (.istore_n 0, 1) := by decide +kernel
theorem dJ6_bitCount_0f7a4_24 : decode cJ6_bitCount_0f7a4 24 = .ok (.iload_n 0, 1) := by decide +kernel
theorem dJ6_bitCount_0f7a4_25 : decode cJ6_bitCount_0f7a4 25 = .ok (.iload_n 0, 1) := by decide +kernel
theorem dJ6_bitCount_0f7a4_26 : decode cJ6_bitCount_0f7a4 26 = .ok (.iconst 4, 1) := by decide +kernel
theorem dJ6_bitCount_0f7a4_27 : decode cJ6_bitCount_0f7a4 27 = .ok (.iushr, 1) := by decide +kernel
theorem dJ6_bitCount_0f7a4_28 : decode cJ6_bitCount_0f7a4 28 = .ok (.iadd, 1) := by decide +kernel
theorem dJ6_bitCount_0f7a4_29 : decode cJ6_bitCount_0f7a4 29 = .ok (.ldc_w 267, 3) := by decide +kernel
theorem dJ6_bitCount_0f7a4_32 : decode cJ6_bitCount_0f7a4 32 = .ok (.iand, 1) := by decide +kernel
theorem dJ6_bitCount_0f7a4_33 : decode cJ6_bitCount_0f7a4 33 = .ok (.istore_n 0, 1) := by decide +kernel
theorem dJ6_bitCount_0f7a4_34 : decode cJ6_bitCount_0f7a4 34 = .ok (.iload_n 0, 1) := by decide +kernel
theorem dJ6_bitCount_0f7a4_35 : decode cJ6_bitCount_0f7a4 35 = .ok (.iload_n 0, 1) := by decide +kernel
theorem dJ6_bitCount_0f7a4_36 : decode cJ6_bitCount_0f7a4 36 = .ok (.bipush 8, 2) := by decide +kernel
theorem dJ6_bitCount_0f7a4_38 : decode cJ6_bitCount_0f7a4 38 = .ok (.iushr, 1) := by decide +kernel
theorem dJ6_bitCount_0f7a4_39 : decode cJ6_bitCount_0f7a4 39 = .ok (.iadd, 1) := by decide +kernel
theorem dJ6_bitCount_0f7a4_40 : decode cJ6_bitCount_0f7a4 40 = .ok (.istore_n 0, 1) := by decide +kernel
theorem dJ6_bitCount_0f7a4_41 : decode cJ6_bitCount_0f7a4 41 = .ok (.iload_n 0, 1) := by decide +kernel
theorem dJ6_bitCount_0f7a4_42 : decode cJ6_bitCount_0f7a4 42 = .ok (.iload_n 0, 1) := by decide +kernel
theorem dJ6_bitCount_0f7a4_43 : decode cJ6_bitCount_0f7a4 43 = .ok (.bipush 16, 2) := by decide +kernel
theorem dJ6_bitCount_0f7a4_45 : decode cJ6_bitCount_0f7a4 45 = .ok (.iushr, 1) := by decide +kernel
theorem dJ6_bitCount_0f7a4_46 : decode cJ6_bitCount_0f7a4 46 = .ok (.iadd, 1) := by decide +kernel
theorem dJ6_bitCount_0f7a4_47 : decode cJ6_bitCount_0f7a4 47 = .ok (.istore_n 0, 1) := by decide +kernel
theorem dJ6_bitCount_0f7a4_48 : decode cJ6_bitCount_0f7a4 48 = .ok (.iload_n 0, 1) := by decide +kernel
theorem dJ6_bitCount_0f7a4_49 : decode cJ6_bitCount_0f7a4 49 = .ok (.bipush 63, 2) := by decide +kernel
theorem dJ6_bitCount_0f7a4_51 : decode cJ6_bitCount_0f7a4 51 = .ok (.iand, 1) := by decide +kernel
theorem dJ6_bitCount_0f7a4_52 : decode cJ6_bitCount_0f7a4 52 = .ok (.ireturn, 1) := by decide +kernel
theorem dJ9_abs_0f7a4_0 : decode cJ9_abs_0f7a4 0 = .ok (.iload_n 0, 1) := by decide +kernel
theorem dJ9_abs_0f7a4_1 : decode cJ9_abs_0f7a4 1 = .ok (.ifCond .ge 8, 3) := by decide +kernel
theorem dJ9_abs_0f7a4_4 : decode cJ9_abs_0f7a4 4 = .ok (.iload_n 0, 1) := by decide +kernel
theorem dJ9_abs_0f7a4_5 : decode cJ9_abs_0f7a4 5 = .ok (.ineg, 1) := by decide +kernel
theorem dJ9_abs_0f7a4_6 : decode cJ9_abs_0f7a4 6 = .ok (.goto 4, 3) := by decide +kernel
theorem dJ9_abs_0f7a4_9 : decode cJ9_abs_0f7a4 9 = .ok (.iload_n 0, 1) := by decide +kernel
theorem dJ9_abs_0f7a4_10 : decode cJ9_abs_0f7a4 10 = .ok (.ireturn, 1) := by decide +kernel
theorem dJ9_max_7cf53_0 : decode cJ9_max_7cf53 0 = .ok (.iload_n 0, 1) := by decide +kernel
theorem dJ9_max_7cf53_1 : decode cJ9_max_7cf53 1 = .ok (.iload_n 1, 1) := by decide +kernel
theorem dJ9_max_7cf53_2 : decode cJ9_max_7cf53 2 = .ok (.if_icmp .lt 7, 3) := by decide +kernel
theorem dJ9_max_7cf53_5 : decode cJ9_max_7cf53 5 = .ok (.iload_n 0, 1) := by decide +kernel
theorem dJ9_max_7cf53_6 : decode cJ9_max_7cf53 6 = .ok (.goto 4, 3) := by decide +kernel
theorem dJ9_max_7cf53_9 : decode cJ9_max_7cf53 9 = .ok (.iload_n 1, 1) := by decide +kernel
theorem dJ9_max_7cf53_10 : decode cJ9_max_7cf53 10 = .ok (.ireturn, 1) := by decide +kernel
theorem dJ9_min_7cf53_0 : decode cJ9_min_7cf53 0 = .ok (.iload_n 0, 1) := by decide +kernel
theorem dJ9_min_7cf53_1 : decode cJ9_min_7cf53 1 = .ok (.iload_n 1, 1) := by decide +kernel
theorem dJ9_min_7cf53_2 : decode cJ9_min_7cf53 2 = .ok (.if_icmp .gt 7, 3) := by decide +kernel
theorem dJ9_min_7cf53_5 : decode cJ9_min_7cf53 5 = .ok (.iload_n 0, 1) := by decide +kernel
theorem dJ9_min_7cf53_6 : decode cJ9_min_7cf53 6 = .ok (.goto 4, 3) := by decide +kernel
theorem dJ9_min_7cf53_9 : decode cJ9_min_7cf53 9 = .ok (.iload_n 1, 1) := by decide +kernel
theorem dJ9_min_7cf53_10 : decode cJ9_min_7cf53 10 = .ok (.ireturn, 1) := by decide +kernel
theorem dJ9_min_f86c9_0 : decode cJ9_min_f86c9 0 = .ok (.lload_n 0, 1) := by decide +kernel
theorem dJ9_min_f86c9_1 : decode cJ9_min_f86c9 1 = .ok (.lload_n 2, 1) := by decide +kernel
theorem dJ9_min_f86c9_2 : decode cJ9_min_f86c9 2 = .ok (.lcmp, 1) := by decide +kernel
theorem dJ9_min_f86c9_3 : decode cJ9_min_f86c9 3 = .ok (.ifCond .gt 7, 3) := by decide +kernel
theorem dJ9_min_f86c9_6 : decode cJ9_min_f86c9 6 = .ok (.lload_n 0, 1) := by decide +kernel
theorem dJ9_min_f86c9_7 : decode cJ9_min_f86c9 7 = .ok (.goto 4, 3) := by decide +kernel
theorem dJ9_min_f86c9_10 : decode cJ9_min_f86c9 10 = .ok (.lload_n 2, 1) := by decide +kernel
theorem dJ9_min_f86c9_11 : decode cJ9_min_f86c9 11 = .ok (.lreturn, 1) := by decide +kernel
theorem dL_law_0 : decode cL_law 0 = .ok (.new 7, 3) := by decide +kernel
theorem dL_law_3 : decode cL_law 3 = .ok (.dup, 1) := by decide +kernel
theorem dL_law_4 : decode cL_law 4 = .ok (.invokespecial 9, 3) := by decide +kernel
theorem dL_law_7 : decode cL_law 7 = .ok (.astore_n 1, 1) := by decide +kernel
theorem dL_law_8 : decode cL_law 8 = .ok (.new 10, 3) := by decide +kernel
theorem dL_law_11 : decode cL_law 11 = .ok (.dup, 1) := by decide +kernel
theorem dL_law_12 : decode cL_law 12 = .ok (.invokespecial 12, 3) := by decide +kernel
theorem dL_law_15 : decode cL_law 15 = .ok (.astore_n 2, 1) := by decide +kernel
theorem dL_law_16 : decode cL_law 16 = .ok (.iconst 0, 1) := by decide +kernel
theorem dL_law_17 : decode cL_law 17 = .ok (.istore_n 3, 1) := by decide +kernel
theorem dL_law_18 : decode cL_law 18 = .ok (.iload_n 3, 1) := by decide +kernel
theorem dL_law_19 : decode cL_law 19 = .ok (.aload_n 0, 1) := by decide +kernel
theorem dL_law_20 : decode cL_law 20 = .ok (.arraylength, 1) := by decide +kernel
theorem dL_law_21 : decode cL_law 21 = .ok (.bipush 6, 2) := by decide +kernel
theorem dL_law_23 : decode cL_law 23 = .ok (.isub, 1) := by decide +kernel
theorem dL_law_24 : decode cL_law 24 = .ok (.if_icmp .gt 748, 3) := by decide +kernel
theorem dL_law_27 : decode cL_law 27 = .ok (.aload_n 0, 1) := by decide +kernel
theorem dL_law_28 : decode cL_law 28 = .ok (.iload_n 3, 1) := by decide +kernel
theorem dL_law_29 : decode cL_law 29 = .ok (.iaload, 1) := by decide +kernel
theorem dL_law_30 : decode cL_law 30 = .ok (.bipush 31, 2) := by decide +kernel
theorem dL_law_32 : decode cL_law 32 = .ok (.iand, 1) := by decide +kernel
theorem dL_law_33 : decode cL_law 33 = .ok (.tableswitch 733 0 23 #[111, 144, 207, 240, 263, 286, 299, 322, 355, 388, 411, 444, 477, 500, 523, 546, 559, 582, 635, 648, 661, 674, 687, 710], 111) := by decide +kernel
theorem dL_law_144 : decode cL_law 144 = .ok (.aload_n 1, 1) := by decide +kernel
theorem dL_law_145 : decode cL_law 145 = .ok (.aload_n 0, 1) := by decide +kernel
theorem dL_law_146 : decode cL_law 146 = .ok (.iload_n 3, 1) := by decide +kernel
theorem dL_law_147 : decode cL_law 147 = .ok (.iconst 1, 1) := by decide +kernel
theorem dL_law_148 : decode cL_law 148 = .ok (.iadd, 1) := by decide +kernel
theorem dL_law_149 : decode cL_law 149 = .ok (.iaload, 1) := by decide +kernel
theorem dL_law_150 : decode cL_law 150 = .ok (.aload_n 0, 1) := by decide +kernel
theorem dL_law_151 : decode cL_law 151 = .ok (.iload_n 3, 1) := by decide +kernel
theorem dL_law_152 : decode cL_law 152 = .ok (.iconst 2, 1) := by decide +kernel
theorem dL_law_153 : decode cL_law 153 = .ok (.iadd, 1) := by decide +kernel
theorem dL_law_154 : decode cL_law 154 = .ok (.iaload, 1) := by decide +kernel
theorem dL_law_155 : decode cL_law 155 = .ok (.invokevirtual 13, 3) := by decide +kernel
theorem dL_law_158 : decode cL_law 158 = .ok (.aload_n 2, 1) := by decide +kernel
theorem dL_law_159 : decode cL_law 159 = .ok (.aload_n 0, 1) := by decide +kernel
theorem dL_law_160 : decode cL_law 160 = .ok (.iload_n 3, 1) := by decide +kernel
theorem dL_law_161 : decode cL_law 161 = .ok (.iconst 1, 1) := by decide +kernel
theorem dL_law_162 : decode cL_law 162 = .ok (.iadd, 1) := by decide +kernel
theorem dL_law_163 : decode cL_law 163 = .ok (.iaload, 1) := by decide +kernel
theorem dL_law_164 : decode cL_law 164 = .ok (.aload_n 0, 1) := by decide +kernel
theorem dL_law_165 : decode cL_law 165 = .ok (.iload_n 3, 1) := by decide +kernel
theorem dL_law_166 : decode cL_law 166 = .ok (.iconst 2, 1) := by decide +kernel
theorem dL_law_167 : decode cL_law 167 = .ok (.iadd, 1) := by decide +kernel
theorem dL_law_168 : decode cL_law 168 = .ok (.iaload, 1) := by decide +kernel
theorem dL_law_169 : decode cL_law 169 = .ok (.invokevirtual 17, 3) := by decide +kernel
theorem dL_law_172 : decode cL_law 172 = .ok (.if_icmp .eq 594, 3) := by decide +kernel
theorem dL_law_175 : decode cL_law 175 = .ok (.iconst 0, 1) := by decide +kernel
theorem dL_law_176 : decode cL_law 176 = .ok (.ireturn, 1) := by decide +kernel
theorem dL_law_177 : decode cL_law 177 = .ok (.aload_n 1, 1) := by decide +kernel
theorem dL_law_178 : decode cL_law 178 = .ok (.aload_n 0, 1) := by decide +kernel
theorem dL_law_179 : decode cL_law 179 = .ok (.iload_n 3, 1) := by decide +kernel
theorem dL_law_180 : decode cL_law 180 = .ok (.iconst 1, 1) := by decide +kernel
theorem dL_law_181 : decode cL_law 181 = .ok (.iadd, 1) := by decide +kernel
theorem dL_law_182 : decode cL_law 182 = .ok (.iaload, 1) := by decide +kernel
theorem dL_law_183 : decode cL_law 183 = .ok (.aload_n 0, 1) := by decide +kernel
theorem dL_law_184 : decode cL_law 184 = .ok (.iload_n 3, 1) := by decide +kernel
theorem dL_law_185 : decode cL_law 185 = .ok (.iconst 2, 1) := by decide +kernel
theorem dL_law_186 : decode cL_law 186 = .ok (.iadd, 1) := by decide +kernel
theorem dL_law_187 : decode cL_law 187 = .ok (.iaload, 1) := by decide +kernel
theorem dL_law_188 : decode cL_law 188 = .ok (.aload_n 0, 1) := by decide +kernel
theorem dL_law_189 : decode cL_law 189 = .ok (.iload_n 3, 1) := by decide +kernel
theorem dL_law_190 : decode cL_law 190 = .ok (.iconst 3, 1) := by decide +kernel
theorem dL_law_191 : decode cL_law 191 = .ok (.iadd, 1) := by decide +kernel
theorem dL_law_192 : decode cL_law 192 = .ok (.iaload, 1) := by decide +kernel
theorem dL_law_193 : decode cL_law 193 = .ok (.aload_n 0, 1) := by decide +kernel
theorem dL_law_194 : decode cL_law 194 = .ok (.iload_n 3, 1) := by decide +kernel
theorem dL_law_195 : decode cL_law 195 = .ok (.iconst 4, 1) := by decide +kernel
theorem dL_law_196 : decode cL_law 196 = .ok (.iadd, 1) := by decide +kernel
theorem dL_law_197 : decode cL_law 197 = .ok (.iaload, 1) := by decide +kernel
theorem dL_law_198 : decode cL_law 198 = .ok (.aload_n 0, 1) := by decide +kernel
theorem dL_law_199 : decode cL_law 199 = .ok (.iload_n 3, 1) := by decide +kernel
theorem dL_law_200 : decode cL_law 200 = .ok (.iconst 5, 1) := by decide +kernel
theorem dL_law_201 : decode cL_law 201 = .ok (.iadd, 1) := by decide +kernel
theorem dL_law_202 : decode cL_law 202 = .ok (.iaload, 1) := by decide +kernel
theorem dL_law_203 : decode cL_law 203 = .ok (.invokevirtual 18, 3) := by decide +kernel
theorem dL_law_206 : decode cL_law 206 = .ok (.aload_n 2, 1) := by decide +kernel
theorem dL_law_207 : decode cL_law 207 = .ok (.aload_n 0, 1) := by decide +kernel
theorem dL_law_208 : decode cL_law 208 = .ok (.iload_n 3, 1) := by decide +kernel
theorem dL_law_209 : decode cL_law 209 = .ok (.iconst 1, 1) := by decide +kernel
theorem dL_law_210 : decode cL_law 210 = .ok (.iadd, 1) := by decide +kernel
theorem dL_law_211 : decode cL_law 211 = .ok (.iaload, 1) := by decide +kernel
theorem dL_law_212 : decode cL_law 212 = .ok (.aload_n 0, 1) := by decide +kernel
theorem dL_law_213 : decode cL_law 213 = .ok (.iload_n 3, 1) := by decide +kernel
theorem dL_law_214 : decode cL_law 214 = .ok (.iconst 2, 1) := by decide +kernel
theorem dL_law_215 : decode cL_law 215 = .ok (.iadd, 1) := by decide +kernel
theorem dL_law_216 : decode cL_law 216 = .ok (.iaload, 1) := by decide +kernel
theorem dL_law_217 : decode cL_law 217 = .ok (.aload_n 0, 1) := by decide +kernel
theorem dL_law_218 : decode cL_law 218 = .ok (.iload_n 3, 1) := by decide +kernel
theorem dL_law_219 : decode cL_law 219 = .ok (.iconst 3, 1) := by decide +kernel
theorem dL_law_220 : decode cL_law 220 = .ok (.iadd, 1) := by decide +kernel
theorem dL_law_221 : decode cL_law 221 = .ok (.iaload, 1) := by decide +kernel
theorem dL_law_222 : decode cL_law 222 = .ok (.aload_n 0, 1) := by decide +kernel
theorem dL_law_223 : decode cL_law 223 = .ok (.iload_n 3, 1) := by decide +kernel
theorem dL_law_224 : decode cL_law 224 = .ok (.iconst 4, 1) := by decide +kernel
theorem dL_law_225 : decode cL_law 225 = .ok (.iadd, 1) := by decide +kernel
theorem dL_law_226 : decode cL_law 226 = .ok (.iaload, 1) := by decide +kernel
theorem dL_law_227 : decode cL_law 227 = .ok (.aload_n 0, 1) := by decide +kernel
theorem dL_law_228 : decode cL_law 228 = .ok (.iload_n 3, 1) := by decide +kernel
theorem dL_law_229 : decode cL_law 229 = .ok (.iconst 5, 1) := by decide +kernel
theorem dL_law_230 : decode cL_law 230 = .ok (.iadd, 1) := by decide +kernel
theorem dL_law_231 : decode cL_law 231 = .ok (.iaload, 1) := by decide +kernel
theorem dL_law_232 : decode cL_law 232 = .ok (.invokevirtual 22, 3) := by decide +kernel
theorem dL_law_235 : decode cL_law 235 = .ok (.if_icmp .eq 531, 3) := by decide +kernel
theorem dL_law_238 : decode cL_law 238 = .ok (.iconst 0, 1) := by decide +kernel
theorem dL_law_239 : decode cL_law 239 = .ok (.ireturn, 1) := by decide +kernel
theorem dL_law_240 : decode cL_law 240 = .ok (.aload_n 1, 1) := by decide +kernel
theorem dL_law_241 : decode cL_law 241 = .ok (.aload_n 0, 1) := by decide +kernel
theorem dL_law_242 : decode cL_law 242 = .ok (.iload_n 3, 1) := by decide +kernel
theorem dL_law_243 : decode cL_law 243 = .ok (.iconst 1, 1) := by decide +kernel
theorem dL_law_244 : decode cL_law 244 = .ok (.iadd, 1) := by decide +kernel
theorem dL_law_245 : decode cL_law 245 = .ok (.iaload, 1) := by decide +kernel
theorem dL_law_246 : decode cL_law 246 = .ok (.aload_n 0, 1) := by decide +kernel
theorem dL_law_247 : decode cL_law 247 = .ok (.iload_n 3, 1) := by decide +kernel
theorem dL_law_248 : decode cL_law 248 = .ok (.iconst 2, 1) := by decide +kernel
theorem dL_law_249 : decode cL_law 249 = .ok (.iadd, 1) := by decide +kernel
theorem dL_law_250 : decode cL_law 250 = .ok (.iaload, 1) := by decide +kernel
theorem dL_law_251 : decode cL_law 251 = .ok (.invokevirtual 23, 3) := by decide +kernel
theorem dL_law_254 : decode cL_law 254 = .ok (.aload_n 2, 1) := by decide +kernel
theorem dL_law_255 : decode cL_law 255 = .ok (.aload_n 0, 1) := by decide +kernel
theorem dL_law_256 : decode cL_law 256 = .ok (.iload_n 3, 1) := by decide +kernel
theorem dL_law_257 : decode cL_law 257 = .ok (.iconst 1, 1) := by decide +kernel
theorem dL_law_258 : decode cL_law 258 = .ok (.iadd, 1) := by decide +kernel
theorem dL_law_259 : decode cL_law 259 = .ok (.iaload, 1) := by decide +kernel
theorem dL_law_260 : decode cL_law 260 = .ok (.aload_n 0, 1) := by decide +kernel
theorem dL_law_261 : decode cL_law 261 = .ok (.iload_n 3, 1) := by decide +kernel
theorem dL_law_262 : decode cL_law 262 = .ok (.iconst 2, 1) := by decide +kernel
theorem dL_law_263 : decode cL_law 263 = .ok (.iadd, 1) := by decide +kernel
theorem dL_law_264 : decode cL_law 264 = .ok (.iaload, 1) := by decide +kernel
theorem dL_law_265 : decode cL_law 265 = .ok (.invokevirtual 26, 3) := by decide +kernel
theorem dL_law_268 : decode cL_law 268 = .ok (.if_icmp .eq 498, 3) := by decide +kernel
theorem dL_law_271 : decode cL_law 271 = .ok (.iconst 0, 1) := by decide +kernel
theorem dL_law_272 : decode cL_law 272 = .ok (.ireturn, 1) := by decide +kernel
theorem dL_law_273 : decode cL_law 273 = .ok (.aload_n 1, 1) := by decide +kernel
theorem dL_law_274 : decode cL_law 274 = .ok (.aload_n 0, 1) := by decide +kernel
theorem dL_law_275 : decode cL_law 275 = .ok (.iload_n 3, 1) := by decide +kernel
theorem dL_law_276 : decode cL_law 276 = .ok (.iconst 1, 1) := by decide +kernel
theorem dL_law_277 : decode cL_law 277 = .ok (.iadd, 1) := by decide +kernel
theorem dL_law_278 : decode cL_law 278 = .ok (.iaload, 1) := by decide +kernel
theorem dL_law_279 : decode cL_law 279 = .ok (.invokevirtual 27, 3) := by decide +kernel
theorem dL_law_282 : decode cL_law 282 = .ok (.aload_n 2, 1) := by decide +kernel
theorem dL_law_283 : decode cL_law 283 = .ok (.aload_n 0, 1) := by decide +kernel
theorem dL_law_284 : decode cL_law 284 = .ok (.iload_n 3, 1) := by decide +kernel
theorem dL_law_285 : decode cL_law 285 = .ok (.iconst 1, 1) := by decide +kernel
theorem dL_law_286 : decode cL_law 286 = .ok (.iadd, 1) := by decide +kernel
theorem dL_law_287 : decode cL_law 287 = .ok (.iaload, 1) := by decide +kernel
theorem dL_law_288 : decode cL_law 288 = .ok (.invokevirtual 31, 3) := by decide +kernel
theorem dL_law_291 : decode cL_law 291 = .ok (.if_icmp .eq 475, 3) := by decide +kernel
theorem dL_law_294 : decode cL_law 294 = .ok (.iconst 0, 1) := by decide +kernel
theorem dL_law_295 : decode cL_law 295 = .ok (.ireturn, 1) := by decide +kernel
theorem dL_law_296 : decode cL_law 296 = .ok (.aload_n 1, 1) := by decide +kernel
theorem dL_law_297 : decode cL_law 297 = .ok (.aload_n 0, 1) := by decide +kernel
theorem dL_law_298 : decode cL_law 298 = .ok (.iload_n 3, 1) := by decide +kernel
theorem dL_law_299 : decode cL_law 299 = .ok (.iconst 1, 1) := by decide +kernel
theorem dL_law_300 : decode cL_law 300 = .ok (.iadd, 1) := by decide +kernel
theorem dL_law_301 : decode cL_law 301 = .ok (.iaload, 1) := by decide +kernel
theorem dL_law_302 : decode cL_law 302 = .ok (.invokevirtual 32, 3) := by decide +kernel
theorem dL_law_305 : decode cL_law 305 = .ok (.aload_n 2, 1) := by decide +kernel
theorem dL_law_306 : decode cL_law 306 = .ok (.aload_n 0, 1) := by decide +kernel
theorem dL_law_307 : decode cL_law 307 = .ok (.iload_n 3, 1) := by decide +kernel
theorem dL_law_308 : decode cL_law 308 = .ok (.iconst 1, 1) := by decide +kernel
theorem dL_law_309 : decode cL_law 309 = .ok (.iadd, 1) := by decide +kernel
theorem dL_law_310 : decode cL_law 310 = .ok (.iaload, 1) := by decide +kernel
theorem dL_law_311 : decode cL_law 311 = .ok (.invokevirtual 35, 3) := by decide +kernel
theorem dL_law_314 : decode cL_law 314 = .ok (.if_icmp .eq 452, 3) := by decide +kernel
theorem dL_law_317 : decode cL_law 317 = .ok (.iconst 0, 1) := by decide +kernel
theorem dL_law_318 : decode cL_law 318 = .ok (.ireturn, 1) := by decide +kernel
theorem dL_law_319 : decode cL_law 319 = .ok (.aload_n 1, 1) := by decide +kernel
theorem dL_law_320 : decode cL_law 320 = .ok (.invokevirtual 36, 3) := by decide +kernel
theorem dL_law_323 : decode cL_law 323 = .ok (.aload_n 2, 1) := by decide +kernel
theorem dL_law_324 : decode cL_law 324 = .ok (.invokevirtual 40, 3) := by decide +kernel
theorem dL_law_327 : decode cL_law 327 = .ok (.if_icmp .eq 439, 3) := by decide +kernel
theorem dL_law_330 : decode cL_law 330 = .ok (.iconst 0, 1) := by decide +kernel
theorem dL_law_331 : decode cL_law 331 = .ok (.ireturn, 1) := by decide +kernel
theorem dL_law_332 : decode cL_law 332 = .ok (.aload_n 1, 1) := by decide +kernel
theorem dL_law_333 : decode cL_law 333 = .ok (.aload_n 0, 1) := by decide +kernel
theorem dL_law_334 : decode cL_law 334 = .ok (.iload_n 3, 1) := by decide +kernel
theorem dL_law_335 : decode cL_law 335 = .ok (.iconst 1, 1) := by decide +kernel
theorem dL_law_336 : decode cL_law 336 = .ok (.iadd, 1) := by decide +kernel
theorem dL_law_337 : decode cL_law 337 = .ok (.iaload, 1) := by decide +kernel
theorem dL_law_338 : decode cL_law 338 = .ok (.invokevirtual 41, 3) := by decide +kernel
theorem dL_law_341 : decode cL_law 341 = .ok (.aload_n 2, 1) := by decide +kernel
theorem dL_law_342 : decode cL_law 342 = .ok (.aload_n 0, 1) := by decide +kernel
theorem dL_law_343 : decode cL_law 343 = .ok (.iload_n 3, 1) := by decide +kernel
theorem dL_law_344 : decode cL_law 344 = .ok (.iconst 1, 1) := by decide +kernel
theorem dL_law_345 : decode cL_law 345 = .ok (.iadd, 1) := by decide +kernel
theorem dL_law_346 : decode cL_law 346 = .ok (.iaload, 1) := by decide +kernel
theorem dL_law_347 : decode cL_law 347 = .ok (.invokevirtual 44, 3) := by decide +kernel
theorem dL_law_350 : decode cL_law 350 = .ok (.if_icmp .eq 416, 3) := by decide +kernel
theorem dL_law_353 : decode cL_law 353 = .ok (.iconst 0, 1) := by decide +kernel
theorem dL_law_354 : decode cL_law 354 = .ok (.ireturn, 1) := by decide +kernel
theorem dL_law_355 : decode cL_law 355 = .ok (.aload_n 1, 1) := by decide +kernel
theorem dL_law_356 : decode cL_law 356 = .ok (.aload_n 0, 1) := by decide +kernel
theorem dL_law_357 : decode cL_law 357 = .ok (.iload_n 3, 1) := by decide +kernel
theorem dL_law_358 : decode cL_law 358 = .ok (.iconst 1, 1) := by decide +kernel
theorem dL_law_359 : decode cL_law 359 = .ok (.iadd, 1) := by decide +kernel
theorem dL_law_360 : decode cL_law 360 = .ok (.iaload, 1) := by decide +kernel
theorem dL_law_361 : decode cL_law 361 = .ok (.aload_n 0, 1) := by decide +kernel
theorem dL_law_362 : decode cL_law 362 = .ok (.iload_n 3, 1) := by decide +kernel
theorem dL_law_363 : decode cL_law 363 = .ok (.iconst 2, 1) := by decide +kernel
theorem dL_law_364 : decode cL_law 364 = .ok (.iadd, 1) := by decide +kernel
theorem dL_law_365 : decode cL_law 365 = .ok (.iaload, 1) := by decide +kernel
theorem dL_law_366 : decode cL_law 366 = .ok (.invokevirtual 45, 3) := by decide +kernel
theorem dL_law_369 : decode cL_law 369 = .ok (.aload_n 2, 1) := by decide +kernel
theorem dL_law_370 : decode cL_law 370 = .ok (.aload_n 0, 1) := by decide +kernel
theorem dL_law_371 : decode cL_law 371 = .ok (.iload_n 3, 1) := by decide +kernel
theorem dL_law_372 : decode cL_law 372 = .ok (.iconst 1, 1) := by decide +kernel
theorem dL_law_373 : decode cL_law 373 = .ok (.iadd, 1) := by decide +kernel
theorem dL_law_374 : decode cL_law 374 = .ok (.iaload, 1) := by decide +kernel
theorem dL_law_375 : decode cL_law 375 = .ok (.aload_n 0, 1) := by decide +kernel
theorem dL_law_376 : decode cL_law 376 = .ok (.iload_n 3, 1) := by decide +kernel
theorem dL_law_377 : decode cL_law 377 = .ok (.iconst 2, 1) := by decide +kernel
theorem dL_law_378 : decode cL_law 378 = .ok (.iadd, 1) := by decide +kernel
theorem dL_law_379 : decode cL_law 379 = .ok (.iaload, 1) := by decide +kernel
theorem dL_law_380 : decode cL_law 380 = .ok (.invokevirtual 48, 3) := by decide +kernel
theorem dL_law_383 : decode cL_law 383 = .ok (.if_icmp .eq 383, 3) := by decide +kernel
theorem dL_law_386 : decode cL_law 386 = .ok (.iconst 0, 1) := by decide +kernel
theorem dL_law_387 : decode cL_law 387 = .ok (.ireturn, 1) := by decide +kernel
theorem dL_law_388 : decode cL_law 388 = .ok (.aload_n 1, 1) := by decide +kernel
theorem dL_law_389 : decode cL_law 389 = .ok (.aload_n 0, 1) := by decide +kernel
theorem dL_law_390 : decode cL_law 390 = .ok (.iload_n 3, 1) := by decide +kernel
theorem dL_law_391 : decode cL_law 391 = .ok (.iconst 1, 1) := by decide +kernel
theorem dL_law_392 : decode cL_law 392 = .ok (.iadd, 1) := by decide +kernel
theorem dL_law_393 : decode cL_law 393 = .ok (.iaload, 1) := by decide +kernel
theorem dL_law_394 : decode cL_law 394 = .ok (.aload_n 0, 1) := by decide +kernel
theorem dL_law_395 : decode cL_law 395 = .ok (.iload_n 3, 1) := by decide +kernel
theorem dL_law_396 : decode cL_law 396 = .ok (.iconst 2, 1) := by decide +kernel
theorem dL_law_397 : decode cL_law 397 = .ok (.iadd, 1) := by decide +kernel
theorem dL_law_398 : decode cL_law 398 = .ok (.iaload, 1) := by decide +kernel
theorem dL_law_399 : decode cL_law 399 = .ok (.invokevirtual 49, 3) := by decide +kernel
theorem dL_law_402 : decode cL_law 402 = .ok (.aload_n 2, 1) := by decide +kernel
theorem dL_law_403 : decode cL_law 403 = .ok (.aload_n 0, 1) := by decide +kernel
theorem dL_law_404 : decode cL_law 404 = .ok (.iload_n 3, 1) := by decide +kernel
theorem dL_law_405 : decode cL_law 405 = .ok (.iconst 1, 1) := by decide +kernel
theorem dL_law_406 : decode cL_law 406 = .ok (.iadd, 1) := by decide +kernel
theorem dL_law_407 : decode cL_law 407 = .ok (.iaload, 1) := by decide +kernel
theorem dL_law_408 : decode cL_law 408 = .ok (.aload_n 0, 1) := by decide +kernel
theorem dL_law_409 : decode cL_law 409 = .ok (.iload_n 3, 1) := by decide +kernel
theorem dL_law_410 : decode cL_law 410 = .ok (.iconst 2, 1) := by decide +kernel
theorem dL_law_411 : decode cL_law 411 = .ok (.iadd, 1) := by decide +kernel
theorem dL_law_412 : decode cL_law 412 = .ok (.iaload, 1) := by decide +kernel
theorem dL_law_413 : decode cL_law 413 = .ok (.invokevirtual 52, 3) := by decide +kernel
theorem dL_law_416 : decode cL_law 416 = .ok (.if_icmp .eq 350, 3) := by decide +kernel
theorem dL_law_419 : decode cL_law 419 = .ok (.iconst 0, 1) := by decide +kernel
theorem dL_law_420 : decode cL_law 420 = .ok (.ireturn, 1) := by decide +kernel
theorem dL_law_421 : decode cL_law 421 = .ok (.aload_n 1, 1) := by decide +kernel
theorem dL_law_422 : decode cL_law 422 = .ok (.aload_n 0, 1) := by decide +kernel
theorem dL_law_423 : decode cL_law 423 = .ok (.iload_n 3, 1) := by decide +kernel
theorem dL_law_424 : decode cL_law 424 = .ok (.iconst 1, 1) := by decide +kernel
theorem dL_law_425 : decode cL_law 425 = .ok (.iadd, 1) := by decide +kernel
theorem dL_law_426 : decode cL_law 426 = .ok (.iaload, 1) := by decide +kernel
theorem dL_law_427 : decode cL_law 427 = .ok (.invokevirtual 53, 3) := by decide +kernel
theorem dL_law_430 : decode cL_law 430 = .ok (.aload_n 2, 1) := by decide +kernel
theorem dL_law_431 : decode cL_law 431 = .ok (.aload_n 0, 1) := by decide +kernel
theorem dL_law_432 : decode cL_law 432 = .ok (.iload_n 3, 1) := by decide +kernel
theorem dL_law_433 : decode cL_law 433 = .ok (.iconst 1, 1) := by decide +kernel
theorem dL_law_434 : decode cL_law 434 = .ok (.iadd, 1) := by decide +kernel
theorem dL_law_435 : decode cL_law 435 = .ok (.iaload, 1) := by decide +kernel
theorem dL_law_436 : decode cL_law 436 = .ok (.invokevirtual 56, 3) := by decide +kernel
theorem dL_law_439 : decode cL_law 439 = .ok (.if_icmp .eq 327, 3) := by decide +kernel
theorem dL_law_442 : decode cL_law 442 = .ok (.iconst 0, 1) := by decide +kernel
theorem dL_law_443 : decode cL_law 443 = .ok (.ireturn, 1) := by decide +kernel
theorem dL_law_444 : decode cL_law 444 = .ok (.aload_n 1, 1) := by decide +kernel
theorem dL_law_445 : decode cL_law 445 = .ok (.aload_n 0, 1) := by decide +kernel
theorem dL_law_446 : decode cL_law 446 = .ok (.iload_n 3, 1) := by decide +kernel
theorem dL_law_447 : decode cL_law 447 = .ok (.iconst 1, 1) := by decide +kernel
theorem dL_law_448 : decode cL_law 448 = .ok (.iadd, 1) := by decide +kernel
theorem dL_law_449 : decode cL_law 449 = .ok (.iaload, 1) := by decide +kernel
theorem dL_law_450 : decode cL_law 450 = .ok (.aload_n 0, 1) := by decide +kernel
theorem dL_law_451 : decode cL_law 451 = .ok (.iload_n 3, 1) := by decide +kernel
theorem dL_law_452 : decode cL_law 452 = .ok (.iconst 2, 1) := by decide +kernel
theorem dL_law_453 : decode cL_law 453 = .ok (.iadd, 1) := by decide +kernel
theorem dL_law_454 : decode cL_law 454 = .ok (.iaload, 1) := by decide +kernel
theorem dL_law_455 : decode cL_law 455 = .ok (.invokevirtual 57, 3) := by decide +kernel
theorem dL_law_458 : decode cL_law 458 = .ok (.aload_n 2, 1) := by decide +kernel
theorem dL_law_459 : decode cL_law 459 = .ok (.aload_n 0, 1) := by decide +kernel
theorem dL_law_460 : decode cL_law 460 = .ok (.iload_n 3, 1) := by decide +kernel
theorem dL_law_461 : decode cL_law 461 = .ok (.iconst 1, 1) := by decide +kernel
theorem dL_law_462 : decode cL_law 462 = .ok (.iadd, 1) := by decide +kernel
theorem dL_law_463 : decode cL_law 463 = .ok (.iaload, 1) := by decide +kernel
theorem dL_law_464 : decode cL_law 464 = .ok (.aload_n 0, 1) := by decide +kernel
theorem dL_law_465 : decode cL_law 465 = .ok (.iload_n 3, 1) := by decide +kernel
theorem dL_law_466 : decode cL_law 466 = .ok (.iconst 2, 1) := by decide +kernel
theorem dL_law_467 : decode cL_law 467 = .ok (.iadd, 1) := by decide +kernel
theorem dL_law_468 : decode cL_law 468 = .ok (.iaload, 1) := by decide +kernel
theorem dL_law_469 : decode cL_law 469 = .ok (.invokevirtual 60, 3) := by decide +kernel
theorem dL_law_472 : decode cL_law 472 = .ok (.if_icmp .eq 294, 3) := by decide +kernel
theorem dL_law_475 : decode cL_law 475 = .ok (.iconst 0, 1) := by decide +kernel
theorem dL_law_476 : decode cL_law 476 = .ok (.ireturn, 1) := by decide +kernel
theorem dL_law_477 : decode cL_law 477 = .ok (.aload_n 1, 1) := by decide +kernel
theorem dL_law_478 : decode cL_law 478 = .ok (.aload_n 0, 1) := by decide +kernel
theorem dL_law_479 : decode cL_law 479 = .ok (.iload_n 3, 1) := by decide +kernel
theorem dL_law_480 : decode cL_law 480 = .ok (.iconst 1, 1) := by decide +kernel
theorem dL_law_481 : decode cL_law 481 = .ok (.iadd, 1) := by decide +kernel
theorem dL_law_482 : decode cL_law 482 = .ok (.iaload, 1) := by decide +kernel
theorem dL_law_483 : decode cL_law 483 = .ok (.aload_n 0, 1) := by decide +kernel
theorem dL_law_484 : decode cL_law 484 = .ok (.iload_n 3, 1) := by decide +kernel
theorem dL_law_485 : decode cL_law 485 = .ok (.iconst 2, 1) := by decide +kernel
theorem dL_law_486 : decode cL_law 486 = .ok (.iadd, 1) := by decide +kernel
theorem dL_law_487 : decode cL_law 487 = .ok (.iaload, 1) := by decide +kernel
theorem dL_law_488 : decode cL_law 488 = .ok (.invokevirtual 61, 3) := by decide +kernel
theorem dL_law_491 : decode cL_law 491 = .ok (.aload_n 2, 1) := by decide +kernel
theorem dL_law_492 : decode cL_law 492 = .ok (.aload_n 0, 1) := by decide +kernel
theorem dL_law_493 : decode cL_law 493 = .ok (.iload_n 3, 1) := by decide +kernel
theorem dL_law_494 : decode cL_law 494 = .ok (.iconst 1, 1) := by decide +kernel
theorem dL_law_495 : decode cL_law 495 = .ok (.iadd, 1) := by decide +kernel
theorem dL_law_496 : decode cL_law 496 = .ok (.iaload, 1) := by decide +kernel
theorem dL_law_497 : decode cL_law 497 = .ok (.aload_n 0, 1) := by decide +kernel
theorem dL_law_498 : decode cL_law 498 = .ok (.iload_n 3, 1) := by decide +kernel
theorem dL_law_499 : decode cL_law 499 = .ok (.iconst 2, 1) := by decide +kernel
theorem dL_law_500 : decode cL_law 500 = .ok (.iadd, 1) := by decide +kernel
theorem dL_law_501 : decode cL_law 501 = .ok (.iaload, 1) := by decide +kernel
theorem dL_law_502 : decode cL_law 502 = .ok (.invokevirtual 64, 3) := by decide +kernel
theorem dL_law_505 : decode cL_law 505 = .ok (.if_icmp .eq 261, 3) := by decide +kernel
theorem dL_law_508 : decode cL_law 508 = .ok (.iconst 0, 1) := by decide +kernel
theorem dL_law_509 : decode cL_law 509 = .ok (.ireturn, 1) := by decide +kernel
theorem dL_law_510 : decode cL_law 510 = .ok (.aload_n 1, 1) := by decide +kernel
theorem dL_law_511 : decode cL_law 511 = .ok (.aload_n 0, 1) := by decide +kernel
theorem dL_law_512 : decode cL_law 512 = .ok (.iload_n 3, 1) := by decide +kernel
theorem dL_law_513 : decode cL_law 513 = .ok (.iconst 1, 1) := by decide +kernel
theorem dL_law_514 : decode cL_law 514 = .ok (.iadd, 1) := by decide +kernel
theorem dL_law_515 : decode cL_law 515 = .ok (.iaload, 1) := by decide +kernel
theorem dL_law_516 : decode cL_law 516 = .ok (.invokevirtual 65, 3) := by decide +kernel
theorem dL_law_519 : decode cL_law 519 = .ok (.aload_n 2, 1) := by decide +kernel
theorem dL_law_520 : decode cL_law 520 = .ok (.aload_n 0, 1) := by decide +kernel
theorem dL_law_521 : decode cL_law 521 = .ok (.iload_n 3, 1) := by decide +kernel
theorem dL_law_522 : decode cL_law 522 = .ok (.iconst 1, 1) := by decide +kernel
theorem dL_law_523 : decode cL_law 523 = .ok (.iadd, 1) := by decide +kernel
theorem dL_law_524 : decode cL_law 524 = .ok (.iaload, 1) := by decide +kernel
theorem dL_law_525 : decode cL_law 525 = .ok (.invokevirtual 68, 3) := by decide +kernel
theorem dL_law_528 : decode cL_law 528 = .ok (.if_icmp .eq 238, 3) := by decide +kernel
theorem dL_law_531 : decode cL_law 531 = .ok (.iconst 0, 1) := by decide +kernel
theorem dL_law_532 : decode cL_law 532 = .ok (.ireturn, 1) := by decide +kernel
theorem dL_law_533 : decode cL_law 533 = .ok (.aload_n 1, 1) := by decide +kernel
theorem dL_law_534 : decode cL_law 534 = .ok (.aload_n 0, 1) := by decide +kernel
theorem dL_law_535 : decode cL_law 535 = .ok (.iload_n 3, 1) := by decide +kernel
theorem dL_law_536 : decode cL_law 536 = .ok (.iconst 1, 1) := by decide +kernel
theorem dL_law_537 : decode cL_law 537 = .ok (.iadd, 1) := by decide +kernel
theorem dL_law_538 : decode cL_law 538 = .ok (.iaload, 1) := by decide +kernel
theorem dL_law_539 : decode cL_law 539 = .ok (.invokevirtual 69, 3) := by decide +kernel
theorem dL_law_542 : decode cL_law 542 = .ok (.aload_n 2, 1) := by decide +kernel
theorem dL_law_543 : decode cL_law 543 = .ok (.aload_n 0, 1) := by decide +kernel
theorem dL_law_544 : decode cL_law 544 = .ok (.iload_n 3, 1) := by decide +kernel
theorem dL_law_545 : decode cL_law 545 = .ok (.iconst 1, 1) := by decide +kernel
theorem dL_law_546 : decode cL_law 546 = .ok (.iadd, 1) := by decide +kernel
theorem dL_law_547 : decode cL_law 547 = .ok (.iaload, 1) := by decide +kernel
theorem dL_law_548 : decode cL_law 548 = .ok (.invokevirtual 72, 3) := by decide +kernel
theorem dL_law_551 : decode cL_law 551 = .ok (.if_icmp .eq 215, 3) := by decide +kernel
theorem dL_law_554 : decode cL_law 554 = .ok (.iconst 0, 1) := by decide +kernel
theorem dL_law_555 : decode cL_law 555 = .ok (.ireturn, 1) := by decide +kernel
theorem dL_law_556 : decode cL_law 556 = .ok (.aload_n 1, 1) := by decide +kernel
theorem dL_law_557 : decode cL_law 557 = .ok (.aload_n 0, 1) := by decide +kernel
theorem dL_law_558 : decode cL_law 558 = .ok (.iload_n 3, 1) := by decide +kernel
theorem dL_law_559 : decode cL_law 559 = .ok (.iconst 1, 1) := by decide +kernel
theorem dL_law_560 : decode cL_law 560 = .ok (.iadd, 1) := by decide +kernel
theorem dL_law_561 : decode cL_law 561 = .ok (.iaload, 1) := by decide +kernel
theorem dL_law_562 : decode cL_law 562 = .ok (.invokevirtual 73, 3) := by decide +kernel
theorem dL_law_565 : decode cL_law 565 = .ok (.aload_n 2, 1) := by decide +kernel
theorem dL_law_566 : decode cL_law 566 = .ok (.aload_n 0, 1) := by decide +kernel
theorem dL_law_567 : decode cL_law 567 = .ok (.iload_n 3, 1) := by decide +kernel
theorem dL_law_568 : decode cL_law 568 = .ok (.iconst 1, 1) := by decide +kernel
theorem dL_law_569 : decode cL_law 569 = .ok (.iadd, 1) := by decide +kernel
theorem dL_law_570 : decode cL_law 570 = .ok (.iaload, 1) := by decide +kernel
theorem dL_law_571 : decode cL_law 571 = .ok (.invokevirtual 76, 3) := by decide +kernel
theorem dL_law_574 : decode cL_law 574 = .ok (.if_icmp .eq 192, 3) := by decide +kernel
theorem dL_law_577 : decode cL_law 577 = .ok (.iconst 0, 1) := by decide +kernel
theorem dL_law_578 : decode cL_law 578 = .ok (.ireturn, 1) := by decide +kernel
theorem dL_law_579 : decode cL_law 579 = .ok (.aload_n 1, 1) := by decide +kernel
theorem dL_law_580 : decode cL_law 580 = .ok (.invokevirtual 77, 3) := by decide +kernel
theorem dL_law_583 : decode cL_law 583 = .ok (.aload_n 2, 1) := by decide +kernel
theorem dL_law_584 : decode cL_law 584 = .ok (.invokevirtual 80, 3) := by decide +kernel
theorem dL_law_587 : decode cL_law 587 = .ok (.if_icmp .eq 179, 3) := by decide +kernel
theorem dL_law_590 : decode cL_law 590 = .ok (.iconst 0, 1) := by decide +kernel
theorem dL_law_591 : decode cL_law 591 = .ok (.ireturn, 1) := by decide +kernel
theorem dL_law_592 : decode cL_law 592 = .ok (.aload_n 1, 1) := by decide +kernel
theorem dL_law_593 : decode cL_law 593 = .ok (.aload_n 0, 1) := by decide +kernel
theorem dL_law_594 : decode cL_law 594 = .ok (.iload_n 3, 1) := by decide +kernel
theorem dL_law_595 : decode cL_law 595 = .ok (.iconst 1, 1) := by decide +kernel
theorem dL_law_596 : decode cL_law 596 = .ok (.iadd, 1) := by decide +kernel
theorem dL_law_597 : decode cL_law 597 = .ok (.iaload, 1) := by decide +kernel
theorem dL_law_598 : decode cL_law 598 = .ok (.invokevirtual 81, 3) := by decide +kernel
theorem dL_law_601 : decode cL_law 601 = .ok (.aload_n 2, 1) := by decide +kernel
theorem dL_law_602 : decode cL_law 602 = .ok (.aload_n 0, 1) := by decide +kernel
theorem dL_law_603 : decode cL_law 603 = .ok (.iload_n 3, 1) := by decide +kernel
theorem dL_law_604 : decode cL_law 604 = .ok (.iconst 1, 1) := by decide +kernel
theorem dL_law_605 : decode cL_law 605 = .ok (.iadd, 1) := by decide +kernel
theorem dL_law_606 : decode cL_law 606 = .ok (.iaload, 1) := by decide +kernel
theorem dL_law_607 : decode cL_law 607 = .ok (.invokevirtual 84, 3) := by decide +kernel
theorem dL_law_610 : decode cL_law 610 = .ok (.if_icmp .eq 156, 3) := by decide +kernel
theorem dL_law_613 : decode cL_law 613 = .ok (.iconst 0, 1) := by decide +kernel
theorem dL_law_614 : decode cL_law 614 = .ok (.ireturn, 1) := by decide +kernel
theorem dL_law_615 : decode cL_law 615 = .ok (.aload_n 1, 1) := by decide +kernel
theorem dL_law_616 : decode cL_law 616 = .ok (.aload_n 0, 1) := by decide +kernel
theorem dL_law_617 : decode cL_law 617 = .ok (.iload_n 3, 1) := by decide +kernel
theorem dL_law_618 : decode cL_law 618 = .ok (.iconst 1, 1) := by decide +kernel
theorem dL_law_619 : decode cL_law 619 = .ok (.iadd, 1) := by decide +kernel
theorem dL_law_620 : decode cL_law 620 = .ok (.iaload, 1) := by decide +kernel
theorem dL_law_621 : decode cL_law 621 = .ok (.i2l, 1) := by decide +kernel
theorem dL_law_622 : decode cL_law 622 = .ok (.bipush 32, 2) := by decide +kernel
theorem dL_law_624 : decode cL_law 624 = .ok (.lshl, 1) := by decide +kernel
theorem dL_law_625 : decode cL_law 625 = .ok (.aload_n 0, 1) := by decide +kernel
theorem dL_law_626 : decode cL_law 626 = .ok (.iload_n 3, 1) := by decide +kernel
theorem dL_law_627 : decode cL_law 627 = .ok (.iconst 2, 1) := by decide +kernel
theorem dL_law_628 : decode cL_law 628 = .ok (.iadd, 1) := by decide +kernel
theorem dL_law_629 : decode cL_law 629 = .ok (.iaload, 1) := by decide +kernel
theorem dL_law_630 : decode cL_law 630 = .ok (.i2l, 1) := by decide +kernel
theorem dL_law_631 : decode cL_law 631 = .ok (.ldc2_w 85, 3) := by decide +kernel
theorem dL_law_634 : decode cL_law 634 = .ok (.land, 1) := by decide +kernel
theorem dL_law_635 : decode cL_law 635 = .ok (.lor, 1) := by decide +kernel
theorem dL_law_636 : decode cL_law 636 = .ok (.invokevirtual 87, 3) := by decide +kernel
theorem dL_law_639 : decode cL_law 639 = .ok (.aload_n 2, 1) := by decide +kernel
theorem dL_law_640 : decode cL_law 640 = .ok (.aload_n 0, 1) := by decide +kernel
theorem dL_law_641 : decode cL_law 641 = .ok (.iload_n 3, 1) := by decide +kernel
theorem dL_law_642 : decode cL_law 642 = .ok (.iconst 1, 1) := by decide +kernel
theorem dL_law_643 : decode cL_law 643 = .ok (.iadd, 1) := by decide +kernel
theorem dL_law_644 : decode cL_law 644 = .ok (.iaload, 1) := by decide +kernel
theorem dL_law_645 : decode cL_law 645 = .ok (.i2l, 1) := by decide +kernel
theorem dL_law_646 : decode cL_law 646 = .ok (.bipush 32, 2) := by decide +kernel
theorem dL_law_648 : decode cL_law 648 = .ok (.lshl, 1) := by decide +kernel
theorem dL_law_649 : decode cL_law 649 = .ok (.aload_n 0, 1) := by decide +kernel
theorem dL_law_650 : decode cL_law 650 = .ok (.iload_n 3, 1) := by decide +kernel
theorem dL_law_651 : decode cL_law 651 = .ok (.iconst 2, 1) := by decide +kernel
theorem dL_law_652 : decode cL_law 652 = .ok (.iadd, 1) := by decide +kernel
theorem dL_law_653 : decode cL_law 653 = .ok (.iaload, 1) := by decide +kernel
theorem dL_law_654 : decode cL_law 654 = .ok (.i2l, 1) := by decide +kernel
theorem dL_law_655 : decode cL_law 655 = .ok (.ldc2_w 85, 3) := by decide +kernel
theorem dL_law_658 : decode cL_law 658 = .ok (.land, 1) := by decide +kernel
theorem dL_law_659 : decode cL_law 659 = .ok (.lor, 1) := by decide +kernel
theorem dL_law_660 : decode cL_law 660 = .ok (.invokevirtual 91, 3) := by decide +kernel
theorem dL_law_663 : decode cL_law 663 = .ok (.if_icmp .eq 103, 3) := by decide +kernel
theorem dL_law_666 : decode cL_law 666 = .ok (.iconst 0, 1) := by decide +kernel
theorem dL_law_667 : decode cL_law 667 = .ok (.ireturn, 1) := by decide +kernel
theorem dL_law_668 : decode cL_law 668 = .ok (.aload_n 1, 1) := by decide +kernel
theorem dL_law_669 : decode cL_law 669 = .ok (.invokevirtual 92, 3) := by decide +kernel
theorem dL_law_672 : decode cL_law 672 = .ok (.aload_n 2, 1) := by decide +kernel
theorem dL_law_673 : decode cL_law 673 = .ok (.invokevirtual 95, 3) := by decide +kernel
theorem dL_law_676 : decode cL_law 676 = .ok (.if_icmp .eq 90, 3) := by decide +kernel
theorem dL_law_679 : decode cL_law 679 = .ok (.iconst 0, 1) := by decide +kernel
theorem dL_law_680 : decode cL_law 680 = .ok (.ireturn, 1) := by decide +kernel
theorem dL_law_681 : decode cL_law 681 = .ok (.aload_n 1, 1) := by decide +kernel
theorem dL_law_682 : decode cL_law 682 = .ok (.invokevirtual 96, 3) := by decide +kernel
theorem dL_law_685 : decode cL_law 685 = .ok (.aload_n 2, 1) := by decide +kernel
theorem dL_law_686 : decode cL_law 686 = .ok (.invokevirtual 99, 3) := by decide +kernel
theorem dL_law_689 : decode cL_law 689 = .ok (.if_icmp .eq 77, 3) := by decide +kernel
theorem dL_law_692 : decode cL_law 692 = .ok (.iconst 0, 1) := by decide +kernel
theorem dL_law_693 : decode cL_law 693 = .ok (.ireturn, 1) := by decide +kernel
theorem dL_law_694 : decode cL_law 694 = .ok (.aload_n 1, 1) := by decide +kernel
theorem dL_law_695 : decode cL_law 695 = .ok (.invokevirtual 100, 3) := by decide +kernel
theorem dL_law_698 : decode cL_law 698 = .ok (.aload_n 2, 1) := by decide +kernel
theorem dL_law_699 : decode cL_law 699 = .ok (.invokevirtual 103, 3) := by decide +kernel
theorem dL_law_702 : decode cL_law 702 = .ok (.if_icmp .eq 64, 3) := by decide +kernel
theorem dL_law_705 : decode cL_law 705 = .ok (.iconst 0, 1) := by decide +kernel
theorem dL_law_706 : decode cL_law 706 = .ok (.ireturn, 1) := by decide +kernel
theorem dL_law_707 : decode cL_law 707 = .ok (.aload_n 1, 1) := by decide +kernel
theorem dL_law_708 : decode cL_law 708 = .ok (.invokevirtual 104, 3) := by decide +kernel
theorem dL_law_711 : decode cL_law 711 = .ok (.aload_n 2, 1) := by decide +kernel
theorem dL_law_712 : decode cL_law 712 = .ok (.invokevirtual 107, 3) := by decide +kernel
theorem dL_law_715 : decode cL_law 715 = .ok (.if_icmp .eq 51, 3) := by decide +kernel
theorem dL_law_718 : decode cL_law 718 = .ok (.iconst 0, 1) := by decide +kernel
theorem dL_law_719 : decode cL_law 719 = .ok (.ireturn, 1) := by decide +kernel
theorem dL_law_720 : decode cL_law 720 = .ok (.aload_n 1, 1) := by decide +kernel
theorem dL_law_721 : decode cL_law 721 = .ok (.aload_n 0, 1) := by decide +kernel
theorem dL_law_722 : decode cL_law 722 = .ok (.iload_n 3, 1) := by decide +kernel
theorem dL_law_723 : decode cL_law 723 = .ok (.iconst 1, 1) := by decide +kernel
theorem dL_law_724 : decode cL_law 724 = .ok (.iadd, 1) := by decide +kernel
theorem dL_law_725 : decode cL_law 725 = .ok (.iaload, 1) := by decide +kernel
theorem dL_law_726 : decode cL_law 726 = .ok (.invokevirtual 108, 3) := by decide +kernel
theorem dL_law_729 : decode cL_law 729 = .ok (.aload_n 2, 1) := by decide +kernel
theorem dL_law_730 : decode cL_law 730 = .ok (.aload_n 0, 1) := by decide +kernel
theorem dL_law_731 : decode cL_law 731 = .ok (.iload_n 3, 1) := by decide +kernel
theorem dL_law_732 : decode cL_law 732 = .ok (.iconst 1, 1) := by decide +kernel
theorem dL_law_733 : decode cL_law 733 = .ok (.iadd, 1) := by decide +kernel
theorem dL_law_734 : decode cL_law 734 = .ok (.iaload, 1) := by decide +kernel
theorem dL_law_735 : decode cL_law 735 = .ok (.invokevirtual 111, 3) := by decide +kernel
theorem dL_law_738 : decode cL_law 738 = .ok (.if_icmp .eq 28, 3) := by decide +kernel
theorem dL_law_741 : decode cL_law 741 = .ok (.iconst 0, 1) := by decide +kernel
theorem dL_law_742 : decode cL_law 742 = .ok (.ireturn, 1) := by decide +kernel
theorem dL_law_743 : decode cL_law 743 = .ok (.aload_n 1, 1) := by decide +kernel
theorem dL_law_744 : decode cL_law 744 = .ok (.aload_n 0, 1) := by decide +kernel
theorem dL_law_745 : decode cL_law 745 = .ok (.iload_n 3, 1) := by decide +kernel
theorem dL_law_746 : decode cL_law 746 = .ok (.iconst 1, 1) := by decide +kernel
theorem dL_law_747 : decode cL_law 747 = .ok (.iadd, 1) := by decide +kernel
theorem dL_law_748 : decode cL_law 748 = .ok (.iaload, 1) := by decide +kernel
theorem dL_law_749 : decode cL_law 749 = .ok (.invokevirtual 112, 3) := by decide +kernel
theorem dL_law_752 : decode cL_law 752 = .ok (.aload_n 2, 1) := by decide +kernel
theorem dL_law_753 : decode cL_law 753 = .ok (.aload_n 0, 1) := by decide +kernel
theorem dL_law_754 : decode cL_law 754 = .ok (.iload_n 3, 1) := by decide +kernel
theorem dL_law_755 : decode cL_law 755 = .ok (.iconst 1, 1) := by decide +kernel
theorem dL_law_756 : decode cL_law 756 = .ok (.iadd, 1) := by decide +kernel
theorem dL_law_757 : decode cL_law 757 = .ok (.iaload, 1) := by decide +kernel
theorem dL_law_758 : decode cL_law 758 = .ok (.invokevirtual 115, 3) := by decide +kernel
theorem dL_law_761 : decode cL_law 761 = .ok (.if_icmp .eq 5, 3) := by decide +kernel
theorem dL_law_764 : decode cL_law 764 = .ok (.iconst 0, 1) := by decide +kernel
theorem dL_law_765 : decode cL_law 765 = .ok (.ireturn, 1) := by decide +kernel
theorem dL_law_766 : decode cL_law 766 = .ok (.iinc 3 6, 3) := by decide +kernel
theorem dL_law_769 : decode cL_law 769 = .ok (.goto (-751), 3) := by decide +kernel
theorem dL_law_772 : decode cL_law 772 = .ok (.iconst 1, 1) := by decide +kernel
theorem dL_law_773 : decode cL_law 773 = .ok (.ireturn, 1) := by decide +kernel
