theorem dX10_init_0 : decode cX10_init 0 = .ok (.aload_n 0, 1) := by decide +kernel
theorem dX10_init_1 : decode cX10_init 1 = .ok (.invokespecial 3, 3) := by decide +kernel
theorem dX10_init_4 : decode cX10_init 4 = .ok (.aload_n 0, 1) := by decide +kernel
theorem dX10_init_5 : decode cX10_init 5 = .ok (.sipush 240, 3) := by decide +kernel
theorem dX10_init_8 : decode cX10_init 8 = .ok (.newarray .int, 2) := by decide +kernel
theorem dX10_init_10 : decode cX10_init 10 = .ok (.putfield 9, 3) := by decide +kernel
theorem dX10_init_13 : decode cX10_init 13 = .ok (.aload_n 0, 1) := by decide +kernel
theorem dX10_init_14 : decode cX10_init 14 = .ok (.sipush 240, 3) := by decide +kernel
theorem dX10_init_17 : decode cX10_init 17 = .ok (.newarray .int, 2) := by decide +kernel
theorem dX10_init_19 : decode cX10_init 19 = .ok (.putfield 13, 3) := by decide +kernel
theorem dX10_init_22 : decode cX10_init 22 = .ok (.aload_n 0, 1) := by decide +kernel
theorem dX10_init_23 : decode cX10_init 23 = .ok (.sipush 240, 3) := by decide +kernel
theorem dX10_init_26 : decode cX10_init 26 = .ok (.newarray .int, 2) := by decide +kernel
theorem dX10_init_28 : decode cX10_init 28 = .ok (.putfield 16, 3) := by decide +kernel
theorem dX10_init_31 : decode cX10_init 31 = .ok (.aload_n 0, 1) := by decide +kernel
theorem dX10_init_32 : decode cX10_init 32 = .ok (.bipush 6, 2) := by decide +kernel
theorem dX10_init_34 : decode cX10_init 34 = .ok (.newarray .int, 2) := by decide +kernel
theorem dX10_init_36 : decode cX10_init 36 = .ok (.putfield 19, 3) := by decide +kernel
theorem dX10_init_39 : decode cX10_init 39 = .ok (.aload_n 0, 1) := by decide +kernel
theorem dX10_init_40 : decode cX10_init 40 = .ok (.sipush 2560, 3) := by decide +kernel
theorem dX10_init_43 : decode cX10_init 43 = .ok (.newarray .int, 2) := by decide +kernel
theorem dX10_init_45 : decode cX10_init 45 = .ok (.putfield 22, 3) := by decide +kernel
theorem dX10_init_48 : decode cX10_init 48 = .ok (.aload_n 0, 1) := by decide +kernel
theorem dX10_init_49 : decode cX10_init 49 = .ok (.iconst 2, 1) := by decide +kernel
theorem dX10_init_50 : decode cX10_init 50 = .ok (.anewarray 25, 3) := by decide +kernel
theorem dX10_init_53 : decode cX10_init 53 = .ok (.dup, 1) := by decide +kernel
theorem dX10_init_54 : decode cX10_init 54 = .ok (.iconst 0, 1) := by decide +kernel
theorem dX10_init_55 : decode cX10_init 55 = .ok (.ldc 27, 2) := by decide +kernel
theorem dX10_init_57 : decode cX10_init 57 = .ok (.aastore, 1) := by decide +kernel
theorem dX10_init_58 : decode cX10_init 58 = .ok (.dup, 1) := by decide +kernel
theorem dX10_init_59 : decode cX10_init 59 = .ok (.iconst 1, 1) := by decide +kernel
theorem dX10_init_60 : decode cX10_init 60 = .ok (.ldc 29, 2) := by decide +kernel
theorem dX10_init_62 : decode cX10_init 62 = .ok (.aastore, 1) := by decide +kernel
theorem dX10_init_63 : decode cX10_init 63 = .ok (.putfield 31, 3) := by decide +kernel
theorem dX10_init_66 : decode cX10_init 66 = .ok (.aload_n 0, 1) := by decide +kernel
theorem dX10_init_67 : decode cX10_init 67 = .ok (.bipush 60, 2) := by decide +kernel
theorem dX10_init_69 : decode cX10_init 69 = .ok (.newarray .int, 2) := by decide +kernel
theorem dX10_init_71 : decode cX10_init 71 = .ok (.putfield 35, 3) := by decide +kernel
theorem dX10_init_74 : decode cX10_init 74 = .ok (.aload_n 0, 1) := by decide +kernel
theorem dX10_init_75 : decode cX10_init 75 = .ok (.iconst 4, 1) := by decide +kernel
theorem dX10_init_76 : decode cX10_init 76 = .ok (.newarray .int, 2) := by decide +kernel
theorem dX10_init_78 : decode cX10_init 78 = .ok (.putfield 38, 3) := by decide +kernel
theorem dX10_init_81 : decode cX10_init 81 = .ok (.aload_n 0, 1) := by decide +kernel
theorem dX10_init_82 : decode cX10_init 82 = .ok (.bipush 60, 2) := by decide +kernel
theorem dX10_init_84 : decode cX10_init 84 = .ok (.newarray .int, 2) := by decide +kernel
theorem dX10_init_86 : decode cX10_init 86 = .ok (.putfield 41, 3) := by decide +kernel
theorem dX10_init_89 : decode cX10_init 89 = .ok (.aload_n 0, 1) := by decide +kernel
theorem dX10_init_90 : decode cX10_init 90 = .ok (.bipush 64, 2) := by decide +kernel
theorem dX10_init_92 : decode cX10_init 92 = .ok (.newarray .int, 2) := by decide +kernel
theorem dX10_init_94 : decode cX10_init 94 = .ok (.putfield 44, 3) := by decide +kernel
theorem dX10_init_97 : decode cX10_init 97 = .ok (.aload_n 0, 1) := by decide +kernel
theorem dX10_init_98 : decode cX10_init 98 = .ok (.bipush 40, 2) := by decide +kernel
theorem dX10_init_100 : decode cX10_init 100 = .ok (.newarray .int, 2) := by decide +kernel
theorem dX10_init_102 : decode cX10_init 102 = .ok (.putfield 47, 3) := by decide +kernel
theorem dX10_init_105 : decode cX10_init 105 = .ok (.aload_n 0, 1) := by decide +kernel
theorem dX10_init_106 : decode cX10_init 106 = .ok (.iconst 4, 1) := by decide +kernel
theorem dX10_init_107 : decode cX10_init 107 = .ok (.newarray .int, 2) := by decide +kernel
theorem dX10_init_109 : decode cX10_init 109 = .ok (.putfield 50, 3) := by decide +kernel
theorem dX10_init_112 : decode cX10_init 112 = .ok (.aload_n 0, 1) := by decide +kernel
theorem dX10_init_113 : decode cX10_init 113 = .ok (.iconst 4, 1) := by decide +kernel
theorem dX10_init_114 : decode cX10_init 114 = .ok (.newarray .int, 2) := by decide +kernel
theorem dX10_init_116 : decode cX10_init 116 = .ok (.putfield 53, 3) := by decide +kernel
theorem dX10_init_119 : decode cX10_init 119 = .ok (.aload_n 0, 1) := by decide +kernel
theorem dX10_init_120 : decode cX10_init 120 = .ok (.sipush 160, 3) := by decide +kernel
theorem dX10_init_123 : decode cX10_init 123 = .ok (.newarray .int, 2) := by decide +kernel
theorem dX10_init_125 : decode cX10_init 125 = .ok (.putfield 56, 3) := by decide +kernel
theorem dX10_init_128 : decode cX10_init 128 = .ok (.aload_n 0, 1) := by decide +kernel
theorem dX10_init_129 : decode cX10_init 129 = .ok (.bipush 40, 2) := by decide +kernel
theorem dX10_init_131 : decode cX10_init 131 = .ok (.newarray .int, 2) := by decide +kernel
theorem dX10_init_133 : decode cX10_init 133 = .ok (.putfield 59, 3) := by decide +kernel
theorem dX10_init_136 : decode cX10_init 136 = .ok (.aload_n 0, 1) := by decide +kernel
theorem dX10_init_137 : decode cX10_init 137 = .ok (.getfield 9, 3) := by decide +kernel
theorem dX10_init_140 : decode cX10_init 140 = .ok (.iconst 1, 1) := by decide +kernel
theorem dX10_init_141 : decode cX10_init 141 = .ok (.iconst 2, 1) := by decide +kernel
theorem dX10_init_142 : decode cX10_init 142 = .ok (.iastore, 1) := by decide +kernel
theorem dX10_init_143 : decode cX10_init 143 = .ok (.aload_n 0, 1) := by decide +kernel
theorem dX10_init_144 : decode cX10_init 144 = .ok (.getfield 9, 3) := by decide +kernel
theorem dX10_init_147 : decode cX10_init 147 = .ok (.bipush 11, 2) := by decide +kernel
theorem dX10_init_149 : decode cX10_init 149 = .ok (.iconst 1, 1) := by decide +kernel
theorem dX10_init_150 : decode cX10_init 150 = .ok (.iastore, 1) := by decide +kernel
theorem dX10_init_151 : decode cX10_init 151 = .ok (.return_, 1) := by decide +kernel
theorem dX10_finding_0 : decode cX10_finding 0 = .ok (.aload_n 0, 1) := by decide +kernel
theorem dX10_finding_1 : decode cX10_finding 1 = .ok (.getfield 19, 3) := by decide +kernel
theorem dX10_finding_4 : decode cX10_finding 4 = .ok (.ldc 62, 2) := by decide +kernel
theorem dX10_finding_6 : decode cX10_finding 6 = .ok (.iload_n 1, 1) := by decide +kernel
theorem dX10_finding_7 : decode cX10_finding 7 = .ok (.isub, 1) := by decide +kernel
theorem dX10_finding_8 : decode cX10_finding 8 = .ok (.dup2, 1) := by decide +kernel
theorem dX10_finding_9 : decode cX10_finding 9 = .ok (.iaload, 1) := by decide +kernel
theorem dX10_finding_10 : decode cX10_finding 10 = .ok (.iconst 1, 1) := by decide +kernel
theorem dX10_finding_11 : decode cX10_finding 11 = .ok (.iadd, 1) := by decide +kernel
theorem dX10_finding_12 : decode cX10_finding 12 = .ok (.iastore, 1) := by decide +kernel
theorem dX10_finding_13 : decode cX10_finding 13 = .ok (.iload_n 1, 1) := by decide +kernel
theorem dX10_finding_14 : decode cX10_finding 14 = .ok (.ireturn, 1) := by decide +kernel
theorem dX10_within_0 : decode cX10_within 0 = .ok (.iload_n 0, 1) := by decide +kernel
theorem dX10_within_1 : decode cX10_within 1 = .ok (.iload_n 1, 1) := by decide +kernel
theorem dX10_within_2 : decode cX10_within 2 = .ok (.if_icmp .lt 12, 3) := by decide +kernel
theorem dX10_within_5 : decode cX10_within 5 = .ok (.iload_n 0, 1) := by decide +kernel
theorem dX10_within_6 : decode cX10_within 6 = .ok (.iload_n 2, 1) := by decide +kernel
theorem dX10_within_7 : decode cX10_within 7 = .ok (.if_icmp .gt 7, 3) := by decide +kernel
theorem dX10_within_10 : decode cX10_within 10 = .ok (.iconst 1, 1) := by decide +kernel
theorem dX10_within_11 : decode cX10_within 11 = .ok (.goto 4, 3) := by decide +kernel
theorem dX10_within_14 : decode cX10_within 14 = .ok (.iconst 0, 1) := by decide +kernel
theorem dX10_within_15 : decode cX10_within 15 = .ok (.ireturn, 1) := by decide +kernel
theorem dX10_held_0 : decode cX10_held 0 = .ok (.iload_n 1, 1) := by decide +kernel
theorem dX10_held_1 : decode cX10_held 1 = .ok (.iload_n 2, 1) := by decide +kernel
theorem dX10_held_2 : decode cX10_held 2 = .ok (.iload_n 0, 1) := by decide +kernel
theorem dX10_held_3 : decode cX10_held 3 = .ok (.invokestatic 63, 3) := by decide +kernel
theorem dX10_held_6 : decode cX10_held 6 = .ok (.invokestatic 69, 3) := by decide +kernel
theorem dX10_held_9 : decode cX10_held 9 = .ok (.ireturn, 1) := by decide +kernel
theorem dX10_is_0 : decode cX10_is 0 = .ok (.iload_n 1, 1) := by decide +kernel
theorem dX10_is_1 : decode cX10_is 1 = .ok (.iconst 0, 1) := by decide +kernel
theorem dX10_is_2 : decode cX10_is 2 = .ok (.aload_n 0, 1) := by decide +kernel
theorem dX10_is_3 : decode cX10_is 3 = .ok (.getfield 9, 3) := by decide +kernel
theorem dX10_is_6 : decode cX10_is 6 = .ok (.iload_n 2, 1) := by decide +kernel
theorem dX10_is_7 : decode cX10_is 7 = .ok (.iaload, 1) := by decide +kernel
theorem dX10_is_8 : decode cX10_is 8 = .ok (.iconst 1, 1) := by decide +kernel
theorem dX10_is_9 : decode cX10_is 9 = .ok (.isub, 1) := by decide +kernel
theorem dX10_is_10 : decode cX10_is 10 = .ok (.invokestatic 72, 3) := by decide +kernel
theorem dX10_is_13 : decode cX10_is 13 = .ok (.ireturn, 1) := by decide +kernel
theorem dX10_copy_0 : decode cX10_copy 0 = .ok (.iconst 0, 1) := by decide +kernel
theorem dX10_copy_1 : decode cX10_copy 1 = .ok (.istore_n 2, 1) := by decide +kernel
theorem dX10_copy_2 : decode cX10_copy 2 = .ok (.iload_n 2, 1) := by decide +kernel
theorem dX10_copy_3 : decode cX10_copy 3 = .ok (.sipush 240, 3) := by decide +kernel
theorem dX10_copy_6 : decode cX10_copy 6 = .ok (.if_icmp .ge 15, 3) := by decide +kernel
theorem dX10_copy_9 : decode cX10_copy 9 = .ok (.aload_n 1, 1) := by decide +kernel
theorem dX10_copy_10 : decode cX10_copy 10 = .ok (.iload_n 2, 1) := by decide +kernel
theorem dX10_copy_11 : decode cX10_copy 11 = .ok (.aload_n 0, 1) := by decide +kernel
theorem dX10_copy_12 : decode cX10_copy 12 = .ok (.iload_n 2, 1) := by decide +kernel
theorem dX10_copy_13 : decode cX10_copy 13 = .ok (.iaload, 1) := by decide +kernel
theorem dX10_copy_14 : decode cX10_copy 14 = .ok (.iastore, 1) := by decide +kernel
theorem dX10_copy_15 : decode cX10_copy 15 = .ok (.iinc 2 1, 3) := by decide +kernel
theorem dX10_copy_18 : decode cX10_copy 18 = .ok (.goto (-16), 3) := by decide +kernel
theorem dX10_copy_21 : decode cX10_copy 21 = .ok (.return_, 1) := by decide +kernel
theorem dX10_putIn_0 : decode cX10_putIn 0 = .ok (.aload_n 0, 1) := by decide +kernel
theorem dX10_putIn_1 : decode cX10_putIn 1 = .ok (.getfield 9, 3) := by decide +kernel
theorem dX10_putIn_4 : decode cX10_putIn 4 = .ok (.iload_n 1, 1) := by decide +kernel
theorem dX10_putIn_5 : decode cX10_putIn 5 = .ok (.iaload, 1) := by decide +kernel
theorem dX10_putIn_6 : decode cX10_putIn 6 = .ok (.istore_n 3, 1) := by decide +kernel
theorem dX10_putIn_7 : decode cX10_putIn 7 = .ok (.aload_n 0, 1) := by decide +kernel
theorem dX10_putIn_8 : decode cX10_putIn 8 = .ok (.getfield 9, 3) := by decide +kernel
theorem dX10_putIn_11 : decode cX10_putIn 11 = .ok (.iload_n 1, 1) := by decide +kernel
theorem dX10_putIn_12 : decode cX10_putIn 12 = .ok (.iload_n 2, 1) := by decide +kernel
theorem dX10_putIn_13 : decode cX10_putIn 13 = .ok (.iastore, 1) := by decide +kernel
theorem dX10_putIn_14 : decode cX10_putIn 14 = .ok (.iload_n 3, 1) := by decide +kernel
theorem dX10_putIn_15 : decode cX10_putIn 15 = .ok (.ireturn, 1) := by decide +kernel
theorem dX10_putBack_0 : decode cX10_putBack 0 = .ok (.aload_n 0, 1) := by decide +kernel
theorem dX10_putBack_1 : decode cX10_putBack 1 = .ok (.getfield 16, 3) := by decide +kernel
theorem dX10_putBack_4 : decode cX10_putBack 4 = .ok (.aload_n 0, 1) := by decide +kernel
theorem dX10_putBack_5 : decode cX10_putBack 5 = .ok (.getfield 9, 3) := by decide +kernel
theorem dX10_putBack_8 : decode cX10_putBack 8 = .ok (.invokestatic 76, 3) := by decide +kernel
theorem dX10_putBack_11 : decode cX10_putBack 11 = .ok (.iload_n 1, 1) := by decide +kernel
theorem dX10_putBack_12 : decode cX10_putBack 12 = .ok (.ireturn, 1) := by decide +kernel
theorem dX10_isCell_0 : decode cX10_isCell 0 = .ok (.iload_n 0, 1) := by decide +kernel
theorem dX10_isCell_1 : decode cX10_isCell 1 = .ok (.iconst 0, 1) := by decide +kernel
theorem dX10_isCell_2 : decode cX10_isCell 2 = .ok (.bipush 63, 2) := by decide +kernel
theorem dX10_isCell_4 : decode cX10_isCell 4 = .ok (.invokestatic 72, 3) := by decide +kernel
theorem dX10_isCell_7 : decode cX10_isCell 7 = .ok (.ireturn, 1) := by decide +kernel
theorem dX10_tide_0 : decode cX10_tide 0 = .ok (.iload_n 1, 1) := by decide +kernel
theorem dX10_tide_1 : decode cX10_tide 1 = .ok (.iconst 0, 1) := by decide +kernel
theorem dX10_tide_2 : decode cX10_tide 2 = .ok (.iconst 3, 1) := by decide +kernel
theorem dX10_tide_3 : decode cX10_tide 3 = .ok (.invokestatic 72, 3) := by decide +kernel
theorem dX10_tide_6 : decode cX10_tide 6 = .ok (.ifCond .eq 23, 3) := by decide +kernel
theorem dX10_tide_9 : decode cX10_tide 9 = .ok (.iload_n 2, 1) := by decide +kernel
theorem dX10_tide_10 : decode cX10_tide 10 = .ok (.iconst 0, 1) := by decide +kernel
theorem dX10_tide_11 : decode cX10_tide 11 = .ok (.iconst 4, 1) := by decide +kernel
theorem dX10_tide_12 : decode cX10_tide 12 = .ok (.invokestatic 72, 3) := by decide +kernel
theorem dX10_tide_15 : decode cX10_tide 15 = .ok (.ifCond .eq 14, 3) := by decide +kernel
theorem dX10_tide_18 : decode cX10_tide 18 = .ok (.aload_n 0, 1) := by decide +kernel
theorem dX10_tide_19 : decode cX10_tide 19 = .ok (.iconst 2, 1) := by decide +kernel
theorem dX10_tide_20 : decode cX10_tide 20 = .ok (.iload_n 1, 1) := by decide +kernel
theorem dX10_tide_21 : decode cX10_tide 21 = .ok (.iadd, 1) := by decide +kernel
theorem dX10_tide_22 : decode cX10_tide 22 = .ok (.iload_n 2, 1) := by decide +kernel
theorem dX10_tide_23 : decode cX10_tide 23 = .ok (.invokevirtual 80, 3) := by decide +kernel
theorem dX10_tide_26 : decode cX10_tide 26 = .ok (.goto 9, 3) := by decide +kernel
theorem dX10_tide_29 : decode cX10_tide 29 = .ok (.aload_n 0, 1) := by decide +kernel
theorem dX10_tide_30 : decode cX10_tide 30 = .ok (.ldc 83, 2) := by decide +kernel
theorem dX10_tide_32 : decode cX10_tide 32 = .ok (.invokevirtual 84, 3) := by decide +kernel
theorem dX10_tide_35 : decode cX10_tide 35 = .ok (.ireturn, 1) := by decide +kernel
theorem dX10_speed_0 : decode cX10_speed 0 = .ok (.iload_n 1, 1) := by decide +kernel
theorem dX10_speed_1 : decode cX10_speed 1 = .ok (.iconst 1, 1) := by decide +kernel
theorem dX10_speed_2 : decode cX10_speed 2 = .ok (.bipush 9, 2) := by decide +kernel
theorem dX10_speed_4 : decode cX10_speed 4 = .ok (.invokestatic 72, 3) := by decide +kernel
theorem dX10_speed_7 : decode cX10_speed 7 = .ok (.ifCond .eq 12, 3) := by decide +kernel
theorem dX10_speed_10 : decode cX10_speed 10 = .ok (.aload_n 0, 1) := by decide +kernel
theorem dX10_speed_11 : decode cX10_speed 11 = .ok (.iconst 1, 1) := by decide +kernel
theorem dX10_speed_12 : decode cX10_speed 12 = .ok (.iload_n 1, 1) := by decide +kernel
theorem dX10_speed_13 : decode cX10_speed 13 = .ok (.invokevirtual 80, 3) := by decide +kernel
theorem dX10_speed_16 : decode cX10_speed 16 = .ok (.goto 9, 3) := by decide +kernel
theorem dX10_speed_19 : decode cX10_speed 19 = .ok (.aload_n 0, 1) := by decide +kernel
theorem dX10_speed_20 : decode cX10_speed 20 = .ok (.ldc 83, 2) := by decide +kernel
theorem dX10_speed_22 : decode cX10_speed 22 = .ok (.invokevirtual 84, 3) := by decide +kernel
theorem dX10_speed_25 : decode cX10_speed 25 = .ok (.ireturn, 1) := by decide +kernel
theorem dX10_boatIs_0 : decode cX10_boatIs 0 = .ok (.aload_n 0, 1) := by decide +kernel
theorem dX10_boatIs_1 : decode cX10_boatIs 1 = .ok (.getfield 9, 3) := by decide +kernel
theorem dX10_boatIs_4 : decode cX10_boatIs 4 = .ok (.bipush 12, 2) := by decide +kernel
theorem dX10_boatIs_6 : decode cX10_boatIs 6 = .ok (.iconst 4, 1) := by decide +kernel
theorem dX10_boatIs_7 : decode cX10_boatIs 7 = .ok (.iload_n 1, 1) := by decide +kernel
theorem dX10_boatIs_8 : decode cX10_boatIs 8 = .ok (.imul, 1) := by decide +kernel
theorem dX10_boatIs_9 : decode cX10_boatIs 9 = .ok (.iadd, 1) := by decide +kernel
theorem dX10_boatIs_10 : decode cX10_boatIs 10 = .ok (.iload_n 2, 1) := by decide +kernel
theorem dX10_boatIs_11 : decode cX10_boatIs 11 = .ok (.iadd, 1) := by decide +kernel
theorem dX10_boatIs_12 : decode cX10_boatIs 12 = .ok (.iaload, 1) := by decide +kernel
theorem dX10_boatIs_13 : decode cX10_boatIs 13 = .ok (.ireturn, 1) := by decide +kernel
theorem dX10_listenerIs_0 : decode cX10_listenerIs 0 = .ok (.aload_n 0, 1) := by decide +kernel
theorem dX10_listenerIs_1 : decode cX10_listenerIs 1 = .ok (.getfield 9, 3) := by decide +kernel
theorem dX10_listenerIs_4 : decode cX10_listenerIs 4 = .ok (.bipush 48, 2) := by decide +kernel
theorem dX10_listenerIs_6 : decode cX10_listenerIs 6 = .ok (.iconst 3, 1) := by decide +kernel
theorem dX10_listenerIs_7 : decode cX10_listenerIs 7 = .ok (.iload_n 1, 1) := by decide +kernel
theorem dX10_listenerIs_8 : decode cX10_listenerIs 8 = .ok (.imul, 1) := by decide +kernel
theorem dX10_listenerIs_9 : decode cX10_listenerIs 9 = .ok (.iadd, 1) := by decide +kernel
theorem dX10_listenerIs_10 : decode cX10_listenerIs 10 = .ok (.iload_n 2, 1) := by decide +kernel
theorem dX10_listenerIs_11 : decode cX10_listenerIs 11 = .ok (.iadd, 1) := by decide +kernel
theorem dX10_listenerIs_12 : decode cX10_listenerIs 12 = .ok (.iaload, 1) := by decide +kernel
theorem dX10_listenerIs_13 : decode cX10_listenerIs 13 = .ok (.ireturn, 1) := by decide +kernel
theorem dX10_boat_0 : decode cX10_boat 0 = .ok (.iload_n 1, 1) := by decide +kernel
theorem dX10_boat_1 : decode cX10_boat 1 = .ok (.iconst 0, 1) := by decide +kernel
theorem dX10_boat_2 : decode cX10_boat 2 = .ok (.bipush 69, 2) := by decide +kernel
theorem dX10_boat_4 : decode cX10_boat 4 = .ok (.invokestatic 72, 3) := by decide +kernel
theorem dX10_boat_7 : decode cX10_boat 7 = .ok (.ifCond .eq 10, 3) := by decide +kernel
theorem dX10_boat_10 : decode cX10_boat 10 = .ok (.iload_n 2, 1) := by decide +kernel
theorem dX10_boat_11 : decode cX10_boat 11 = .ok (.invokestatic 88, 3) := by decide +kernel
theorem dX10_boat_14 : decode cX10_boat 14 = .ok (.ifCond .ne 10, 3) := by decide +kernel
theorem dX10_boat_17 : decode cX10_boat 17 = .ok (.aload_n 0, 1) := by decide +kernel
theorem dX10_boat_18 : decode cX10_boat 18 = .ok (.ldc 83, 2) := by decide +kernel
theorem dX10_boat_20 : decode cX10_boat 20 = .ok (.invokevirtual 84, 3) := by decide +kernel
theorem dX10_boat_23 : decode cX10_boat 23 = .ok (.ireturn, 1) := by decide +kernel
theorem dX10_boat_24 : decode cX10_boat 24 = .ok (.aload_n 0, 1) := by decide +kernel
theorem dX10_boat_25 : decode cX10_boat 25 = .ok (.getfield 9, 3) := by decide +kernel
theorem dX10_boat_28 : decode cX10_boat 28 = .ok (.bipush 7, 2) := by decide +kernel
theorem dX10_boat_30 : decode cX10_boat 30 = .ok (.iaload, 1) := by decide +kernel
theorem dX10_boat_31 : decode cX10_boat 31 = .ok (.istore_n 3, 1) := by decide +kernel
theorem dX10_boat_32 : decode cX10_boat 32 = .ok (.iload_n 3, 1) := by decide +kernel
theorem dX10_boat_33 : decode cX10_boat 33 = .ok (.bipush 9, 2) := by decide +kernel
theorem dX10_boat_35 : decode cX10_boat 35 = .ok (.if_icmp .ne 10, 3) := by decide +kernel
theorem dX10_boat_38 : decode cX10_boat 38 = .ok (.aload_n 0, 1) := by decide +kernel
theorem dX10_boat_39 : decode cX10_boat 39 = .ok (.ldc 92, 2) := by decide +kernel
theorem dX10_boat_41 : decode cX10_boat 41 = .ok (.invokevirtual 84, 3) := by decide +kernel
theorem dX10_boat_44 : decode cX10_boat 44 = .ok (.ireturn, 1) := by decide +kernel
theorem dX10_boat_45 : decode cX10_boat 45 = .ok (.aload_n 0, 1) := by decide +kernel
theorem dX10_boat_46 : decode cX10_boat 46 = .ok (.getfield 9, 3) := by decide +kernel
theorem dX10_boat_49 : decode cX10_boat 49 = .ok (.bipush 12, 2) := by decide +kernel
theorem dX10_boat_51 : decode cX10_boat 51 = .ok (.iconst 4, 1) := by decide +kernel
theorem dX10_boat_52 : decode cX10_boat 52 = .ok (.iload_n 3, 1) := by decide +kernel
theorem dX10_boat_53 : decode cX10_boat 53 = .ok (.imul, 1) := by decide +kernel
theorem dX10_boat_54 : decode cX10_boat 54 = .ok (.iadd, 1) := by decide +kernel
theorem dX10_boat_55 : decode cX10_boat 55 = .ok (.iconst 0, 1) := by decide +kernel
theorem dX10_boat_56 : decode cX10_boat 56 = .ok (.iadd, 1) := by decide +kernel
theorem dX10_boat_57 : decode cX10_boat 57 = .ok (.iload_n 1, 1) := by decide +kernel
theorem dX10_boat_58 : decode cX10_boat 58 = .ok (.bipush 10, 2) := by decide +kernel
theorem dX10_boat_60 : decode cX10_boat 60 = .ok (.idiv, 1) := by decide +kernel
theorem dX10_boat_61 : decode cX10_boat 61 = .ok (.iastore, 1) := by decide +kernel
theorem dX10_boat_62 : decode cX10_boat 62 = .ok (.aload_n 0, 1) := by decide +kernel
theorem dX10_boat_63 : decode cX10_boat 63 = .ok (.getfield 9, 3) := by decide +kernel
theorem dX10_boat_66 : decode cX10_boat 66 = .ok (.bipush 12, 2) := by decide +kernel
theorem dX10_boat_68 : decode cX10_boat 68 = .ok (.iconst 4, 1) := by decide +kernel
theorem dX10_boat_69 : decode cX10_boat 69 = .ok (.iload_n 3, 1) := by decide +kernel
theorem dX10_boat_70 : decode cX10_boat 70 = .ok (.imul, 1) := by decide +kernel
theorem dX10_boat_71 : decode cX10_boat 71 = .ok (.iadd, 1) := by decide +kernel
theorem dX10_boat_72 : decode cX10_boat 72 = .ok (.iconst 1, 1) := by decide +kernel
theorem dX10_boat_73 : decode cX10_boat 73 = .ok (.iadd, 1) := by decide +kernel
theorem dX10_boat_74 : decode cX10_boat 74 = .ok (.iload_n 1, 1) := by decide +kernel
theorem dX10_boat_75 : decode cX10_boat 75 = .ok (.bipush 10, 2) := by decide +kernel
theorem dX10_boat_77 : decode cX10_boat 77 = .ok (.irem, 1) := by decide +kernel
theorem dX10_boat_78 : decode cX10_boat 78 = .ok (.iastore, 1) := by decide +kernel
theorem dX10_boat_79 : decode cX10_boat 79 = .ok (.aload_n 0, 1) := by decide +kernel
theorem dX10_boat_80 : decode cX10_boat 80 = .ok (.getfield 9, 3) := by decide +kernel
theorem dX10_boat_83 : decode cX10_boat 83 = .ok (.bipush 12, 2) := by decide +kernel
theorem dX10_boat_85 : decode cX10_boat 85 = .ok (.iconst 4, 1) := by decide +kernel
theorem dX10_boat_86 : decode cX10_boat 86 = .ok (.iload_n 3, 1) := by decide +kernel
theorem dX10_boat_87 : decode cX10_boat 87 = .ok (.imul, 1) := by decide +kernel
theorem dX10_boat_88 : decode cX10_boat 88 = .ok (.iadd, 1) := by decide +kernel
theorem dX10_boat_89 : decode cX10_boat 89 = .ok (.iconst 2, 1) := by decide +kernel
theorem dX10_boat_90 : decode cX10_boat 90 = .ok (.iadd, 1) := by decide +kernel
theorem dX10_boat_91 : decode cX10_boat 91 = .ok (.iload_n 2, 1) := by decide +kernel
theorem dX10_boat_92 : decode cX10_boat 92 = .ok (.iastore, 1) := by decide +kernel
theorem dX10_boat_93 : decode cX10_boat 93 = .ok (.aload_n 0, 1) := by decide +kernel
theorem dX10_boat_94 : decode cX10_boat 94 = .ok (.getfield 9, 3) := by decide +kernel
theorem dX10_boat_97 : decode cX10_boat 97 = .ok (.bipush 12, 2) := by decide +kernel
theorem dX10_boat_99 : decode cX10_boat 99 = .ok (.iconst 4, 1) := by decide +kernel
theorem dX10_boat_100 : decode cX10_boat 100 = .ok (.iload_n 3, 1) := by decide +kernel
theorem dX10_boat_101 : decode cX10_boat 101 = .ok (.imul, 1) := by decide +kernel
theorem dX10_boat_102 : decode cX10_boat 102 = .ok (.iadd, 1) := by decide +kernel
theorem dX10_boat_103 : decode cX10_boat 103 = .ok (.iconst 3, 1) := by decide +kernel
theorem dX10_boat_104 : decode cX10_boat 104 = .ok (.iadd, 1) := by decide +kernel
theorem dX10_boat_105 : decode cX10_boat 105 = .ok (.iconst 0, 1) := by decide +kernel
theorem dX10_boat_106 : decode cX10_boat 106 = .ok (.iastore, 1) := by decide +kernel
theorem dX10_boat_107 : decode cX10_boat 107 = .ok (.aload_n 0, 1) := by decide +kernel
theorem dX10_boat_108 : decode cX10_boat 108 = .ok (.getfield 9, 3) := by decide +kernel
theorem dX10_boat_111 : decode cX10_boat 111 = .ok (.bipush 7, 2) := by decide +kernel
theorem dX10_boat_113 : decode cX10_boat 113 = .ok (.dup2, 1) := by decide +kernel
theorem dX10_boat_114 : decode cX10_boat 114 = .ok (.iaload, 1) := by decide +kernel
theorem dX10_boat_115 : decode cX10_boat 115 = .ok (.iconst 1, 1) := by decide +kernel
theorem dX10_boat_116 : decode cX10_boat 116 = .ok (.iadd, 1) := by decide +kernel
theorem dX10_boat_117 : decode cX10_boat 117 = .ok (.iastore, 1) := by decide +kernel
theorem dX10_boat_118 : decode cX10_boat 118 = .ok (.iload_n 3, 1) := by decide +kernel
theorem dX10_boat_119 : decode cX10_boat 119 = .ok (.ireturn, 1) := by decide +kernel
theorem dX10_beat_0 : decode cX10_beat 0 = .ok (.aload_n 0, 1) := by decide +kernel
theorem dX10_beat_1 : decode cX10_beat 1 = .ok (.getfield 9, 3) := by decide +kernel
theorem dX10_beat_4 : decode cX10_beat 4 = .ok (.iconst 0, 1) := by decide +kernel
theorem dX10_beat_5 : decode cX10_beat 5 = .ok (.iaload, 1) := by decide +kernel
theorem dX10_beat_6 : decode cX10_beat 6 = .ok (.bipush 32, 2) := by decide +kernel
theorem dX10_beat_8 : decode cX10_beat 8 = .ok (.irem, 1) := by decide +kernel
theorem dX10_beat_9 : decode cX10_beat 9 = .ok (.ireturn, 1) := by decide +kernel
theorem dX10_sings_0 : decode cX10_sings 0 = .ok (.aload_n 0, 1) := by decide +kernel
theorem dX10_sings_1 : decode cX10_sings 1 = .ok (.iload_n 1, 1) := by decide +kernel
theorem dX10_sings_2 : decode cX10_sings 2 = .ok (.iconst 3, 1) := by decide +kernel
theorem dX10_sings_3 : decode cX10_sings 3 = .ok (.invokevirtual 93, 3) := by decide +kernel
theorem dX10_sings_6 : decode cX10_sings 6 = .ok (.aload_n 0, 1) := by decide +kernel
theorem dX10_sings_7 : decode cX10_sings 7 = .ok (.invokevirtual 96, 3) := by decide +kernel
theorem dX10_sings_10 : decode cX10_sings 10 = .ok (.ishr, 1) := by decide +kernel
theorem dX10_sings_11 : decode cX10_sings 11 = .ok (.iconst 1, 1) := by decide +kernel
theorem dX10_sings_12 : decode cX10_sings 12 = .ok (.iand, 1) := by decide +kernel
theorem dX10_sings_13 : decode cX10_sings 13 = .ok (.iconst 1, 1) := by decide +kernel
theorem dX10_sings_14 : decode cX10_sings 14 = .ok (.if_icmp .ne 7, 3) := by decide +kernel
theorem dX10_sings_17 : decode cX10_sings 17 = .ok (.iconst 1, 1) := by decide +kernel
theorem dX10_sings_18 : decode cX10_sings 18 = .ok (.goto 4, 3) := by decide +kernel
theorem dX10_sings_21 : decode cX10_sings 21 = .ok (.iconst 0, 1) := by decide +kernel
theorem dX10_sings_22 : decode cX10_sings 22 = .ok (.ireturn, 1) := by decide +kernel
theorem dX10_ofBoat_0 : decode cX10_ofBoat 0 = .ok (.aload_n 0, 1) := by decide +kernel
theorem dX10_ofBoat_1 : decode cX10_ofBoat 1 = .ok (.iload_n 1, 1) := by decide +kernel
theorem dX10_ofBoat_2 : decode cX10_ofBoat 2 = .ok (.bipush 7, 2) := by decide +kernel
theorem dX10_ofBoat_4 : decode cX10_ofBoat 4 = .ok (.invokevirtual 100, 3) := by decide +kernel
theorem dX10_ofBoat_7 : decode cX10_ofBoat 7 = .ok (.ifCond .eq 12, 3) := by decide +kernel
theorem dX10_ofBoat_10 : decode cX10_ofBoat 10 = .ok (.iload_n 2, 1) := by decide +kernel
theorem dX10_ofBoat_11 : decode cX10_ofBoat 11 = .ok (.iconst 0, 1) := by decide +kernel
theorem dX10_ofBoat_12 : decode cX10_ofBoat 12 = .ok (.iconst 4, 1) := by decide +kernel
theorem dX10_ofBoat_13 : decode cX10_ofBoat 13 = .ok (.invokestatic 72, 3) := by decide +kernel
theorem dX10_ofBoat_16 : decode cX10_ofBoat 16 = .ok (.ifCond .ne 10, 3) := by decide +kernel
theorem dX10_ofBoat_19 : decode cX10_ofBoat 19 = .ok (.aload_n 0, 1) := by decide +kernel
theorem dX10_ofBoat_20 : decode cX10_ofBoat 20 = .ok (.ldc 83, 2) := by decide +kernel
theorem dX10_ofBoat_22 : decode cX10_ofBoat 22 = .ok (.invokevirtual 84, 3) := by decide +kernel
theorem dX10_ofBoat_25 : decode cX10_ofBoat 25 = .ok (.ireturn, 1) := by decide +kernel
theorem dX10_ofBoat_26 : decode cX10_ofBoat 26 = .ok (.iload_n 2, 1) := by decide +kernel
theorem dX10_ofBoat_27 : decode cX10_ofBoat 27 = .ok (.iconst 4, 1) := by decide +kernel
theorem dX10_ofBoat_28 : decode cX10_ofBoat 28 = .ok (.if_icmp .ne 19, 3) := by decide +kernel
theorem dX10_ofBoat_31 : decode cX10_ofBoat 31 = .ok (.aload_n 0, 1) := by decide +kernel
theorem dX10_ofBoat_32 : decode cX10_ofBoat 32 = .ok (.iload_n 1, 1) := by decide +kernel
theorem dX10_ofBoat_33 : decode cX10_ofBoat 33 = .ok (.invokevirtual 104, 3) := by decide +kernel
theorem dX10_ofBoat_36 : decode cX10_ofBoat 36 = .ok (.ifCond .eq 7, 3) := by decide +kernel
theorem dX10_ofBoat_39 : decode cX10_ofBoat 39 = .ok (.iconst 1, 1) := by decide +kernel
theorem dX10_ofBoat_40 : decode cX10_ofBoat 40 = .ok (.goto 13, 3) := by decide +kernel
theorem dX10_ofBoat_43 : decode cX10_ofBoat 43 = .ok (.iconst 0, 1) := by decide +kernel
theorem dX10_ofBoat_44 : decode cX10_ofBoat 44 = .ok (.goto 9, 3) := by decide +kernel
theorem dX10_ofBoat_47 : decode cX10_ofBoat 47 = .ok (.aload_n 0, 1) := by decide +kernel
theorem dX10_ofBoat_48 : decode cX10_ofBoat 48 = .ok (.iload_n 1, 1) := by decide +kernel
theorem dX10_ofBoat_49 : decode cX10_ofBoat 49 = .ok (.iload_n 2, 1) := by decide +kernel
theorem dX10_ofBoat_50 : decode cX10_ofBoat 50 = .ok (.invokevirtual 93, 3) := by decide +kernel
theorem dX10_ofBoat_53 : decode cX10_ofBoat 53 = .ok (.ireturn, 1) := by decide +kernel
theorem dX10_change_0 : decode cX10_change 0 = .ok (.iload_n 2, 1) := by decide +kernel
theorem dX10_change_1 : decode cX10_change 1 = .ok (.iconst 2, 1) := by decide +kernel
theorem dX10_change_2 : decode cX10_change 2 = .ok (.if_icmp .ne 10, 3) := by decide +kernel
theorem dX10_change_5 : decode cX10_change 5 = .ok (.iload_n 3, 1) := by decide +kernel
theorem dX10_change_6 : decode cX10_change 6 = .ok (.invokestatic 88, 3) := by decide +kernel
theorem dX10_change_9 : decode cX10_change 9 = .ok (.ifCond .ne 8, 3) := by decide +kernel
theorem dX10_change_12 : decode cX10_change 12 = .ok (.iload_n 2, 1) := by decide +kernel
theorem dX10_change_13 : decode cX10_change 13 = .ok (.iconst 3, 1) := by decide +kernel
theorem dX10_change_14 : decode cX10_change 14 = .ok (.if_icmp .ne 7, 3) := by decide +kernel
theorem dX10_change_17 : decode cX10_change 17 = .ok (.iconst 1, 1) := by decide +kernel
theorem dX10_change_18 : decode cX10_change 18 = .ok (.goto 4, 3) := by decide +kernel
theorem dX10_change_21 : decode cX10_change 21 = .ok (.iconst 0, 1) := by decide +kernel
theorem dX10_change_22 : decode cX10_change 22 = .ok (.istore 4, 2) := by decide +kernel
theorem dX10_change_24 : decode cX10_change 24 = .ok (.aload_n 0, 1) := by decide +kernel
theorem dX10_change_25 : decode cX10_change 25 = .ok (.iload_n 1, 1) := by decide +kernel
theorem dX10_change_26 : decode cX10_change 26 = .ok (.bipush 7, 2) := by decide +kernel
theorem dX10_change_28 : decode cX10_change 28 = .ok (.invokevirtual 100, 3) := by decide +kernel
theorem dX10_change_31 : decode cX10_change 31 = .ok (.ifCond .eq 24, 3) := by decide +kernel
theorem dX10_change_34 : decode cX10_change 34 = .ok (.iload 4, 2) := by decide +kernel
theorem dX10_change_36 : decode cX10_change 36 = .ok (.ifCond .eq 19, 3) := by decide +kernel
theorem dX10_change_39 : decode cX10_change 39 = .ok (.aload_n 0, 1) := by decide +kernel
theorem dX10_change_40 : decode cX10_change 40 = .ok (.bipush 12, 2) := by decide +kernel
theorem dX10_change_42 : decode cX10_change 42 = .ok (.iconst 4, 1) := by decide +kernel
theorem dX10_change_43 : decode cX10_change 43 = .ok (.iload_n 1, 1) := by decide +kernel
theorem dX10_change_44 : decode cX10_change 44 = .ok (.imul, 1) := by decide +kernel
theorem dX10_change_45 : decode cX10_change 45 = .ok (.iadd, 1) := by decide +kernel
theorem dX10_change_46 : decode cX10_change 46 = .ok (.iload_n 2, 1) := by decide +kernel
theorem dX10_change_47 : decode cX10_change 47 = .ok (.iadd, 1) := by decide +kernel
theorem dX10_change_48 : decode cX10_change 48 = .ok (.iload_n 3, 1) := by decide +kernel
theorem dX10_change_49 : decode cX10_change 49 = .ok (.invokevirtual 80, 3) := by decide +kernel
theorem dX10_change_52 : decode cX10_change 52 = .ok (.goto 9, 3) := by decide +kernel
theorem dX10_change_55 : decode cX10_change 55 = .ok (.aload_n 0, 1) := by decide +kernel
theorem dX10_change_56 : decode cX10_change 56 = .ok (.ldc 83, 2) := by decide +kernel
theorem dX10_change_58 : decode cX10_change 58 = .ok (.invokevirtual 84, 3) := by decide +kernel
theorem dX10_change_61 : decode cX10_change 61 = .ok (.ireturn, 1) := by decide +kernel
theorem dX10_become_0 : decode cX10_become 0 = .ok (.aload_n 0, 1) := by decide +kernel
theorem dX10_become_1 : decode cX10_become 1 = .ok (.iload_n 1, 1) := by decide +kernel
theorem dX10_become_2 : decode cX10_become 2 = .ok (.bipush 7, 2) := by decide +kernel
theorem dX10_become_4 : decode cX10_become 4 = .ok (.invokevirtual 100, 3) := by decide +kernel
theorem dX10_become_7 : decode cX10_become 7 = .ok (.ifCond .eq 13, 3) := by decide +kernel
theorem dX10_become_10 : decode cX10_become 10 = .ok (.iload_n 2, 1) := by decide +kernel
theorem dX10_become_11 : decode cX10_become 11 = .ok (.iconst 0, 1) := by decide +kernel
theorem dX10_become_12 : decode cX10_become 12 = .ok (.bipush 69, 2) := by decide +kernel
theorem dX10_become_14 : decode cX10_become 14 = .ok (.invokestatic 72, 3) := by decide +kernel
theorem dX10_become_17 : decode cX10_become 17 = .ok (.ifCond .ne 10, 3) := by decide +kernel
theorem dX10_become_20 : decode cX10_become 20 = .ok (.aload_n 0, 1) := by decide +kernel
theorem dX10_become_21 : decode cX10_become 21 = .ok (.ldc 83, 2) := by decide +kernel
theorem dX10_become_23 : decode cX10_become 23 = .ok (.invokevirtual 84, 3) := by decide +kernel
theorem dX10_become_26 : decode cX10_become 26 = .ok (.ireturn, 1) := by decide +kernel
theorem dX10_become_27 : decode cX10_become 27 = .ok (.aload_n 0, 1) := by decide +kernel
theorem dX10_become_28 : decode cX10_become 28 = .ok (.getfield 9, 3) := by decide +kernel
theorem dX10_become_31 : decode cX10_become 31 = .ok (.bipush 12, 2) := by decide +kernel
theorem dX10_become_33 : decode cX10_become 33 = .ok (.iconst 4, 1) := by decide +kernel
theorem dX10_become_34 : decode cX10_become 34 = .ok (.iload_n 1, 1) := by decide +kernel
theorem dX10_become_35 : decode cX10_become 35 = .ok (.imul, 1) := by decide +kernel
theorem dX10_become_36 : decode cX10_become 36 = .ok (.iadd, 1) := by decide +kernel
theorem dX10_become_37 : decode cX10_become 37 = .ok (.iconst 1, 1) := by decide +kernel
theorem dX10_become_38 : decode cX10_become 38 = .ok (.iadd, 1) := by decide +kernel
theorem dX10_become_39 : decode cX10_become 39 = .ok (.iload_n 2, 1) := by decide +kernel
theorem dX10_become_40 : decode cX10_become 40 = .ok (.bipush 10, 2) := by decide +kernel
theorem dX10_become_42 : decode cX10_become 42 = .ok (.irem, 1) := by decide +kernel
theorem dX10_become_43 : decode cX10_become 43 = .ok (.iastore, 1) := by decide +kernel
theorem dX10_become_44 : decode cX10_become 44 = .ok (.aload_n 0, 1) := by decide +kernel
theorem dX10_become_45 : decode cX10_become 45 = .ok (.bipush 12, 2) := by decide +kernel
theorem dX10_become_47 : decode cX10_become 47 = .ok (.iconst 4, 1) := by decide +kernel
theorem dX10_become_48 : decode cX10_become 48 = .ok (.iload_n 1, 1) := by decide +kernel
theorem dX10_become_49 : decode cX10_become 49 = .ok (.imul, 1) := by decide +kernel
theorem dX10_become_50 : decode cX10_become 50 = .ok (.iadd, 1) := by decide +kernel
theorem dX10_become_51 : decode cX10_become 51 = .ok (.iconst 0, 1) := by decide +kernel
theorem dX10_become_52 : decode cX10_become 52 = .ok (.iadd, 1) := by decide +kernel
theorem dX10_become_53 : decode cX10_become 53 = .ok (.iload_n 2, 1) := by decide +kernel
theorem dX10_become_54 : decode cX10_become 54 = .ok (.bipush 10, 2) := by decide +kernel
theorem dX10_become_56 : decode cX10_become 56 = .ok (.idiv, 1) := by decide +kernel
theorem dX10_become_57 : decode cX10_become 57 = .ok (.invokevirtual 80, 3) := by decide +kernel
theorem dX10_become_60 : decode cX10_become 60 = .ok (.ireturn, 1) := by decide +kernel
theorem dX10_above_0 : decode cX10_above 0 = .ok (.iload_n 0, 1) := by decide +kernel
theorem dX10_above_1 : decode cX10_above 1 = .ok (.ifCond .ne 7, 3) := by decide +kernel
theorem dX10_above_4 : decode cX10_above 4 = .ok (.iconst (-1), 1) := by decide +kernel
theorem dX10_above_5 : decode cX10_above 5 = .ok (.goto 32, 3) := by decide +kernel
theorem dX10_above_8 : decode cX10_above 8 = .ok (.iload_n 0, 1) := by decide +kernel
theorem dX10_above_9 : decode cX10_above 9 = .ok (.iconst 4, 1) := by decide +kernel
theorem dX10_above_10 : decode cX10_above 10 = .ok (.if_icmp .ne 7, 3) := by decide +kernel
theorem dX10_above_13 : decode cX10_above 13 = .ok (.iconst 1, 1) := by decide +kernel
theorem dX10_above_14 : decode cX10_above 14 = .ok (.goto 23, 3) := by decide +kernel
theorem dX10_above_17 : decode cX10_above 17 = .ok (.iload_n 0, 1) := by decide +kernel
theorem dX10_above_18 : decode cX10_above 18 = .ok (.iconst 5, 1) := by decide +kernel
theorem dX10_above_19 : decode cX10_above 19 = .ok (.if_icmp .ne 7, 3) := by decide +kernel
theorem dX10_above_22 : decode cX10_above 22 = .ok (.iconst 2, 1) := by decide +kernel
theorem dX10_above_23 : decode cX10_above 23 = .ok (.goto 14, 3) := by decide +kernel
theorem dX10_above_26 : decode cX10_above 26 = .ok (.iload_n 0, 1) := by decide +kernel
theorem dX10_above_27 : decode cX10_above 27 = .ok (.bipush 6, 2) := by decide +kernel
theorem dX10_above_29 : decode cX10_above 29 = .ok (.if_icmp .ne 7, 3) := by decide +kernel
theorem dX10_above_32 : decode cX10_above 32 = .ok (.iconst 3, 1) := by decide +kernel
theorem dX10_above_33 : decode cX10_above 33 = .ok (.goto 4, 3) := by decide +kernel
theorem dX10_above_36 : decode cX10_above 36 = .ok (.iconst 0, 1) := by decide +kernel
theorem dX10_above_37 : decode cX10_above 37 = .ok (.ireturn, 1) := by decide +kernel
theorem dX10_as_0 : decode cX10_as 0 = .ok (.aload_n 0, 1) := by decide +kernel
theorem dX10_as_1 : decode cX10_as 1 = .ok (.iload_n 1, 1) := by decide +kernel
theorem dX10_as_2 : decode cX10_as 2 = .ok (.bipush 7, 2) := by decide +kernel
theorem dX10_as_4 : decode cX10_as 4 = .ok (.invokevirtual 100, 3) := by decide +kernel
theorem dX10_as_7 : decode cX10_as 7 = .ok (.ifCond .eq 13, 3) := by decide +kernel
theorem dX10_as_10 : decode cX10_as 10 = .ok (.iload_n 2, 1) := by decide +kernel
theorem dX10_as_11 : decode cX10_as 11 = .ok (.iconst 0, 1) := by decide +kernel
theorem dX10_as_12 : decode cX10_as 12 = .ok (.bipush 6, 2) := by decide +kernel
theorem dX10_as_14 : decode cX10_as 14 = .ok (.invokestatic 72, 3) := by decide +kernel
theorem dX10_as_17 : decode cX10_as 17 = .ok (.ifCond .ne 10, 3) := by decide +kernel
theorem dX10_as_20 : decode cX10_as 20 = .ok (.aload_n 0, 1) := by decide +kernel
theorem dX10_as_21 : decode cX10_as 21 = .ok (.ldc 83, 2) := by decide +kernel
theorem dX10_as_23 : decode cX10_as 23 = .ok (.invokevirtual 84, 3) := by decide +kernel
theorem dX10_as_26 : decode cX10_as 26 = .ok (.ireturn, 1) := by decide +kernel
theorem dX10_as_27 : decode cX10_as 27 = .ok (.aload_n 0, 1) := by decide +kernel
theorem dX10_as_28 : decode cX10_as 28 = .ok (.iload_n 1, 1) := by decide +kernel
theorem dX10_as_29 : decode cX10_as 29 = .ok (.iconst 0, 1) := by decide +kernel
theorem dX10_as_30 : decode cX10_as 30 = .ok (.invokevirtual 93, 3) := by decide +kernel
theorem dX10_as_33 : decode cX10_as 33 = .ok (.istore_n 3, 1) := by decide +kernel
theorem dX10_as_34 : decode cX10_as 34 = .ok (.iload_n 3, 1) := by decide +kernel
theorem dX10_as_35 : decode cX10_as 35 = .ok (.ifCond .lt 16, 3) := by decide +kernel
theorem dX10_as_38 : decode cX10_as 38 = .ok (.iload_n 3, 1) := by decide +kernel
theorem dX10_as_39 : decode cX10_as 39 = .ok (.iload_n 2, 1) := by decide +kernel
theorem dX10_as_40 : decode cX10_as 40 = .ok (.if_icmp .eq 11, 3) := by decide +kernel
theorem dX10_as_43 : decode cX10_as 43 = .ok (.iload_n 3, 1) := by decide +kernel
theorem dX10_as_44 : decode cX10_as 44 = .ok (.invokestatic 107, 3) := by decide +kernel
theorem dX10_as_47 : decode cX10_as 47 = .ok (.istore_n 3, 1) := by decide +kernel
theorem dX10_as_48 : decode cX10_as 48 = .ok (.goto (-14), 3) := by decide +kernel
theorem dX10_as_51 : decode cX10_as 51 = .ok (.iload_n 3, 1) := by decide +kernel
theorem dX10_as_52 : decode cX10_as 52 = .ok (.ifCond .ge 12, 3) := by decide +kernel
theorem dX10_as_55 : decode cX10_as 55 = .ok (.aload_n 0, 1) := by decide +kernel
theorem dX10_as_56 : decode cX10_as 56 = .ok (.ldc 110, 2) := by decide +kernel
theorem dX10_as_58 : decode cX10_as 58 = .ok (.invokevirtual 84, 3) := by decide +kernel
theorem dX10_as_61 : decode cX10_as 61 = .ok (.goto 9, 3) := by decide +kernel
theorem dX10_as_64 : decode cX10_as 64 = .ok (.aload_n 0, 1) := by decide +kernel
theorem dX10_as_65 : decode cX10_as 65 = .ok (.iload_n 1, 1) := by decide +kernel
theorem dX10_as_66 : decode cX10_as 66 = .ok (.iconst 1, 1) := by decide +kernel
theorem dX10_as_67 : decode cX10_as 67 = .ok (.invokevirtual 93, 3) := by decide +kernel
theorem dX10_as_70 : decode cX10_as 70 = .ok (.ireturn, 1) := by decide +kernel
theorem dX10_far_0 : decode cX10_far 0 = .ok (.iload_n 0, 1) := by decide +kernel
theorem dX10_far_1 : decode cX10_far 1 = .ok (.bipush 8, 2) := by decide +kernel
theorem dX10_far_3 : decode cX10_far 3 = .ok (.idiv, 1) := by decide +kernel
theorem dX10_far_4 : decode cX10_far 4 = .ok (.iload_n 1, 1) := by decide +kernel
theorem dX10_far_5 : decode cX10_far 5 = .ok (.bipush 8, 2) := by decide +kernel
theorem dX10_far_7 : decode cX10_far 7 = .ok (.idiv, 1) := by decide +kernel
theorem dX10_far_8 : decode cX10_far 8 = .ok (.isub, 1) := by decide +kernel
theorem dX10_far_9 : decode cX10_far 9 = .ok (.invokestatic 111, 3) := by decide +kernel
theorem dX10_far_12 : decode cX10_far 12 = .ok (.iload_n 0, 1) := by decide +kernel
theorem dX10_far_13 : decode cX10_far 13 = .ok (.bipush 8, 2) := by decide +kernel
theorem dX10_far_15 : decode cX10_far 15 = .ok (.irem, 1) := by decide +kernel
theorem dX10_far_16 : decode cX10_far 16 = .ok (.iload_n 1, 1) := by decide +kernel
theorem dX10_far_17 : decode cX10_far 17 = .ok (.bipush 8, 2) := by decide +kernel
theorem dX10_far_19 : decode cX10_far 19 = .ok (.irem, 1) := by decide +kernel
theorem dX10_far_20 : decode cX10_far 20 = .ok (.isub, 1) := by decide +kernel
theorem dX10_far_21 : decode cX10_far 21 = .ok (.invokestatic 111, 3) := by decide +kernel
theorem dX10_far_24 : decode cX10_far 24 = .ok (.invokestatic 69, 3) := by decide +kernel
theorem dX10_far_27 : decode cX10_far 27 = .ok (.ireturn, 1) := by decide +kernel
theorem dX10_forgetLags_0 : decode cX10_forgetLags 0 = .ok (.iconst 0, 1) := by decide +kernel
theorem dX10_forgetLags_1 : decode cX10_forgetLags 1 = .ok (.istore_n 1, 1) := by decide +kernel
theorem dX10_forgetLags_2 : decode cX10_forgetLags 2 = .ok (.iload_n 1, 1) := by decide +kernel
theorem dX10_forgetLags_3 : decode cX10_forgetLags 3 = .ok (.aload_n 0, 1) := by decide +kernel
theorem dX10_forgetLags_4 : decode cX10_forgetLags 4 = .ok (.getfield 22, 3) := by decide +kernel
theorem dX10_forgetLags_7 : decode cX10_forgetLags 7 = .ok (.arraylength, 1) := by decide +kernel
theorem dX10_forgetLags_8 : decode cX10_forgetLags 8 = .ok (.if_icmp .ge 16, 3) := by decide +kernel
theorem dX10_forgetLags_11 : decode cX10_forgetLags 11 = .ok (.aload_n 0, 1) := by decide +kernel
theorem dX10_forgetLags_12 : decode cX10_forgetLags 12 = .ok (.getfield 22, 3) := by decide +kernel
theorem dX10_forgetLags_15 : decode cX10_forgetLags 15 = .ok (.iload_n 1, 1) := by decide +kernel
theorem dX10_forgetLags_16 : decode cX10_forgetLags 16 = .ok (.iconst 0, 1) := by decide +kernel
theorem dX10_forgetLags_17 : decode cX10_forgetLags 17 = .ok (.iastore, 1) := by decide +kernel
theorem dX10_forgetLags_18 : decode cX10_forgetLags 18 = .ok (.iinc 1 1, 3) := by decide +kernel
theorem dX10_forgetLags_21 : decode cX10_forgetLags 21 = .ok (.goto (-19), 3) := by decide +kernel
theorem dX10_forgetLags_24 : decode cX10_forgetLags 24 = .ok (.return_, 1) := by decide +kernel
theorem dX10_lags_0 : decode cX10_lags 0 = .ok (.iload_n 1, 1) := by decide +kernel
theorem dX10_lags_1 : decode cX10_lags 1 = .ok (.iload_n 2, 1) := by decide +kernel
theorem dX10_lags_2 : decode cX10_lags 2 = .ok (.invokestatic 114, 3) := by decide +kernel
theorem dX10_lags_5 : decode cX10_lags 5 = .ok (.istore_n 3, 1) := by decide +kernel
theorem dX10_lags_6 : decode cX10_lags 6 = .ok (.bipush 8, 2) := by decide +kernel
theorem dX10_lags_8 : decode cX10_lags 8 = .ok (.aload_n 0, 1) := by decide +kernel
theorem dX10_lags_9 : decode cX10_lags 9 = .ok (.getfield 9, 3) := by decide +kernel
theorem dX10_lags_12 : decode cX10_lags 12 = .ok (.iconst 1, 1) := by decide +kernel
theorem dX10_lags_13 : decode cX10_lags 13 = .ok (.iaload, 1) := by decide +kernel
theorem dX10_lags_14 : decode cX10_lags 14 = .ok (.imul, 1) := by decide +kernel
theorem dX10_lags_15 : decode cX10_lags 15 = .ok (.iload_n 3, 1) := by decide +kernel
theorem dX10_lags_16 : decode cX10_lags 16 = .ok (.iadd, 1) := by decide +kernel
theorem dX10_lags_17 : decode cX10_lags 17 = .ok (.bipush 32, 2) := by decide +kernel
theorem dX10_lags_19 : decode cX10_lags 19 = .ok (.imul, 1) := by decide +kernel
theorem dX10_lags_20 : decode cX10_lags 20 = .ok (.aload_n 0, 1) := by decide +kernel
theorem dX10_lags_21 : decode cX10_lags 21 = .ok (.invokevirtual 96, 3) := by decide +kernel
theorem dX10_lags_24 : decode cX10_lags 24 = .ok (.iadd, 1) := by decide +kernel
theorem dX10_lags_25 : decode cX10_lags 25 = .ok (.istore 4, 2) := by decide +kernel
theorem dX10_lags_27 : decode cX10_lags 27 = .ok (.aload_n 0, 1) := by decide +kernel
theorem dX10_lags_28 : decode cX10_lags 28 = .ok (.getfield 22, 3) := by decide +kernel
theorem dX10_lags_31 : decode cX10_lags 31 = .ok (.iload 4, 2) := by decide +kernel
theorem dX10_lags_33 : decode cX10_lags 33 = .ok (.iaload, 1) := by decide +kernel
theorem dX10_lags_34 : decode cX10_lags 34 = .ok (.ifCond .ne 28, 3) := by decide +kernel
theorem dX10_lags_37 : decode cX10_lags 37 = .ok (.aload_n 0, 1) := by decide +kernel
theorem dX10_lags_38 : decode cX10_lags 38 = .ok (.getfield 22, 3) := by decide +kernel
theorem dX10_lags_41 : decode cX10_lags 41 = .ok (.iload 4, 2) := by decide +kernel
theorem dX10_lags_43 : decode cX10_lags 43 = .ok (.iconst 1, 1) := by decide +kernel
theorem dX10_lags_44 : decode cX10_lags 44 = .ok (.aload_n 0, 1) := by decide +kernel
theorem dX10_lags_45 : decode cX10_lags 45 = .ok (.iconst 0, 1) := by decide +kernel
theorem dX10_lags_46 : decode cX10_lags 46 = .ok (.iload_n 3, 1) := by decide +kernel
theorem dX10_lags_47 : decode cX10_lags 47 = .ok (.aload_n 0, 1) := by decide +kernel
theorem dX10_lags_48 : decode cX10_lags 48 = .ok (.getfield 9, 3) := by decide +kernel
theorem dX10_lags_51 : decode cX10_lags 51 = .ok (.iconst 1, 1) := by decide +kernel
theorem dX10_lags_52 : decode cX10_lags 52 = .ok (.iaload, 1) := by decide +kernel
theorem dX10_lags_53 : decode cX10_lags 53 = .ok (.aload_n 0, 1) := by decide +kernel
theorem dX10_lags_54 : decode cX10_lags 54 = .ok (.invokevirtual 96, 3) := by decide +kernel
theorem dX10_lags_57 : decode cX10_lags 57 = .ok (.invokevirtual 117, 3) := by decide +kernel
theorem dX10_lags_60 : decode cX10_lags 60 = .ok (.iadd, 1) := by decide +kernel
theorem dX10_lags_61 : decode cX10_lags 61 = .ok (.iastore, 1) := by decide +kernel
theorem dX10_lags_62 : decode cX10_lags 62 = .ok (.aload_n 0, 1) := by decide +kernel
theorem dX10_lags_63 : decode cX10_lags 63 = .ok (.getfield 22, 3) := by decide +kernel
theorem dX10_lags_66 : decode cX10_lags 66 = .ok (.iload 4, 2) := by decide +kernel
theorem dX10_lags_68 : decode cX10_lags 68 = .ok (.iaload, 1) := by decide +kernel
theorem dX10_lags_69 : decode cX10_lags 69 = .ok (.iconst 1, 1) := by decide +kernel
theorem dX10_lags_70 : decode cX10_lags 70 = .ok (.isub, 1) := by decide +kernel
theorem dX10_lags_71 : decode cX10_lags 71 = .ok (.ireturn, 1) := by decide +kernel
theorem dX10_comes_0 : decode cX10_comes 0 = .ok (.aload_n 0, 1) := by decide +kernel
theorem dX10_comes_1 : decode cX10_comes 1 = .ok (.iload_n 1, 1) := by decide +kernel
theorem dX10_comes_2 : decode cX10_comes 2 = .ok (.iconst 0, 1) := by decide +kernel
theorem dX10_comes_3 : decode cX10_comes 3 = .ok (.invokevirtual 93, 3) := by decide +kernel
theorem dX10_comes_6 : decode cX10_comes 6 = .ok (.istore_n 3, 1) := by decide +kernel
theorem dX10_comes_7 : decode cX10_comes 7 = .ok (.aload_n 0, 1) := by decide +kernel
theorem dX10_comes_8 : decode cX10_comes 8 = .ok (.aload_n 0, 1) := by decide +kernel
theorem dX10_comes_9 : decode cX10_comes 9 = .ok (.iload_n 1, 1) := by decide +kernel
theorem dX10_comes_10 : decode cX10_comes 10 = .ok (.iconst 2, 1) := by decide +kernel
theorem dX10_comes_11 : decode cX10_comes 11 = .ok (.invokevirtual 93, 3) := by decide +kernel
theorem dX10_comes_14 : decode cX10_comes 14 = .ok (.iload_n 2, 1) := by decide +kernel
theorem dX10_comes_15 : decode cX10_comes 15 = .ok (.invokevirtual 121, 3) := by decide +kernel
theorem dX10_comes_18 : decode cX10_comes 18 = .ok (.iload_n 3, 1) := by decide +kernel
theorem dX10_comes_19 : decode cX10_comes 19 = .ok (.iconst 5, 1) := by decide +kernel
theorem dX10_comes_20 : decode cX10_comes 20 = .ok (.if_icmp .ne 14, 3) := by decide +kernel
theorem dX10_comes_23 : decode cX10_comes 23 = .ok (.aload_n 0, 1) := by decide +kernel
theorem dX10_comes_24 : decode cX10_comes 24 = .ok (.iload_n 1, 1) := by decide +kernel
theorem dX10_comes_25 : decode cX10_comes 25 = .ok (.iconst 1, 1) := by decide +kernel
theorem dX10_comes_26 : decode cX10_comes 26 = .ok (.invokevirtual 93, 3) := by decide +kernel
theorem dX10_comes_29 : decode cX10_comes 29 = .ok (.iconst 3, 1) := by decide +kernel
theorem dX10_comes_30 : decode cX10_comes 30 = .ok (.idiv, 1) := by decide +kernel
theorem dX10_comes_31 : decode cX10_comes 31 = .ok (.goto 18, 3) := by decide +kernel
theorem dX10_comes_34 : decode cX10_comes 34 = .ok (.iload_n 3, 1) := by decide +kernel
theorem dX10_comes_35 : decode cX10_comes 35 = .ok (.iconst 4, 1) := by decide +kernel
theorem dX10_comes_36 : decode cX10_comes 36 = .ok (.if_icmp .ne 12, 3) := by decide +kernel
theorem dX10_comes_39 : decode cX10_comes 39 = .ok (.aload_n 0, 1) := by decide +kernel
theorem dX10_comes_40 : decode cX10_comes 40 = .ok (.iload_n 1, 1) := by decide +kernel
theorem dX10_comes_41 : decode cX10_comes 41 = .ok (.iconst 1, 1) := by decide +kernel
theorem dX10_comes_42 : decode cX10_comes 42 = .ok (.invokevirtual 93, 3) := by decide +kernel
theorem dX10_comes_45 : decode cX10_comes 45 = .ok (.goto 4, 3) := by decide +kernel
theorem dX10_comes_48 : decode cX10_comes 48 = .ok (.iconst 0, 1) := by decide +kernel
theorem dX10_comes_49 : decode cX10_comes 49 = .ok (.iadd, 1) := by decide +kernel
theorem dX10_comes_50 : decode cX10_comes 50 = .ok (.ireturn, 1) := by decide +kernel
theorem dX10_lag_0 : decode cX10_lag 0 = .ok (.aload_n 0, 1) := by decide +kernel
theorem dX10_lag_1 : decode cX10_lag 1 = .ok (.iload_n 1, 1) := by decide +kernel
theorem dX10_lag_2 : decode cX10_lag 2 = .ok (.bipush 7, 2) := by decide +kernel
theorem dX10_lag_4 : decode cX10_lag 4 = .ok (.invokevirtual 100, 3) := by decide +kernel
theorem dX10_lag_7 : decode cX10_lag 7 = .ok (.ifCond .eq 19, 3) := by decide +kernel
theorem dX10_lag_10 : decode cX10_lag 10 = .ok (.iload_n 2, 1) := by decide +kernel
theorem dX10_lag_11 : decode cX10_lag 11 = .ok (.invokestatic 88, 3) := by decide +kernel
theorem dX10_lag_14 : decode cX10_lag 14 = .ok (.ifCond .eq 12, 3) := by decide +kernel
theorem dX10_lag_17 : decode cX10_lag 17 = .ok (.aload_n 0, 1) := by decide +kernel
theorem dX10_lag_18 : decode cX10_lag 18 = .ok (.iload_n 1, 1) := by decide +kernel
theorem dX10_lag_19 : decode cX10_lag 19 = .ok (.iload_n 2, 1) := by decide +kernel
theorem dX10_lag_20 : decode cX10_lag 20 = .ok (.invokevirtual 124, 3) := by decide +kernel
theorem dX10_lag_23 : decode cX10_lag 23 = .ok (.goto 9, 3) := by decide +kernel
theorem dX10_lag_26 : decode cX10_lag 26 = .ok (.aload_n 0, 1) := by decide +kernel
theorem dX10_lag_27 : decode cX10_lag 27 = .ok (.ldc 83, 2) := by decide +kernel
theorem dX10_lag_29 : decode cX10_lag 29 = .ok (.invokevirtual 84, 3) := by decide +kernel
theorem dX10_lag_32 : decode cX10_lag 32 = .ok (.ireturn, 1) := by decide +kernel
theorem dX10_listener_0 : decode cX10_listener 0 = .ok (.iload_n 1, 1) := by decide +kernel
theorem dX10_listener_1 : decode cX10_listener 1 = .ok (.invokestatic 88, 3) := by decide +kernel
theorem dX10_listener_4 : decode cX10_listener 4 = .ok (.ifCond .ne 10, 3) := by decide +kernel
theorem dX10_listener_7 : decode cX10_listener 7 = .ok (.aload_n 0, 1) := by decide +kernel
theorem dX10_listener_8 : decode cX10_listener 8 = .ok (.ldc 83, 2) := by decide +kernel
theorem dX10_listener_10 : decode cX10_listener 10 = .ok (.invokevirtual 84, 3) := by decide +kernel
theorem dX10_listener_13 : decode cX10_listener 13 = .ok (.ireturn, 1) := by decide +kernel
theorem dX10_listener_14 : decode cX10_listener 14 = .ok (.aload_n 0, 1) := by decide +kernel
theorem dX10_listener_15 : decode cX10_listener 15 = .ok (.getfield 9, 3) := by decide +kernel
theorem dX10_listener_18 : decode cX10_listener 18 = .ok (.bipush 8, 2) := by decide +kernel
theorem dX10_listener_20 : decode cX10_listener 20 = .ok (.iaload, 1) := by decide +kernel
theorem dX10_listener_21 : decode cX10_listener 21 = .ok (.istore_n 2, 1) := by decide +kernel
theorem dX10_listener_22 : decode cX10_listener 22 = .ok (.iload_n 2, 1) := by decide +kernel
theorem dX10_listener_23 : decode cX10_listener 23 = .ok (.bipush 6, 2) := by decide +kernel
theorem dX10_listener_25 : decode cX10_listener 25 = .ok (.if_icmp .ne 10, 3) := by decide +kernel
theorem dX10_listener_28 : decode cX10_listener 28 = .ok (.aload_n 0, 1) := by decide +kernel
theorem dX10_listener_29 : decode cX10_listener 29 = .ok (.ldc 92, 2) := by decide +kernel
theorem dX10_listener_31 : decode cX10_listener 31 = .ok (.invokevirtual 84, 3) := by decide +kernel
theorem dX10_listener_34 : decode cX10_listener 34 = .ok (.ireturn, 1) := by decide +kernel
theorem dX10_listener_35 : decode cX10_listener 35 = .ok (.aload_n 0, 1) := by decide +kernel
theorem dX10_listener_36 : decode cX10_listener 36 = .ok (.getfield 9, 3) := by decide +kernel
theorem dX10_listener_39 : decode cX10_listener 39 = .ok (.bipush 48, 2) := by decide +kernel
theorem dX10_listener_41 : decode cX10_listener 41 = .ok (.iconst 3, 1) := by decide +kernel
theorem dX10_listener_42 : decode cX10_listener 42 = .ok (.iload_n 2, 1) := by decide +kernel
theorem dX10_listener_43 : decode cX10_listener 43 = .ok (.imul, 1) := by decide +kernel
theorem dX10_listener_44 : decode cX10_listener 44 = .ok (.iadd, 1) := by decide +kernel
theorem dX10_listener_45 : decode cX10_listener 45 = .ok (.iconst 0, 1) := by decide +kernel
theorem dX10_listener_46 : decode cX10_listener 46 = .ok (.iadd, 1) := by decide +kernel
theorem dX10_listener_47 : decode cX10_listener 47 = .ok (.iload_n 1, 1) := by decide +kernel
theorem dX10_listener_48 : decode cX10_listener 48 = .ok (.iastore, 1) := by decide +kernel
theorem dX10_listener_49 : decode cX10_listener 49 = .ok (.aload_n 0, 1) := by decide +kernel
theorem dX10_listener_50 : decode cX10_listener 50 = .ok (.getfield 9, 3) := by decide +kernel
theorem dX10_listener_53 : decode cX10_listener 53 = .ok (.bipush 48, 2) := by decide +kernel
theorem dX10_listener_55 : decode cX10_listener 55 = .ok (.iconst 3, 1) := by decide +kernel
theorem dX10_listener_56 : decode cX10_listener 56 = .ok (.iload_n 2, 1) := by decide +kernel
theorem dX10_listener_57 : decode cX10_listener 57 = .ok (.imul, 1) := by decide +kernel
theorem dX10_listener_58 : decode cX10_listener 58 = .ok (.iadd, 1) := by decide +kernel
theorem dX10_listener_59 : decode cX10_listener 59 = .ok (.iconst 1, 1) := by decide +kernel
theorem dX10_listener_60 : decode cX10_listener 60 = .ok (.iadd, 1) := by decide +kernel
theorem dX10_listener_61 : decode cX10_listener 61 = .ok (.iconst 0, 1) := by decide +kernel
theorem dX10_listener_62 : decode cX10_listener 62 = .ok (.iastore, 1) := by decide +kernel
theorem dX10_listener_63 : decode cX10_listener 63 = .ok (.aload_n 0, 1) := by decide +kernel
theorem dX10_listener_64 : decode cX10_listener 64 = .ok (.getfield 9, 3) := by decide +kernel
theorem dX10_listener_67 : decode cX10_listener 67 = .ok (.bipush 48, 2) := by decide +kernel
theorem dX10_listener_69 : decode cX10_listener 69 = .ok (.iconst 3, 1) := by decide +kernel
theorem dX10_listener_70 : decode cX10_listener 70 = .ok (.iload_n 2, 1) := by decide +kernel
theorem dX10_listener_71 : decode cX10_listener 71 = .ok (.imul, 1) := by decide +kernel
theorem dX10_listener_72 : decode cX10_listener 72 = .ok (.iadd, 1) := by decide +kernel
theorem dX10_listener_73 : decode cX10_listener 73 = .ok (.iconst 2, 1) := by decide +kernel
theorem dX10_listener_74 : decode cX10_listener 74 = .ok (.iadd, 1) := by decide +kernel
theorem dX10_listener_75 : decode cX10_listener 75 = .ok (.bipush 50, 2) := by decide +kernel
theorem dX10_listener_77 : decode cX10_listener 77 = .ok (.iastore, 1) := by decide +kernel
theorem dX10_listener_78 : decode cX10_listener 78 = .ok (.aload_n 0, 1) := by decide +kernel
theorem dX10_listener_79 : decode cX10_listener 79 = .ok (.getfield 9, 3) := by decide +kernel
theorem dX10_listener_82 : decode cX10_listener 82 = .ok (.bipush 8, 2) := by decide +kernel
theorem dX10_listener_84 : decode cX10_listener 84 = .ok (.dup2, 1) := by decide +kernel
theorem dX10_listener_85 : decode cX10_listener 85 = .ok (.iaload, 1) := by decide +kernel
theorem dX10_listener_86 : decode cX10_listener 86 = .ok (.iconst 1, 1) := by decide +kernel
theorem dX10_listener_87 : decode cX10_listener 87 = .ok (.iadd, 1) := by decide +kernel
theorem dX10_listener_88 : decode cX10_listener 88 = .ok (.iastore, 1) := by decide +kernel
theorem dX10_listener_89 : decode cX10_listener 89 = .ok (.iload_n 2, 1) := by decide +kernel
theorem dX10_listener_90 : decode cX10_listener 90 = .ok (.ireturn, 1) := by decide +kernel
theorem dX10_singers_0 : decode cX10_singers 0 = .ok (.iconst 0, 1) := by decide +kernel
theorem dX10_singers_1 : decode cX10_singers 1 = .ok (.istore_n 1, 1) := by decide +kernel
theorem dX10_singers_2 : decode cX10_singers 2 = .ok (.iconst 0, 1) := by decide +kernel
theorem dX10_singers_3 : decode cX10_singers 3 = .ok (.istore_n 2, 1) := by decide +kernel
theorem dX10_singers_4 : decode cX10_singers 4 = .ok (.iload_n 2, 1) := by decide +kernel
theorem dX10_singers_5 : decode cX10_singers 5 = .ok (.aload_n 0, 1) := by decide +kernel
theorem dX10_singers_6 : decode cX10_singers 6 = .ok (.getfield 9, 3) := by decide +kernel
theorem dX10_singers_9 : decode cX10_singers 9 = .ok (.bipush 7, 2) := by decide +kernel
theorem dX10_singers_11 : decode cX10_singers 11 = .ok (.iaload, 1) := by decide +kernel
theorem dX10_singers_12 : decode cX10_singers 12 = .ok (.if_icmp .ge 27, 3) := by decide +kernel
theorem dX10_singers_15 : decode cX10_singers 15 = .ok (.iload_n 1, 1) := by decide +kernel
theorem dX10_singers_16 : decode cX10_singers 16 = .ok (.aload_n 0, 1) := by decide +kernel
theorem dX10_singers_17 : decode cX10_singers 17 = .ok (.iload_n 2, 1) := by decide +kernel
theorem dX10_singers_18 : decode cX10_singers 18 = .ok (.invokevirtual 104, 3) := by decide +kernel
theorem dX10_singers_21 : decode cX10_singers 21 = .ok (.ifCond .eq 9, 3) := by decide +kernel
theorem dX10_singers_24 : decode cX10_singers 24 = .ok (.iconst 1, 1) := by decide +kernel
theorem dX10_singers_25 : decode cX10_singers 25 = .ok (.iload_n 2, 1) := by decide +kernel
theorem dX10_singers_26 : decode cX10_singers 26 = .ok (.ishl, 1) := by decide +kernel
theorem dX10_singers_27 : decode cX10_singers 27 = .ok (.goto 4, 3) := by decide +kernel
theorem dX10_singers_30 : decode cX10_singers 30 = .ok (.iconst 0, 1) := by decide +kernel
theorem dX10_singers_31 : decode cX10_singers 31 = .ok (.ior, 1) := by decide +kernel
theorem dX10_singers_32 : decode cX10_singers 32 = .ok (.istore_n 1, 1) := by decide +kernel
theorem dX10_singers_33 : decode cX10_singers 33 = .ok (.iinc 2 1, 3) := by decide +kernel
theorem dX10_singers_36 : decode cX10_singers 36 = .ok (.goto (-32), 3) := by decide +kernel
theorem dX10_singers_39 : decode cX10_singers 39 = .ok (.iload_n 1, 1) := by decide +kernel
theorem dX10_singers_40 : decode cX10_singers 40 = .ok (.ireturn, 1) := by decide +kernel
theorem dX10_bits_0 : decode cX10_bits 0 = .ok (.iconst 0, 1) := by decide +kernel
theorem dX10_bits_1 : decode cX10_bits 1 = .ok (.istore_n 1, 1) := by decide +kernel
theorem dX10_bits_2 : decode cX10_bits 2 = .ok (.iload_n 0, 1) := by decide +kernel
theorem dX10_bits_3 : decode cX10_bits 3 = .ok (.istore_n 2, 1) := by decide +kernel
theorem dX10_bits_4 : decode cX10_bits 4 = .ok (.iload_n 2, 1) := by decide +kernel
theorem dX10_bits_5 : decode cX10_bits 5 = .ok (.ifCond .eq 15, 3) := by decide +kernel
theorem dX10_bits_8 : decode cX10_bits 8 = .ok (.iinc 1 1, 3) := by decide +kernel
theorem dX10_bits_11 : decode cX10_bits 11 = .ok (.iload_n 2, 1) := by decide +kernel
theorem dX10_bits_12 : decode cX10_bits 12 = .ok (.iload_n 2, 1) := by decide +kernel
theorem dX10_bits_13 : decode cX10_bits 13 = .ok (.iconst 1, 1) := by decide +kernel
theorem dX10_bits_14 : decode cX10_bits 14 = .ok (.isub, 1) := by decide +kernel
theorem dX10_bits_15 : decode cX10_bits 15 = .ok (.iand, 1) := by decide +kernel
theorem dX10_bits_16 : decode cX10_bits 16 = .ok (.istore_n 2, 1) := by decide +kernel
theorem dX10_bits_17 : decode cX10_bits 17 = .ok (.goto (-13), 3) := by decide +kernel
theorem dX10_bits_20 : decode cX10_bits 20 = .ok (.iload_n 1, 1) := by decide +kernel
theorem dX10_bits_21 : decode cX10_bits 21 = .ok (.ireturn, 1) := by decide +kernel
theorem dX10_isTogether_0 : decode cX10_isTogether 0 = .ok (.iconst (-1), 1) := by decide +kernel
theorem dX10_isTogether_1 : decode cX10_isTogether 1 = .ok (.istore_n 3, 1) := by decide +kernel
theorem dX10_isTogether_2 : decode cX10_isTogether 2 = .ok (.iload_n 2, 1) := by decide +kernel
theorem dX10_isTogether_3 : decode cX10_isTogether 3 = .ok (.invokestatic 127, 3) := by decide +kernel
theorem dX10_isTogether_6 : decode cX10_isTogether 6 = .ok (.iconst 1, 1) := by decide +kernel
theorem dX10_isTogether_7 : decode cX10_isTogether 7 = .ok (.if_icmp .le 7, 3) := by decide +kernel
theorem dX10_isTogether_10 : decode cX10_isTogether 10 = .ok (.iconst 1, 1) := by decide +kernel
theorem dX10_isTogether_11 : decode cX10_isTogether 11 = .ok (.goto 4, 3) := by decide +kernel
theorem dX10_isTogether_14 : decode cX10_isTogether 14 = .ok (.iconst 0, 1) := by decide +kernel
theorem dX10_isTogether_15 : decode cX10_isTogether 15 = .ok (.istore 4, 2) := by decide +kernel
theorem dX10_isTogether_17 : decode cX10_isTogether 17 = .ok (.iconst 0, 1) := by decide +kernel
theorem dX10_isTogether_18 : decode cX10_isTogether 18 = .ok (.istore 5, 2) := by decide +kernel
theorem dX10_isTogether_20 : decode cX10_isTogether 20 = .ok (.iload 5, 2) := by decide +kernel
theorem dX10_isTogether_22 : decode cX10_isTogether 22 = .ok (.aload_n 0, 1) := by decide +kernel
theorem dX10_isTogether_23 : decode cX10_isTogether 23 = .ok (.getfield 9, 3) := by decide +kernel
theorem dX10_isTogether_26 : decode cX10_isTogether 26 = .ok (.bipush 7, 2) := by decide +kernel
theorem dX10_isTogether_28 : decode cX10_isTogether 28 = .ok (.iaload, 1) := by decide +kernel
theorem dX10_isTogether_29 : decode cX10_isTogether 29 = .ok (.if_icmp .ge 53, 3) := by decide +kernel
theorem dX10_isTogether_32 : decode cX10_isTogether 32 = .ok (.iload 4, 2) := by decide +kernel
theorem dX10_isTogether_34 : decode cX10_isTogether 34 = .ok (.ifCond .eq 48, 3) := by decide +kernel
theorem dX10_isTogether_37 : decode cX10_isTogether 37 = .ok (.iload_n 2, 1) := by decide +kernel
theorem dX10_isTogether_38 : decode cX10_isTogether 38 = .ok (.iload 5, 2) := by decide +kernel
theorem dX10_isTogether_40 : decode cX10_isTogether 40 = .ok (.ishr, 1) := by decide +kernel
theorem dX10_isTogether_41 : decode cX10_isTogether 41 = .ok (.iconst 1, 1) := by decide +kernel
theorem dX10_isTogether_42 : decode cX10_isTogether 42 = .ok (.iand, 1) := by decide +kernel
theorem dX10_isTogether_43 : decode cX10_isTogether 43 = .ok (.iconst 1, 1) := by decide +kernel
theorem dX10_isTogether_44 : decode cX10_isTogether 44 = .ok (.if_icmp .ne 32, 3) := by decide +kernel
theorem dX10_isTogether_47 : decode cX10_isTogether 47 = .ok (.aload_n 0, 1) := by decide +kernel
theorem dX10_isTogether_48 : decode cX10_isTogether 48 = .ok (.iload 5, 2) := by decide +kernel
theorem dX10_isTogether_50 : decode cX10_isTogether 50 = .ok (.iload_n 1, 1) := by decide +kernel
theorem dX10_isTogether_51 : decode cX10_isTogether 51 = .ok (.invokevirtual 124, 3) := by decide +kernel
theorem dX10_isTogether_54 : decode cX10_isTogether 54 = .ok (.istore 6, 2) := by decide +kernel
theorem dX10_isTogether_56 : decode cX10_isTogether 56 = .ok (.iload_n 3, 1) := by decide +kernel
theorem dX10_isTogether_57 : decode cX10_isTogether 57 = .ok (.ifCond .lt 9, 3) := by decide +kernel
theorem dX10_isTogether_60 : decode cX10_isTogether 60 = .ok (.iload_n 3, 1) := by decide +kernel
theorem dX10_isTogether_61 : decode cX10_isTogether 61 = .ok (.iload 6, 2) := by decide +kernel
theorem dX10_isTogether_63 : decode cX10_isTogether 63 = .ok (.if_icmp .ne 7, 3) := by decide +kernel
theorem dX10_isTogether_66 : decode cX10_isTogether 66 = .ok (.iconst 1, 1) := by decide +kernel
theorem dX10_isTogether_67 : decode cX10_isTogether 67 = .ok (.goto 4, 3) := by decide +kernel
theorem dX10_isTogether_70 : decode cX10_isTogether 70 = .ok (.iconst 0, 1) := by decide +kernel
theorem dX10_isTogether_71 : decode cX10_isTogether 71 = .ok (.istore 4, 2) := by decide +kernel
theorem dX10_isTogether_73 : decode cX10_isTogether 73 = .ok (.iload 6, 2) := by decide +kernel
theorem dX10_isTogether_75 : decode cX10_isTogether 75 = .ok (.istore_n 3, 1) := by decide +kernel
theorem dX10_isTogether_76 : decode cX10_isTogether 76 = .ok (.iinc 5 1, 3) := by decide +kernel
theorem dX10_isTogether_79 : decode cX10_isTogether 79 = .ok (.goto (-59), 3) := by decide +kernel
theorem dX10_isTogether_82 : decode cX10_isTogether 82 = .ok (.iload 4, 2) := by decide +kernel
theorem dX10_isTogether_84 : decode cX10_isTogether 84 = .ok (.ireturn, 1) := by decide +kernel
theorem dX10_ofOne_0 : decode cX10_ofOne 0 = .ok (.iload_n 2, 1) := by decide +kernel
theorem dX10_ofOne_1 : decode cX10_ofOne 1 = .ok (.iconst 3, 1) := by decide +kernel
theorem dX10_ofOne_2 : decode cX10_ofOne 2 = .ok (.if_icmp .ne 28, 3) := by decide +kernel
theorem dX10_ofOne_5 : decode cX10_ofOne 5 = .ok (.aload_n 0, 1) := by decide +kernel
theorem dX10_ofOne_6 : decode cX10_ofOne 6 = .ok (.aload_n 0, 1) := by decide +kernel
theorem dX10_ofOne_7 : decode cX10_ofOne 7 = .ok (.iload_n 1, 1) := by decide +kernel
theorem dX10_ofOne_8 : decode cX10_ofOne 8 = .ok (.iconst 0, 1) := by decide +kernel
theorem dX10_ofOne_9 : decode cX10_ofOne 9 = .ok (.invokevirtual 130, 3) := by decide +kernel
theorem dX10_ofOne_12 : decode cX10_ofOne 12 = .ok (.aload_n 0, 1) := by decide +kernel
theorem dX10_ofOne_13 : decode cX10_ofOne 13 = .ok (.invokevirtual 133, 3) := by decide +kernel
theorem dX10_ofOne_16 : decode cX10_ofOne 16 = .ok (.invokevirtual 136, 3) := by decide +kernel
theorem dX10_ofOne_19 : decode cX10_ofOne 19 = .ok (.ifCond .eq 7, 3) := by decide +kernel
theorem dX10_ofOne_22 : decode cX10_ofOne 22 = .ok (.iconst 1, 1) := by decide +kernel
theorem dX10_ofOne_23 : decode cX10_ofOne 23 = .ok (.goto 13, 3) := by decide +kernel
theorem dX10_ofOne_26 : decode cX10_ofOne 26 = .ok (.iconst 0, 1) := by decide +kernel
theorem dX10_ofOne_27 : decode cX10_ofOne 27 = .ok (.goto 9, 3) := by decide +kernel
theorem dX10_ofOne_30 : decode cX10_ofOne 30 = .ok (.aload_n 0, 1) := by decide +kernel
theorem dX10_ofOne_31 : decode cX10_ofOne 31 = .ok (.iload_n 1, 1) := by decide +kernel
theorem dX10_ofOne_32 : decode cX10_ofOne 32 = .ok (.iload_n 2, 1) := by decide +kernel
theorem dX10_ofOne_33 : decode cX10_ofOne 33 = .ok (.invokevirtual 130, 3) := by decide +kernel
theorem dX10_ofOne_36 : decode cX10_ofOne 36 = .ok (.ireturn, 1) := by decide +kernel
theorem dX10_ofListener_0 : decode cX10_ofListener 0 = .ok (.aload_n 0, 1) := by decide +kernel
theorem dX10_ofListener_1 : decode cX10_ofListener 1 = .ok (.iload_n 1, 1) := by decide +kernel
theorem dX10_ofListener_2 : decode cX10_ofListener 2 = .ok (.bipush 8, 2) := by decide +kernel
theorem dX10_ofListener_4 : decode cX10_ofListener 4 = .ok (.invokevirtual 100, 3) := by decide +kernel
theorem dX10_ofListener_7 : decode cX10_ofListener 7 = .ok (.ifCond .eq 21, 3) := by decide +kernel
theorem dX10_ofListener_10 : decode cX10_ofListener 10 = .ok (.iload_n 2, 1) := by decide +kernel
theorem dX10_ofListener_11 : decode cX10_ofListener 11 = .ok (.iconst 0, 1) := by decide +kernel
theorem dX10_ofListener_12 : decode cX10_ofListener 12 = .ok (.iconst 3, 1) := by decide +kernel
theorem dX10_ofListener_13 : decode cX10_ofListener 13 = .ok (.invokestatic 72, 3) := by decide +kernel
theorem dX10_ofListener_16 : decode cX10_ofListener 16 = .ok (.ifCond .eq 12, 3) := by decide +kernel
theorem dX10_ofListener_19 : decode cX10_ofListener 19 = .ok (.aload_n 0, 1) := by decide +kernel
theorem dX10_ofListener_20 : decode cX10_ofListener 20 = .ok (.iload_n 1, 1) := by decide +kernel
theorem dX10_ofListener_21 : decode cX10_ofListener 21 = .ok (.iload_n 2, 1) := by decide +kernel
theorem dX10_ofListener_22 : decode cX10_ofListener 22 = .ok (.invokevirtual 139, 3) := by decide +kernel
theorem dX10_ofListener_25 : decode cX10_ofListener 25 = .ok (.goto 9, 3) := by decide +kernel
theorem dX10_ofListener_28 : decode cX10_ofListener 28 = .ok (.aload_n 0, 1) := by decide +kernel
theorem dX10_ofListener_29 : decode cX10_ofListener 29 = .ok (.ldc 83, 2) := by decide +kernel
theorem dX10_ofListener_31 : decode cX10_ofListener 31 = .ok (.invokevirtual 84, 3) := by decide +kernel
theorem dX10_ofListener_34 : decode cX10_ofListener 34 = .ok (.ireturn, 1) := by decide +kernel
theorem dX10_row_0 : decode cX10_row 0 = .ok (.aload_n 0, 1) := by decide +kernel
theorem dX10_row_1 : decode cX10_row 1 = .ok (.iload_n 1, 1) := by decide +kernel
theorem dX10_row_2 : decode cX10_row 2 = .ok (.bipush 8, 2) := by decide +kernel
theorem dX10_row_4 : decode cX10_row 4 = .ok (.invokevirtual 100, 3) := by decide +kernel
theorem dX10_row_7 : decode cX10_row 7 = .ok (.ifCond .eq 26, 3) := by decide +kernel
theorem dX10_row_10 : decode cX10_row 10 = .ok (.iload_n 2, 1) := by decide +kernel
theorem dX10_row_11 : decode cX10_row 11 = .ok (.invokestatic 88, 3) := by decide +kernel
theorem dX10_row_14 : decode cX10_row 14 = .ok (.ifCond .eq 19, 3) := by decide +kernel
theorem dX10_row_17 : decode cX10_row 17 = .ok (.aload_n 0, 1) := by decide +kernel
theorem dX10_row_18 : decode cX10_row 18 = .ok (.bipush 48, 2) := by decide +kernel
theorem dX10_row_20 : decode cX10_row 20 = .ok (.iconst 3, 1) := by decide +kernel
theorem dX10_row_21 : decode cX10_row 21 = .ok (.iload_n 1, 1) := by decide +kernel
theorem dX10_row_22 : decode cX10_row 22 = .ok (.imul, 1) := by decide +kernel
theorem dX10_row_23 : decode cX10_row 23 = .ok (.iadd, 1) := by decide +kernel
theorem dX10_row_24 : decode cX10_row 24 = .ok (.iconst 0, 1) := by decide +kernel
theorem dX10_row_25 : decode cX10_row 25 = .ok (.iadd, 1) := by decide +kernel
theorem dX10_row_26 : decode cX10_row 26 = .ok (.iload_n 2, 1) := by decide +kernel
theorem dX10_row_27 : decode cX10_row 27 = .ok (.invokevirtual 80, 3) := by decide +kernel
theorem dX10_row_30 : decode cX10_row 30 = .ok (.goto 9, 3) := by decide +kernel
theorem dX10_row_33 : decode cX10_row 33 = .ok (.aload_n 0, 1) := by decide +kernel
theorem dX10_row_34 : decode cX10_row 34 = .ok (.ldc 83, 2) := by decide +kernel
theorem dX10_row_36 : decode cX10_row 36 = .ok (.invokevirtual 84, 3) := by decide +kernel
theorem dX10_row_39 : decode cX10_row 39 = .ok (.ireturn, 1) := by decide +kernel
theorem dX10_feed_0 : decode cX10_feed 0 = .ok (.iload_n 3, 1) := by decide +kernel
theorem dX10_feed_1 : decode cX10_feed 1 = .ok (.iconst 1, 1) := by decide +kernel
theorem dX10_feed_2 : decode cX10_feed 2 = .ok (.bipush 8, 2) := by decide +kernel
theorem dX10_feed_4 : decode cX10_feed 4 = .ok (.invokestatic 72, 3) := by decide +kernel
theorem dX10_feed_7 : decode cX10_feed 7 = .ok (.ifCond .ne 10, 3) := by decide +kernel
theorem dX10_feed_10 : decode cX10_feed 10 = .ok (.aload_n 0, 1) := by decide +kernel
theorem dX10_feed_11 : decode cX10_feed 11 = .ok (.ldc 83, 2) := by decide +kernel
theorem dX10_feed_13 : decode cX10_feed 13 = .ok (.invokevirtual 84, 3) := by decide +kernel
theorem dX10_feed_16 : decode cX10_feed 16 = .ok (.ireturn, 1) := by decide +kernel
theorem dX10_feed_17 : decode cX10_feed 17 = .ok (.aload_n 0, 1) := by decide +kernel
theorem dX10_feed_18 : decode cX10_feed 18 = .ok (.getfield 9, 3) := by decide +kernel
theorem dX10_feed_21 : decode cX10_feed 21 = .ok (.bipush 9, 2) := by decide +kernel
theorem dX10_feed_23 : decode cX10_feed 23 = .ok (.iaload, 1) := by decide +kernel
theorem dX10_feed_24 : decode cX10_feed 24 = .ok (.iload_n 3, 1) := by decide +kernel
theorem dX10_feed_25 : decode cX10_feed 25 = .ok (.iadd, 1) := by decide +kernel
theorem dX10_feed_26 : decode cX10_feed 26 = .ok (.bipush 50, 2) := by decide +kernel
theorem dX10_feed_28 : decode cX10_feed 28 = .ok (.if_icmp .le 10, 3) := by decide +kernel
theorem dX10_feed_31 : decode cX10_feed 31 = .ok (.aload_n 0, 1) := by decide +kernel
theorem dX10_feed_32 : decode cX10_feed 32 = .ok (.ldc 92, 2) := by decide +kernel
theorem dX10_feed_34 : decode cX10_feed 34 = .ok (.invokevirtual 84, 3) := by decide +kernel
theorem dX10_feed_37 : decode cX10_feed 37 = .ok (.ireturn, 1) := by decide +kernel
theorem dX10_feed_38 : decode cX10_feed 38 = .ok (.iconst 0, 1) := by decide +kernel
theorem dX10_feed_39 : decode cX10_feed 39 = .ok (.istore 4, 2) := by decide +kernel
theorem dX10_feed_41 : decode cX10_feed 41 = .ok (.iload 4, 2) := by decide +kernel
theorem dX10_feed_43 : decode cX10_feed 43 = .ok (.iload_n 3, 1) := by decide +kernel
theorem dX10_feed_44 : decode cX10_feed 44 = .ok (.if_icmp .ge 47, 3) := by decide +kernel
theorem dX10_feed_47 : decode cX10_feed 47 = .ok (.aload_n 0, 1) := by decide +kernel
theorem dX10_feed_48 : decode cX10_feed 48 = .ok (.getfield 9, 3) := by decide +kernel
theorem dX10_feed_51 : decode cX10_feed 51 = .ok (.bipush 66, 2) := by decide +kernel
theorem dX10_feed_53 : decode cX10_feed 53 = .ok (.aload_n 0, 1) := by decide +kernel
theorem dX10_feed_54 : decode cX10_feed 54 = .ok (.getfield 9, 3) := by decide +kernel
theorem dX10_feed_57 : decode cX10_feed 57 = .ok (.bipush 9, 2) := by decide +kernel
theorem dX10_feed_59 : decode cX10_feed 59 = .ok (.iaload, 1) := by decide +kernel
theorem dX10_feed_60 : decode cX10_feed 60 = .ok (.iadd, 1) := by decide +kernel
theorem dX10_feed_61 : decode cX10_feed 61 = .ok (.lload_n 1, 1) := by decide +kernel
theorem dX10_feed_62 : decode cX10_feed 62 = .ok (.bipush 8, 2) := by decide +kernel
theorem dX10_feed_64 : decode cX10_feed 64 = .ok (.iload 4, 2) := by decide +kernel
theorem dX10_feed_66 : decode cX10_feed 66 = .ok (.imul, 1) := by decide +kernel
theorem dX10_feed_67 : decode cX10_feed 67 = .ok (.lshr, 1) := by decide +kernel
theorem dX10_feed_68 : decode cX10_feed 68 = .ok (.ldc2_w 142, 3) := by decide +kernel
theorem dX10_feed_71 : decode cX10_feed 71 = .ok (.land, 1) := by decide +kernel
theorem dX10_feed_72 : decode cX10_feed 72 = .ok (.l2i, 1) := by decide +kernel
theorem dX10_feed_73 : decode cX10_feed 73 = .ok (.iastore, 1) := by decide +kernel
theorem dX10_feed_74 : decode cX10_feed 74 = .ok (.aload_n 0, 1) := by decide +kernel
theorem dX10_feed_75 : decode cX10_feed 75 = .ok (.getfield 9, 3) := by decide +kernel
theorem dX10_feed_78 : decode cX10_feed 78 = .ok (.bipush 9, 2) := by decide +kernel
theorem dX10_feed_80 : decode cX10_feed 80 = .ok (.dup2, 1) := by decide +kernel
theorem dX10_feed_81 : decode cX10_feed 81 = .ok (.iaload, 1) := by decide +kernel
theorem dX10_feed_82 : decode cX10_feed 82 = .ok (.iconst 1, 1) := by decide +kernel
theorem dX10_feed_83 : decode cX10_feed 83 = .ok (.iadd, 1) := by decide +kernel
theorem dX10_feed_84 : decode cX10_feed 84 = .ok (.iastore, 1) := by decide +kernel
theorem dX10_feed_85 : decode cX10_feed 85 = .ok (.iinc 4 1, 3) := by decide +kernel
theorem dX10_feed_88 : decode cX10_feed 88 = .ok (.goto (-47), 3) := by decide +kernel
theorem dX10_feed_91 : decode cX10_feed 91 = .ok (.aload_n 0, 1) := by decide +kernel
theorem dX10_feed_92 : decode cX10_feed 92 = .ok (.getfield 9, 3) := by decide +kernel
theorem dX10_feed_95 : decode cX10_feed 95 = .ok (.bipush 9, 2) := by decide +kernel
theorem dX10_feed_97 : decode cX10_feed 97 = .ok (.iaload, 1) := by decide +kernel
theorem dX10_feed_98 : decode cX10_feed 98 = .ok (.ireturn, 1) := by decide +kernel
theorem dX10_here_0 : decode cX10_here 0 = .ok (.aload_n 0, 1) := by decide +kernel
theorem dX10_here_1 : decode cX10_here 1 = .ok (.getfield 144, 3) := by decide +kernel
theorem dX10_here_4 : decode cX10_here 4 = .ok (.ifCond .ne 32, 3) := by decide +kernel
theorem dX10_here_7 : decode cX10_here 7 = .ok (.aload_n 0, 1) := by decide +kernel
theorem dX10_here_8 : decode cX10_here 8 = .ok (.getfield 148, 3) := by decide +kernel
theorem dX10_here_11 : decode cX10_here 11 = .ok (.aload_n 0, 1) := by decide +kernel
theorem dX10_here_12 : decode cX10_here 12 = .ok (.getfield 9, 3) := by decide +kernel
theorem dX10_here_15 : decode cX10_here 15 = .ok (.bipush 9, 2) := by decide +kernel
theorem dX10_here_17 : decode cX10_here 17 = .ok (.iaload, 1) := by decide +kernel
theorem dX10_here_18 : decode cX10_here 18 = .ok (.if_icmp .ge 18, 3) := by decide +kernel
theorem dX10_here_21 : decode cX10_here 21 = .ok (.aload_n 0, 1) := by decide +kernel
theorem dX10_here_22 : decode cX10_here 22 = .ok (.getfield 9, 3) := by decide +kernel
theorem dX10_here_25 : decode cX10_here 25 = .ok (.bipush 66, 2) := by decide +kernel
theorem dX10_here_27 : decode cX10_here 27 = .ok (.aload_n 0, 1) := by decide +kernel
theorem dX10_here_28 : decode cX10_here 28 = .ok (.getfield 148, 3) := by decide +kernel
theorem dX10_here_31 : decode cX10_here 31 = .ok (.iadd, 1) := by decide +kernel
theorem dX10_here_32 : decode cX10_here 32 = .ok (.iaload, 1) := by decide +kernel
theorem dX10_here_33 : decode cX10_here 33 = .ok (.goto 4, 3) := by decide +kernel
theorem dX10_here_36 : decode cX10_here 36 = .ok (.iconst (-1), 1) := by decide +kernel
theorem dX10_here_37 : decode cX10_here 37 = .ok (.ireturn, 1) := by decide +kernel
theorem dX10_takes_0 : decode cX10_takes 0 = .ok (.aload_n 0, 1) := by decide +kernel
theorem dX10_takes_1 : decode cX10_takes 1 = .ok (.invokevirtual 152, 3) := by decide +kernel
theorem dX10_takes_4 : decode cX10_takes 4 = .ok (.iload_n 1, 1) := by decide +kernel
theorem dX10_takes_5 : decode cX10_takes 5 = .ok (.if_icmp .ne 7, 3) := by decide +kernel
theorem dX10_takes_8 : decode cX10_takes 8 = .ok (.iconst 1, 1) := by decide +kernel
theorem dX10_takes_9 : decode cX10_takes 9 = .ok (.goto 4, 3) := by decide +kernel
theorem dX10_takes_12 : decode cX10_takes 12 = .ok (.iconst 0, 1) := by decide +kernel
theorem dX10_takes_13 : decode cX10_takes 13 = .ok (.istore_n 2, 1) := by decide +kernel
theorem dX10_takes_14 : decode cX10_takes 14 = .ok (.aload_n 0, 1) := by decide +kernel
theorem dX10_takes_15 : decode cX10_takes 15 = .ok (.dup, 1) := by decide +kernel
theorem dX10_takes_16 : decode cX10_takes 16 = .ok (.getfield 148, 3) := by decide +kernel
theorem dX10_takes_19 : decode cX10_takes 19 = .ok (.iload_n 2, 1) := by decide +kernel
theorem dX10_takes_20 : decode cX10_takes 20 = .ok (.ifCond .eq 7, 3) := by decide +kernel
theorem dX10_takes_23 : decode cX10_takes 23 = .ok (.iconst 1, 1) := by decide +kernel
theorem dX10_takes_24 : decode cX10_takes 24 = .ok (.goto 4, 3) := by decide +kernel
theorem dX10_takes_27 : decode cX10_takes 27 = .ok (.iconst 0, 1) := by decide +kernel
theorem dX10_takes_28 : decode cX10_takes 28 = .ok (.iadd, 1) := by decide +kernel
theorem dX10_takes_29 : decode cX10_takes 29 = .ok (.putfield 148, 3) := by decide +kernel
theorem dX10_takes_32 : decode cX10_takes 32 = .ok (.iload_n 2, 1) := by decide +kernel
theorem dX10_takes_33 : decode cX10_takes 33 = .ok (.ireturn, 1) := by decide +kernel
theorem dX10_codes_0 : decode cX10_codes 0 = .ok (.aload_n 0, 1) := by decide +kernel
theorem dX10_codes_1 : decode cX10_codes 1 = .ok (.getfield 144, 3) := by decide +kernel
theorem dX10_codes_4 : decode cX10_codes 4 = .ok (.ifCond .ne 23, 3) := by decide +kernel
theorem dX10_codes_7 : decode cX10_codes 7 = .ok (.aload_n 0, 1) := by decide +kernel
theorem dX10_codes_8 : decode cX10_codes 8 = .ok (.getfield 35, 3) := by decide +kernel
theorem dX10_codes_11 : decode cX10_codes 11 = .ok (.aload_n 0, 1) := by decide +kernel
theorem dX10_codes_12 : decode cX10_codes 12 = .ok (.getfield 155, 3) := by decide +kernel
theorem dX10_codes_15 : decode cX10_codes 15 = .ok (.iload_n 1, 1) := by decide +kernel
theorem dX10_codes_16 : decode cX10_codes 16 = .ok (.iastore, 1) := by decide +kernel
theorem dX10_codes_17 : decode cX10_codes 17 = .ok (.aload_n 0, 1) := by decide +kernel
theorem dX10_codes_18 : decode cX10_codes 18 = .ok (.dup, 1) := by decide +kernel
theorem dX10_codes_19 : decode cX10_codes 19 = .ok (.getfield 155, 3) := by decide +kernel
theorem dX10_codes_22 : decode cX10_codes 22 = .ok (.iconst 1, 1) := by decide +kernel
theorem dX10_codes_23 : decode cX10_codes 23 = .ok (.iadd, 1) := by decide +kernel
theorem dX10_codes_24 : decode cX10_codes 24 = .ok (.putfield 155, 3) := by decide +kernel
theorem dX10_codes_27 : decode cX10_codes 27 = .ok (.return_, 1) := by decide +kernel
theorem dX10_either_0 : decode cX10_either 0 = .ok (.aload_n 0, 1) := by decide +kernel
theorem dX10_either_1 : decode cX10_either 1 = .ok (.invokevirtual 158, 3) := by decide +kernel
theorem dX10_either_4 : decode cX10_either 4 = .ok (.aload_n 0, 1) := by decide +kernel
theorem dX10_either_5 : decode cX10_either 5 = .ok (.bipush 124, 2) := by decide +kernel
theorem dX10_either_7 : decode cX10_either 7 = .ok (.invokevirtual 161, 3) := by decide +kernel
theorem dX10_either_10 : decode cX10_either 10 = .ok (.ifCond .eq 17, 3) := by decide +kernel
theorem dX10_either_13 : decode cX10_either 13 = .ok (.aload_n 0, 1) := by decide +kernel
theorem dX10_either_14 : decode cX10_either 14 = .ok (.invokevirtual 158, 3) := by decide +kernel
theorem dX10_either_17 : decode cX10_either 17 = .ok (.aload_n 0, 1) := by decide +kernel
theorem dX10_either_18 : decode cX10_either 18 = .ok (.sipush 20000, 3) := by decide +kernel
theorem dX10_either_21 : decode cX10_either 21 = .ok (.invokevirtual 164, 3) := by decide +kernel
theorem dX10_either_24 : decode cX10_either 24 = .ok (.goto (-20), 3) := by decide +kernel
theorem dX10_either_27 : decode cX10_either 27 = .ok (.return_, 1) := by decide +kernel
theorem dX10_both_0 : decode cX10_both 0 = .ok (.aload_n 0, 1) := by decide +kernel
theorem dX10_both_1 : decode cX10_both 1 = .ok (.invokevirtual 168, 3) := by decide +kernel
theorem dX10_both_4 : decode cX10_both 4 = .ok (.aload_n 0, 1) := by decide +kernel
theorem dX10_both_5 : decode cX10_both 5 = .ok (.bipush 38, 2) := by decide +kernel
theorem dX10_both_7 : decode cX10_both 7 = .ok (.invokevirtual 161, 3) := by decide +kernel
theorem dX10_both_10 : decode cX10_both 10 = .ok (.ifCond .eq 17, 3) := by decide +kernel
theorem dX10_both_13 : decode cX10_both 13 = .ok (.aload_n 0, 1) := by decide +kernel
theorem dX10_both_14 : decode cX10_both 14 = .ok (.invokevirtual 168, 3) := by decide +kernel
theorem dX10_both_17 : decode cX10_both 17 = .ok (.aload_n 0, 1) := by decide +kernel
theorem dX10_both_18 : decode cX10_both 18 = .ok (.sipush 20001, 3) := by decide +kernel
theorem dX10_both_21 : decode cX10_both 21 = .ok (.invokevirtual 164, 3) := by decide +kernel
theorem dX10_both_24 : decode cX10_both 24 = .ok (.goto (-20), 3) := by decide +kernel
theorem dX10_both_27 : decode cX10_both 27 = .ok (.return_, 1) := by decide +kernel
theorem dX10_compared_0 : decode cX10_compared 0 = .ok (.aload_n 0, 1) := by decide +kernel
theorem dX10_compared_1 : decode cX10_compared 1 = .ok (.invokevirtual 171, 3) := by decide +kernel
theorem dX10_compared_4 : decode cX10_compared 4 = .ok (.aload_n 0, 1) := by decide +kernel
theorem dX10_compared_5 : decode cX10_compared 5 = .ok (.bipush 60, 2) := by decide +kernel
theorem dX10_compared_7 : decode cX10_compared 7 = .ok (.invokevirtual 161, 3) := by decide +kernel
theorem dX10_compared_10 : decode cX10_compared 10 = .ok (.ifCond .eq 9, 3) := by decide +kernel
theorem dX10_compared_13 : decode cX10_compared 13 = .ok (.sipush 20002, 3) := by decide +kernel
theorem dX10_compared_16 : decode cX10_compared 16 = .ok (.goto 34, 3) := by decide +kernel
theorem dX10_compared_19 : decode cX10_compared 19 = .ok (.aload_n 0, 1) := by decide +kernel
theorem dX10_compared_20 : decode cX10_compared 20 = .ok (.bipush 61, 2) := by decide +kernel
theorem dX10_compared_22 : decode cX10_compared 22 = .ok (.invokevirtual 161, 3) := by decide +kernel
theorem dX10_compared_25 : decode cX10_compared 25 = .ok (.ifCond .eq 9, 3) := by decide +kernel
theorem dX10_compared_28 : decode cX10_compared 28 = .ok (.sipush 20003, 3) := by decide +kernel
theorem dX10_compared_31 : decode cX10_compared 31 = .ok (.goto 19, 3) := by decide +kernel
theorem dX10_compared_34 : decode cX10_compared 34 = .ok (.aload_n 0, 1) := by decide +kernel
theorem dX10_compared_35 : decode cX10_compared 35 = .ok (.bipush 62, 2) := by decide +kernel
theorem dX10_compared_37 : decode cX10_compared 37 = .ok (.invokevirtual 161, 3) := by decide +kernel
theorem dX10_compared_40 : decode cX10_compared 40 = .ok (.ifCond .eq 9, 3) := by decide +kernel
theorem dX10_compared_43 : decode cX10_compared 43 = .ok (.sipush 20004, 3) := by decide +kernel
theorem dX10_compared_46 : decode cX10_compared 46 = .ok (.goto 4, 3) := by decide +kernel
theorem dX10_compared_49 : decode cX10_compared 49 = .ok (.iconst 0, 1) := by decide +kernel
theorem dX10_compared_50 : decode cX10_compared 50 = .ok (.istore_n 1, 1) := by decide +kernel
theorem dX10_compared_51 : decode cX10_compared 51 = .ok (.iload_n 1, 1) := by decide +kernel
theorem dX10_compared_52 : decode cX10_compared 52 = .ok (.ifCond .le 12, 3) := by decide +kernel
theorem dX10_compared_55 : decode cX10_compared 55 = .ok (.aload_n 0, 1) := by decide +kernel
theorem dX10_compared_56 : decode cX10_compared 56 = .ok (.invokevirtual 171, 3) := by decide +kernel
theorem dX10_compared_59 : decode cX10_compared 59 = .ok (.aload_n 0, 1) := by decide +kernel
theorem dX10_compared_60 : decode cX10_compared 60 = .ok (.iload_n 1, 1) := by decide +kernel
theorem dX10_compared_61 : decode cX10_compared 61 = .ok (.invokevirtual 164, 3) := by decide +kernel
theorem dX10_compared_64 : decode cX10_compared 64 = .ok (.return_, 1) := by decide +kernel
theorem dX10_sum_0 : decode cX10_sum 0 = .ok (.aload_n 0, 1) := by decide +kernel
theorem dX10_sum_1 : decode cX10_sum 1 = .ok (.invokevirtual 174, 3) := by decide +kernel
theorem dX10_sum_4 : decode cX10_sum 4 = .ok (.aload_n 0, 1) := by decide +kernel
theorem dX10_sum_5 : decode cX10_sum 5 = .ok (.bipush 43, 2) := by decide +kernel
theorem dX10_sum_7 : decode cX10_sum 7 = .ok (.invokevirtual 161, 3) := by decide +kernel
theorem dX10_sum_10 : decode cX10_sum 10 = .ok (.ifCond .eq 9, 3) := by decide +kernel
theorem dX10_sum_13 : decode cX10_sum 13 = .ok (.sipush 20005, 3) := by decide +kernel
theorem dX10_sum_16 : decode cX10_sum 16 = .ok (.goto 19, 3) := by decide +kernel
theorem dX10_sum_19 : decode cX10_sum 19 = .ok (.aload_n 0, 1) := by decide +kernel
theorem dX10_sum_20 : decode cX10_sum 20 = .ok (.bipush 45, 2) := by decide +kernel
theorem dX10_sum_22 : decode cX10_sum 22 = .ok (.invokevirtual 161, 3) := by decide +kernel
theorem dX10_sum_25 : decode cX10_sum 25 = .ok (.ifCond .eq 9, 3) := by decide +kernel
theorem dX10_sum_28 : decode cX10_sum 28 = .ok (.sipush 20006, 3) := by decide +kernel
theorem dX10_sum_31 : decode cX10_sum 31 = .ok (.goto 4, 3) := by decide +kernel
theorem dX10_sum_34 : decode cX10_sum 34 = .ok (.iconst 0, 1) := by decide +kernel
theorem dX10_sum_35 : decode cX10_sum 35 = .ok (.istore_n 1, 1) := by decide +kernel
theorem dX10_sum_36 : decode cX10_sum 36 = .ok (.iload_n 1, 1) := by decide +kernel
theorem dX10_sum_37 : decode cX10_sum 37 = .ok (.ifCond .le 47, 3) := by decide +kernel
theorem dX10_sum_40 : decode cX10_sum 40 = .ok (.aload_n 0, 1) := by decide +kernel
theorem dX10_sum_41 : decode cX10_sum 41 = .ok (.invokevirtual 174, 3) := by decide +kernel
theorem dX10_sum_44 : decode cX10_sum 44 = .ok (.aload_n 0, 1) := by decide +kernel
theorem dX10_sum_45 : decode cX10_sum 45 = .ok (.iload_n 1, 1) := by decide +kernel
theorem dX10_sum_46 : decode cX10_sum 46 = .ok (.invokevirtual 164, 3) := by decide +kernel
theorem dX10_sum_49 : decode cX10_sum 49 = .ok (.aload_n 0, 1) := by decide +kernel
theorem dX10_sum_50 : decode cX10_sum 50 = .ok (.bipush 43, 2) := by decide +kernel
theorem dX10_sum_52 : decode cX10_sum 52 = .ok (.invokevirtual 161, 3) := by decide +kernel
theorem dX10_sum_55 : decode cX10_sum 55 = .ok (.ifCond .eq 9, 3) := by decide +kernel
theorem dX10_sum_58 : decode cX10_sum 58 = .ok (.sipush 20005, 3) := by decide +kernel
theorem dX10_sum_61 : decode cX10_sum 61 = .ok (.goto 19, 3) := by decide +kernel
theorem dX10_sum_64 : decode cX10_sum 64 = .ok (.aload_n 0, 1) := by decide +kernel
theorem dX10_sum_65 : decode cX10_sum 65 = .ok (.bipush 45, 2) := by decide +kernel
theorem dX10_sum_67 : decode cX10_sum 67 = .ok (.invokevirtual 161, 3) := by decide +kernel
theorem dX10_sum_70 : decode cX10_sum 70 = .ok (.ifCond .eq 9, 3) := by decide +kernel
theorem dX10_sum_73 : decode cX10_sum 73 = .ok (.sipush 20006, 3) := by decide +kernel
theorem dX10_sum_76 : decode cX10_sum 76 = .ok (.goto 4, 3) := by decide +kernel
theorem dX10_sum_79 : decode cX10_sum 79 = .ok (.iconst 0, 1) := by decide +kernel
theorem dX10_sum_80 : decode cX10_sum 80 = .ok (.istore_n 1, 1) := by decide +kernel
theorem dX10_sum_81 : decode cX10_sum 81 = .ok (.goto (-45), 3) := by decide +kernel
theorem dX10_sum_84 : decode cX10_sum 84 = .ok (.return_, 1) := by decide +kernel
theorem dX10_product_0 : decode cX10_product 0 = .ok (.aload_n 0, 1) := by decide +kernel
theorem dX10_product_1 : decode cX10_product 1 = .ok (.invokevirtual 177, 3) := by decide +kernel
theorem dX10_product_4 : decode cX10_product 4 = .ok (.aload_n 0, 1) := by decide +kernel
theorem dX10_product_5 : decode cX10_product 5 = .ok (.bipush 42, 2) := by decide +kernel
theorem dX10_product_7 : decode cX10_product 7 = .ok (.invokevirtual 161, 3) := by decide +kernel
theorem dX10_product_10 : decode cX10_product 10 = .ok (.ifCond .eq 9, 3) := by decide +kernel
theorem dX10_product_13 : decode cX10_product 13 = .ok (.sipush 20007, 3) := by decide +kernel
theorem dX10_product_16 : decode cX10_product 16 = .ok (.goto 34, 3) := by decide +kernel
theorem dX10_product_19 : decode cX10_product 19 = .ok (.aload_n 0, 1) := by decide +kernel
theorem dX10_product_20 : decode cX10_product 20 = .ok (.bipush 47, 2) := by decide +kernel
theorem dX10_product_22 : decode cX10_product 22 = .ok (.invokevirtual 161, 3) := by decide +kernel
theorem dX10_product_25 : decode cX10_product 25 = .ok (.ifCond .eq 9, 3) := by decide +kernel
theorem dX10_product_28 : decode cX10_product 28 = .ok (.sipush 20008, 3) := by decide +kernel
theorem dX10_product_31 : decode cX10_product 31 = .ok (.goto 19, 3) := by decide +kernel
theorem dX10_product_34 : decode cX10_product 34 = .ok (.aload_n 0, 1) := by decide +kernel
theorem dX10_product_35 : decode cX10_product 35 = .ok (.bipush 37, 2) := by decide +kernel
theorem dX10_product_37 : decode cX10_product 37 = .ok (.invokevirtual 161, 3) := by decide +kernel
theorem dX10_product_40 : decode cX10_product 40 = .ok (.ifCond .eq 9, 3) := by decide +kernel
theorem dX10_product_43 : decode cX10_product 43 = .ok (.sipush 20009, 3) := by decide +kernel
theorem dX10_product_46 : decode cX10_product 46 = .ok (.goto 4, 3) := by decide +kernel
theorem dX10_product_49 : decode cX10_product 49 = .ok (.iconst 0, 1) := by decide +kernel
theorem dX10_product_50 : decode cX10_product 50 = .ok (.istore_n 1, 1) := by decide +kernel
theorem dX10_product_51 : decode cX10_product 51 = .ok (.iload_n 1, 1) := by decide +kernel
theorem dX10_product_52 : decode cX10_product 52 = .ok (.ifCond .le 62, 3) := by decide +kernel
theorem dX10_product_55 : decode cX10_product 55 = .ok (.aload_n 0, 1) := by decide +kernel
theorem dX10_product_56 : decode cX10_product 56 = .ok (.invokevirtual 177, 3) := by decide +kernel
theorem dX10_product_59 : decode cX10_product 59 = .ok (.aload_n 0, 1) := by decide +kernel
theorem dX10_product_60 : decode cX10_product 60 = .ok (.iload_n 1, 1) := by decide +kernel
theorem dX10_product_61 : decode cX10_product 61 = .ok (.invokevirtual 164, 3) := by decide +kernel
theorem dX10_product_64 : decode cX10_product 64 = .ok (.aload_n 0, 1) := by decide +kernel
theorem dX10_product_65 : decode cX10_product 65 = .ok (.bipush 42, 2) := by decide +kernel
theorem dX10_product_67 : decode cX10_product 67 = .ok (.invokevirtual 161, 3) := by decide +kernel
theorem dX10_product_70 : decode cX10_product 70 = .ok (.ifCond .eq 9, 3) := by decide +kernel
theorem dX10_product_73 : decode cX10_product 73 = .ok (.sipush 20007, 3) := by decide +kernel
theorem dX10_product_76 : decode cX10_product 76 = .ok (.goto 34, 3) := by decide +kernel
theorem dX10_product_79 : decode cX10_product 79 = .ok (.aload_n 0, 1) := by decide +kernel
theorem dX10_product_80 : decode cX10_product 80 = .ok (.bipush 47, 2) := by decide +kernel
theorem dX10_product_82 : decode cX10_product 82 = .ok (.invokevirtual 161, 3) := by decide +kernel
theorem dX10_product_85 : decode cX10_product 85 = .ok (.ifCond .eq 9, 3) := by decide +kernel
theorem dX10_product_88 : decode cX10_product 88 = .ok (.sipush 20008, 3) := by decide +kernel
theorem dX10_product_91 : decode cX10_product 91 = .ok (.goto 19, 3) := by decide +kernel
theorem dX10_product_94 : decode cX10_product 94 = .ok (.aload_n 0, 1) := by decide +kernel
theorem dX10_product_95 : decode cX10_product 95 = .ok (.bipush 37, 2) := by decide +kernel
theorem dX10_product_97 : decode cX10_product 97 = .ok (.invokevirtual 161, 3) := by decide +kernel
theorem dX10_product_100 : decode cX10_product 100 = .ok (.ifCond .eq 9, 3) := by decide +kernel
theorem dX10_product_103 : decode cX10_product 103 = .ok (.sipush 20009, 3) := by decide +kernel
theorem dX10_product_106 : decode cX10_product 106 = .ok (.goto 4, 3) := by decide +kernel
theorem dX10_product_109 : decode cX10_product 109 = .ok (.iconst 0, 1) := by decide +kernel
theorem dX10_product_110 : decode cX10_product 110 = .ok (.istore_n 1, 1) := by decide +kernel
theorem dX10_product_111 : decode cX10_product 111 = .ok (.goto (-60), 3) := by decide +kernel
theorem dX10_product_114 : decode cX10_product 114 = .ok (.return_, 1) := by decide +kernel
theorem dX10_nameOf_0 : decode cX10_nameOf 0 = .ok (.iconst (-1), 1) := by decide +kernel
theorem dX10_nameOf_1 : decode cX10_nameOf 1 = .ok (.istore_n 2, 1) := by decide +kernel
theorem dX10_nameOf_2 : decode cX10_nameOf 2 = .ok (.iconst 0, 1) := by decide +kernel
theorem dX10_nameOf_3 : decode cX10_nameOf 3 = .ok (.istore_n 3, 1) := by decide +kernel
theorem dX10_nameOf_4 : decode cX10_nameOf 4 = .ok (.iload_n 3, 1) := by decide +kernel
theorem dX10_nameOf_5 : decode cX10_nameOf 5 = .ok (.aload_n 0, 1) := by decide +kernel
theorem dX10_nameOf_6 : decode cX10_nameOf 6 = .ok (.getfield 31, 3) := by decide +kernel
theorem dX10_nameOf_9 : decode cX10_nameOf 9 = .ok (.aload_n 0, 1) := by decide +kernel
theorem dX10_nameOf_10 : decode cX10_nameOf 10 = .ok (.getfield 180, 3) := by decide +kernel
theorem dX10_nameOf_13 : decode cX10_nameOf 13 = .ok (.aaload, 1) := by decide +kernel
theorem dX10_nameOf_14 : decode cX10_nameOf 14 = .ok (.invokevirtual 183, 3) := by decide +kernel
theorem dX10_nameOf_17 : decode cX10_nameOf 17 = .ok (.if_icmp .ge 32, 3) := by decide +kernel
theorem dX10_nameOf_20 : decode cX10_nameOf 20 = .ok (.aload_n 0, 1) := by decide +kernel
theorem dX10_nameOf_21 : decode cX10_nameOf 21 = .ok (.getfield 31, 3) := by decide +kernel
theorem dX10_nameOf_24 : decode cX10_nameOf 24 = .ok (.aload_n 0, 1) := by decide +kernel
theorem dX10_nameOf_25 : decode cX10_nameOf 25 = .ok (.getfield 180, 3) := by decide +kernel
theorem dX10_nameOf_28 : decode cX10_nameOf 28 = .ok (.aaload, 1) := by decide +kernel
theorem dX10_nameOf_29 : decode cX10_nameOf 29 = .ok (.iload_n 3, 1) := by decide +kernel
theorem dX10_nameOf_30 : decode cX10_nameOf 30 = .ok (.invokevirtual 186, 3) := by decide +kernel
theorem dX10_nameOf_33 : decode cX10_nameOf 33 = .ok (.iload_n 1, 1) := by decide +kernel
theorem dX10_nameOf_34 : decode cX10_nameOf 34 = .ok (.if_icmp .ne 7, 3) := by decide +kernel
theorem dX10_nameOf_37 : decode cX10_nameOf 37 = .ok (.iload_n 3, 1) := by decide +kernel
theorem dX10_nameOf_38 : decode cX10_nameOf 38 = .ok (.goto 4, 3) := by decide +kernel
theorem dX10_nameOf_41 : decode cX10_nameOf 41 = .ok (.iload_n 2, 1) := by decide +kernel
theorem dX10_nameOf_42 : decode cX10_nameOf 42 = .ok (.istore_n 2, 1) := by decide +kernel
theorem dX10_nameOf_43 : decode cX10_nameOf 43 = .ok (.iinc 3 1, 3) := by decide +kernel
theorem dX10_nameOf_46 : decode cX10_nameOf 46 = .ok (.goto (-42), 3) := by decide +kernel
theorem dX10_nameOf_49 : decode cX10_nameOf 49 = .ok (.iload_n 2, 1) := by decide +kernel
theorem dX10_nameOf_50 : decode cX10_nameOf 50 = .ok (.ireturn, 1) := by decide +kernel
theorem dX10_one_0 : decode cX10_one 0 = .ok (.aload_n 0, 1) := by decide +kernel
theorem dX10_one_1 : decode cX10_one 1 = .ok (.invokevirtual 152, 3) := by decide +kernel
theorem dX10_one_4 : decode cX10_one 4 = .ok (.istore_n 1, 1) := by decide +kernel
theorem dX10_one_5 : decode cX10_one 5 = .ok (.iload_n 1, 1) := by decide +kernel
theorem dX10_one_6 : decode cX10_one 6 = .ok (.bipush 33, 2) := by decide +kernel
theorem dX10_one_8 : decode cX10_one 8 = .ok (.if_icmp .eq 9, 3) := by decide +kernel
theorem dX10_one_11 : decode cX10_one 11 = .ok (.iload_n 1, 1) := by decide +kernel
theorem dX10_one_12 : decode cX10_one 12 = .ok (.bipush 40, 2) := by decide +kernel
theorem dX10_one_14 : decode cX10_one 14 = .ok (.if_icmp .ne 102, 3) := by decide +kernel
theorem dX10_one_17 : decode cX10_one 17 = .ok (.aload_n 0, 1) := by decide +kernel
theorem dX10_one_18 : decode cX10_one 18 = .ok (.aload_n 0, 1) := by decide +kernel
theorem dX10_one_19 : decode cX10_one 19 = .ok (.getfield 190, 3) := by decide +kernel
theorem dX10_one_22 : decode cX10_one 22 = .ok (.iconst 5, 1) := by decide +kernel
theorem dX10_one_23 : decode cX10_one 23 = .ok (.if_icmp .ne 7, 3) := by decide +kernel
theorem dX10_one_26 : decode cX10_one 26 = .ok (.iconst 1, 1) := by decide +kernel
theorem dX10_one_27 : decode cX10_one 27 = .ok (.goto 4, 3) := by decide +kernel
theorem dX10_one_30 : decode cX10_one 30 = .ok (.iconst 0, 1) := by decide +kernel
theorem dX10_one_31 : decode cX10_one 31 = .ok (.putfield 144, 3) := by decide +kernel
theorem dX10_one_34 : decode cX10_one 34 = .ok (.aload_n 0, 1) := by decide +kernel
theorem dX10_one_35 : decode cX10_one 35 = .ok (.getfield 144, 3) := by decide +kernel
theorem dX10_one_38 : decode cX10_one 38 = .ok (.ifCond .ne 209, 3) := by decide +kernel
theorem dX10_one_41 : decode cX10_one 41 = .ok (.aload_n 0, 1) := by decide +kernel
theorem dX10_one_42 : decode cX10_one 42 = .ok (.dup, 1) := by decide +kernel
theorem dX10_one_43 : decode cX10_one 43 = .ok (.getfield 190, 3) := by decide +kernel
theorem dX10_one_46 : decode cX10_one 46 = .ok (.iconst 1, 1) := by decide +kernel
theorem dX10_one_47 : decode cX10_one 47 = .ok (.iadd, 1) := by decide +kernel
theorem dX10_one_48 : decode cX10_one 48 = .ok (.putfield 190, 3) := by decide +kernel
theorem dX10_one_51 : decode cX10_one 51 = .ok (.aload_n 0, 1) := by decide +kernel
theorem dX10_one_52 : decode cX10_one 52 = .ok (.dup, 1) := by decide +kernel
theorem dX10_one_53 : decode cX10_one 53 = .ok (.getfield 148, 3) := by decide +kernel
theorem dX10_one_56 : decode cX10_one 56 = .ok (.iconst 1, 1) := by decide +kernel
theorem dX10_one_57 : decode cX10_one 57 = .ok (.iadd, 1) := by decide +kernel
theorem dX10_one_58 : decode cX10_one 58 = .ok (.putfield 148, 3) := by decide +kernel
theorem dX10_one_61 : decode cX10_one 61 = .ok (.iload_n 1, 1) := by decide +kernel
theorem dX10_one_62 : decode cX10_one 62 = .ok (.bipush 33, 2) := by decide +kernel
theorem dX10_one_64 : decode cX10_one 64 = .ok (.if_icmp .ne 17, 3) := by decide +kernel
theorem dX10_one_67 : decode cX10_one 67 = .ok (.aload_n 0, 1) := by decide +kernel
theorem dX10_one_68 : decode cX10_one 68 = .ok (.invokevirtual 177, 3) := by decide +kernel
theorem dX10_one_71 : decode cX10_one 71 = .ok (.aload_n 0, 1) := by decide +kernel
theorem dX10_one_72 : decode cX10_one 72 = .ok (.sipush 20010, 3) := by decide +kernel
theorem dX10_one_75 : decode cX10_one 75 = .ok (.invokevirtual 164, 3) := by decide +kernel
theorem dX10_one_78 : decode cX10_one 78 = .ok (.goto 25, 3) := by decide +kernel
theorem dX10_one_81 : decode cX10_one 81 = .ok (.aload_n 0, 1) := by decide +kernel
theorem dX10_one_82 : decode cX10_one 82 = .ok (.invokevirtual 193, 3) := by decide +kernel
theorem dX10_one_85 : decode cX10_one 85 = .ok (.aload_n 0, 1) := by decide +kernel
theorem dX10_one_86 : decode cX10_one 86 = .ok (.aload_n 0, 1) := by decide +kernel
theorem dX10_one_87 : decode cX10_one 87 = .ok (.bipush 41, 2) := by decide +kernel
theorem dX10_one_89 : decode cX10_one 89 = .ok (.invokevirtual 161, 3) := by decide +kernel
theorem dX10_one_92 : decode cX10_one 92 = .ok (.ifCond .ne 7, 3) := by decide +kernel
theorem dX10_one_95 : decode cX10_one 95 = .ok (.iconst 1, 1) := by decide +kernel
theorem dX10_one_96 : decode cX10_one 96 = .ok (.goto 4, 3) := by decide +kernel
theorem dX10_one_99 : decode cX10_one 99 = .ok (.iconst 0, 1) := by decide +kernel
theorem dX10_one_100 : decode cX10_one 100 = .ok (.putfield 144, 3) := by decide +kernel
theorem dX10_one_103 : decode cX10_one 103 = .ok (.aload_n 0, 1) := by decide +kernel
theorem dX10_one_104 : decode cX10_one 104 = .ok (.dup, 1) := by decide +kernel
theorem dX10_one_105 : decode cX10_one 105 = .ok (.getfield 190, 3) := by decide +kernel
theorem dX10_one_108 : decode cX10_one 108 = .ok (.iconst 1, 1) := by decide +kernel
theorem dX10_one_109 : decode cX10_one 109 = .ok (.isub, 1) := by decide +kernel
theorem dX10_one_110 : decode cX10_one 110 = .ok (.putfield 190, 3) := by decide +kernel
theorem dX10_one_113 : decode cX10_one 113 = .ok (.goto 134, 3) := by decide +kernel
theorem dX10_one_116 : decode cX10_one 116 = .ok (.iload_n 1, 1) := by decide +kernel
theorem dX10_one_117 : decode cX10_one 117 = .ok (.bipush 48, 2) := by decide +kernel
theorem dX10_one_119 : decode cX10_one 119 = .ok (.bipush 57, 2) := by decide +kernel
theorem dX10_one_121 : decode cX10_one 121 = .ok (.invokestatic 72, 3) := by decide +kernel
theorem dX10_one_124 : decode cX10_one 124 = .ok (.ifCond .eq 63, 3) := by decide +kernel
theorem dX10_one_127 : decode cX10_one 127 = .ok (.iconst 0, 1) := by decide +kernel
theorem dX10_one_128 : decode cX10_one 128 = .ok (.istore_n 2, 1) := by decide +kernel
theorem dX10_one_129 : decode cX10_one 129 = .ok (.iconst 0, 1) := by decide +kernel
theorem dX10_one_130 : decode cX10_one 130 = .ok (.istore_n 3, 1) := by decide +kernel
theorem dX10_one_131 : decode cX10_one 131 = .ok (.iload_n 3, 1) := by decide +kernel
theorem dX10_one_132 : decode cX10_one 132 = .ok (.iconst 4, 1) := by decide +kernel
theorem dX10_one_133 : decode cX10_one 133 = .ok (.if_icmp .ge 46, 3) := by decide +kernel
theorem dX10_one_136 : decode cX10_one 136 = .ok (.aload_n 0, 1) := by decide +kernel
theorem dX10_one_137 : decode cX10_one 137 = .ok (.invokevirtual 152, 3) := by decide +kernel
theorem dX10_one_140 : decode cX10_one 140 = .ok (.bipush 48, 2) := by decide +kernel
theorem dX10_one_142 : decode cX10_one 142 = .ok (.bipush 57, 2) := by decide +kernel
theorem dX10_one_144 : decode cX10_one 144 = .ok (.invokestatic 72, 3) := by decide +kernel
theorem dX10_one_147 : decode cX10_one 147 = .ok (.ifCond .eq 32, 3) := by decide +kernel
theorem dX10_one_150 : decode cX10_one 150 = .ok (.bipush 10, 2) := by decide +kernel
theorem dX10_one_152 : decode cX10_one 152 = .ok (.iload_n 2, 1) := by decide +kernel
theorem dX10_one_153 : decode cX10_one 153 = .ok (.imul, 1) := by decide +kernel
theorem dX10_one_154 : decode cX10_one 154 = .ok (.aload_n 0, 1) := by decide +kernel
theorem dX10_one_155 : decode cX10_one 155 = .ok (.invokevirtual 152, 3) := by decide +kernel
theorem dX10_one_158 : decode cX10_one 158 = .ok (.iadd, 1) := by decide +kernel
theorem dX10_one_159 : decode cX10_one 159 = .ok (.bipush 48, 2) := by decide +kernel
theorem dX10_one_161 : decode cX10_one 161 = .ok (.isub, 1) := by decide +kernel
theorem dX10_one_162 : decode cX10_one 162 = .ok (.istore_n 2, 1) := by decide +kernel
theorem dX10_one_163 : decode cX10_one 163 = .ok (.aload_n 0, 1) := by decide +kernel
theorem dX10_one_164 : decode cX10_one 164 = .ok (.dup, 1) := by decide +kernel
theorem dX10_one_165 : decode cX10_one 165 = .ok (.getfield 148, 3) := by decide +kernel
theorem dX10_one_168 : decode cX10_one 168 = .ok (.iconst 1, 1) := by decide +kernel
theorem dX10_one_169 : decode cX10_one 169 = .ok (.iadd, 1) := by decide +kernel
theorem dX10_one_170 : decode cX10_one 170 = .ok (.putfield 148, 3) := by decide +kernel
theorem dX10_one_173 : decode cX10_one 173 = .ok (.iinc 3 1, 3) := by decide +kernel
theorem dX10_one_176 : decode cX10_one 176 = .ok (.goto (-45), 3) := by decide +kernel
theorem dX10_one_179 : decode cX10_one 179 = .ok (.aload_n 0, 1) := by decide +kernel
theorem dX10_one_180 : decode cX10_one 180 = .ok (.iload_n 2, 1) := by decide +kernel
theorem dX10_one_181 : decode cX10_one 181 = .ok (.invokevirtual 164, 3) := by decide +kernel
theorem dX10_one_184 : decode cX10_one 184 = .ok (.goto 63, 3) := by decide +kernel
theorem dX10_one_187 : decode cX10_one 187 = .ok (.iload_n 1, 1) := by decide +kernel
theorem dX10_one_188 : decode cX10_one 188 = .ok (.ifCond .ge 7, 3) := by decide +kernel
theorem dX10_one_191 : decode cX10_one 191 = .ok (.iconst (-1), 1) := by decide +kernel
theorem dX10_one_192 : decode cX10_one 192 = .ok (.goto 8, 3) := by decide +kernel
theorem dX10_one_195 : decode cX10_one 195 = .ok (.aload_n 0, 1) := by decide +kernel
theorem dX10_one_196 : decode cX10_one 196 = .ok (.iload_n 1, 1) := by decide +kernel
theorem dX10_one_197 : decode cX10_one 197 = .ok (.invokevirtual 196, 3) := by decide +kernel
theorem dX10_one_200 : decode cX10_one 200 = .ok (.istore_n 2, 1) := by decide +kernel
theorem dX10_one_201 : decode cX10_one 201 = .ok (.aload_n 0, 1) := by decide +kernel
theorem dX10_one_202 : decode cX10_one 202 = .ok (.aload_n 0, 1) := by decide +kernel
theorem dX10_one_203 : decode cX10_one 203 = .ok (.getfield 144, 3) := by decide +kernel
theorem dX10_one_206 : decode cX10_one 206 = .ok (.ifCond .ne 7, 3) := by decide +kernel
theorem dX10_one_209 : decode cX10_one 209 = .ok (.iload_n 2, 1) := by decide +kernel
theorem dX10_one_210 : decode cX10_one 210 = .ok (.ifCond .ge 7, 3) := by decide +kernel
theorem dX10_one_213 : decode cX10_one 213 = .ok (.iconst 1, 1) := by decide +kernel
theorem dX10_one_214 : decode cX10_one 214 = .ok (.goto 4, 3) := by decide +kernel
theorem dX10_one_217 : decode cX10_one 217 = .ok (.iconst 0, 1) := by decide +kernel
theorem dX10_one_218 : decode cX10_one 218 = .ok (.putfield 144, 3) := by decide +kernel
theorem dX10_one_221 : decode cX10_one 221 = .ok (.aload_n 0, 1) := by decide +kernel
theorem dX10_one_222 : decode cX10_one 222 = .ok (.getfield 144, 3) := by decide +kernel
theorem dX10_one_225 : decode cX10_one 225 = .ok (.ifCond .ne 22, 3) := by decide +kernel
theorem dX10_one_228 : decode cX10_one 228 = .ok (.aload_n 0, 1) := by decide +kernel
theorem dX10_one_229 : decode cX10_one 229 = .ok (.sipush 10000, 3) := by decide +kernel
theorem dX10_one_232 : decode cX10_one 232 = .ok (.iload_n 2, 1) := by decide +kernel
theorem dX10_one_233 : decode cX10_one 233 = .ok (.iadd, 1) := by decide +kernel
theorem dX10_one_234 : decode cX10_one 234 = .ok (.invokevirtual 164, 3) := by decide +kernel
theorem dX10_one_237 : decode cX10_one 237 = .ok (.aload_n 0, 1) := by decide +kernel
theorem dX10_one_238 : decode cX10_one 238 = .ok (.dup, 1) := by decide +kernel
theorem dX10_one_239 : decode cX10_one 239 = .ok (.getfield 148, 3) := by decide +kernel
theorem dX10_one_242 : decode cX10_one 242 = .ok (.iconst 1, 1) := by decide +kernel
theorem dX10_one_243 : decode cX10_one 243 = .ok (.iadd, 1) := by decide +kernel
theorem dX10_one_244 : decode cX10_one 244 = .ok (.putfield 148, 3) := by decide +kernel
theorem dX10_one_247 : decode cX10_one 247 = .ok (.return_, 1) := by decide +kernel
theorem dX10_text_0 : decode cX10_text 0 = .ok (.iload_n 1, 1) := by decide +kernel
theorem dX10_text_1 : decode cX10_text 1 = .ok (.iconst 0, 1) := by decide +kernel
theorem dX10_text_2 : decode cX10_text 2 = .ok (.iconst 1, 1) := by decide +kernel
theorem dX10_text_3 : decode cX10_text 3 = .ok (.invokestatic 72, 3) := by decide +kernel
theorem dX10_text_6 : decode cX10_text 6 = .ok (.ifCond .ne 10, 3) := by decide +kernel
theorem dX10_text_9 : decode cX10_text 9 = .ok (.aload_n 0, 1) := by decide +kernel
theorem dX10_text_10 : decode cX10_text 10 = .ok (.ldc 83, 2) := by decide +kernel
theorem dX10_text_12 : decode cX10_text 12 = .ok (.invokevirtual 84, 3) := by decide +kernel
theorem dX10_text_15 : decode cX10_text 15 = .ok (.ireturn, 1) := by decide +kernel
theorem dX10_text_16 : decode cX10_text 16 = .ok (.aload_n 0, 1) := by decide +kernel
theorem dX10_text_17 : decode cX10_text 17 = .ok (.iload_n 1, 1) := by decide +kernel
theorem dX10_text_18 : decode cX10_text 18 = .ok (.putfield 180, 3) := by decide +kernel
theorem dX10_text_21 : decode cX10_text 21 = .ok (.aload_n 0, 1) := by decide +kernel
theorem dX10_text_22 : decode cX10_text 22 = .ok (.iconst 0, 1) := by decide +kernel
theorem dX10_text_23 : decode cX10_text 23 = .ok (.putfield 148, 3) := by decide +kernel
theorem dX10_text_26 : decode cX10_text 26 = .ok (.aload_n 0, 1) := by decide +kernel
theorem dX10_text_27 : decode cX10_text 27 = .ok (.iconst 0, 1) := by decide +kernel
theorem dX10_text_28 : decode cX10_text 28 = .ok (.putfield 190, 3) := by decide +kernel
theorem dX10_text_31 : decode cX10_text 31 = .ok (.aload_n 0, 1) := by decide +kernel
theorem dX10_text_32 : decode cX10_text 32 = .ok (.iconst 0, 1) := by decide +kernel
theorem dX10_text_33 : decode cX10_text 33 = .ok (.putfield 144, 3) := by decide +kernel
theorem dX10_text_36 : decode cX10_text 36 = .ok (.aload_n 0, 1) := by decide +kernel
theorem dX10_text_37 : decode cX10_text 37 = .ok (.iconst 0, 1) := by decide +kernel
theorem dX10_text_38 : decode cX10_text 38 = .ok (.putfield 155, 3) := by decide +kernel
theorem dX10_text_41 : decode cX10_text 41 = .ok (.aload_n 0, 1) := by decide +kernel
theorem dX10_text_42 : decode cX10_text 42 = .ok (.invokevirtual 193, 3) := by decide +kernel
theorem dX10_text_45 : decode cX10_text 45 = .ok (.aload_n 0, 1) := by decide +kernel
theorem dX10_text_46 : decode cX10_text 46 = .ok (.aload_n 0, 1) := by decide +kernel
theorem dX10_text_47 : decode cX10_text 47 = .ok (.getfield 144, 3) := by decide +kernel
theorem dX10_text_50 : decode cX10_text 50 = .ok (.ifCond .ne 17, 3) := by decide +kernel
theorem dX10_text_53 : decode cX10_text 53 = .ok (.aload_n 0, 1) := by decide +kernel
theorem dX10_text_54 : decode cX10_text 54 = .ok (.getfield 148, 3) := by decide +kernel
theorem dX10_text_57 : decode cX10_text 57 = .ok (.aload_n 0, 1) := by decide +kernel
theorem dX10_text_58 : decode cX10_text 58 = .ok (.getfield 9, 3) := by decide +kernel
theorem dX10_text_61 : decode cX10_text 61 = .ok (.bipush 9, 2) := by decide +kernel
theorem dX10_text_63 : decode cX10_text 63 = .ok (.iaload, 1) := by decide +kernel
theorem dX10_text_64 : decode cX10_text 64 = .ok (.if_icmp .ge 7, 3) := by decide +kernel
theorem dX10_text_67 : decode cX10_text 67 = .ok (.iconst 1, 1) := by decide +kernel
theorem dX10_text_68 : decode cX10_text 68 = .ok (.goto 4, 3) := by decide +kernel
theorem dX10_text_71 : decode cX10_text 71 = .ok (.iconst 0, 1) := by decide +kernel
theorem dX10_text_72 : decode cX10_text 72 = .ok (.putfield 144, 3) := by decide +kernel
theorem dX10_text_75 : decode cX10_text 75 = .ok (.aload_n 0, 1) := by decide +kernel
theorem dX10_text_76 : decode cX10_text 76 = .ok (.getfield 9, 3) := by decide +kernel
theorem dX10_text_79 : decode cX10_text 79 = .ok (.bipush 9, 2) := by decide +kernel
theorem dX10_text_81 : decode cX10_text 81 = .ok (.iconst 0, 1) := by decide +kernel
theorem dX10_text_82 : decode cX10_text 82 = .ok (.iastore, 1) := by decide +kernel
theorem dX10_text_83 : decode cX10_text 83 = .ok (.aload_n 0, 1) := by decide +kernel
theorem dX10_text_84 : decode cX10_text 84 = .ok (.getfield 144, 3) := by decide +kernel
theorem dX10_text_87 : decode cX10_text 87 = .ok (.ifCond .eq 11, 3) := by decide +kernel
theorem dX10_text_90 : decode cX10_text 90 = .ok (.bipush (-10), 2) := by decide +kernel
theorem dX10_text_92 : decode cX10_text 92 = .ok (.aload_n 0, 1) := by decide +kernel
theorem dX10_text_93 : decode cX10_text 93 = .ok (.getfield 148, 3) := by decide +kernel
theorem dX10_text_96 : decode cX10_text 96 = .ok (.isub, 1) := by decide +kernel
theorem dX10_text_97 : decode cX10_text 97 = .ok (.ireturn, 1) := by decide +kernel
theorem dX10_text_98 : decode cX10_text 98 = .ok (.aload_n 0, 1) := by decide +kernel
theorem dX10_text_99 : decode cX10_text 99 = .ok (.getfield 9, 3) := by decide +kernel
theorem dX10_text_102 : decode cX10_text 102 = .ok (.sipush 136, 3) := by decide +kernel
theorem dX10_text_105 : decode cX10_text 105 = .ok (.bipush 52, 2) := by decide +kernel
theorem dX10_text_107 : decode cX10_text 107 = .ok (.aload_n 0, 1) := by decide +kernel
theorem dX10_text_108 : decode cX10_text 108 = .ok (.getfield 180, 3) := by decide +kernel
theorem dX10_text_111 : decode cX10_text 111 = .ok (.imul, 1) := by decide +kernel
theorem dX10_text_112 : decode cX10_text 112 = .ok (.iadd, 1) := by decide +kernel
theorem dX10_text_113 : decode cX10_text 113 = .ok (.aload_n 0, 1) := by decide +kernel
theorem dX10_text_114 : decode cX10_text 114 = .ok (.getfield 155, 3) := by decide +kernel
theorem dX10_text_117 : decode cX10_text 117 = .ok (.iastore, 1) := by decide +kernel
theorem dX10_text_118 : decode cX10_text 118 = .ok (.iconst 0, 1) := by decide +kernel
theorem dX10_text_119 : decode cX10_text 119 = .ok (.istore_n 2, 1) := by decide +kernel
theorem dX10_text_120 : decode cX10_text 120 = .ok (.iload_n 2, 1) := by decide +kernel
theorem dX10_text_121 : decode cX10_text 121 = .ok (.aload_n 0, 1) := by decide +kernel
theorem dX10_text_122 : decode cX10_text 122 = .ok (.getfield 155, 3) := by decide +kernel
theorem dX10_text_125 : decode cX10_text 125 = .ok (.if_icmp .ge 35, 3) := by decide +kernel
theorem dX10_text_128 : decode cX10_text 128 = .ok (.aload_n 0, 1) := by decide +kernel
theorem dX10_text_129 : decode cX10_text 129 = .ok (.getfield 9, 3) := by decide +kernel
theorem dX10_text_132 : decode cX10_text 132 = .ok (.sipush 136, 3) := by decide +kernel
theorem dX10_text_135 : decode cX10_text 135 = .ok (.bipush 52, 2) := by decide +kernel
theorem dX10_text_137 : decode cX10_text 137 = .ok (.aload_n 0, 1) := by decide +kernel
theorem dX10_text_138 : decode cX10_text 138 = .ok (.getfield 180, 3) := by decide +kernel
theorem dX10_text_141 : decode cX10_text 141 = .ok (.imul, 1) := by decide +kernel
theorem dX10_text_142 : decode cX10_text 142 = .ok (.iadd, 1) := by decide +kernel
theorem dX10_text_143 : decode cX10_text 143 = .ok (.iconst 1, 1) := by decide +kernel
theorem dX10_text_144 : decode cX10_text 144 = .ok (.iadd, 1) := by decide +kernel
theorem dX10_text_145 : decode cX10_text 145 = .ok (.iload_n 2, 1) := by decide +kernel
theorem dX10_text_146 : decode cX10_text 146 = .ok (.iadd, 1) := by decide +kernel
theorem dX10_text_147 : decode cX10_text 147 = .ok (.aload_n 0, 1) := by decide +kernel
theorem dX10_text_148 : decode cX10_text 148 = .ok (.getfield 35, 3) := by decide +kernel
theorem dX10_text_151 : decode cX10_text 151 = .ok (.iload_n 2, 1) := by decide +kernel
theorem dX10_text_152 : decode cX10_text 152 = .ok (.iaload, 1) := by decide +kernel
theorem dX10_text_153 : decode cX10_text 153 = .ok (.iastore, 1) := by decide +kernel
theorem dX10_text_154 : decode cX10_text 154 = .ok (.iinc 2 1, 3) := by decide +kernel
theorem dX10_text_157 : decode cX10_text 157 = .ok (.goto (-37), 3) := by decide +kernel
theorem dX10_text_160 : decode cX10_text 160 = .ok (.aload_n 0, 1) := by decide +kernel
theorem dX10_text_161 : decode cX10_text 161 = .ok (.invokevirtual 199, 3) := by decide +kernel
theorem dX10_text_164 : decode cX10_text 164 = .ok (.iconst 1, 1) := by decide +kernel
theorem dX10_text_165 : decode cX10_text 165 = .ok (.ireturn, 1) := by decide +kernel
theorem dX10_done_0 : decode cX10_done 0 = .ok (.iload_n 0, 1) := by decide +kernel
theorem dX10_done_1 : decode cX10_done 1 = .ok (.tableswitch 136 20000 20008 #[51, 65, 79, 90, 101, 112, 116, 120, 124], 51) := by decide +kernel
theorem dX10_done_52 : decode cX10_done 52 = .ok (.iload_n 1, 1) := by decide +kernel
theorem dX10_done_53 : decode cX10_done 53 = .ok (.ifCond .ne 7, 3) := by decide +kernel
theorem dX10_done_56 : decode cX10_done 56 = .ok (.iload_n 2, 1) := by decide +kernel
theorem dX10_done_57 : decode cX10_done 57 = .ok (.ifCond .eq 7, 3) := by decide +kernel
theorem dX10_done_60 : decode cX10_done 60 = .ok (.iconst 1, 1) := by decide +kernel
theorem dX10_done_61 : decode cX10_done 61 = .ok (.goto 4, 3) := by decide +kernel
theorem dX10_done_64 : decode cX10_done 64 = .ok (.iconst 0, 1) := by decide +kernel
theorem dX10_done_65 : decode cX10_done 65 = .ok (.ireturn, 1) := by decide +kernel
theorem dX10_done_66 : decode cX10_done 66 = .ok (.iload_n 1, 1) := by decide +kernel
theorem dX10_done_67 : decode cX10_done 67 = .ok (.ifCond .eq 11, 3) := by decide +kernel
theorem dX10_done_70 : decode cX10_done 70 = .ok (.iload_n 2, 1) := by decide +kernel
theorem dX10_done_71 : decode cX10_done 71 = .ok (.ifCond .eq 7, 3) := by decide +kernel
theorem dX10_done_74 : decode cX10_done 74 = .ok (.iconst 1, 1) := by decide +kernel
theorem dX10_done_75 : decode cX10_done 75 = .ok (.goto 4, 3) := by decide +kernel
theorem dX10_done_78 : decode cX10_done 78 = .ok (.iconst 0, 1) := by decide +kernel
theorem dX10_done_79 : decode cX10_done 79 = .ok (.ireturn, 1) := by decide +kernel
theorem dX10_done_80 : decode cX10_done 80 = .ok (.iload_n 1, 1) := by decide +kernel
theorem dX10_done_81 : decode cX10_done 81 = .ok (.iload_n 2, 1) := by decide +kernel
theorem dX10_done_82 : decode cX10_done 82 = .ok (.if_icmp .ge 7, 3) := by decide +kernel
theorem dX10_done_85 : decode cX10_done 85 = .ok (.iconst 1, 1) := by decide +kernel
theorem dX10_done_86 : decode cX10_done 86 = .ok (.goto 4, 3) := by decide +kernel
theorem dX10_done_89 : decode cX10_done 89 = .ok (.iconst 0, 1) := by decide +kernel
theorem dX10_done_90 : decode cX10_done 90 = .ok (.ireturn, 1) := by decide +kernel
theorem dX10_done_91 : decode cX10_done 91 = .ok (.iload_n 1, 1) := by decide +kernel
theorem dX10_done_92 : decode cX10_done 92 = .ok (.iload_n 2, 1) := by decide +kernel
theorem dX10_done_93 : decode cX10_done 93 = .ok (.if_icmp .ne 7, 3) := by decide +kernel
theorem dX10_done_96 : decode cX10_done 96 = .ok (.iconst 1, 1) := by decide +kernel
theorem dX10_done_97 : decode cX10_done 97 = .ok (.goto 4, 3) := by decide +kernel
theorem dX10_done_100 : decode cX10_done 100 = .ok (.iconst 0, 1) := by decide +kernel
theorem dX10_done_101 : decode cX10_done 101 = .ok (.ireturn, 1) := by decide +kernel
theorem dX10_done_102 : decode cX10_done 102 = .ok (.iload_n 1, 1) := by decide +kernel
theorem dX10_done_103 : decode cX10_done 103 = .ok (.iload_n 2, 1) := by decide +kernel
theorem dX10_done_104 : decode cX10_done 104 = .ok (.if_icmp .le 7, 3) := by decide +kernel
theorem dX10_done_107 : decode cX10_done 107 = .ok (.iconst 1, 1) := by decide +kernel
theorem dX10_done_108 : decode cX10_done 108 = .ok (.goto 4, 3) := by decide +kernel
theorem dX10_done_111 : decode cX10_done 111 = .ok (.iconst 0, 1) := by decide +kernel
theorem dX10_done_112 : decode cX10_done 112 = .ok (.ireturn, 1) := by decide +kernel
theorem dX10_done_113 : decode cX10_done 113 = .ok (.iload_n 1, 1) := by decide +kernel
theorem dX10_done_114 : decode cX10_done 114 = .ok (.iload_n 2, 1) := by decide +kernel
theorem dX10_done_115 : decode cX10_done 115 = .ok (.iadd, 1) := by decide +kernel
theorem dX10_done_116 : decode cX10_done 116 = .ok (.ireturn, 1) := by decide +kernel
theorem dX10_done_117 : decode cX10_done 117 = .ok (.iload_n 1, 1) := by decide +kernel
theorem dX10_done_118 : decode cX10_done 118 = .ok (.iload_n 2, 1) := by decide +kernel
theorem dX10_done_119 : decode cX10_done 119 = .ok (.isub, 1) := by decide +kernel
theorem dX10_done_120 : decode cX10_done 120 = .ok (.ireturn, 1) := by decide +kernel
theorem dX10_done_121 : decode cX10_done 121 = .ok (.iload_n 1, 1) := by decide +kernel
theorem dX10_done_122 : decode cX10_done 122 = .ok (.iload_n 2, 1) := by decide +kernel
theorem dX10_done_123 : decode cX10_done 123 = .ok (.imul, 1) := by decide +kernel
theorem dX10_done_124 : decode cX10_done 124 = .ok (.ireturn, 1) := by decide +kernel
theorem dX10_done_125 : decode cX10_done 125 = .ok (.iload_n 2, 1) := by decide +kernel
theorem dX10_done_126 : decode cX10_done 126 = .ok (.ifCond .ne 7, 3) := by decide +kernel
theorem dX10_done_129 : decode cX10_done 129 = .ok (.iconst 0, 1) := by decide +kernel
theorem dX10_done_130 : decode cX10_done 130 = .ok (.goto 6, 3) := by decide +kernel
theorem dX10_done_133 : decode cX10_done 133 = .ok (.iload_n 1, 1) := by decide +kernel
theorem dX10_done_134 : decode cX10_done 134 = .ok (.iload_n 2, 1) := by decide +kernel
theorem dX10_done_135 : decode cX10_done 135 = .ok (.idiv, 1) := by decide +kernel
theorem dX10_done_136 : decode cX10_done 136 = .ok (.ireturn, 1) := by decide +kernel
theorem dX10_done_137 : decode cX10_done 137 = .ok (.iload_n 2, 1) := by decide +kernel
theorem dX10_done_138 : decode cX10_done 138 = .ok (.ifCond .ne 7, 3) := by decide +kernel
theorem dX10_done_141 : decode cX10_done 141 = .ok (.iconst 0, 1) := by decide +kernel
theorem dX10_done_142 : decode cX10_done 142 = .ok (.goto 6, 3) := by decide +kernel
theorem dX10_done_145 : decode cX10_done 145 = .ok (.iload_n 1, 1) := by decide +kernel
theorem dX10_done_146 : decode cX10_done 146 = .ok (.iload_n 2, 1) := by decide +kernel
theorem dX10_done_147 : decode cX10_done 147 = .ok (.irem, 1) := by decide +kernel
theorem dX10_done_148 : decode cX10_done 148 = .ok (.ireturn, 1) := by decide +kernel
theorem dX10_worked_0 : decode cX10_worked 0 = .ok (.iconst 0, 1) := by decide +kernel
theorem dX10_worked_1 : decode cX10_worked 1 = .ok (.istore_n 2, 1) := by decide +kernel
theorem dX10_worked_2 : decode cX10_worked 2 = .ok (.iload_n 1, 1) := by decide +kernel
theorem dX10_worked_3 : decode cX10_worked 3 = .ok (.istore_n 3, 1) := by decide +kernel
theorem dX10_worked_4 : decode cX10_worked 4 = .ok (.iload_n 3, 1) := by decide +kernel
theorem dX10_worked_5 : decode cX10_worked 5 = .ok (.iload_n 1, 1) := by decide +kernel
theorem dX10_worked_6 : decode cX10_worked 6 = .ok (.aload_n 0, 1) := by decide +kernel
theorem dX10_worked_7 : decode cX10_worked 7 = .ok (.getfield 9, 3) := by decide +kernel
theorem dX10_worked_10 : decode cX10_worked 10 = .ok (.iload_n 1, 1) := by decide +kernel
theorem dX10_worked_11 : decode cX10_worked 11 = .ok (.iconst 1, 1) := by decide +kernel
theorem dX10_worked_12 : decode cX10_worked 12 = .ok (.isub, 1) := by decide +kernel
theorem dX10_worked_13 : decode cX10_worked 13 = .ok (.iaload, 1) := by decide +kernel
theorem dX10_worked_14 : decode cX10_worked 14 = .ok (.iadd, 1) := by decide +kernel
theorem dX10_worked_15 : decode cX10_worked 15 = .ok (.if_icmp .ge 126, 3) := by decide +kernel
theorem dX10_worked_18 : decode cX10_worked 18 = .ok (.aload_n 0, 1) := by decide +kernel
theorem dX10_worked_19 : decode cX10_worked 19 = .ok (.getfield 9, 3) := by decide +kernel
theorem dX10_worked_22 : decode cX10_worked 22 = .ok (.iload_n 3, 1) := by decide +kernel
theorem dX10_worked_23 : decode cX10_worked 23 = .ok (.iaload, 1) := by decide +kernel
theorem dX10_worked_24 : decode cX10_worked 24 = .ok (.istore 4, 2) := by decide +kernel
theorem dX10_worked_26 : decode cX10_worked 26 = .ok (.iload 4, 2) := by decide +kernel
theorem dX10_worked_28 : decode cX10_worked 28 = .ok (.sipush 20000, 3) := by decide +kernel
theorem dX10_worked_31 : decode cX10_worked 31 = .ok (.if_icmp .ge 39, 3) := by decide +kernel
theorem dX10_worked_34 : decode cX10_worked 34 = .ok (.aload_n 0, 1) := by decide +kernel
theorem dX10_worked_35 : decode cX10_worked 35 = .ok (.getfield 41, 3) := by decide +kernel
theorem dX10_worked_38 : decode cX10_worked 38 = .ok (.iload_n 2, 1) := by decide +kernel
theorem dX10_worked_39 : decode cX10_worked 39 = .ok (.iload 4, 2) := by decide +kernel
theorem dX10_worked_41 : decode cX10_worked 41 = .ok (.sipush 10000, 3) := by decide +kernel
theorem dX10_worked_44 : decode cX10_worked 44 = .ok (.if_icmp .ge 8, 3) := by decide +kernel
theorem dX10_worked_47 : decode cX10_worked 47 = .ok (.iload 4, 2) := by decide +kernel
theorem dX10_worked_49 : decode cX10_worked 49 = .ok (.goto 14, 3) := by decide +kernel
theorem dX10_worked_52 : decode cX10_worked 52 = .ok (.aload_n 0, 1) := by decide +kernel
theorem dX10_worked_53 : decode cX10_worked 53 = .ok (.getfield 38, 3) := by decide +kernel
theorem dX10_worked_56 : decode cX10_worked 56 = .ok (.iload 4, 2) := by decide +kernel
theorem dX10_worked_58 : decode cX10_worked 58 = .ok (.sipush 10000, 3) := by decide +kernel
theorem dX10_worked_61 : decode cX10_worked 61 = .ok (.isub, 1) := by decide +kernel
theorem dX10_worked_62 : decode cX10_worked 62 = .ok (.iaload, 1) := by decide +kernel
theorem dX10_worked_63 : decode cX10_worked 63 = .ok (.iastore, 1) := by decide +kernel
theorem dX10_worked_64 : decode cX10_worked 64 = .ok (.iinc 2 1, 3) := by decide +kernel
theorem dX10_worked_67 : decode cX10_worked 67 = .ok (.goto 68, 3) := by decide +kernel
theorem dX10_worked_70 : decode cX10_worked 70 = .ok (.iload 4, 2) := by decide +kernel
theorem dX10_worked_72 : decode cX10_worked 72 = .ok (.sipush 20010, 3) := by decide +kernel
theorem dX10_worked_75 : decode cX10_worked 75 = .ok (.if_icmp .ne 30, 3) := by decide +kernel
theorem dX10_worked_78 : decode cX10_worked 78 = .ok (.aload_n 0, 1) := by decide +kernel
theorem dX10_worked_79 : decode cX10_worked 79 = .ok (.getfield 41, 3) := by decide +kernel
theorem dX10_worked_82 : decode cX10_worked 82 = .ok (.iload_n 2, 1) := by decide +kernel
theorem dX10_worked_83 : decode cX10_worked 83 = .ok (.iconst 1, 1) := by decide +kernel
theorem dX10_worked_84 : decode cX10_worked 84 = .ok (.isub, 1) := by decide +kernel
theorem dX10_worked_85 : decode cX10_worked 85 = .ok (.aload_n 0, 1) := by decide +kernel
theorem dX10_worked_86 : decode cX10_worked 86 = .ok (.getfield 41, 3) := by decide +kernel
theorem dX10_worked_89 : decode cX10_worked 89 = .ok (.iload_n 2, 1) := by decide +kernel
theorem dX10_worked_90 : decode cX10_worked 90 = .ok (.iconst 1, 1) := by decide +kernel
theorem dX10_worked_91 : decode cX10_worked 91 = .ok (.isub, 1) := by decide +kernel
theorem dX10_worked_92 : decode cX10_worked 92 = .ok (.iaload, 1) := by decide +kernel
theorem dX10_worked_93 : decode cX10_worked 93 = .ok (.ifCond .ne 7, 3) := by decide +kernel
theorem dX10_worked_96 : decode cX10_worked 96 = .ok (.iconst 1, 1) := by decide +kernel
theorem dX10_worked_97 : decode cX10_worked 97 = .ok (.goto 4, 3) := by decide +kernel
theorem dX10_worked_100 : decode cX10_worked 100 = .ok (.iconst 0, 1) := by decide +kernel
theorem dX10_worked_101 : decode cX10_worked 101 = .ok (.iastore, 1) := by decide +kernel
theorem dX10_worked_102 : decode cX10_worked 102 = .ok (.goto 33, 3) := by decide +kernel
theorem dX10_worked_105 : decode cX10_worked 105 = .ok (.iinc 2 (-1), 3) := by decide +kernel
theorem dX10_worked_108 : decode cX10_worked 108 = .ok (.aload_n 0, 1) := by decide +kernel
theorem dX10_worked_109 : decode cX10_worked 109 = .ok (.getfield 41, 3) := by decide +kernel
theorem dX10_worked_112 : decode cX10_worked 112 = .ok (.iload_n 2, 1) := by decide +kernel
theorem dX10_worked_113 : decode cX10_worked 113 = .ok (.iconst 1, 1) := by decide +kernel
theorem dX10_worked_114 : decode cX10_worked 114 = .ok (.isub, 1) := by decide +kernel
theorem dX10_worked_115 : decode cX10_worked 115 = .ok (.iload 4, 2) := by decide +kernel
theorem dX10_worked_117 : decode cX10_worked 117 = .ok (.aload_n 0, 1) := by decide +kernel
theorem dX10_worked_118 : decode cX10_worked 118 = .ok (.getfield 41, 3) := by decide +kernel
theorem dX10_worked_121 : decode cX10_worked 121 = .ok (.iload_n 2, 1) := by decide +kernel
theorem dX10_worked_122 : decode cX10_worked 122 = .ok (.iconst 1, 1) := by decide +kernel
theorem dX10_worked_123 : decode cX10_worked 123 = .ok (.isub, 1) := by decide +kernel
theorem dX10_worked_124 : decode cX10_worked 124 = .ok (.iaload, 1) := by decide +kernel
theorem dX10_worked_125 : decode cX10_worked 125 = .ok (.aload_n 0, 1) := by decide +kernel
theorem dX10_worked_126 : decode cX10_worked 126 = .ok (.getfield 41, 3) := by decide +kernel
theorem dX10_worked_129 : decode cX10_worked 129 = .ok (.iload_n 2, 1) := by decide +kernel
theorem dX10_worked_130 : decode cX10_worked 130 = .ok (.iaload, 1) := by decide +kernel
theorem dX10_worked_131 : decode cX10_worked 131 = .ok (.invokestatic 202, 3) := by decide +kernel
theorem dX10_worked_134 : decode cX10_worked 134 = .ok (.iastore, 1) := by decide +kernel
theorem dX10_worked_135 : decode cX10_worked 135 = .ok (.iinc 3 1, 3) := by decide +kernel
theorem dX10_worked_138 : decode cX10_worked 138 = .ok (.goto (-134), 3) := by decide +kernel
theorem dX10_worked_141 : decode cX10_worked 141 = .ok (.aload_n 0, 1) := by decide +kernel
theorem dX10_worked_142 : decode cX10_worked 142 = .ok (.getfield 41, 3) := by decide +kernel
theorem dX10_worked_145 : decode cX10_worked 145 = .ok (.iconst 0, 1) := by decide +kernel
theorem dX10_worked_146 : decode cX10_worked 146 = .ok (.iaload, 1) := by decide +kernel
theorem dX10_worked_147 : decode cX10_worked 147 = .ok (.ireturn, 1) := by decide +kernel
theorem dX10_hasText_0 : decode cX10_hasText 0 = .ok (.aload_n 0, 1) := by decide +kernel
theorem dX10_hasText_1 : decode cX10_hasText 1 = .ok (.getfield 9, 3) := by decide +kernel
theorem dX10_hasText_4 : decode cX10_hasText 4 = .ok (.sipush 136, 3) := by decide +kernel
theorem dX10_hasText_7 : decode cX10_hasText 7 = .ok (.bipush 52, 2) := by decide +kernel
theorem dX10_hasText_9 : decode cX10_hasText 9 = .ok (.iload_n 1, 1) := by decide +kernel
theorem dX10_hasText_10 : decode cX10_hasText 10 = .ok (.imul, 1) := by decide +kernel
theorem dX10_hasText_11 : decode cX10_hasText 11 = .ok (.iadd, 1) := by decide +kernel
theorem dX10_hasText_12 : decode cX10_hasText 12 = .ok (.iaload, 1) := by decide +kernel
theorem dX10_hasText_13 : decode cX10_hasText 13 = .ok (.ifCond .le 7, 3) := by decide +kernel
theorem dX10_hasText_16 : decode cX10_hasText 16 = .ok (.iconst 1, 1) := by decide +kernel
theorem dX10_hasText_17 : decode cX10_hasText 17 = .ok (.goto 4, 3) := by decide +kernel
theorem dX10_hasText_20 : decode cX10_hasText 20 = .ok (.iconst 0, 1) := by decide +kernel
theorem dX10_hasText_21 : decode cX10_hasText 21 = .ok (.ireturn, 1) := by decide +kernel
theorem dX10_given_0 : decode cX10_given 0 = .ok (.aload_n 0, 1) := by decide +kernel
theorem dX10_given_1 : decode cX10_given 1 = .ok (.getfield 38, 3) := by decide +kernel
theorem dX10_given_4 : decode cX10_given 4 = .ok (.iconst 0, 1) := by decide +kernel
theorem dX10_given_5 : decode cX10_given 5 = .ok (.iload_n 2, 1) := by decide +kernel
theorem dX10_given_6 : decode cX10_given 6 = .ok (.iastore, 1) := by decide +kernel
theorem dX10_given_7 : decode cX10_given 7 = .ok (.aload_n 0, 1) := by decide +kernel
theorem dX10_given_8 : decode cX10_given 8 = .ok (.getfield 38, 3) := by decide +kernel
theorem dX10_given_11 : decode cX10_given 11 = .ok (.iconst 1, 1) := by decide +kernel
theorem dX10_given_12 : decode cX10_given 12 = .ok (.iload_n 3, 1) := by decide +kernel
theorem dX10_given_13 : decode cX10_given 13 = .ok (.iastore, 1) := by decide +kernel
theorem dX10_given_14 : decode cX10_given 14 = .ok (.aload_n 0, 1) := by decide +kernel
theorem dX10_given_15 : decode cX10_given 15 = .ok (.getfield 38, 3) := by decide +kernel
theorem dX10_given_18 : decode cX10_given 18 = .ok (.iconst 2, 1) := by decide +kernel
theorem dX10_given_19 : decode cX10_given 19 = .ok (.iload 4, 2) := by decide +kernel
theorem dX10_given_21 : decode cX10_given 21 = .ok (.iastore, 1) := by decide +kernel
theorem dX10_given_22 : decode cX10_given 22 = .ok (.iload_n 1, 1) := by decide +kernel
theorem dX10_given_23 : decode cX10_given 23 = .ok (.iconst 1, 1) := by decide +kernel
theorem dX10_given_24 : decode cX10_given 24 = .ok (.if_icmp .ne 7, 3) := by decide +kernel
theorem dX10_given_27 : decode cX10_given 27 = .ok (.iload_n 3, 1) := by decide +kernel
theorem dX10_given_28 : decode cX10_given 28 = .ok (.goto 14, 3) := by decide +kernel
theorem dX10_given_31 : decode cX10_given 31 = .ok (.iload_n 3, 1) := by decide +kernel
theorem dX10_given_32 : decode cX10_given 32 = .ok (.ifCond .ne 7, 3) := by decide +kernel
theorem dX10_given_35 : decode cX10_given 35 = .ok (.iconst 0, 1) := by decide +kernel
theorem dX10_given_36 : decode cX10_given 36 = .ok (.goto 6, 3) := by decide +kernel
theorem dX10_given_39 : decode cX10_given 39 = .ok (.iload_n 2, 1) := by decide +kernel
theorem dX10_given_40 : decode cX10_given 40 = .ok (.iload_n 3, 1) := by decide +kernel
theorem dX10_given_41 : decode cX10_given 41 = .ok (.idiv, 1) := by decide +kernel
theorem dX10_given_42 : decode cX10_given 42 = .ok (.istore 5, 2) := by decide +kernel
theorem dX10_given_44 : decode cX10_given 44 = .ok (.aload_n 0, 1) := by decide +kernel
theorem dX10_given_45 : decode cX10_given 45 = .ok (.iload_n 1, 1) := by decide +kernel
theorem dX10_given_46 : decode cX10_given 46 = .ok (.invokevirtual 206, 3) := by decide +kernel
theorem dX10_given_49 : decode cX10_given 49 = .ok (.ifCond .eq 20, 3) := by decide +kernel
theorem dX10_given_52 : decode cX10_given 52 = .ok (.aload_n 0, 1) := by decide +kernel
theorem dX10_given_53 : decode cX10_given 53 = .ok (.sipush 136, 3) := by decide +kernel
theorem dX10_given_56 : decode cX10_given 56 = .ok (.bipush 52, 2) := by decide +kernel
theorem dX10_given_58 : decode cX10_given 58 = .ok (.iload_n 1, 1) := by decide +kernel
theorem dX10_given_59 : decode cX10_given 59 = .ok (.imul, 1) := by decide +kernel
theorem dX10_given_60 : decode cX10_given 60 = .ok (.iadd, 1) := by decide +kernel
theorem dX10_given_61 : decode cX10_given 61 = .ok (.iconst 1, 1) := by decide +kernel
theorem dX10_given_62 : decode cX10_given 62 = .ok (.iadd, 1) := by decide +kernel
theorem dX10_given_63 : decode cX10_given 63 = .ok (.invokevirtual 209, 3) := by decide +kernel
theorem dX10_given_66 : decode cX10_given 66 = .ok (.goto 5, 3) := by decide +kernel
theorem dX10_given_69 : decode cX10_given 69 = .ok (.iload 5, 2) := by decide +kernel
theorem dX10_given_71 : decode cX10_given 71 = .ok (.iconst 0, 1) := by decide +kernel
theorem dX10_given_72 : decode cX10_given 72 = .ok (.bipush 99, 2) := by decide +kernel
theorem dX10_given_74 : decode cX10_given 74 = .ok (.invokestatic 212, 3) := by decide +kernel
theorem dX10_given_77 : decode cX10_given 77 = .ok (.ireturn, 1) := by decide +kernel
theorem dX10_law_0 : decode cX10_law 0 = .ok (.iload_n 1, 1) := by decide +kernel
theorem dX10_law_1 : decode cX10_law 1 = .ok (.iconst 0, 1) := by decide +kernel
theorem dX10_law_2 : decode cX10_law 2 = .ok (.iconst 1, 1) := by decide +kernel
theorem dX10_law_3 : decode cX10_law 3 = .ok (.invokestatic 72, 3) := by decide +kernel
theorem dX10_law_6 : decode cX10_law 6 = .ok (.ifCond .eq 15, 3) := by decide +kernel
theorem dX10_law_9 : decode cX10_law 9 = .ok (.aload_n 0, 1) := by decide +kernel
theorem dX10_law_10 : decode cX10_law 10 = .ok (.iload_n 1, 1) := by decide +kernel
theorem dX10_law_11 : decode cX10_law 11 = .ok (.iload_n 2, 1) := by decide +kernel
theorem dX10_law_12 : decode cX10_law 12 = .ok (.iload_n 3, 1) := by decide +kernel
theorem dX10_law_13 : decode cX10_law 13 = .ok (.iload 4, 2) := by decide +kernel
theorem dX10_law_15 : decode cX10_law 15 = .ok (.invokevirtual 117, 3) := by decide +kernel
theorem dX10_law_18 : decode cX10_law 18 = .ok (.goto 9, 3) := by decide +kernel
theorem dX10_law_21 : decode cX10_law 21 = .ok (.aload_n 0, 1) := by decide +kernel
theorem dX10_law_22 : decode cX10_law 22 = .ok (.ldc 83, 2) := by decide +kernel
theorem dX10_law_24 : decode cX10_law 24 = .ok (.invokevirtual 84, 3) := by decide +kernel
theorem dX10_law_27 : decode cX10_law 27 = .ok (.ireturn, 1) := by decide +kernel
theorem dX10_drawn_0 : decode cX10_drawn 0 = .ok (.aload_n 0, 1) := by decide +kernel
theorem dX10_drawn_1 : decode cX10_drawn 1 = .ok (.getfield 9, 3) := by decide +kernel
theorem dX10_drawn_4 : decode cX10_drawn 4 = .ok (.bipush 11, 2) := by decide +kernel
theorem dX10_drawn_6 : decode cX10_drawn 6 = .ok (.aload_n 0, 1) := by decide +kernel
theorem dX10_drawn_7 : decode cX10_drawn 7 = .ok (.getfield 9, 3) := by decide +kernel
theorem dX10_drawn_10 : decode cX10_drawn 10 = .ok (.bipush 11, 2) := by decide +kernel
theorem dX10_drawn_12 : decode cX10_drawn 12 = .ok (.iaload, 1) := by decide +kernel
theorem dX10_drawn_13 : decode cX10_drawn 13 = .ok (.ldc 215, 2) := by decide +kernel
theorem dX10_drawn_15 : decode cX10_drawn 15 = .ok (.imul, 1) := by decide +kernel
theorem dX10_drawn_16 : decode cX10_drawn 16 = .ok (.sipush 12345, 3) := by decide +kernel
theorem dX10_drawn_19 : decode cX10_drawn 19 = .ok (.iadd, 1) := by decide +kernel
theorem dX10_drawn_20 : decode cX10_drawn 20 = .ok (.iastore, 1) := by decide +kernel
theorem dX10_drawn_21 : decode cX10_drawn 21 = .ok (.aload_n 0, 1) := by decide +kernel
theorem dX10_drawn_22 : decode cX10_drawn 22 = .ok (.getfield 9, 3) := by decide +kernel
theorem dX10_drawn_25 : decode cX10_drawn 25 = .ok (.bipush 11, 2) := by decide +kernel
theorem dX10_drawn_27 : decode cX10_drawn 27 = .ok (.iaload, 1) := by decide +kernel
theorem dX10_drawn_28 : decode cX10_drawn 28 = .ok (.bipush 8, 2) := by decide +kernel
theorem dX10_drawn_30 : decode cX10_drawn 30 = .ok (.iushr, 1) := by decide +kernel
theorem dX10_drawn_31 : decode cX10_drawn 31 = .ok (.iload_n 1, 1) := by decide +kernel
theorem dX10_drawn_32 : decode cX10_drawn 32 = .ok (.irem, 1) := by decide +kernel
theorem dX10_drawn_33 : decode cX10_drawn 33 = .ok (.ireturn, 1) := by decide +kernel
theorem dX10_next_0 : decode cX10_next 0 = .ok (.iload_n 0, 1) := by decide +kernel
theorem dX10_next_1 : decode cX10_next 1 = .ok (.bipush 8, 2) := by decide +kernel
theorem dX10_next_3 : decode cX10_next 3 = .ok (.idiv, 1) := by decide +kernel
theorem dX10_next_4 : decode cX10_next 4 = .ok (.iload_n 1, 1) := by decide +kernel
theorem dX10_next_5 : decode cX10_next 5 = .ok (.iconst 3, 1) := by decide +kernel
theorem dX10_next_6 : decode cX10_next 6 = .ok (.if_icmp .ne 7, 3) := by decide +kernel
theorem dX10_next_9 : decode cX10_next 9 = .ok (.iconst 1, 1) := by decide +kernel
theorem dX10_next_10 : decode cX10_next 10 = .ok (.goto 13, 3) := by decide +kernel
theorem dX10_next_13 : decode cX10_next 13 = .ok (.iload_n 1, 1) := by decide +kernel
theorem dX10_next_14 : decode cX10_next 14 = .ok (.iconst 1, 1) := by decide +kernel
theorem dX10_next_15 : decode cX10_next 15 = .ok (.if_icmp .ne 7, 3) := by decide +kernel
theorem dX10_next_18 : decode cX10_next 18 = .ok (.iconst (-1), 1) := by decide +kernel
theorem dX10_next_19 : decode cX10_next 19 = .ok (.goto 4, 3) := by decide +kernel
theorem dX10_next_22 : decode cX10_next 22 = .ok (.iconst 0, 1) := by decide +kernel
theorem dX10_next_23 : decode cX10_next 23 = .ok (.iadd, 1) := by decide +kernel
theorem dX10_next_24 : decode cX10_next 24 = .ok (.istore_n 2, 1) := by decide +kernel
theorem dX10_next_25 : decode cX10_next 25 = .ok (.iload_n 0, 1) := by decide +kernel
theorem dX10_next_26 : decode cX10_next 26 = .ok (.bipush 8, 2) := by decide +kernel
theorem dX10_next_28 : decode cX10_next 28 = .ok (.irem, 1) := by decide +kernel
theorem dX10_next_29 : decode cX10_next 29 = .ok (.iload_n 1, 1) := by decide +kernel
theorem dX10_next_30 : decode cX10_next 30 = .ok (.iconst 2, 1) := by decide +kernel
theorem dX10_next_31 : decode cX10_next 31 = .ok (.if_icmp .ne 7, 3) := by decide +kernel
theorem dX10_next_34 : decode cX10_next 34 = .ok (.iconst 1, 1) := by decide +kernel
theorem dX10_next_35 : decode cX10_next 35 = .ok (.goto 13, 3) := by decide +kernel
theorem dX10_next_38 : decode cX10_next 38 = .ok (.iload_n 1, 1) := by decide +kernel
theorem dX10_next_39 : decode cX10_next 39 = .ok (.iconst 4, 1) := by decide +kernel
theorem dX10_next_40 : decode cX10_next 40 = .ok (.if_icmp .ne 7, 3) := by decide +kernel
theorem dX10_next_43 : decode cX10_next 43 = .ok (.iconst (-1), 1) := by decide +kernel
theorem dX10_next_44 : decode cX10_next 44 = .ok (.goto 4, 3) := by decide +kernel
theorem dX10_next_47 : decode cX10_next 47 = .ok (.iconst 0, 1) := by decide +kernel
theorem dX10_next_48 : decode cX10_next 48 = .ok (.iadd, 1) := by decide +kernel
theorem dX10_next_49 : decode cX10_next 49 = .ok (.istore_n 3, 1) := by decide +kernel
theorem dX10_next_50 : decode cX10_next 50 = .ok (.iload_n 2, 1) := by decide +kernel
theorem dX10_next_51 : decode cX10_next 51 = .ok (.iconst 0, 1) := by decide +kernel
theorem dX10_next_52 : decode cX10_next 52 = .ok (.bipush 7, 2) := by decide +kernel
theorem dX10_next_54 : decode cX10_next 54 = .ok (.invokestatic 72, 3) := by decide +kernel
theorem dX10_next_57 : decode cX10_next 57 = .ok (.ifCond .eq 22, 3) := by decide +kernel
theorem dX10_next_60 : decode cX10_next 60 = .ok (.iload_n 3, 1) := by decide +kernel
theorem dX10_next_61 : decode cX10_next 61 = .ok (.iconst 0, 1) := by decide +kernel
theorem dX10_next_62 : decode cX10_next 62 = .ok (.bipush 7, 2) := by decide +kernel
theorem dX10_next_64 : decode cX10_next 64 = .ok (.invokestatic 72, 3) := by decide +kernel
theorem dX10_next_67 : decode cX10_next 67 = .ok (.ifCond .eq 12, 3) := by decide +kernel
theorem dX10_next_70 : decode cX10_next 70 = .ok (.bipush 8, 2) := by decide +kernel
theorem dX10_next_72 : decode cX10_next 72 = .ok (.iload_n 2, 1) := by decide +kernel
theorem dX10_next_73 : decode cX10_next 73 = .ok (.imul, 1) := by decide +kernel
theorem dX10_next_74 : decode cX10_next 74 = .ok (.iload_n 3, 1) := by decide +kernel
theorem dX10_next_75 : decode cX10_next 75 = .ok (.iadd, 1) := by decide +kernel
theorem dX10_next_76 : decode cX10_next 76 = .ok (.goto 4, 3) := by decide +kernel
theorem dX10_next_79 : decode cX10_next 79 = .ok (.iload_n 0, 1) := by decide +kernel
theorem dX10_next_80 : decode cX10_next 80 = .ok (.ireturn, 1) := by decide +kernel
theorem dX10_movesTo_0 : decode cX10_movesTo 0 = .ok (.aload_n 0, 1) := by decide +kernel
theorem dX10_movesTo_1 : decode cX10_movesTo 1 = .ok (.invokevirtual 96, 3) := by decide +kernel
theorem dX10_movesTo_4 : decode cX10_movesTo 4 = .ok (.istore_n 2, 1) := by decide +kernel
theorem dX10_movesTo_5 : decode cX10_movesTo 5 = .ok (.aload_n 0, 1) := by decide +kernel
theorem dX10_movesTo_6 : decode cX10_movesTo 6 = .ok (.iload_n 1, 1) := by decide +kernel
theorem dX10_movesTo_7 : decode cX10_movesTo 7 = .ok (.iconst 2, 1) := by decide +kernel
theorem dX10_movesTo_8 : decode cX10_movesTo 8 = .ok (.invokevirtual 93, 3) := by decide +kernel
theorem dX10_movesTo_11 : decode cX10_movesTo 11 = .ok (.istore_n 3, 1) := by decide +kernel
theorem dX10_movesTo_12 : decode cX10_movesTo 12 = .ok (.aload_n 0, 1) := by decide +kernel
theorem dX10_movesTo_13 : decode cX10_movesTo 13 = .ok (.iload_n 1, 1) := by decide +kernel
theorem dX10_movesTo_14 : decode cX10_movesTo 14 = .ok (.iconst 1, 1) := by decide +kernel
theorem dX10_movesTo_15 : decode cX10_movesTo 15 = .ok (.invokevirtual 93, 3) := by decide +kernel
theorem dX10_movesTo_18 : decode cX10_movesTo 18 = .ok (.istore 4, 2) := by decide +kernel
theorem dX10_movesTo_20 : decode cX10_movesTo 20 = .ok (.iload_n 3, 1) := by decide +kernel
theorem dX10_movesTo_21 : decode cX10_movesTo 21 = .ok (.aload_n 0, 1) := by decide +kernel
theorem dX10_movesTo_22 : decode cX10_movesTo 22 = .ok (.getfield 9, 3) := by decide +kernel
theorem dX10_movesTo_25 : decode cX10_movesTo 25 = .ok (.iconst 2, 1) := by decide +kernel
theorem dX10_movesTo_26 : decode cX10_movesTo 26 = .ok (.iload_n 2, 1) := by decide +kernel
theorem dX10_movesTo_27 : decode cX10_movesTo 27 = .ok (.bipush 8, 2) := by decide +kernel
theorem dX10_movesTo_29 : decode cX10_movesTo 29 = .ok (.idiv, 1) := by decide +kernel
theorem dX10_movesTo_30 : decode cX10_movesTo 30 = .ok (.iadd, 1) := by decide +kernel
theorem dX10_movesTo_31 : decode cX10_movesTo 31 = .ok (.iaload, 1) := by decide +kernel
theorem dX10_movesTo_32 : decode cX10_movesTo 32 = .ok (.invokestatic 216, 3) := by decide +kernel
theorem dX10_movesTo_35 : decode cX10_movesTo 35 = .ok (.istore 5, 2) := by decide +kernel
theorem dX10_movesTo_37 : decode cX10_movesTo 37 = .ok (.iload_n 2, 1) := by decide +kernel
theorem dX10_movesTo_38 : decode cX10_movesTo 38 = .ok (.iconst 2, 1) := by decide +kernel
theorem dX10_movesTo_39 : decode cX10_movesTo 39 = .ok (.irem, 1) := by decide +kernel
theorem dX10_movesTo_40 : decode cX10_movesTo 40 = .ok (.iconst 1, 1) := by decide +kernel
theorem dX10_movesTo_41 : decode cX10_movesTo 41 = .ok (.if_icmp .ne 8, 3) := by decide +kernel
theorem dX10_movesTo_44 : decode cX10_movesTo 44 = .ok (.iload 5, 2) := by decide +kernel
theorem dX10_movesTo_46 : decode cX10_movesTo 46 = .ok (.goto 4, 3) := by decide +kernel
theorem dX10_movesTo_49 : decode cX10_movesTo 49 = .ok (.iload_n 3, 1) := by decide +kernel
theorem dX10_movesTo_50 : decode cX10_movesTo 50 = .ok (.istore 6, 2) := by decide +kernel
theorem dX10_movesTo_52 : decode cX10_movesTo 52 = .ok (.iload_n 2, 1) := by decide +kernel
theorem dX10_movesTo_53 : decode cX10_movesTo 53 = .ok (.bipush 8, 2) := by decide +kernel
theorem dX10_movesTo_55 : decode cX10_movesTo 55 = .ok (.irem, 1) := by decide +kernel
theorem dX10_movesTo_56 : decode cX10_movesTo 56 = .ok (.bipush 7, 2) := by decide +kernel
theorem dX10_movesTo_58 : decode cX10_movesTo 58 = .ok (.if_icmp .ne 17, 3) := by decide +kernel
theorem dX10_movesTo_61 : decode cX10_movesTo 61 = .ok (.iload 6, 2) := by decide +kernel
theorem dX10_movesTo_63 : decode cX10_movesTo 63 = .ok (.iload 4, 2) := by decide +kernel
theorem dX10_movesTo_65 : decode cX10_movesTo 65 = .ok (.iconst 4, 1) := by decide +kernel
theorem dX10_movesTo_66 : decode cX10_movesTo 66 = .ok (.irem, 1) := by decide +kernel
theorem dX10_movesTo_67 : decode cX10_movesTo 67 = .ok (.iconst 1, 1) := by decide +kernel
theorem dX10_movesTo_68 : decode cX10_movesTo 68 = .ok (.iadd, 1) := by decide +kernel
theorem dX10_movesTo_69 : decode cX10_movesTo 69 = .ok (.invokestatic 216, 3) := by decide +kernel
theorem dX10_movesTo_72 : decode cX10_movesTo 72 = .ok (.goto 5, 3) := by decide +kernel
theorem dX10_movesTo_75 : decode cX10_movesTo 75 = .ok (.iload 6, 2) := by decide +kernel
theorem dX10_movesTo_77 : decode cX10_movesTo 77 = .ok (.istore 7, 2) := by decide +kernel
theorem dX10_movesTo_79 : decode cX10_movesTo 79 = .ok (.aload_n 0, 1) := by decide +kernel
theorem dX10_movesTo_80 : decode cX10_movesTo 80 = .ok (.iload_n 1, 1) := by decide +kernel
theorem dX10_movesTo_81 : decode cX10_movesTo 81 = .ok (.iconst 0, 1) := by decide +kernel
theorem dX10_movesTo_82 : decode cX10_movesTo 82 = .ok (.invokevirtual 93, 3) := by decide +kernel
theorem dX10_movesTo_85 : decode cX10_movesTo 85 = .ok (.tableswitch 75 1 6 #[39, 41, 44, 39, 47, 60], 39) := by decide +kernel
theorem dX10_movesTo_124 : decode cX10_movesTo 124 = .ok (.iload_n 3, 1) := by decide +kernel
theorem dX10_movesTo_125 : decode cX10_movesTo 125 = .ok (.ireturn, 1) := by decide +kernel
theorem dX10_movesTo_126 : decode cX10_movesTo 126 = .ok (.iload 5, 2) := by decide +kernel
theorem dX10_movesTo_128 : decode cX10_movesTo 128 = .ok (.ireturn, 1) := by decide +kernel
theorem dX10_movesTo_129 : decode cX10_movesTo 129 = .ok (.iload 7, 2) := by decide +kernel
theorem dX10_movesTo_131 : decode cX10_movesTo 131 = .ok (.ireturn, 1) := by decide +kernel
theorem dX10_movesTo_132 : decode cX10_movesTo 132 = .ok (.iload_n 2, 1) := by decide +kernel
theorem dX10_movesTo_133 : decode cX10_movesTo 133 = .ok (.iload 4, 2) := by decide +kernel
theorem dX10_movesTo_135 : decode cX10_movesTo 135 = .ok (.if_icmp .ge 7, 3) := by decide +kernel
theorem dX10_movesTo_138 : decode cX10_movesTo 138 = .ok (.iload_n 3, 1) := by decide +kernel
theorem dX10_movesTo_139 : decode cX10_movesTo 139 = .ok (.goto 5, 3) := by decide +kernel
theorem dX10_movesTo_142 : decode cX10_movesTo 142 = .ok (.iload 5, 2) := by decide +kernel
theorem dX10_movesTo_144 : decode cX10_movesTo 144 = .ok (.ireturn, 1) := by decide +kernel
theorem dX10_movesTo_145 : decode cX10_movesTo 145 = .ok (.aload_n 0, 1) := by decide +kernel
theorem dX10_movesTo_146 : decode cX10_movesTo 146 = .ok (.iload_n 1, 1) := by decide +kernel
theorem dX10_movesTo_147 : decode cX10_movesTo 147 = .ok (.invokevirtual 104, 3) := by decide +kernel
theorem dX10_movesTo_150 : decode cX10_movesTo 150 = .ok (.ifCond .eq 8, 3) := by decide +kernel
theorem dX10_movesTo_153 : decode cX10_movesTo 153 = .ok (.iload 7, 2) := by decide +kernel
theorem dX10_movesTo_155 : decode cX10_movesTo 155 = .ok (.goto 4, 3) := by decide +kernel
theorem dX10_movesTo_158 : decode cX10_movesTo 158 = .ok (.iload_n 3, 1) := by decide +kernel
theorem dX10_movesTo_159 : decode cX10_movesTo 159 = .ok (.ireturn, 1) := by decide +kernel
theorem dX10_movesTo_160 : decode cX10_movesTo 160 = .ok (.iload 6, 2) := by decide +kernel
theorem dX10_movesTo_162 : decode cX10_movesTo 162 = .ok (.ireturn, 1) := by decide +kernel
theorem dX10_listen_0 : decode cX10_listen 0 = .ok (.iconst 0, 1) := by decide +kernel
theorem dX10_listen_1 : decode cX10_listen 1 = .ok (.istore_n 2, 1) := by decide +kernel
theorem dX10_listen_2 : decode cX10_listen 2 = .ok (.iload_n 2, 1) := by decide +kernel
theorem dX10_listen_3 : decode cX10_listen 3 = .ok (.aload_n 0, 1) := by decide +kernel
theorem dX10_listen_4 : decode cX10_listen 4 = .ok (.getfield 9, 3) := by decide +kernel
theorem dX10_listen_7 : decode cX10_listen 7 = .ok (.bipush 8, 2) := by decide +kernel
theorem dX10_listen_9 : decode cX10_listen 9 = .ok (.iaload, 1) := by decide +kernel
theorem dX10_listen_10 : decode cX10_listen 10 = .ok (.if_icmp .ge 127, 3) := by decide +kernel
theorem dX10_listen_13 : decode cX10_listen 13 = .ok (.bipush 48, 2) := by decide +kernel
theorem dX10_listen_15 : decode cX10_listen 15 = .ok (.iconst 3, 1) := by decide +kernel
theorem dX10_listen_16 : decode cX10_listen 16 = .ok (.iload_n 2, 1) := by decide +kernel
theorem dX10_listen_17 : decode cX10_listen 17 = .ok (.imul, 1) := by decide +kernel
theorem dX10_listen_18 : decode cX10_listen 18 = .ok (.iadd, 1) := by decide +kernel
theorem dX10_listen_19 : decode cX10_listen 19 = .ok (.istore_n 3, 1) := by decide +kernel
theorem dX10_listen_20 : decode cX10_listen 20 = .ok (.aload_n 0, 1) := by decide +kernel
theorem dX10_listen_21 : decode cX10_listen 21 = .ok (.aload_n 0, 1) := by decide +kernel
theorem dX10_listen_22 : decode cX10_listen 22 = .ok (.getfield 9, 3) := by decide +kernel
theorem dX10_listen_25 : decode cX10_listen 25 = .ok (.iload_n 3, 1) := by decide +kernel
theorem dX10_listen_26 : decode cX10_listen 26 = .ok (.iconst 0, 1) := by decide +kernel
theorem dX10_listen_27 : decode cX10_listen 27 = .ok (.iadd, 1) := by decide +kernel
theorem dX10_listen_28 : decode cX10_listen 28 = .ok (.iaload, 1) := by decide +kernel
theorem dX10_listen_29 : decode cX10_listen 29 = .ok (.iload_n 1, 1) := by decide +kernel
theorem dX10_listen_30 : decode cX10_listen 30 = .ok (.invokevirtual 136, 3) := by decide +kernel
theorem dX10_listen_33 : decode cX10_listen 33 = .ok (.ifCond .eq 7, 3) := by decide +kernel
theorem dX10_listen_36 : decode cX10_listen 36 = .ok (.iconst 1, 1) := by decide +kernel
theorem dX10_listen_37 : decode cX10_listen 37 = .ok (.goto 4, 3) := by decide +kernel
theorem dX10_listen_40 : decode cX10_listen 40 = .ok (.iconst 0, 1) := by decide +kernel
theorem dX10_listen_41 : decode cX10_listen 41 = .ok (.istore 4, 2) := by decide +kernel
theorem dX10_listen_43 : decode cX10_listen 43 = .ok (.aload_n 0, 1) := by decide +kernel
theorem dX10_listen_44 : decode cX10_listen 44 = .ok (.getfield 9, 3) := by decide +kernel
theorem dX10_listen_47 : decode cX10_listen 47 = .ok (.iload_n 3, 1) := by decide +kernel
theorem dX10_listen_48 : decode cX10_listen 48 = .ok (.iconst 2, 1) := by decide +kernel
theorem dX10_listen_49 : decode cX10_listen 49 = .ok (.iadd, 1) := by decide +kernel
theorem dX10_listen_50 : decode cX10_listen 50 = .ok (.iaload, 1) := by decide +kernel
theorem dX10_listen_51 : decode cX10_listen 51 = .ok (.aload_n 0, 1) := by decide +kernel
theorem dX10_listen_52 : decode cX10_listen 52 = .ok (.iconst 1, 1) := by decide +kernel
theorem dX10_listen_53 : decode cX10_listen 53 = .ok (.iload_n 1, 1) := by decide +kernel
theorem dX10_listen_54 : decode cX10_listen 54 = .ok (.invokestatic 127, 3) := by decide +kernel
theorem dX10_listen_57 : decode cX10_listen 57 = .ok (.iload 4, 2) := by decide +kernel
theorem dX10_listen_59 : decode cX10_listen 59 = .ok (.aload_n 0, 1) := by decide +kernel
theorem dX10_listen_60 : decode cX10_listen 60 = .ok (.invokevirtual 96, 3) := by decide +kernel
theorem dX10_listen_63 : decode cX10_listen 63 = .ok (.invokevirtual 117, 3) := by decide +kernel
theorem dX10_listen_66 : decode cX10_listen 66 = .ok (.invokestatic 63, 3) := by decide +kernel
theorem dX10_listen_69 : decode cX10_listen 69 = .ok (.istore 5, 2) := by decide +kernel
theorem dX10_listen_71 : decode cX10_listen 71 = .ok (.aload_n 0, 1) := by decide +kernel
theorem dX10_listen_72 : decode cX10_listen 72 = .ok (.getfield 9, 3) := by decide +kernel
theorem dX10_listen_75 : decode cX10_listen 75 = .ok (.iload_n 3, 1) := by decide +kernel
theorem dX10_listen_76 : decode cX10_listen 76 = .ok (.iconst 1, 1) := by decide +kernel
theorem dX10_listen_77 : decode cX10_listen 77 = .ok (.iadd, 1) := by decide +kernel
theorem dX10_listen_78 : decode cX10_listen 78 = .ok (.sipush 9999, 3) := by decide +kernel
theorem dX10_listen_81 : decode cX10_listen 81 = .ok (.aload_n 0, 1) := by decide +kernel
theorem dX10_listen_82 : decode cX10_listen 82 = .ok (.getfield 9, 3) := by decide +kernel
theorem dX10_listen_85 : decode cX10_listen 85 = .ok (.iload_n 3, 1) := by decide +kernel
theorem dX10_listen_86 : decode cX10_listen 86 = .ok (.iconst 1, 1) := by decide +kernel
theorem dX10_listen_87 : decode cX10_listen 87 = .ok (.iadd, 1) := by decide +kernel
theorem dX10_listen_88 : decode cX10_listen 88 = .ok (.iaload, 1) := by decide +kernel
theorem dX10_listen_89 : decode cX10_listen 89 = .ok (.iload 4, 2) := by decide +kernel
theorem dX10_listen_91 : decode cX10_listen 91 = .ok (.iadd, 1) := by decide +kernel
theorem dX10_listen_92 : decode cX10_listen 92 = .ok (.invokestatic 63, 3) := by decide +kernel
theorem dX10_listen_95 : decode cX10_listen 95 = .ok (.iastore, 1) := by decide +kernel
theorem dX10_listen_96 : decode cX10_listen 96 = .ok (.aload_n 0, 1) := by decide +kernel
theorem dX10_listen_97 : decode cX10_listen 97 = .ok (.getfield 9, 3) := by decide +kernel
theorem dX10_listen_100 : decode cX10_listen 100 = .ok (.iload_n 3, 1) := by decide +kernel
theorem dX10_listen_101 : decode cX10_listen 101 = .ok (.iconst 2, 1) := by decide +kernel
theorem dX10_listen_102 : decode cX10_listen 102 = .ok (.iadd, 1) := by decide +kernel
theorem dX10_listen_103 : decode cX10_listen 103 = .ok (.dup2, 1) := by decide +kernel
theorem dX10_listen_104 : decode cX10_listen 104 = .ok (.iaload, 1) := by decide +kernel
theorem dX10_listen_105 : decode cX10_listen 105 = .ok (.iload 5, 2) := by decide +kernel
theorem dX10_listen_107 : decode cX10_listen 107 = .ok (.isub, 1) := by decide +kernel
theorem dX10_listen_108 : decode cX10_listen 108 = .ok (.iastore, 1) := by decide +kernel
theorem dX10_listen_109 : decode cX10_listen 109 = .ok (.aload_n 0, 1) := by decide +kernel
theorem dX10_listen_110 : decode cX10_listen 110 = .ok (.getfield 9, 3) := by decide +kernel
theorem dX10_listen_113 : decode cX10_listen 113 = .ok (.bipush 6, 2) := by decide +kernel
theorem dX10_listen_115 : decode cX10_listen 115 = .ok (.ldc 219, 2) := by decide +kernel
theorem dX10_listen_117 : decode cX10_listen 117 = .ok (.aload_n 0, 1) := by decide +kernel
theorem dX10_listen_118 : decode cX10_listen 118 = .ok (.getfield 9, 3) := by decide +kernel
theorem dX10_listen_121 : decode cX10_listen 121 = .ok (.bipush 6, 2) := by decide +kernel
theorem dX10_listen_123 : decode cX10_listen 123 = .ok (.iaload, 1) := by decide +kernel
theorem dX10_listen_124 : decode cX10_listen 124 = .ok (.iload 5, 2) := by decide +kernel
theorem dX10_listen_126 : decode cX10_listen 126 = .ok (.iadd, 1) := by decide +kernel
theorem dX10_listen_127 : decode cX10_listen 127 = .ok (.invokestatic 63, 3) := by decide +kernel
theorem dX10_listen_130 : decode cX10_listen 130 = .ok (.iastore, 1) := by decide +kernel
theorem dX10_listen_131 : decode cX10_listen 131 = .ok (.iinc 2 1, 3) := by decide +kernel
theorem dX10_listen_134 : decode cX10_listen 134 = .ok (.goto (-132), 3) := by decide +kernel
theorem dX10_listen_137 : decode cX10_listen 137 = .ok (.return_, 1) := by decide +kernel
theorem dX10_moveAll_0 : decode cX10_moveAll 0 = .ok (.iconst 0, 1) := by decide +kernel
theorem dX10_moveAll_1 : decode cX10_moveAll 1 = .ok (.istore_n 1, 1) := by decide +kernel
theorem dX10_moveAll_2 : decode cX10_moveAll 2 = .ok (.iload_n 1, 1) := by decide +kernel
theorem dX10_moveAll_3 : decode cX10_moveAll 3 = .ok (.aload_n 0, 1) := by decide +kernel
theorem dX10_moveAll_4 : decode cX10_moveAll 4 = .ok (.getfield 9, 3) := by decide +kernel
theorem dX10_moveAll_7 : decode cX10_moveAll 7 = .ok (.bipush 7, 2) := by decide +kernel
theorem dX10_moveAll_9 : decode cX10_moveAll 9 = .ok (.iaload, 1) := by decide +kernel
theorem dX10_moveAll_10 : decode cX10_moveAll 10 = .ok (.if_icmp .ge 27, 3) := by decide +kernel
theorem dX10_moveAll_13 : decode cX10_moveAll 13 = .ok (.aload_n 0, 1) := by decide +kernel
theorem dX10_moveAll_14 : decode cX10_moveAll 14 = .ok (.getfield 9, 3) := by decide +kernel
theorem dX10_moveAll_17 : decode cX10_moveAll 17 = .ok (.bipush 12, 2) := by decide +kernel
theorem dX10_moveAll_19 : decode cX10_moveAll 19 = .ok (.iconst 4, 1) := by decide +kernel
theorem dX10_moveAll_20 : decode cX10_moveAll 20 = .ok (.iload_n 1, 1) := by decide +kernel
theorem dX10_moveAll_21 : decode cX10_moveAll 21 = .ok (.imul, 1) := by decide +kernel
theorem dX10_moveAll_22 : decode cX10_moveAll 22 = .ok (.iadd, 1) := by decide +kernel
theorem dX10_moveAll_23 : decode cX10_moveAll 23 = .ok (.iconst 2, 1) := by decide +kernel
theorem dX10_moveAll_24 : decode cX10_moveAll 24 = .ok (.iadd, 1) := by decide +kernel
theorem dX10_moveAll_25 : decode cX10_moveAll 25 = .ok (.aload_n 0, 1) := by decide +kernel
theorem dX10_moveAll_26 : decode cX10_moveAll 26 = .ok (.iload_n 1, 1) := by decide +kernel
theorem dX10_moveAll_27 : decode cX10_moveAll 27 = .ok (.invokevirtual 220, 3) := by decide +kernel
theorem dX10_moveAll_30 : decode cX10_moveAll 30 = .ok (.iastore, 1) := by decide +kernel
theorem dX10_moveAll_31 : decode cX10_moveAll 31 = .ok (.iinc 1 1, 3) := by decide +kernel
theorem dX10_moveAll_34 : decode cX10_moveAll 34 = .ok (.goto (-32), 3) := by decide +kernel
theorem dX10_moveAll_37 : decode cX10_moveAll 37 = .ok (.aload_n 0, 1) := by decide +kernel
theorem dX10_moveAll_38 : decode cX10_moveAll 38 = .ok (.getfield 9, 3) := by decide +kernel
theorem dX10_moveAll_41 : decode cX10_moveAll 41 = .ok (.iconst 0, 1) := by decide +kernel
theorem dX10_moveAll_42 : decode cX10_moveAll 42 = .ok (.dup2, 1) := by decide +kernel
theorem dX10_moveAll_43 : decode cX10_moveAll 43 = .ok (.iaload, 1) := by decide +kernel
theorem dX10_moveAll_44 : decode cX10_moveAll 44 = .ok (.iconst 1, 1) := by decide +kernel
theorem dX10_moveAll_45 : decode cX10_moveAll 45 = .ok (.iadd, 1) := by decide +kernel
theorem dX10_moveAll_46 : decode cX10_moveAll 46 = .ok (.iastore, 1) := by decide +kernel
theorem dX10_moveAll_47 : decode cX10_moveAll 47 = .ok (.return_, 1) := by decide +kernel
theorem dX10_beatsGo_0 : decode cX10_beatsGo 0 = .ok (.iconst 0, 1) := by decide +kernel
theorem dX10_beatsGo_1 : decode cX10_beatsGo 1 = .ok (.istore_n 3, 1) := by decide +kernel
theorem dX10_beatsGo_2 : decode cX10_beatsGo 2 = .ok (.iload_n 3, 1) := by decide +kernel
theorem dX10_beatsGo_3 : decode cX10_beatsGo 3 = .ok (.iload_n 1, 1) := by decide +kernel
theorem dX10_beatsGo_4 : decode cX10_beatsGo 4 = .ok (.if_icmp .ge 83, 3) := by decide +kernel
theorem dX10_beatsGo_7 : decode cX10_beatsGo 7 = .ok (.aload_n 0, 1) := by decide +kernel
theorem dX10_beatsGo_8 : decode cX10_beatsGo 8 = .ok (.invokevirtual 133, 3) := by decide +kernel
theorem dX10_beatsGo_11 : decode cX10_beatsGo 11 = .ok (.istore 4, 2) := by decide +kernel
theorem dX10_beatsGo_13 : decode cX10_beatsGo 13 = .ok (.iconst 0, 1) := by decide +kernel
theorem dX10_beatsGo_14 : decode cX10_beatsGo 14 = .ok (.istore 5, 2) := by decide +kernel
theorem dX10_beatsGo_16 : decode cX10_beatsGo 16 = .ok (.iload 5, 2) := by decide +kernel
theorem dX10_beatsGo_18 : decode cX10_beatsGo 18 = .ok (.aload_n 0, 1) := by decide +kernel
theorem dX10_beatsGo_19 : decode cX10_beatsGo 19 = .ok (.getfield 9, 3) := by decide +kernel
theorem dX10_beatsGo_22 : decode cX10_beatsGo 22 = .ok (.bipush 7, 2) := by decide +kernel
theorem dX10_beatsGo_24 : decode cX10_beatsGo 24 = .ok (.iaload, 1) := by decide +kernel
theorem dX10_beatsGo_25 : decode cX10_beatsGo 25 = .ok (.if_icmp .ge 46, 3) := by decide +kernel
theorem dX10_beatsGo_28 : decode cX10_beatsGo 28 = .ok (.iload_n 2, 1) := by decide +kernel
theorem dX10_beatsGo_29 : decode cX10_beatsGo 29 = .ok (.ifCond .eq 42, 3) := by decide +kernel
theorem dX10_beatsGo_32 : decode cX10_beatsGo 32 = .ok (.iload 4, 2) := by decide +kernel
theorem dX10_beatsGo_34 : decode cX10_beatsGo 34 = .ok (.aload_n 0, 1) := by decide +kernel
theorem dX10_beatsGo_35 : decode cX10_beatsGo 35 = .ok (.iload 5, 2) := by decide +kernel
theorem dX10_beatsGo_37 : decode cX10_beatsGo 37 = .ok (.invokevirtual 104, 3) := by decide +kernel
theorem dX10_beatsGo_40 : decode cX10_beatsGo 40 = .ok (.ifCond .eq 21, 3) := by decide +kernel
theorem dX10_beatsGo_43 : decode cX10_beatsGo 43 = .ok (.aload_n 0, 1) := by decide +kernel
theorem dX10_beatsGo_44 : decode cX10_beatsGo 44 = .ok (.bipush 6, 2) := by decide +kernel
theorem dX10_beatsGo_46 : decode cX10_beatsGo 46 = .ok (.invokevirtual 223, 3) := by decide +kernel
theorem dX10_beatsGo_49 : decode cX10_beatsGo 49 = .ok (.ifCond .ne 12, 3) := by decide +kernel
theorem dX10_beatsGo_52 : decode cX10_beatsGo 52 = .ok (.iconst 1, 1) := by decide +kernel
theorem dX10_beatsGo_53 : decode cX10_beatsGo 53 = .ok (.iload 5, 2) := by decide +kernel
theorem dX10_beatsGo_55 : decode cX10_beatsGo 55 = .ok (.ishl, 1) := by decide +kernel
theorem dX10_beatsGo_56 : decode cX10_beatsGo 56 = .ok (.iconst (-1), 1) := by decide +kernel
theorem dX10_beatsGo_57 : decode cX10_beatsGo 57 = .ok (.ixor, 1) := by decide +kernel
theorem dX10_beatsGo_58 : decode cX10_beatsGo 58 = .ok (.goto 4, 3) := by decide +kernel
theorem dX10_beatsGo_61 : decode cX10_beatsGo 61 = .ok (.iconst (-1), 1) := by decide +kernel
theorem dX10_beatsGo_62 : decode cX10_beatsGo 62 = .ok (.iand, 1) := by decide +kernel
theorem dX10_beatsGo_63 : decode cX10_beatsGo 63 = .ok (.istore 4, 2) := by decide +kernel
theorem dX10_beatsGo_65 : decode cX10_beatsGo 65 = .ok (.iinc 5 1, 3) := by decide +kernel
theorem dX10_beatsGo_68 : decode cX10_beatsGo 68 = .ok (.goto (-52), 3) := by decide +kernel
theorem dX10_beatsGo_71 : decode cX10_beatsGo 71 = .ok (.aload_n 0, 1) := by decide +kernel
theorem dX10_beatsGo_72 : decode cX10_beatsGo 72 = .ok (.iload 4, 2) := by decide +kernel
theorem dX10_beatsGo_74 : decode cX10_beatsGo 74 = .ok (.invokevirtual 226, 3) := by decide +kernel
theorem dX10_beatsGo_77 : decode cX10_beatsGo 77 = .ok (.aload_n 0, 1) := by decide +kernel
theorem dX10_beatsGo_78 : decode cX10_beatsGo 78 = .ok (.invokevirtual 229, 3) := by decide +kernel
theorem dX10_beatsGo_81 : decode cX10_beatsGo 81 = .ok (.iinc 3 1, 3) := by decide +kernel
theorem dX10_beatsGo_84 : decode cX10_beatsGo 84 = .ok (.goto (-82), 3) := by decide +kernel
theorem dX10_beatsGo_87 : decode cX10_beatsGo 87 = .ok (.return_, 1) := by decide +kernel
theorem dX10_go_0 : decode cX10_go 0 = .ok (.iload_n 1, 1) := by decide +kernel
theorem dX10_go_1 : decode cX10_go 1 = .ok (.iconst 1, 1) := by decide +kernel
theorem dX10_go_2 : decode cX10_go 2 = .ok (.sipush 128, 3) := by decide +kernel
theorem dX10_go_5 : decode cX10_go 5 = .ok (.invokestatic 72, 3) := by decide +kernel
theorem dX10_go_8 : decode cX10_go 8 = .ok (.ifCond .ne 10, 3) := by decide +kernel
theorem dX10_go_11 : decode cX10_go 11 = .ok (.aload_n 0, 1) := by decide +kernel
theorem dX10_go_12 : decode cX10_go 12 = .ok (.ldc 83, 2) := by decide +kernel
theorem dX10_go_14 : decode cX10_go 14 = .ok (.invokevirtual 84, 3) := by decide +kernel
theorem dX10_go_17 : decode cX10_go 17 = .ok (.ireturn, 1) := by decide +kernel
theorem dX10_go_18 : decode cX10_go 18 = .ok (.aload_n 0, 1) := by decide +kernel
theorem dX10_go_19 : decode cX10_go 19 = .ok (.getfield 9, 3) := by decide +kernel
theorem dX10_go_22 : decode cX10_go 22 = .ok (.iconst 0, 1) := by decide +kernel
theorem dX10_go_23 : decode cX10_go 23 = .ok (.iaload, 1) := by decide +kernel
theorem dX10_go_24 : decode cX10_go 24 = .ok (.iload_n 1, 1) := by decide +kernel
theorem dX10_go_25 : decode cX10_go 25 = .ok (.iadd, 1) := by decide +kernel
theorem dX10_go_26 : decode cX10_go 26 = .ok (.sipush 9999, 3) := by decide +kernel
theorem dX10_go_29 : decode cX10_go 29 = .ok (.if_icmp .le 10, 3) := by decide +kernel
theorem dX10_go_32 : decode cX10_go 32 = .ok (.aload_n 0, 1) := by decide +kernel
theorem dX10_go_33 : decode cX10_go 33 = .ok (.ldc 232, 2) := by decide +kernel
theorem dX10_go_35 : decode cX10_go 35 = .ok (.invokevirtual 84, 3) := by decide +kernel
theorem dX10_go_38 : decode cX10_go 38 = .ok (.ireturn, 1) := by decide +kernel
theorem dX10_go_39 : decode cX10_go 39 = .ok (.aload_n 0, 1) := by decide +kernel
theorem dX10_go_40 : decode cX10_go 40 = .ok (.iload_n 1, 1) := by decide +kernel
theorem dX10_go_41 : decode cX10_go 41 = .ok (.iload_n 2, 1) := by decide +kernel
theorem dX10_go_42 : decode cX10_go 42 = .ok (.invokevirtual 233, 3) := by decide +kernel
theorem dX10_go_45 : decode cX10_go 45 = .ok (.aload_n 0, 1) := by decide +kernel
theorem dX10_go_46 : decode cX10_go 46 = .ok (.getfield 9, 3) := by decide +kernel
theorem dX10_go_49 : decode cX10_go 49 = .ok (.bipush 6, 2) := by decide +kernel
theorem dX10_go_51 : decode cX10_go 51 = .ok (.iaload, 1) := by decide +kernel
theorem dX10_go_52 : decode cX10_go 52 = .ok (.ireturn, 1) := by decide +kernel
theorem dX10_beats_0 : decode cX10_beats 0 = .ok (.aload_n 0, 1) := by decide +kernel
theorem dX10_beats_1 : decode cX10_beats 1 = .ok (.iload_n 1, 1) := by decide +kernel
theorem dX10_beats_2 : decode cX10_beats 2 = .ok (.iconst 0, 1) := by decide +kernel
theorem dX10_beats_3 : decode cX10_beats 3 = .ok (.invokevirtual 237, 3) := by decide +kernel
theorem dX10_beats_6 : decode cX10_beats 6 = .ok (.ireturn, 1) := by decide +kernel
theorem dX10_loose_0 : decode cX10_loose 0 = .ok (.aload_n 0, 1) := by decide +kernel
theorem dX10_loose_1 : decode cX10_loose 1 = .ok (.iload_n 1, 1) := by decide +kernel
theorem dX10_loose_2 : decode cX10_loose 2 = .ok (.iconst 1, 1) := by decide +kernel
theorem dX10_loose_3 : decode cX10_loose 3 = .ok (.invokevirtual 237, 3) := by decide +kernel
theorem dX10_loose_6 : decode cX10_loose 6 = .ok (.ireturn, 1) := by decide +kernel
theorem dX10_isAhead_0 : decode cX10_isAhead 0 = .ok (.iload_n 0, 1) := by decide +kernel
theorem dX10_isAhead_1 : decode cX10_isAhead 1 = .ok (.iconst 0, 1) := by decide +kernel
theorem dX10_isAhead_2 : decode cX10_isAhead 2 = .ok (.sipush 128, 3) := by decide +kernel
theorem dX10_isAhead_5 : decode cX10_isAhead 5 = .ok (.invokestatic 72, 3) := by decide +kernel
theorem dX10_isAhead_8 : decode cX10_isAhead 8 = .ok (.ireturn, 1) := by decide +kernel
theorem dX10_then_0 : decode cX10_then 0 = .ok (.iload_n 1, 1) := by decide +kernel
theorem dX10_then_1 : decode cX10_then 1 = .ok (.invokestatic 241, 3) := by decide +kernel
theorem dX10_then_4 : decode cX10_then 4 = .ok (.ifCond .eq 13, 3) := by decide +kernel
theorem dX10_then_7 : decode cX10_then 7 = .ok (.aload_n 0, 1) := by decide +kernel
theorem dX10_then_8 : decode cX10_then 8 = .ok (.iload_n 2, 1) := by decide +kernel
theorem dX10_then_9 : decode cX10_then 9 = .ok (.bipush 7, 2) := by decide +kernel
theorem dX10_then_11 : decode cX10_then 11 = .ok (.invokevirtual 100, 3) := by decide +kernel
theorem dX10_then_14 : decode cX10_then 14 = .ok (.ifCond .ne 10, 3) := by decide +kernel
theorem dX10_then_17 : decode cX10_then 17 = .ok (.aload_n 0, 1) := by decide +kernel
theorem dX10_then_18 : decode cX10_then 18 = .ok (.ldc 83, 2) := by decide +kernel
theorem dX10_then_20 : decode cX10_then 20 = .ok (.invokevirtual 84, 3) := by decide +kernel
theorem dX10_then_23 : decode cX10_then 23 = .ok (.ireturn, 1) := by decide +kernel
theorem dX10_then_24 : decode cX10_then 24 = .ok (.aload_n 0, 1) := by decide +kernel
theorem dX10_then_25 : decode cX10_then 25 = .ok (.getfield 9, 3) := by decide +kernel
theorem dX10_then_28 : decode cX10_then 28 = .ok (.aload_n 0, 1) := by decide +kernel
theorem dX10_then_29 : decode cX10_then 29 = .ok (.getfield 16, 3) := by decide +kernel
theorem dX10_then_32 : decode cX10_then 32 = .ok (.invokestatic 76, 3) := by decide +kernel
theorem dX10_then_35 : decode cX10_then 35 = .ok (.aload_n 0, 1) := by decide +kernel
theorem dX10_then_36 : decode cX10_then 36 = .ok (.iload_n 1, 1) := by decide +kernel
theorem dX10_then_37 : decode cX10_then 37 = .ok (.iconst 0, 1) := by decide +kernel
theorem dX10_then_38 : decode cX10_then 38 = .ok (.invokevirtual 233, 3) := by decide +kernel
theorem dX10_then_41 : decode cX10_then 41 = .ok (.aload_n 0, 1) := by decide +kernel
theorem dX10_then_42 : decode cX10_then 42 = .ok (.aload_n 0, 1) := by decide +kernel
theorem dX10_then_43 : decode cX10_then 43 = .ok (.iload_n 2, 1) := by decide +kernel
theorem dX10_then_44 : decode cX10_then 44 = .ok (.iconst 2, 1) := by decide +kernel
theorem dX10_then_45 : decode cX10_then 45 = .ok (.invokevirtual 93, 3) := by decide +kernel
theorem dX10_then_48 : decode cX10_then 48 = .ok (.invokevirtual 244, 3) := by decide +kernel
theorem dX10_then_51 : decode cX10_then 51 = .ok (.ireturn, 1) := by decide +kernel
theorem dX10_thenListener_0 : decode cX10_thenListener 0 = .ok (.iload_n 1, 1) := by decide +kernel
theorem dX10_thenListener_1 : decode cX10_thenListener 1 = .ok (.invokestatic 241, 3) := by decide +kernel
theorem dX10_thenListener_4 : decode cX10_thenListener 4 = .ok (.ifCond .eq 22, 3) := by decide +kernel
theorem dX10_thenListener_7 : decode cX10_thenListener 7 = .ok (.aload_n 0, 1) := by decide +kernel
theorem dX10_thenListener_8 : decode cX10_thenListener 8 = .ok (.iload_n 2, 1) := by decide +kernel
theorem dX10_thenListener_9 : decode cX10_thenListener 9 = .ok (.bipush 8, 2) := by decide +kernel
theorem dX10_thenListener_11 : decode cX10_thenListener 11 = .ok (.invokevirtual 100, 3) := by decide +kernel
theorem dX10_thenListener_14 : decode cX10_thenListener 14 = .ok (.ifCond .eq 12, 3) := by decide +kernel
theorem dX10_thenListener_17 : decode cX10_thenListener 17 = .ok (.iload_n 3, 1) := by decide +kernel
theorem dX10_thenListener_18 : decode cX10_thenListener 18 = .ok (.iconst 0, 1) := by decide +kernel
theorem dX10_thenListener_19 : decode cX10_thenListener 19 = .ok (.iconst 3, 1) := by decide +kernel
theorem dX10_thenListener_20 : decode cX10_thenListener 20 = .ok (.invokestatic 72, 3) := by decide +kernel
theorem dX10_thenListener_23 : decode cX10_thenListener 23 = .ok (.ifCond .ne 10, 3) := by decide +kernel
theorem dX10_thenListener_26 : decode cX10_thenListener 26 = .ok (.aload_n 0, 1) := by decide +kernel
theorem dX10_thenListener_27 : decode cX10_thenListener 27 = .ok (.ldc 83, 2) := by decide +kernel
theorem dX10_thenListener_29 : decode cX10_thenListener 29 = .ok (.invokevirtual 84, 3) := by decide +kernel
theorem dX10_thenListener_32 : decode cX10_thenListener 32 = .ok (.ireturn, 1) := by decide +kernel
theorem dX10_thenListener_33 : decode cX10_thenListener 33 = .ok (.aload_n 0, 1) := by decide +kernel
theorem dX10_thenListener_34 : decode cX10_thenListener 34 = .ok (.getfield 9, 3) := by decide +kernel
theorem dX10_thenListener_37 : decode cX10_thenListener 37 = .ok (.aload_n 0, 1) := by decide +kernel
theorem dX10_thenListener_38 : decode cX10_thenListener 38 = .ok (.getfield 16, 3) := by decide +kernel
theorem dX10_thenListener_41 : decode cX10_thenListener 41 = .ok (.invokestatic 76, 3) := by decide +kernel
theorem dX10_thenListener_44 : decode cX10_thenListener 44 = .ok (.aload_n 0, 1) := by decide +kernel
theorem dX10_thenListener_45 : decode cX10_thenListener 45 = .ok (.iload_n 1, 1) := by decide +kernel
theorem dX10_thenListener_46 : decode cX10_thenListener 46 = .ok (.iconst 0, 1) := by decide +kernel
theorem dX10_thenListener_47 : decode cX10_thenListener 47 = .ok (.invokevirtual 233, 3) := by decide +kernel
theorem dX10_thenListener_50 : decode cX10_thenListener 50 = .ok (.aload_n 0, 1) := by decide +kernel
theorem dX10_thenListener_51 : decode cX10_thenListener 51 = .ok (.aload_n 0, 1) := by decide +kernel
theorem dX10_thenListener_52 : decode cX10_thenListener 52 = .ok (.iload_n 2, 1) := by decide +kernel
theorem dX10_thenListener_53 : decode cX10_thenListener 53 = .ok (.iload_n 3, 1) := by decide +kernel
theorem dX10_thenListener_54 : decode cX10_thenListener 54 = .ok (.invokevirtual 139, 3) := by decide +kernel
theorem dX10_thenListener_57 : decode cX10_thenListener 57 = .ok (.invokevirtual 244, 3) := by decide +kernel
theorem dX10_thenListener_60 : decode cX10_thenListener 60 = .ok (.ireturn, 1) := by decide +kernel
theorem dX10_scoreBy_0 : decode cX10_scoreBy 0 = .ok (.iconst 0, 1) := by decide +kernel
theorem dX10_scoreBy_1 : decode cX10_scoreBy 1 = .ok (.istore_n 3, 1) := by decide +kernel
theorem dX10_scoreBy_2 : decode cX10_scoreBy 2 = .ok (.iconst 0, 1) := by decide +kernel
theorem dX10_scoreBy_3 : decode cX10_scoreBy 3 = .ok (.istore 4, 2) := by decide +kernel
theorem dX10_scoreBy_5 : decode cX10_scoreBy 5 = .ok (.iload 4, 2) := by decide +kernel
theorem dX10_scoreBy_7 : decode cX10_scoreBy 7 = .ok (.iload_n 2, 1) := by decide +kernel
theorem dX10_scoreBy_8 : decode cX10_scoreBy 8 = .ok (.if_icmp .ge 33, 3) := by decide +kernel
theorem dX10_scoreBy_11 : decode cX10_scoreBy 11 = .ok (.iload_n 3, 1) := by decide +kernel
theorem dX10_scoreBy_12 : decode cX10_scoreBy 12 = .ok (.aload_n 0, 1) := by decide +kernel
theorem dX10_scoreBy_13 : decode cX10_scoreBy 13 = .ok (.iload_n 1, 1) := by decide +kernel
theorem dX10_scoreBy_14 : decode cX10_scoreBy 14 = .ok (.aload_n 0, 1) := by decide +kernel
theorem dX10_scoreBy_15 : decode cX10_scoreBy 15 = .ok (.invokevirtual 133, 3) := by decide +kernel
theorem dX10_scoreBy_18 : decode cX10_scoreBy 18 = .ok (.invokevirtual 136, 3) := by decide +kernel
theorem dX10_scoreBy_21 : decode cX10_scoreBy 21 = .ok (.ifCond .eq 7, 3) := by decide +kernel
theorem dX10_scoreBy_24 : decode cX10_scoreBy 24 = .ok (.iconst 1, 1) := by decide +kernel
theorem dX10_scoreBy_25 : decode cX10_scoreBy 25 = .ok (.goto 4, 3) := by decide +kernel
theorem dX10_scoreBy_28 : decode cX10_scoreBy 28 = .ok (.iconst 0, 1) := by decide +kernel
theorem dX10_scoreBy_29 : decode cX10_scoreBy 29 = .ok (.iadd, 1) := by decide +kernel
theorem dX10_scoreBy_30 : decode cX10_scoreBy 30 = .ok (.istore_n 3, 1) := by decide +kernel
theorem dX10_scoreBy_31 : decode cX10_scoreBy 31 = .ok (.aload_n 0, 1) := by decide +kernel
theorem dX10_scoreBy_32 : decode cX10_scoreBy 32 = .ok (.invokevirtual 229, 3) := by decide +kernel
theorem dX10_scoreBy_35 : decode cX10_scoreBy 35 = .ok (.iinc 4 1, 3) := by decide +kernel
theorem dX10_scoreBy_38 : decode cX10_scoreBy 38 = .ok (.goto (-33), 3) := by decide +kernel
theorem dX10_scoreBy_41 : decode cX10_scoreBy 41 = .ok (.aload_n 0, 1) := by decide +kernel
theorem dX10_scoreBy_42 : decode cX10_scoreBy 42 = .ok (.iload_n 3, 1) := by decide +kernel
theorem dX10_scoreBy_43 : decode cX10_scoreBy 43 = .ok (.invokevirtual 244, 3) := by decide +kernel
theorem dX10_scoreBy_46 : decode cX10_scoreBy 46 = .ok (.ireturn, 1) := by decide +kernel
theorem dX10_score_0 : decode cX10_score 0 = .ok (.iload_n 1, 1) := by decide +kernel
theorem dX10_score_1 : decode cX10_score 1 = .ok (.invokestatic 88, 3) := by decide +kernel
theorem dX10_score_4 : decode cX10_score 4 = .ok (.ifCond .eq 10, 3) := by decide +kernel
theorem dX10_score_7 : decode cX10_score 7 = .ok (.iload_n 2, 1) := by decide +kernel
theorem dX10_score_8 : decode cX10_score 8 = .ok (.invokestatic 241, 3) := by decide +kernel
theorem dX10_score_11 : decode cX10_score 11 = .ok (.ifCond .ne 10, 3) := by decide +kernel
theorem dX10_score_14 : decode cX10_score 14 = .ok (.aload_n 0, 1) := by decide +kernel
theorem dX10_score_15 : decode cX10_score 15 = .ok (.ldc 83, 2) := by decide +kernel
theorem dX10_score_17 : decode cX10_score 17 = .ok (.invokevirtual 84, 3) := by decide +kernel
theorem dX10_score_20 : decode cX10_score 20 = .ok (.ireturn, 1) := by decide +kernel
theorem dX10_score_21 : decode cX10_score 21 = .ok (.aload_n 0, 1) := by decide +kernel
theorem dX10_score_22 : decode cX10_score 22 = .ok (.getfield 9, 3) := by decide +kernel
theorem dX10_score_25 : decode cX10_score 25 = .ok (.aload_n 0, 1) := by decide +kernel
theorem dX10_score_26 : decode cX10_score 26 = .ok (.getfield 16, 3) := by decide +kernel
theorem dX10_score_29 : decode cX10_score 29 = .ok (.invokestatic 76, 3) := by decide +kernel
theorem dX10_score_32 : decode cX10_score 32 = .ok (.aload_n 0, 1) := by decide +kernel
theorem dX10_score_33 : decode cX10_score 33 = .ok (.iload_n 1, 1) := by decide +kernel
theorem dX10_score_34 : decode cX10_score 34 = .ok (.iload_n 2, 1) := by decide +kernel
theorem dX10_score_35 : decode cX10_score 35 = .ok (.invokevirtual 247, 3) := by decide +kernel
theorem dX10_score_38 : decode cX10_score 38 = .ok (.ireturn, 1) := by decide +kernel
theorem dX10_findScores_0 : decode cX10_findScores 0 = .ok (.aload_n 0, 1) := by decide +kernel
theorem dX10_findScores_1 : decode cX10_findScores 1 = .ok (.getfield 9, 3) := by decide +kernel
theorem dX10_findScores_4 : decode cX10_findScores 4 = .ok (.aload_n 0, 1) := by decide +kernel
theorem dX10_findScores_5 : decode cX10_findScores 5 = .ok (.getfield 16, 3) := by decide +kernel
theorem dX10_findScores_8 : decode cX10_findScores 8 = .ok (.invokestatic 76, 3) := by decide +kernel
theorem dX10_findScores_11 : decode cX10_findScores 11 = .ok (.iconst 0, 1) := by decide +kernel
theorem dX10_findScores_12 : decode cX10_findScores 12 = .ok (.istore_n 2, 1) := by decide +kernel
theorem dX10_findScores_13 : decode cX10_findScores 13 = .ok (.iconst 0, 1) := by decide +kernel
theorem dX10_findScores_14 : decode cX10_findScores 14 = .ok (.istore_n 3, 1) := by decide +kernel
theorem dX10_findScores_15 : decode cX10_findScores 15 = .ok (.iload_n 3, 1) := by decide +kernel
theorem dX10_findScores_16 : decode cX10_findScores 16 = .ok (.bipush 64, 2) := by decide +kernel
theorem dX10_findScores_18 : decode cX10_findScores 18 = .ok (.if_icmp .ge 32, 3) := by decide +kernel
theorem dX10_findScores_21 : decode cX10_findScores 21 = .ok (.aload_n 0, 1) := by decide +kernel
theorem dX10_findScores_22 : decode cX10_findScores 22 = .ok (.getfield 44, 3) := by decide +kernel
theorem dX10_findScores_25 : decode cX10_findScores 25 = .ok (.iload_n 3, 1) := by decide +kernel
theorem dX10_findScores_26 : decode cX10_findScores 26 = .ok (.aload_n 0, 1) := by decide +kernel
theorem dX10_findScores_27 : decode cX10_findScores 27 = .ok (.iload_n 3, 1) := by decide +kernel
theorem dX10_findScores_28 : decode cX10_findScores 28 = .ok (.iload_n 1, 1) := by decide +kernel
theorem dX10_findScores_29 : decode cX10_findScores 29 = .ok (.invokevirtual 247, 3) := by decide +kernel
theorem dX10_findScores_32 : decode cX10_findScores 32 = .ok (.iastore, 1) := by decide +kernel
theorem dX10_findScores_33 : decode cX10_findScores 33 = .ok (.iload_n 2, 1) := by decide +kernel
theorem dX10_findScores_34 : decode cX10_findScores 34 = .ok (.aload_n 0, 1) := by decide +kernel
theorem dX10_findScores_35 : decode cX10_findScores 35 = .ok (.getfield 44, 3) := by decide +kernel
theorem dX10_findScores_38 : decode cX10_findScores 38 = .ok (.iload_n 3, 1) := by decide +kernel
theorem dX10_findScores_39 : decode cX10_findScores 39 = .ok (.iaload, 1) := by decide +kernel
theorem dX10_findScores_40 : decode cX10_findScores 40 = .ok (.invokestatic 69, 3) := by decide +kernel
theorem dX10_findScores_43 : decode cX10_findScores 43 = .ok (.istore_n 2, 1) := by decide +kernel
theorem dX10_findScores_44 : decode cX10_findScores 44 = .ok (.iinc 3 1, 3) := by decide +kernel
theorem dX10_findScores_47 : decode cX10_findScores 47 = .ok (.goto (-32), 3) := by decide +kernel
theorem dX10_findScores_50 : decode cX10_findScores 50 = .ok (.iload_n 2, 1) := by decide +kernel
theorem dX10_findScores_51 : decode cX10_findScores 51 = .ok (.ireturn, 1) := by decide +kernel
theorem dX10_place_0 : decode cX10_place 0 = .ok (.iload_n 1, 1) := by decide +kernel
theorem dX10_place_1 : decode cX10_place 1 = .ok (.invokestatic 241, 3) := by decide +kernel
theorem dX10_place_4 : decode cX10_place 4 = .ok (.ifCond .ne 10, 3) := by decide +kernel
theorem dX10_place_7 : decode cX10_place 7 = .ok (.aload_n 0, 1) := by decide +kernel
theorem dX10_place_8 : decode cX10_place 8 = .ok (.ldc 83, 2) := by decide +kernel
theorem dX10_place_10 : decode cX10_place 10 = .ok (.invokevirtual 84, 3) := by decide +kernel
theorem dX10_place_13 : decode cX10_place 13 = .ok (.ireturn, 1) := by decide +kernel
theorem dX10_place_14 : decode cX10_place 14 = .ok (.aload_n 0, 1) := by decide +kernel
theorem dX10_place_15 : decode cX10_place 15 = .ok (.iload_n 1, 1) := by decide +kernel
theorem dX10_place_16 : decode cX10_place 16 = .ok (.invokevirtual 250, 3) := by decide +kernel
theorem dX10_place_19 : decode cX10_place 19 = .ok (.istore_n 2, 1) := by decide +kernel
theorem dX10_place_20 : decode cX10_place 20 = .ok (.iconst 0, 1) := by decide +kernel
theorem dX10_place_21 : decode cX10_place 21 = .ok (.istore_n 3, 1) := by decide +kernel
theorem dX10_place_22 : decode cX10_place 22 = .ok (.aload_n 0, 1) := by decide +kernel
theorem dX10_place_23 : decode cX10_place 23 = .ok (.getfield 44, 3) := by decide +kernel
theorem dX10_place_26 : decode cX10_place 26 = .ok (.iload_n 3, 1) := by decide +kernel
theorem dX10_place_27 : decode cX10_place 27 = .ok (.iaload, 1) := by decide +kernel
theorem dX10_place_28 : decode cX10_place 28 = .ok (.iload_n 2, 1) := by decide +kernel
theorem dX10_place_29 : decode cX10_place 29 = .ok (.if_icmp .ge 9, 3) := by decide +kernel
theorem dX10_place_32 : decode cX10_place 32 = .ok (.iinc 3 1, 3) := by decide +kernel
theorem dX10_place_35 : decode cX10_place 35 = .ok (.goto (-13), 3) := by decide +kernel
theorem dX10_place_38 : decode cX10_place 38 = .ok (.iload_n 3, 1) := by decide +kernel
theorem dX10_place_39 : decode cX10_place 39 = .ok (.ireturn, 1) := by decide +kernel
theorem dX10_fromHere_0 : decode cX10_fromHere 0 = .ok (.iload_n 1, 1) := by decide +kernel
theorem dX10_fromHere_1 : decode cX10_fromHere 1 = .ok (.invokestatic 241, 3) := by decide +kernel
theorem dX10_fromHere_4 : decode cX10_fromHere 4 = .ok (.ifCond .ne 11, 3) := by decide +kernel
theorem dX10_fromHere_7 : decode cX10_fromHere 7 = .ok (.aload_n 0, 1) := by decide +kernel
theorem dX10_fromHere_8 : decode cX10_fromHere 8 = .ok (.ldc 83, 2) := by decide +kernel
theorem dX10_fromHere_10 : decode cX10_fromHere 10 = .ok (.invokevirtual 84, 3) := by decide +kernel
theorem dX10_fromHere_13 : decode cX10_fromHere 13 = .ok (.i2l, 1) := by decide +kernel
theorem dX10_fromHere_14 : decode cX10_fromHere 14 = .ok (.lreturn, 1) := by decide +kernel
theorem dX10_fromHere_15 : decode cX10_fromHere 15 = .ok (.aload_n 0, 1) := by decide +kernel
theorem dX10_fromHere_16 : decode cX10_fromHere 16 = .ok (.iload_n 1, 1) := by decide +kernel
theorem dX10_fromHere_17 : decode cX10_fromHere 17 = .ok (.invokevirtual 250, 3) := by decide +kernel
theorem dX10_fromHere_20 : decode cX10_fromHere 20 = .ok (.istore_n 2, 1) := by decide +kernel
theorem dX10_fromHere_21 : decode cX10_fromHere 21 = .ok (.lconst 0, 1) := by decide +kernel
theorem dX10_fromHere_22 : decode cX10_fromHere 22 = .ok (.lstore_n 3, 1) := by decide +kernel
theorem dX10_fromHere_23 : decode cX10_fromHere 23 = .ok (.iconst 0, 1) := by decide +kernel
theorem dX10_fromHere_24 : decode cX10_fromHere 24 = .ok (.istore 5, 2) := by decide +kernel
theorem dX10_fromHere_26 : decode cX10_fromHere 26 = .ok (.iload 5, 2) := by decide +kernel
theorem dX10_fromHere_28 : decode cX10_fromHere 28 = .ok (.bipush 64, 2) := by decide +kernel
theorem dX10_fromHere_30 : decode cX10_fromHere 30 = .ok (.if_icmp .ge 31, 3) := by decide +kernel
theorem dX10_fromHere_33 : decode cX10_fromHere 33 = .ok (.lload_n 3, 1) := by decide +kernel
theorem dX10_fromHere_34 : decode cX10_fromHere 34 = .ok (.aload_n 0, 1) := by decide +kernel
theorem dX10_fromHere_35 : decode cX10_fromHere 35 = .ok (.getfield 44, 3) := by decide +kernel
theorem dX10_fromHere_38 : decode cX10_fromHere 38 = .ok (.iload 5, 2) := by decide +kernel
theorem dX10_fromHere_40 : decode cX10_fromHere 40 = .ok (.iaload, 1) := by decide +kernel
theorem dX10_fromHere_41 : decode cX10_fromHere 41 = .ok (.iload_n 2, 1) := by decide +kernel
theorem dX10_fromHere_42 : decode cX10_fromHere 42 = .ok (.if_icmp .ne 10, 3) := by decide +kernel
theorem dX10_fromHere_45 : decode cX10_fromHere 45 = .ok (.lconst 1, 1) := by decide +kernel
theorem dX10_fromHere_46 : decode cX10_fromHere 46 = .ok (.iload 5, 2) := by decide +kernel
theorem dX10_fromHere_48 : decode cX10_fromHere 48 = .ok (.lshl, 1) := by decide +kernel
theorem dX10_fromHere_49 : decode cX10_fromHere 49 = .ok (.goto 4, 3) := by decide +kernel
theorem dX10_fromHere_52 : decode cX10_fromHere 52 = .ok (.lconst 0, 1) := by decide +kernel
theorem dX10_fromHere_53 : decode cX10_fromHere 53 = .ok (.lor, 1) := by decide +kernel
theorem dX10_fromHere_54 : decode cX10_fromHere 54 = .ok (.lstore_n 3, 1) := by decide +kernel
theorem dX10_fromHere_55 : decode cX10_fromHere 55 = .ok (.iinc 5 1, 3) := by decide +kernel
theorem dX10_fromHere_58 : decode cX10_fromHere 58 = .ok (.goto (-32), 3) := by decide +kernel
theorem dX10_fromHere_61 : decode cX10_fromHere 61 = .ok (.lload_n 3, 1) := by decide +kernel
theorem dX10_fromHere_62 : decode cX10_fromHere 62 = .ok (.lreturn, 1) := by decide +kernel
theorem dX10_mooring_0 : decode cX10_mooring 0 = .ok (.aload_n 0, 1) := by decide +kernel
theorem dX10_mooring_1 : decode cX10_mooring 1 = .ok (.iload_n 1, 1) := by decide +kernel
theorem dX10_mooring_2 : decode cX10_mooring 2 = .ok (.bipush 7, 2) := by decide +kernel
theorem dX10_mooring_4 : decode cX10_mooring 4 = .ok (.invokevirtual 100, 3) := by decide +kernel
theorem dX10_mooring_7 : decode cX10_mooring 7 = .ok (.ifCond .eq 17, 3) := by decide +kernel
theorem dX10_mooring_10 : decode cX10_mooring 10 = .ok (.iload_n 2, 1) := by decide +kernel
theorem dX10_mooring_11 : decode cX10_mooring 11 = .ok (.invokestatic 88, 3) := by decide +kernel
theorem dX10_mooring_14 : decode cX10_mooring 14 = .ok (.ifCond .eq 10, 3) := by decide +kernel
theorem dX10_mooring_17 : decode cX10_mooring 17 = .ok (.iload_n 3, 1) := by decide +kernel
theorem dX10_mooring_18 : decode cX10_mooring 18 = .ok (.invokestatic 241, 3) := by decide +kernel
theorem dX10_mooring_21 : decode cX10_mooring 21 = .ok (.ifCond .ne 10, 3) := by decide +kernel
theorem dX10_mooring_24 : decode cX10_mooring 24 = .ok (.aload_n 0, 1) := by decide +kernel
theorem dX10_mooring_25 : decode cX10_mooring 25 = .ok (.ldc 83, 2) := by decide +kernel
theorem dX10_mooring_27 : decode cX10_mooring 27 = .ok (.invokevirtual 84, 3) := by decide +kernel
theorem dX10_mooring_30 : decode cX10_mooring 30 = .ok (.ireturn, 1) := by decide +kernel
theorem dX10_mooring_31 : decode cX10_mooring 31 = .ok (.aload_n 0, 1) := by decide +kernel
theorem dX10_mooring_32 : decode cX10_mooring 32 = .ok (.getfield 9, 3) := by decide +kernel
theorem dX10_mooring_35 : decode cX10_mooring 35 = .ok (.aload_n 0, 1) := by decide +kernel
theorem dX10_mooring_36 : decode cX10_mooring 36 = .ok (.getfield 16, 3) := by decide +kernel
theorem dX10_mooring_39 : decode cX10_mooring 39 = .ok (.invokestatic 76, 3) := by decide +kernel
theorem dX10_mooring_42 : decode cX10_mooring 42 = .ok (.iconst 0, 1) := by decide +kernel
theorem dX10_mooring_43 : decode cX10_mooring 43 = .ok (.istore 4, 2) := by decide +kernel
theorem dX10_mooring_45 : decode cX10_mooring 45 = .ok (.iconst (-1), 1) := by decide +kernel
theorem dX10_mooring_46 : decode cX10_mooring 46 = .ok (.istore 5, 2) := by decide +kernel
theorem dX10_mooring_48 : decode cX10_mooring 48 = .ok (.iconst 0, 1) := by decide +kernel
theorem dX10_mooring_49 : decode cX10_mooring 49 = .ok (.istore 6, 2) := by decide +kernel
theorem dX10_mooring_51 : decode cX10_mooring 51 = .ok (.iload 6, 2) := by decide +kernel
theorem dX10_mooring_53 : decode cX10_mooring 53 = .ok (.bipush 64, 2) := by decide +kernel
theorem dX10_mooring_55 : decode cX10_mooring 55 = .ok (.if_icmp .ge 57, 3) := by decide +kernel
theorem dX10_mooring_58 : decode cX10_mooring 58 = .ok (.aload_n 0, 1) := by decide +kernel
theorem dX10_mooring_59 : decode cX10_mooring 59 = .ok (.getfield 9, 3) := by decide +kernel
theorem dX10_mooring_62 : decode cX10_mooring 62 = .ok (.bipush 12, 2) := by decide +kernel
theorem dX10_mooring_64 : decode cX10_mooring 64 = .ok (.iconst 4, 1) := by decide +kernel
theorem dX10_mooring_65 : decode cX10_mooring 65 = .ok (.iload_n 1, 1) := by decide +kernel
theorem dX10_mooring_66 : decode cX10_mooring 66 = .ok (.imul, 1) := by decide +kernel
theorem dX10_mooring_67 : decode cX10_mooring 67 = .ok (.iadd, 1) := by decide +kernel
theorem dX10_mooring_68 : decode cX10_mooring 68 = .ok (.iconst 2, 1) := by decide +kernel
theorem dX10_mooring_69 : decode cX10_mooring 69 = .ok (.iadd, 1) := by decide +kernel
theorem dX10_mooring_70 : decode cX10_mooring 70 = .ok (.iload 6, 2) := by decide +kernel
theorem dX10_mooring_72 : decode cX10_mooring 72 = .ok (.iastore, 1) := by decide +kernel
theorem dX10_mooring_73 : decode cX10_mooring 73 = .ok (.aload_n 0, 1) := by decide +kernel
theorem dX10_mooring_74 : decode cX10_mooring 74 = .ok (.iload_n 2, 1) := by decide +kernel
theorem dX10_mooring_75 : decode cX10_mooring 75 = .ok (.iload_n 3, 1) := by decide +kernel
theorem dX10_mooring_76 : decode cX10_mooring 76 = .ok (.invokevirtual 247, 3) := by decide +kernel
theorem dX10_mooring_79 : decode cX10_mooring 79 = .ok (.istore 7, 2) := by decide +kernel
theorem dX10_mooring_81 : decode cX10_mooring 81 = .ok (.iload 7, 2) := by decide +kernel
theorem dX10_mooring_83 : decode cX10_mooring 83 = .ok (.iload 5, 2) := by decide +kernel
theorem dX10_mooring_85 : decode cX10_mooring 85 = .ok (.if_icmp .le 8, 3) := by decide +kernel
theorem dX10_mooring_88 : decode cX10_mooring 88 = .ok (.iload 6, 2) := by decide +kernel
theorem dX10_mooring_90 : decode cX10_mooring 90 = .ok (.goto 5, 3) := by decide +kernel
theorem dX10_mooring_93 : decode cX10_mooring 93 = .ok (.iload 4, 2) := by decide +kernel
theorem dX10_mooring_95 : decode cX10_mooring 95 = .ok (.istore 4, 2) := by decide +kernel
theorem dX10_mooring_97 : decode cX10_mooring 97 = .ok (.iload 5, 2) := by decide +kernel
theorem dX10_mooring_99 : decode cX10_mooring 99 = .ok (.iload 7, 2) := by decide +kernel
theorem dX10_mooring_101 : decode cX10_mooring 101 = .ok (.invokestatic 69, 3) := by decide +kernel
theorem dX10_mooring_104 : decode cX10_mooring 104 = .ok (.istore 5, 2) := by decide +kernel
theorem dX10_mooring_106 : decode cX10_mooring 106 = .ok (.iinc 6 1, 3) := by decide +kernel
theorem dX10_mooring_109 : decode cX10_mooring 109 = .ok (.goto (-58), 3) := by decide +kernel
theorem dX10_mooring_112 : decode cX10_mooring 112 = .ok (.iload 4, 2) := by decide +kernel
theorem dX10_mooring_114 : decode cX10_mooring 114 = .ok (.ireturn, 1) := by decide +kernel
theorem dX10_sooner_0 : decode cX10_sooner 0 = .ok (.aload_n 0, 1) := by decide +kernel
theorem dX10_sooner_1 : decode cX10_sooner 1 = .ok (.iload_n 1, 1) := by decide +kernel
theorem dX10_sooner_2 : decode cX10_sooner 2 = .ok (.bipush 7, 2) := by decide +kernel
theorem dX10_sooner_4 : decode cX10_sooner 4 = .ok (.invokevirtual 100, 3) := by decide +kernel
theorem dX10_sooner_7 : decode cX10_sooner 7 = .ok (.ifCond .eq 17, 3) := by decide +kernel
theorem dX10_sooner_10 : decode cX10_sooner 10 = .ok (.iload_n 2, 1) := by decide +kernel
theorem dX10_sooner_11 : decode cX10_sooner 11 = .ok (.invokestatic 88, 3) := by decide +kernel
theorem dX10_sooner_14 : decode cX10_sooner 14 = .ok (.ifCond .eq 10, 3) := by decide +kernel
theorem dX10_sooner_17 : decode cX10_sooner 17 = .ok (.iload_n 3, 1) := by decide +kernel
theorem dX10_sooner_18 : decode cX10_sooner 18 = .ok (.invokestatic 241, 3) := by decide +kernel
theorem dX10_sooner_21 : decode cX10_sooner 21 = .ok (.ifCond .ne 10, 3) := by decide +kernel
theorem dX10_sooner_24 : decode cX10_sooner 24 = .ok (.aload_n 0, 1) := by decide +kernel
theorem dX10_sooner_25 : decode cX10_sooner 25 = .ok (.ldc 83, 2) := by decide +kernel
theorem dX10_sooner_27 : decode cX10_sooner 27 = .ok (.invokevirtual 84, 3) := by decide +kernel
theorem dX10_sooner_30 : decode cX10_sooner 30 = .ok (.ireturn, 1) := by decide +kernel
theorem dX10_sooner_31 : decode cX10_sooner 31 = .ok (.aload_n 0, 1) := by decide +kernel
theorem dX10_sooner_32 : decode cX10_sooner 32 = .ok (.getfield 9, 3) := by decide +kernel
theorem dX10_sooner_35 : decode cX10_sooner 35 = .ok (.aload_n 0, 1) := by decide +kernel
theorem dX10_sooner_36 : decode cX10_sooner 36 = .ok (.getfield 16, 3) := by decide +kernel
theorem dX10_sooner_39 : decode cX10_sooner 39 = .ok (.invokestatic 76, 3) := by decide +kernel
theorem dX10_sooner_42 : decode cX10_sooner 42 = .ok (.iconst 0, 1) := by decide +kernel
theorem dX10_sooner_43 : decode cX10_sooner 43 = .ok (.istore 4, 2) := by decide +kernel
theorem dX10_sooner_45 : decode cX10_sooner 45 = .ok (.iconst (-1), 1) := by decide +kernel
theorem dX10_sooner_46 : decode cX10_sooner 46 = .ok (.istore 5, 2) := by decide +kernel
theorem dX10_sooner_48 : decode cX10_sooner 48 = .ok (.aload_n 0, 1) := by decide +kernel
theorem dX10_sooner_49 : decode cX10_sooner 49 = .ok (.iload_n 1, 1) := by decide +kernel
theorem dX10_sooner_50 : decode cX10_sooner 50 = .ok (.iconst 3, 1) := by decide +kernel
theorem dX10_sooner_51 : decode cX10_sooner 51 = .ok (.invokevirtual 93, 3) := by decide +kernel
theorem dX10_sooner_54 : decode cX10_sooner 54 = .ok (.istore 6, 2) := by decide +kernel
theorem dX10_sooner_56 : decode cX10_sooner 56 = .ok (.iconst 0, 1) := by decide +kernel
theorem dX10_sooner_57 : decode cX10_sooner 57 = .ok (.istore 7, 2) := by decide +kernel
theorem dX10_sooner_59 : decode cX10_sooner 59 = .ok (.iload 7, 2) := by decide +kernel
theorem dX10_sooner_61 : decode cX10_sooner 61 = .ok (.bipush 32, 2) := by decide +kernel
theorem dX10_sooner_63 : decode cX10_sooner 63 = .ok (.if_icmp .ge 79, 3) := by decide +kernel
theorem dX10_sooner_66 : decode cX10_sooner 66 = .ok (.aload_n 0, 1) := by decide +kernel
theorem dX10_sooner_67 : decode cX10_sooner 67 = .ok (.getfield 9, 3) := by decide +kernel
theorem dX10_sooner_70 : decode cX10_sooner 70 = .ok (.bipush 12, 2) := by decide +kernel
theorem dX10_sooner_72 : decode cX10_sooner 72 = .ok (.iconst 4, 1) := by decide +kernel
theorem dX10_sooner_73 : decode cX10_sooner 73 = .ok (.iload_n 1, 1) := by decide +kernel
theorem dX10_sooner_74 : decode cX10_sooner 74 = .ok (.imul, 1) := by decide +kernel
theorem dX10_sooner_75 : decode cX10_sooner 75 = .ok (.iadd, 1) := by decide +kernel
theorem dX10_sooner_76 : decode cX10_sooner 76 = .ok (.iconst 3, 1) := by decide +kernel
theorem dX10_sooner_77 : decode cX10_sooner 77 = .ok (.iadd, 1) := by decide +kernel
theorem dX10_sooner_78 : decode cX10_sooner 78 = .ok (.iload 7, 2) := by decide +kernel
theorem dX10_sooner_80 : decode cX10_sooner 80 = .ok (.ifCond .ne 8, 3) := by decide +kernel
theorem dX10_sooner_83 : decode cX10_sooner 83 = .ok (.iload 6, 2) := by decide +kernel
theorem dX10_sooner_85 : decode cX10_sooner 85 = .ok (.goto 17, 3) := by decide +kernel
theorem dX10_sooner_88 : decode cX10_sooner 88 = .ok (.iload 6, 2) := by decide +kernel
theorem dX10_sooner_90 : decode cX10_sooner 90 = .ok (.iload 7, 2) := by decide +kernel
theorem dX10_sooner_92 : decode cX10_sooner 92 = .ok (.iushr, 1) := by decide +kernel
theorem dX10_sooner_93 : decode cX10_sooner 93 = .ok (.iload 6, 2) := by decide +kernel
theorem dX10_sooner_95 : decode cX10_sooner 95 = .ok (.bipush 32, 2) := by decide +kernel
theorem dX10_sooner_97 : decode cX10_sooner 97 = .ok (.iload 7, 2) := by decide +kernel
theorem dX10_sooner_99 : decode cX10_sooner 99 = .ok (.isub, 1) := by decide +kernel
theorem dX10_sooner_100 : decode cX10_sooner 100 = .ok (.ishl, 1) := by decide +kernel
theorem dX10_sooner_101 : decode cX10_sooner 101 = .ok (.ior, 1) := by decide +kernel
theorem dX10_sooner_102 : decode cX10_sooner 102 = .ok (.iastore, 1) := by decide +kernel
theorem dX10_sooner_103 : decode cX10_sooner 103 = .ok (.aload_n 0, 1) := by decide +kernel
theorem dX10_sooner_104 : decode cX10_sooner 104 = .ok (.iload_n 2, 1) := by decide +kernel
theorem dX10_sooner_105 : decode cX10_sooner 105 = .ok (.iload_n 3, 1) := by decide +kernel
theorem dX10_sooner_106 : decode cX10_sooner 106 = .ok (.invokevirtual 247, 3) := by decide +kernel
theorem dX10_sooner_109 : decode cX10_sooner 109 = .ok (.istore 8, 2) := by decide +kernel
theorem dX10_sooner_111 : decode cX10_sooner 111 = .ok (.iload 8, 2) := by decide +kernel
theorem dX10_sooner_113 : decode cX10_sooner 113 = .ok (.iload 5, 2) := by decide +kernel
theorem dX10_sooner_115 : decode cX10_sooner 115 = .ok (.if_icmp .le 8, 3) := by decide +kernel
theorem dX10_sooner_118 : decode cX10_sooner 118 = .ok (.iload 7, 2) := by decide +kernel
theorem dX10_sooner_120 : decode cX10_sooner 120 = .ok (.goto 5, 3) := by decide +kernel
theorem dX10_sooner_123 : decode cX10_sooner 123 = .ok (.iload 4, 2) := by decide +kernel
theorem dX10_sooner_125 : decode cX10_sooner 125 = .ok (.istore 4, 2) := by decide +kernel
theorem dX10_sooner_127 : decode cX10_sooner 127 = .ok (.iload 5, 2) := by decide +kernel
theorem dX10_sooner_129 : decode cX10_sooner 129 = .ok (.iload 8, 2) := by decide +kernel
theorem dX10_sooner_131 : decode cX10_sooner 131 = .ok (.invokestatic 69, 3) := by decide +kernel
theorem dX10_sooner_134 : decode cX10_sooner 134 = .ok (.istore 5, 2) := by decide +kernel
theorem dX10_sooner_136 : decode cX10_sooner 136 = .ok (.iinc 7 1, 3) := by decide +kernel
theorem dX10_sooner_139 : decode cX10_sooner 139 = .ok (.goto (-80), 3) := by decide +kernel
theorem dX10_sooner_142 : decode cX10_sooner 142 = .ok (.iload 4, 2) := by decide +kernel
theorem dX10_sooner_144 : decode cX10_sooner 144 = .ok (.ireturn, 1) := by decide +kernel
theorem dX10_fitSpeed_0 : decode cX10_fitSpeed 0 = .ok (.iload_n 1, 1) := by decide +kernel
theorem dX10_fitSpeed_1 : decode cX10_fitSpeed 1 = .ok (.invokestatic 88, 3) := by decide +kernel
theorem dX10_fitSpeed_4 : decode cX10_fitSpeed 4 = .ok (.ifCond .eq 10, 3) := by decide +kernel
theorem dX10_fitSpeed_7 : decode cX10_fitSpeed 7 = .ok (.iload_n 2, 1) := by decide +kernel
theorem dX10_fitSpeed_8 : decode cX10_fitSpeed 8 = .ok (.invokestatic 241, 3) := by decide +kernel
theorem dX10_fitSpeed_11 : decode cX10_fitSpeed 11 = .ok (.ifCond .ne 10, 3) := by decide +kernel
theorem dX10_fitSpeed_14 : decode cX10_fitSpeed 14 = .ok (.aload_n 0, 1) := by decide +kernel
theorem dX10_fitSpeed_15 : decode cX10_fitSpeed 15 = .ok (.ldc 83, 2) := by decide +kernel
theorem dX10_fitSpeed_17 : decode cX10_fitSpeed 17 = .ok (.invokevirtual 84, 3) := by decide +kernel
theorem dX10_fitSpeed_20 : decode cX10_fitSpeed 20 = .ok (.ireturn, 1) := by decide +kernel
theorem dX10_fitSpeed_21 : decode cX10_fitSpeed 21 = .ok (.aload_n 0, 1) := by decide +kernel
theorem dX10_fitSpeed_22 : decode cX10_fitSpeed 22 = .ok (.getfield 9, 3) := by decide +kernel
theorem dX10_fitSpeed_25 : decode cX10_fitSpeed 25 = .ok (.aload_n 0, 1) := by decide +kernel
theorem dX10_fitSpeed_26 : decode cX10_fitSpeed 26 = .ok (.getfield 16, 3) := by decide +kernel
theorem dX10_fitSpeed_29 : decode cX10_fitSpeed 29 = .ok (.invokestatic 76, 3) := by decide +kernel
theorem dX10_fitSpeed_32 : decode cX10_fitSpeed 32 = .ok (.iconst 0, 1) := by decide +kernel
theorem dX10_fitSpeed_33 : decode cX10_fitSpeed 33 = .ok (.istore_n 3, 1) := by decide +kernel
theorem dX10_fitSpeed_34 : decode cX10_fitSpeed 34 = .ok (.iconst (-1), 1) := by decide +kernel
theorem dX10_fitSpeed_35 : decode cX10_fitSpeed 35 = .ok (.istore 4, 2) := by decide +kernel
theorem dX10_fitSpeed_37 : decode cX10_fitSpeed 37 = .ok (.iconst 1, 1) := by decide +kernel
theorem dX10_fitSpeed_38 : decode cX10_fitSpeed 38 = .ok (.istore 5, 2) := by decide +kernel
theorem dX10_fitSpeed_40 : decode cX10_fitSpeed 40 = .ok (.iload 5, 2) := by decide +kernel
theorem dX10_fitSpeed_42 : decode cX10_fitSpeed 42 = .ok (.bipush 9, 2) := by decide +kernel
theorem dX10_fitSpeed_44 : decode cX10_fitSpeed 44 = .ok (.if_icmp .gt 48, 3) := by decide +kernel
theorem dX10_fitSpeed_47 : decode cX10_fitSpeed 47 = .ok (.aload_n 0, 1) := by decide +kernel
theorem dX10_fitSpeed_48 : decode cX10_fitSpeed 48 = .ok (.getfield 9, 3) := by decide +kernel
theorem dX10_fitSpeed_51 : decode cX10_fitSpeed 51 = .ok (.iconst 1, 1) := by decide +kernel
theorem dX10_fitSpeed_52 : decode cX10_fitSpeed 52 = .ok (.iload 5, 2) := by decide +kernel
theorem dX10_fitSpeed_54 : decode cX10_fitSpeed 54 = .ok (.iastore, 1) := by decide +kernel
theorem dX10_fitSpeed_55 : decode cX10_fitSpeed 55 = .ok (.aload_n 0, 1) := by decide +kernel
theorem dX10_fitSpeed_56 : decode cX10_fitSpeed 56 = .ok (.iload_n 1, 1) := by decide +kernel
theorem dX10_fitSpeed_57 : decode cX10_fitSpeed 57 = .ok (.iload_n 2, 1) := by decide +kernel
theorem dX10_fitSpeed_58 : decode cX10_fitSpeed 58 = .ok (.invokevirtual 247, 3) := by decide +kernel
theorem dX10_fitSpeed_61 : decode cX10_fitSpeed 61 = .ok (.istore 6, 2) := by decide +kernel
theorem dX10_fitSpeed_63 : decode cX10_fitSpeed 63 = .ok (.iload 6, 2) := by decide +kernel
theorem dX10_fitSpeed_65 : decode cX10_fitSpeed 65 = .ok (.iload 4, 2) := by decide +kernel
theorem dX10_fitSpeed_67 : decode cX10_fitSpeed 67 = .ok (.if_icmp .le 8, 3) := by decide +kernel
theorem dX10_fitSpeed_70 : decode cX10_fitSpeed 70 = .ok (.iload 5, 2) := by decide +kernel
theorem dX10_fitSpeed_72 : decode cX10_fitSpeed 72 = .ok (.goto 4, 3) := by decide +kernel
theorem dX10_fitSpeed_75 : decode cX10_fitSpeed 75 = .ok (.iload_n 3, 1) := by decide +kernel
theorem dX10_fitSpeed_76 : decode cX10_fitSpeed 76 = .ok (.istore_n 3, 1) := by decide +kernel
theorem dX10_fitSpeed_77 : decode cX10_fitSpeed 77 = .ok (.iload 4, 2) := by decide +kernel
theorem dX10_fitSpeed_79 : decode cX10_fitSpeed 79 = .ok (.iload 6, 2) := by decide +kernel
theorem dX10_fitSpeed_81 : decode cX10_fitSpeed 81 = .ok (.invokestatic 69, 3) := by decide +kernel
theorem dX10_fitSpeed_84 : decode cX10_fitSpeed 84 = .ok (.istore 4, 2) := by decide +kernel
theorem dX10_fitSpeed_86 : decode cX10_fitSpeed 86 = .ok (.iinc 5 1, 3) := by decide +kernel
theorem dX10_fitSpeed_89 : decode cX10_fitSpeed 89 = .ok (.goto (-49), 3) := by decide +kernel
theorem dX10_fitSpeed_92 : decode cX10_fitSpeed 92 = .ok (.iload_n 3, 1) := by decide +kernel
theorem dX10_fitSpeed_93 : decode cX10_fitSpeed 93 = .ok (.ireturn, 1) := by decide +kernel
theorem dX10_areTold_0 : decode cX10_areTold 0 = .ok (.iload_n 0, 1) := by decide +kernel
theorem dX10_areTold_1 : decode cX10_areTold 1 = .ok (.iconst 0, 1) := by decide +kernel
theorem dX10_areTold_2 : decode cX10_areTold 2 = .ok (.ldc 253, 2) := by decide +kernel
theorem dX10_areTold_4 : decode cX10_areTold 4 = .ok (.invokestatic 72, 3) := by decide +kernel
theorem dX10_areTold_7 : decode cX10_areTold 7 = .ok (.ifCond .eq 17, 3) := by decide +kernel
theorem dX10_areTold_10 : decode cX10_areTold 10 = .ok (.iload_n 1, 1) := by decide +kernel
theorem dX10_areTold_11 : decode cX10_areTold 11 = .ok (.iconst 0, 1) := by decide +kernel
theorem dX10_areTold_12 : decode cX10_areTold 12 = .ok (.ldc 219, 2) := by decide +kernel
theorem dX10_areTold_14 : decode cX10_areTold 14 = .ok (.invokestatic 72, 3) := by decide +kernel
theorem dX10_areTold_17 : decode cX10_areTold 17 = .ok (.ifCond .eq 7, 3) := by decide +kernel
theorem dX10_areTold_20 : decode cX10_areTold 20 = .ok (.iconst 1, 1) := by decide +kernel
theorem dX10_areTold_21 : decode cX10_areTold 21 = .ok (.goto 4, 3) := by decide +kernel
theorem dX10_areTold_24 : decode cX10_areTold 24 = .ok (.iconst 0, 1) := by decide +kernel
theorem dX10_areTold_25 : decode cX10_areTold 25 = .ok (.ireturn, 1) := by decide +kernel
theorem dX10_mayBeFrom_0 : decode cX10_mayBeFrom 0 = .ok (.aload_n 0, 1) := by decide +kernel
theorem dX10_mayBeFrom_1 : decode cX10_mayBeFrom 1 = .ok (.iload_n 1, 1) := by decide +kernel
theorem dX10_mayBeFrom_2 : decode cX10_mayBeFrom 2 = .ok (.iload_n 2, 1) := by decide +kernel
theorem dX10_mayBeFrom_3 : decode cX10_mayBeFrom 3 = .ok (.sipush 4096, 3) := by decide +kernel
theorem dX10_mayBeFrom_6 : decode cX10_mayBeFrom 6 = .ok (.idiv, 1) := by decide +kernel
theorem dX10_mayBeFrom_7 : decode cX10_mayBeFrom 7 = .ok (.invokevirtual 121, 3) := by decide +kernel
theorem dX10_mayBeFrom_10 : decode cX10_mayBeFrom 10 = .ok (.iload_n 3, 1) := by decide +kernel
theorem dX10_mayBeFrom_11 : decode cX10_mayBeFrom 11 = .ok (.sipush 10000, 3) := by decide +kernel
theorem dX10_mayBeFrom_14 : decode cX10_mayBeFrom 14 = .ok (.idiv, 1) := by decide +kernel
theorem dX10_mayBeFrom_15 : decode cX10_mayBeFrom 15 = .ok (.if_icmp .ne 45, 3) := by decide +kernel
theorem dX10_mayBeFrom_18 : decode cX10_mayBeFrom 18 = .ok (.aload_n 0, 1) := by decide +kernel
theorem dX10_mayBeFrom_19 : decode cX10_mayBeFrom 19 = .ok (.iload_n 1, 1) := by decide +kernel
theorem dX10_mayBeFrom_20 : decode cX10_mayBeFrom 20 = .ok (.iload_n 2, 1) := by decide +kernel
theorem dX10_mayBeFrom_21 : decode cX10_mayBeFrom 21 = .ok (.bipush 64, 2) := by decide +kernel
theorem dX10_mayBeFrom_23 : decode cX10_mayBeFrom 23 = .ok (.idiv, 1) := by decide +kernel
theorem dX10_mayBeFrom_24 : decode cX10_mayBeFrom 24 = .ok (.bipush 64, 2) := by decide +kernel
theorem dX10_mayBeFrom_26 : decode cX10_mayBeFrom 26 = .ok (.irem, 1) := by decide +kernel
theorem dX10_mayBeFrom_27 : decode cX10_mayBeFrom 27 = .ok (.invokevirtual 121, 3) := by decide +kernel
theorem dX10_mayBeFrom_30 : decode cX10_mayBeFrom 30 = .ok (.iload_n 3, 1) := by decide +kernel
theorem dX10_mayBeFrom_31 : decode cX10_mayBeFrom 31 = .ok (.bipush 100, 2) := by decide +kernel
theorem dX10_mayBeFrom_33 : decode cX10_mayBeFrom 33 = .ok (.idiv, 1) := by decide +kernel
theorem dX10_mayBeFrom_34 : decode cX10_mayBeFrom 34 = .ok (.bipush 100, 2) := by decide +kernel
theorem dX10_mayBeFrom_36 : decode cX10_mayBeFrom 36 = .ok (.irem, 1) := by decide +kernel
theorem dX10_mayBeFrom_37 : decode cX10_mayBeFrom 37 = .ok (.if_icmp .ne 23, 3) := by decide +kernel
theorem dX10_mayBeFrom_40 : decode cX10_mayBeFrom 40 = .ok (.aload_n 0, 1) := by decide +kernel
theorem dX10_mayBeFrom_41 : decode cX10_mayBeFrom 41 = .ok (.iload_n 1, 1) := by decide +kernel
theorem dX10_mayBeFrom_42 : decode cX10_mayBeFrom 42 = .ok (.iload_n 2, 1) := by decide +kernel
theorem dX10_mayBeFrom_43 : decode cX10_mayBeFrom 43 = .ok (.bipush 64, 2) := by decide +kernel
theorem dX10_mayBeFrom_45 : decode cX10_mayBeFrom 45 = .ok (.irem, 1) := by decide +kernel
theorem dX10_mayBeFrom_46 : decode cX10_mayBeFrom 46 = .ok (.invokevirtual 121, 3) := by decide +kernel
theorem dX10_mayBeFrom_49 : decode cX10_mayBeFrom 49 = .ok (.iload_n 3, 1) := by decide +kernel
theorem dX10_mayBeFrom_50 : decode cX10_mayBeFrom 50 = .ok (.bipush 100, 2) := by decide +kernel
theorem dX10_mayBeFrom_52 : decode cX10_mayBeFrom 52 = .ok (.irem, 1) := by decide +kernel
theorem dX10_mayBeFrom_53 : decode cX10_mayBeFrom 53 = .ok (.if_icmp .ne 7, 3) := by decide +kernel
theorem dX10_mayBeFrom_56 : decode cX10_mayBeFrom 56 = .ok (.iconst 1, 1) := by decide +kernel
theorem dX10_mayBeFrom_57 : decode cX10_mayBeFrom 57 = .ok (.goto 4, 3) := by decide +kernel
theorem dX10_mayBeFrom_60 : decode cX10_mayBeFrom 60 = .ok (.iconst 0, 1) := by decide +kernel
theorem dX10_mayBeFrom_61 : decode cX10_mayBeFrom 61 = .ok (.ireturn, 1) := by decide +kernel
theorem dX10_fromWhere_0 : decode cX10_fromWhere 0 = .ok (.iload_n 1, 1) := by decide +kernel
theorem dX10_fromWhere_1 : decode cX10_fromWhere 1 = .ok (.iload_n 2, 1) := by decide +kernel
theorem dX10_fromWhere_2 : decode cX10_fromWhere 2 = .ok (.invokestatic 254, 3) := by decide +kernel
theorem dX10_fromWhere_5 : decode cX10_fromWhere 5 = .ok (.ifCond .ne 10, 3) := by decide +kernel
theorem dX10_fromWhere_8 : decode cX10_fromWhere 8 = .ok (.aload_n 0, 1) := by decide +kernel
theorem dX10_fromWhere_9 : decode cX10_fromWhere 9 = .ok (.ldc 83, 2) := by decide +kernel
theorem dX10_fromWhere_11 : decode cX10_fromWhere 11 = .ok (.invokevirtual 84, 3) := by decide +kernel
theorem dX10_fromWhere_14 : decode cX10_fromWhere 14 = .ok (.ireturn, 1) := by decide +kernel
theorem dX10_fromWhere_15 : decode cX10_fromWhere 15 = .ok (.iconst 0, 1) := by decide +kernel
theorem dX10_fromWhere_16 : decode cX10_fromWhere 16 = .ok (.istore_n 3, 1) := by decide +kernel
theorem dX10_fromWhere_17 : decode cX10_fromWhere 17 = .ok (.iconst 0, 1) := by decide +kernel
theorem dX10_fromWhere_18 : decode cX10_fromWhere 18 = .ok (.istore 4, 2) := by decide +kernel
theorem dX10_fromWhere_20 : decode cX10_fromWhere 20 = .ok (.iload 4, 2) := by decide +kernel
theorem dX10_fromWhere_22 : decode cX10_fromWhere 22 = .ok (.bipush 64, 2) := by decide +kernel
theorem dX10_fromWhere_24 : decode cX10_fromWhere 24 = .ok (.if_icmp .ge 28, 3) := by decide +kernel
theorem dX10_fromWhere_27 : decode cX10_fromWhere 27 = .ok (.iload_n 3, 1) := by decide +kernel
theorem dX10_fromWhere_28 : decode cX10_fromWhere 28 = .ok (.aload_n 0, 1) := by decide +kernel
theorem dX10_fromWhere_29 : decode cX10_fromWhere 29 = .ok (.iload 4, 2) := by decide +kernel
theorem dX10_fromWhere_31 : decode cX10_fromWhere 31 = .ok (.iload_n 1, 1) := by decide +kernel
theorem dX10_fromWhere_32 : decode cX10_fromWhere 32 = .ok (.iload_n 2, 1) := by decide +kernel
theorem dX10_fromWhere_33 : decode cX10_fromWhere 33 = .ok (.invokevirtual 257, 3) := by decide +kernel
theorem dX10_fromWhere_36 : decode cX10_fromWhere 36 = .ok (.ifCond .eq 7, 3) := by decide +kernel
theorem dX10_fromWhere_39 : decode cX10_fromWhere 39 = .ok (.iconst 1, 1) := by decide +kernel
theorem dX10_fromWhere_40 : decode cX10_fromWhere 40 = .ok (.goto 4, 3) := by decide +kernel
theorem dX10_fromWhere_43 : decode cX10_fromWhere 43 = .ok (.iconst 0, 1) := by decide +kernel
theorem dX10_fromWhere_44 : decode cX10_fromWhere 44 = .ok (.iadd, 1) := by decide +kernel
theorem dX10_fromWhere_45 : decode cX10_fromWhere 45 = .ok (.istore_n 3, 1) := by decide +kernel
theorem dX10_fromWhere_46 : decode cX10_fromWhere 46 = .ok (.iinc 4 1, 3) := by decide +kernel
theorem dX10_fromWhere_49 : decode cX10_fromWhere 49 = .ok (.goto (-29), 3) := by decide +kernel
theorem dX10_fromWhere_52 : decode cX10_fromWhere 52 = .ok (.iload_n 3, 1) := by decide +kernel
theorem dX10_fromWhere_53 : decode cX10_fromWhere 53 = .ok (.ireturn, 1) := by decide +kernel
theorem dX10_whereFrom_0 : decode cX10_whereFrom 0 = .ok (.iload_n 1, 1) := by decide +kernel
theorem dX10_whereFrom_1 : decode cX10_whereFrom 1 = .ok (.iload_n 2, 1) := by decide +kernel
theorem dX10_whereFrom_2 : decode cX10_whereFrom 2 = .ok (.invokestatic 254, 3) := by decide +kernel
theorem dX10_whereFrom_5 : decode cX10_whereFrom 5 = .ok (.ifCond .eq 7, 3) := by decide +kernel
theorem dX10_whereFrom_8 : decode cX10_whereFrom 8 = .ok (.iload_n 3, 1) := by decide +kernel
theorem dX10_whereFrom_9 : decode cX10_whereFrom 9 = .ok (.ifCond .ge 10, 3) := by decide +kernel
theorem dX10_whereFrom_12 : decode cX10_whereFrom 12 = .ok (.aload_n 0, 1) := by decide +kernel
theorem dX10_whereFrom_13 : decode cX10_whereFrom 13 = .ok (.ldc 83, 2) := by decide +kernel
theorem dX10_whereFrom_15 : decode cX10_whereFrom 15 = .ok (.invokevirtual 84, 3) := by decide +kernel
theorem dX10_whereFrom_18 : decode cX10_whereFrom 18 = .ok (.ireturn, 1) := by decide +kernel
theorem dX10_whereFrom_19 : decode cX10_whereFrom 19 = .ok (.iconst 0, 1) := by decide +kernel
theorem dX10_whereFrom_20 : decode cX10_whereFrom 20 = .ok (.istore 4, 2) := by decide +kernel
theorem dX10_whereFrom_22 : decode cX10_whereFrom 22 = .ok (.iconst 0, 1) := by decide +kernel
theorem dX10_whereFrom_23 : decode cX10_whereFrom 23 = .ok (.istore 5, 2) := by decide +kernel
theorem dX10_whereFrom_25 : decode cX10_whereFrom 25 = .ok (.iload 5, 2) := by decide +kernel
theorem dX10_whereFrom_27 : decode cX10_whereFrom 27 = .ok (.bipush 64, 2) := by decide +kernel
theorem dX10_whereFrom_29 : decode cX10_whereFrom 29 = .ok (.if_icmp .ge 32, 3) := by decide +kernel
theorem dX10_whereFrom_32 : decode cX10_whereFrom 32 = .ok (.aload_n 0, 1) := by decide +kernel
theorem dX10_whereFrom_33 : decode cX10_whereFrom 33 = .ok (.iload 5, 2) := by decide +kernel
theorem dX10_whereFrom_35 : decode cX10_whereFrom 35 = .ok (.iload_n 1, 1) := by decide +kernel
theorem dX10_whereFrom_36 : decode cX10_whereFrom 36 = .ok (.iload_n 2, 1) := by decide +kernel
theorem dX10_whereFrom_37 : decode cX10_whereFrom 37 = .ok (.invokevirtual 257, 3) := by decide +kernel
theorem dX10_whereFrom_40 : decode cX10_whereFrom 40 = .ok (.ifCond .eq 15, 3) := by decide +kernel
theorem dX10_whereFrom_43 : decode cX10_whereFrom 43 = .ok (.iload 4, 2) := by decide +kernel
theorem dX10_whereFrom_45 : decode cX10_whereFrom 45 = .ok (.iload_n 3, 1) := by decide +kernel
theorem dX10_whereFrom_46 : decode cX10_whereFrom 46 = .ok (.if_icmp .ne 6, 3) := by decide +kernel
theorem dX10_whereFrom_49 : decode cX10_whereFrom 49 = .ok (.iload 5, 2) := by decide +kernel
theorem dX10_whereFrom_51 : decode cX10_whereFrom 51 = .ok (.ireturn, 1) := by decide +kernel
theorem dX10_whereFrom_52 : decode cX10_whereFrom 52 = .ok (.iinc 4 1, 3) := by decide +kernel
theorem dX10_whereFrom_55 : decode cX10_whereFrom 55 = .ok (.iinc 5 1, 3) := by decide +kernel
theorem dX10_whereFrom_58 : decode cX10_whereFrom 58 = .ok (.goto (-33), 3) := by decide +kernel
theorem dX10_whereFrom_61 : decode cX10_whereFrom 61 = .ok (.aload_n 0, 1) := by decide +kernel
theorem dX10_whereFrom_62 : decode cX10_whereFrom 62 = .ok (.ldc_w 260, 3) := by decide +kernel
theorem dX10_whereFrom_65 : decode cX10_whereFrom 65 = .ok (.invokevirtual 84, 3) := by decide +kernel
theorem dX10_whereFrom_68 : decode cX10_whereFrom 68 = .ok (.ireturn, 1) := by decide +kernel
theorem dX10_strokes_0 : decode cX10_strokes 0 = .ok (.aload_n 0, 1) := by decide +kernel
theorem dX10_strokes_1 : decode cX10_strokes 1 = .ok (.iload_n 1, 1) := by decide +kernel
theorem dX10_strokes_2 : decode cX10_strokes 2 = .ok (.bipush 7, 2) := by decide +kernel
theorem dX10_strokes_4 : decode cX10_strokes 4 = .ok (.invokevirtual 100, 3) := by decide +kernel
theorem dX10_strokes_7 : decode cX10_strokes 7 = .ok (.ifCond .eq 10, 3) := by decide +kernel
theorem dX10_strokes_10 : decode cX10_strokes 10 = .ok (.iload_n 2, 1) := by decide +kernel
theorem dX10_strokes_11 : decode cX10_strokes 11 = .ok (.invokestatic 241, 3) := by decide +kernel
theorem dX10_strokes_14 : decode cX10_strokes 14 = .ok (.ifCond .ne 10, 3) := by decide +kernel
theorem dX10_strokes_17 : decode cX10_strokes 17 = .ok (.aload_n 0, 1) := by decide +kernel
theorem dX10_strokes_18 : decode cX10_strokes 18 = .ok (.ldc 83, 2) := by decide +kernel
theorem dX10_strokes_20 : decode cX10_strokes 20 = .ok (.invokevirtual 84, 3) := by decide +kernel
theorem dX10_strokes_23 : decode cX10_strokes 23 = .ok (.ireturn, 1) := by decide +kernel
theorem dX10_strokes_24 : decode cX10_strokes 24 = .ok (.aload_n 0, 1) := by decide +kernel
theorem dX10_strokes_25 : decode cX10_strokes 25 = .ok (.getfield 9, 3) := by decide +kernel
theorem dX10_strokes_28 : decode cX10_strokes 28 = .ok (.aload_n 0, 1) := by decide +kernel
theorem dX10_strokes_29 : decode cX10_strokes 29 = .ok (.getfield 16, 3) := by decide +kernel
theorem dX10_strokes_32 : decode cX10_strokes 32 = .ok (.invokestatic 76, 3) := by decide +kernel
theorem dX10_strokes_35 : decode cX10_strokes 35 = .ok (.iconst 0, 1) := by decide +kernel
theorem dX10_strokes_36 : decode cX10_strokes 36 = .ok (.istore_n 3, 1) := by decide +kernel
theorem dX10_strokes_37 : decode cX10_strokes 37 = .ok (.iconst 0, 1) := by decide +kernel
theorem dX10_strokes_38 : decode cX10_strokes 38 = .ok (.istore 4, 2) := by decide +kernel
theorem dX10_strokes_40 : decode cX10_strokes 40 = .ok (.iload 4, 2) := by decide +kernel
theorem dX10_strokes_42 : decode cX10_strokes 42 = .ok (.iload_n 2, 1) := by decide +kernel
theorem dX10_strokes_43 : decode cX10_strokes 43 = .ok (.if_icmp .ge 40, 3) := by decide +kernel
theorem dX10_strokes_46 : decode cX10_strokes 46 = .ok (.aload_n 0, 1) := by decide +kernel
theorem dX10_strokes_47 : decode cX10_strokes 47 = .ok (.iload_n 1, 1) := by decide +kernel
theorem dX10_strokes_48 : decode cX10_strokes 48 = .ok (.iconst 2, 1) := by decide +kernel
theorem dX10_strokes_49 : decode cX10_strokes 49 = .ok (.invokevirtual 93, 3) := by decide +kernel
theorem dX10_strokes_52 : decode cX10_strokes 52 = .ok (.istore 5, 2) := by decide +kernel
theorem dX10_strokes_54 : decode cX10_strokes 54 = .ok (.aload_n 0, 1) := by decide +kernel
theorem dX10_strokes_55 : decode cX10_strokes 55 = .ok (.invokevirtual 229, 3) := by decide +kernel
theorem dX10_strokes_58 : decode cX10_strokes 58 = .ok (.iload_n 3, 1) := by decide +kernel
theorem dX10_strokes_59 : decode cX10_strokes 59 = .ok (.aload_n 0, 1) := by decide +kernel
theorem dX10_strokes_60 : decode cX10_strokes 60 = .ok (.iload_n 1, 1) := by decide +kernel
theorem dX10_strokes_61 : decode cX10_strokes 61 = .ok (.iconst 2, 1) := by decide +kernel
theorem dX10_strokes_62 : decode cX10_strokes 62 = .ok (.invokevirtual 93, 3) := by decide +kernel
theorem dX10_strokes_65 : decode cX10_strokes 65 = .ok (.iload 5, 2) := by decide +kernel
theorem dX10_strokes_67 : decode cX10_strokes 67 = .ok (.if_icmp .ne 7, 3) := by decide +kernel
theorem dX10_strokes_70 : decode cX10_strokes 70 = .ok (.iconst 0, 1) := by decide +kernel
theorem dX10_strokes_71 : decode cX10_strokes 71 = .ok (.goto 4, 3) := by decide +kernel
theorem dX10_strokes_74 : decode cX10_strokes 74 = .ok (.iconst 1, 1) := by decide +kernel
theorem dX10_strokes_75 : decode cX10_strokes 75 = .ok (.iadd, 1) := by decide +kernel
theorem dX10_strokes_76 : decode cX10_strokes 76 = .ok (.istore_n 3, 1) := by decide +kernel
theorem dX10_strokes_77 : decode cX10_strokes 77 = .ok (.iinc 4 1, 3) := by decide +kernel
theorem dX10_strokes_80 : decode cX10_strokes 80 = .ok (.goto (-40), 3) := by decide +kernel
theorem dX10_strokes_83 : decode cX10_strokes 83 = .ok (.aload_n 0, 1) := by decide +kernel
theorem dX10_strokes_84 : decode cX10_strokes 84 = .ok (.iload_n 3, 1) := by decide +kernel
theorem dX10_strokes_85 : decode cX10_strokes 85 = .ok (.invokevirtual 244, 3) := by decide +kernel
theorem dX10_strokes_88 : decode cX10_strokes 88 = .ok (.ireturn, 1) := by decide +kernel
theorem dX10_seed_0 : decode cX10_seed 0 = .ok (.aload_n 0, 1) := by decide +kernel
theorem dX10_seed_1 : decode cX10_seed 1 = .ok (.bipush 11, 2) := by decide +kernel
theorem dX10_seed_3 : decode cX10_seed 3 = .ok (.iload_n 1, 1) := by decide +kernel
theorem dX10_seed_4 : decode cX10_seed 4 = .ok (.invokevirtual 80, 3) := by decide +kernel
theorem dX10_seed_7 : decode cX10_seed 7 = .ok (.ireturn, 1) := by decide +kernel
theorem dX10_began_0 : decode cX10_began 0 = .ok (.aload_n 0, 1) := by decide +kernel
theorem dX10_began_1 : decode cX10_began 1 = .ok (.getfield 261, 3) := by decide +kernel
theorem dX10_began_4 : decode cX10_began 4 = .ok (.bipush 40, 2) := by decide +kernel
theorem dX10_began_6 : decode cX10_began 6 = .ok (.if_icmp .ge 23, 3) := by decide +kernel
theorem dX10_began_9 : decode cX10_began 9 = .ok (.aload_n 0, 1) := by decide +kernel
theorem dX10_began_10 : decode cX10_began 10 = .ok (.getfield 47, 3) := by decide +kernel
theorem dX10_began_13 : decode cX10_began 13 = .ok (.aload_n 0, 1) := by decide +kernel
theorem dX10_began_14 : decode cX10_began 14 = .ok (.getfield 261, 3) := by decide +kernel
theorem dX10_began_17 : decode cX10_began 17 = .ok (.iload_n 1, 1) := by decide +kernel
theorem dX10_began_18 : decode cX10_began 18 = .ok (.iastore, 1) := by decide +kernel
theorem dX10_began_19 : decode cX10_began 19 = .ok (.aload_n 0, 1) := by decide +kernel
theorem dX10_began_20 : decode cX10_began 20 = .ok (.dup, 1) := by decide +kernel
theorem dX10_began_21 : decode cX10_began 21 = .ok (.getfield 261, 3) := by decide +kernel
theorem dX10_began_24 : decode cX10_began 24 = .ok (.iconst 1, 1) := by decide +kernel
theorem dX10_began_25 : decode cX10_began 25 = .ok (.iadd, 1) := by decide +kernel
theorem dX10_began_26 : decode cX10_began 26 = .ok (.putfield 261, 3) := by decide +kernel
theorem dX10_began_29 : decode cX10_began 29 = .ok (.return_, 1) := by decide +kernel
theorem dX10_hasOwn_0 : decode cX10_hasOwn 0 = .ok (.iload_n 0, 1) := by decide +kernel
theorem dX10_hasOwn_1 : decode cX10_hasOwn 1 = .ok (.tableswitch 84 0 5 #[39, 41, 52, 62, 41, 73], 39) := by decide +kernel
theorem dX10_hasOwn_40 : decode cX10_hasOwn 40 = .ok (.iconst 1, 1) := by decide +kernel
theorem dX10_hasOwn_41 : decode cX10_hasOwn 41 = .ok (.ireturn, 1) := by decide +kernel
theorem dX10_hasOwn_42 : decode cX10_hasOwn 42 = .ok (.iload_n 1, 1) := by decide +kernel
theorem dX10_hasOwn_43 : decode cX10_hasOwn 43 = .ok (.iconst 1, 1) := by decide +kernel
theorem dX10_hasOwn_44 : decode cX10_hasOwn 44 = .ok (.if_icmp .ne 7, 3) := by decide +kernel
theorem dX10_hasOwn_47 : decode cX10_hasOwn 47 = .ok (.iconst 1, 1) := by decide +kernel
theorem dX10_hasOwn_48 : decode cX10_hasOwn 48 = .ok (.goto 4, 3) := by decide +kernel
theorem dX10_hasOwn_51 : decode cX10_hasOwn 51 = .ok (.iconst 0, 1) := by decide +kernel
theorem dX10_hasOwn_52 : decode cX10_hasOwn 52 = .ok (.ireturn, 1) := by decide +kernel
theorem dX10_hasOwn_53 : decode cX10_hasOwn 53 = .ok (.iload_n 1, 1) := by decide +kernel
theorem dX10_hasOwn_54 : decode cX10_hasOwn 54 = .ok (.ifCond .ne 7, 3) := by decide +kernel
theorem dX10_hasOwn_57 : decode cX10_hasOwn 57 = .ok (.iconst 1, 1) := by decide +kernel
theorem dX10_hasOwn_58 : decode cX10_hasOwn 58 = .ok (.goto 4, 3) := by decide +kernel
theorem dX10_hasOwn_61 : decode cX10_hasOwn 61 = .ok (.iconst 0, 1) := by decide +kernel
theorem dX10_hasOwn_62 : decode cX10_hasOwn 62 = .ok (.ireturn, 1) := by decide +kernel
theorem dX10_hasOwn_63 : decode cX10_hasOwn 63 = .ok (.iload_n 1, 1) := by decide +kernel
theorem dX10_hasOwn_64 : decode cX10_hasOwn 64 = .ok (.iconst 2, 1) := by decide +kernel
theorem dX10_hasOwn_65 : decode cX10_hasOwn 65 = .ok (.if_icmp .ne 7, 3) := by decide +kernel
theorem dX10_hasOwn_68 : decode cX10_hasOwn 68 = .ok (.iconst 1, 1) := by decide +kernel
theorem dX10_hasOwn_69 : decode cX10_hasOwn 69 = .ok (.goto 4, 3) := by decide +kernel
theorem dX10_hasOwn_72 : decode cX10_hasOwn 72 = .ok (.iconst 0, 1) := by decide +kernel
theorem dX10_hasOwn_73 : decode cX10_hasOwn 73 = .ok (.ireturn, 1) := by decide +kernel
theorem dX10_hasOwn_74 : decode cX10_hasOwn 74 = .ok (.iload_n 1, 1) := by decide +kernel
theorem dX10_hasOwn_75 : decode cX10_hasOwn 75 = .ok (.iconst 3, 1) := by decide +kernel
theorem dX10_hasOwn_76 : decode cX10_hasOwn 76 = .ok (.if_icmp .ne 7, 3) := by decide +kernel
theorem dX10_hasOwn_79 : decode cX10_hasOwn 79 = .ok (.iconst 1, 1) := by decide +kernel
theorem dX10_hasOwn_80 : decode cX10_hasOwn 80 = .ok (.goto 4, 3) := by decide +kernel
theorem dX10_hasOwn_83 : decode cX10_hasOwn 83 = .ok (.iconst 0, 1) := by decide +kernel
theorem dX10_hasOwn_84 : decode cX10_hasOwn 84 = .ok (.ireturn, 1) := by decide +kernel
theorem dX10_hasOwn_85 : decode cX10_hasOwn 85 = .ok (.iload_n 1, 1) := by decide +kernel
theorem dX10_hasOwn_86 : decode cX10_hasOwn 86 = .ok (.iconst 1, 1) := by decide +kernel
theorem dX10_hasOwn_87 : decode cX10_hasOwn 87 = .ok (.if_icmp .le 7, 3) := by decide +kernel
theorem dX10_hasOwn_90 : decode cX10_hasOwn 90 = .ok (.iconst 1, 1) := by decide +kernel
theorem dX10_hasOwn_91 : decode cX10_hasOwn 91 = .ok (.goto 4, 3) := by decide +kernel
theorem dX10_hasOwn_94 : decode cX10_hasOwn 94 = .ok (.iconst 0, 1) := by decide +kernel
theorem dX10_hasOwn_95 : decode cX10_hasOwn 95 = .ok (.ireturn, 1) := by decide +kernel
theorem dX10_voiced_0 : decode cX10_voiced 0 = .ok (.aload_n 0, 1) := by decide +kernel
theorem dX10_voiced_1 : decode cX10_voiced 1 = .ok (.aload_n 0, 1) := by decide +kernel
theorem dX10_voiced_2 : decode cX10_voiced 2 = .ok (.aload_n 0, 1) := by decide +kernel
theorem dX10_voiced_3 : decode cX10_voiced 3 = .ok (.getfield 264, 3) := by decide +kernel
theorem dX10_voiced_6 : decode cX10_voiced 6 = .ok (.iconst 0, 1) := by decide +kernel
theorem dX10_voiced_7 : decode cX10_voiced 7 = .ok (.invokevirtual 93, 3) := by decide +kernel
theorem dX10_voiced_10 : decode cX10_voiced 10 = .ok (.iload_n 1, 1) := by decide +kernel
theorem dX10_voiced_11 : decode cX10_voiced 11 = .ok (.iload_n 2, 1) := by decide +kernel
theorem dX10_voiced_12 : decode cX10_voiced 12 = .ok (.invokevirtual 267, 3) := by decide +kernel
theorem dX10_voiced_15 : decode cX10_voiced 15 = .ok (.ireturn, 1) := by decide +kernel
theorem dX10_bodyFrom_0 : decode cX10_bodyFrom 0 = .ok (.iload_n 1, 1) := by decide +kernel
theorem dX10_bodyFrom_1 : decode cX10_bodyFrom 1 = .ok (.istore 4, 2) := by decide +kernel
theorem dX10_bodyFrom_3 : decode cX10_bodyFrom 3 = .ok (.iload 4, 2) := by decide +kernel
theorem dX10_bodyFrom_5 : decode cX10_bodyFrom 5 = .ok (.iload_n 2, 1) := by decide +kernel
theorem dX10_bodyFrom_6 : decode cX10_bodyFrom 6 = .ok (.invokestatic 270, 3) := by decide +kernel
theorem dX10_bodyFrom_9 : decode cX10_bodyFrom 9 = .ok (.ifCond .ne 13, 3) := by decide +kernel
theorem dX10_bodyFrom_12 : decode cX10_bodyFrom 12 = .ok (.iload 4, 2) := by decide +kernel
theorem dX10_bodyFrom_14 : decode cX10_bodyFrom 14 = .ok (.invokestatic 107, 3) := by decide +kernel
theorem dX10_bodyFrom_17 : decode cX10_bodyFrom 17 = .ok (.istore 4, 2) := by decide +kernel
theorem dX10_bodyFrom_19 : decode cX10_bodyFrom 19 = .ok (.goto (-16), 3) := by decide +kernel
theorem dX10_bodyFrom_22 : decode cX10_bodyFrom 22 = .ok (.aload_n 0, 1) := by decide +kernel
theorem dX10_bodyFrom_23 : decode cX10_bodyFrom 23 = .ok (.iload 4, 2) := by decide +kernel
theorem dX10_bodyFrom_25 : decode cX10_bodyFrom 25 = .ok (.iload_n 2, 1) := by decide +kernel
theorem dX10_bodyFrom_26 : decode cX10_bodyFrom 26 = .ok (.iload_n 3, 1) := by decide +kernel
theorem dX10_bodyFrom_27 : decode cX10_bodyFrom 27 = .ok (.invokevirtual 273, 3) := by decide +kernel
theorem dX10_bodyFrom_30 : decode cX10_bodyFrom 30 = .ok (.ireturn, 1) := by decide +kernel
theorem dX10_body_0 : decode cX10_body 0 = .ok (.aload_n 0, 1) := by decide +kernel
theorem dX10_body_1 : decode cX10_body 1 = .ok (.getfield 264, 3) := by decide +kernel
theorem dX10_body_4 : decode cX10_body 4 = .ok (.istore 4, 2) := by decide +kernel
theorem dX10_body_6 : decode cX10_body 6 = .ok (.aload_n 0, 1) := by decide +kernel
theorem dX10_body_7 : decode cX10_body 7 = .ok (.aload_n 0, 1) := by decide +kernel
theorem dX10_body_8 : decode cX10_body 8 = .ok (.getfield 264, 3) := by decide +kernel
theorem dX10_body_11 : decode cX10_body 11 = .ok (.iconst 1, 1) := by decide +kernel
theorem dX10_body_12 : decode cX10_body 12 = .ok (.invokevirtual 93, 3) := by decide +kernel
theorem dX10_body_15 : decode cX10_body 15 = .ok (.istore 5, 2) := by decide +kernel
theorem dX10_body_17 : decode cX10_body 17 = .ok (.iconst 4, 1) := by decide +kernel
theorem dX10_body_18 : decode cX10_body 18 = .ok (.iload_n 1, 1) := by decide +kernel
theorem dX10_body_19 : decode cX10_body 19 = .ok (.imul, 1) := by decide +kernel
theorem dX10_body_20 : decode cX10_body 20 = .ok (.iload_n 2, 1) := by decide +kernel
theorem dX10_body_21 : decode cX10_body 21 = .ok (.iadd, 1) := by decide +kernel
theorem dX10_body_22 : decode cX10_body 22 = .ok (.tableswitch 297 0 26 #[122, 133, 148, 159, 297, 183, 297, 297, 208, 297, 297, 297, 297, 297, 224, 297, 297, 239, 297, 297, 297, 297, 297, 255, 297, 297, 280], 122) := by decide +kernel
theorem dX10_body_144 : decode cX10_body 144 = .ok (.aload_n 0, 1) := by decide +kernel
theorem dX10_body_145 : decode cX10_body 145 = .ok (.bipush 10, 2) := by decide +kernel
theorem dX10_body_147 : decode cX10_body 147 = .ok (.invokevirtual 276, 3) := by decide +kernel
theorem dX10_body_150 : decode cX10_body 150 = .ok (.iload_n 3, 1) := by decide +kernel
theorem dX10_body_151 : decode cX10_body 151 = .ok (.iload 4, 2) := by decide +kernel
theorem dX10_body_153 : decode cX10_body 153 = .ok (.iadd, 1) := by decide +kernel
theorem dX10_body_154 : decode cX10_body 154 = .ok (.ireturn, 1) := by decide +kernel
theorem dX10_body_155 : decode cX10_body 155 = .ok (.aload_n 0, 1) := by decide +kernel
theorem dX10_body_156 : decode cX10_body 156 = .ok (.bipush 11, 2) := by decide +kernel
theorem dX10_body_158 : decode cX10_body 158 = .ok (.invokevirtual 276, 3) := by decide +kernel
theorem dX10_body_161 : decode cX10_body 161 = .ok (.aload_n 0, 1) := by decide +kernel
theorem dX10_body_162 : decode cX10_body 162 = .ok (.iconst 0, 1) := by decide +kernel
theorem dX10_body_163 : decode cX10_body 163 = .ok (.iload_n 3, 1) := by decide +kernel
theorem dX10_body_164 : decode cX10_body 164 = .ok (.invokevirtual 279, 3) := by decide +kernel
theorem dX10_body_167 : decode cX10_body 167 = .ok (.iconst 2, 1) := by decide +kernel
theorem dX10_body_168 : decode cX10_body 168 = .ok (.imul, 1) := by decide +kernel
theorem dX10_body_169 : decode cX10_body 169 = .ok (.ireturn, 1) := by decide +kernel
theorem dX10_body_170 : decode cX10_body 170 = .ok (.aload_n 0, 1) := by decide +kernel
theorem dX10_body_171 : decode cX10_body 171 = .ok (.bipush 12, 2) := by decide +kernel
theorem dX10_body_173 : decode cX10_body 173 = .ok (.invokevirtual 276, 3) := by decide +kernel
theorem dX10_body_176 : decode cX10_body 176 = .ok (.iload_n 3, 1) := by decide +kernel
theorem dX10_body_177 : decode cX10_body 177 = .ok (.iload 5, 2) := by decide +kernel
theorem dX10_body_179 : decode cX10_body 179 = .ok (.isub, 1) := by decide +kernel
theorem dX10_body_180 : decode cX10_body 180 = .ok (.ireturn, 1) := by decide +kernel
theorem dX10_body_181 : decode cX10_body 181 = .ok (.aload_n 0, 1) := by decide +kernel
theorem dX10_body_182 : decode cX10_body 182 = .ok (.bipush 13, 2) := by decide +kernel
theorem dX10_body_184 : decode cX10_body 184 = .ok (.invokevirtual 276, 3) := by decide +kernel
theorem dX10_body_187 : decode cX10_body 187 = .ok (.aload_n 0, 1) := by decide +kernel
theorem dX10_body_188 : decode cX10_body 188 = .ok (.iconst 1, 1) := by decide +kernel
theorem dX10_body_189 : decode cX10_body 189 = .ok (.iload_n 3, 1) := by decide +kernel
theorem dX10_body_190 : decode cX10_body 190 = .ok (.invokevirtual 279, 3) := by decide +kernel
theorem dX10_body_193 : decode cX10_body 193 = .ok (.istore 6, 2) := by decide +kernel
theorem dX10_body_195 : decode cX10_body 195 = .ok (.iload 6, 2) := by decide +kernel
theorem dX10_body_197 : decode cX10_body 197 = .ok (.aload_n 0, 1) := by decide +kernel
theorem dX10_body_198 : decode cX10_body 198 = .ok (.iconst 2, 1) := by decide +kernel
theorem dX10_body_199 : decode cX10_body 199 = .ok (.iload_n 3, 1) := by decide +kernel
theorem dX10_body_200 : decode cX10_body 200 = .ok (.invokevirtual 279, 3) := by decide +kernel
theorem dX10_body_203 : decode cX10_body 203 = .ok (.ixor, 1) := by decide +kernel
theorem dX10_body_204 : decode cX10_body 204 = .ok (.ireturn, 1) := by decide +kernel
theorem dX10_body_205 : decode cX10_body 205 = .ok (.aload_n 0, 1) := by decide +kernel
theorem dX10_body_206 : decode cX10_body 206 = .ok (.bipush 20, 2) := by decide +kernel
theorem dX10_body_208 : decode cX10_body 208 = .ok (.invokevirtual 276, 3) := by decide +kernel
theorem dX10_body_211 : decode cX10_body 211 = .ok (.aload_n 0, 1) := by decide +kernel
theorem dX10_body_212 : decode cX10_body 212 = .ok (.iconst 0, 1) := by decide +kernel
theorem dX10_body_213 : decode cX10_body 213 = .ok (.iconst 1, 1) := by decide +kernel
theorem dX10_body_214 : decode cX10_body 214 = .ok (.iload_n 3, 1) := by decide +kernel
theorem dX10_body_215 : decode cX10_body 215 = .ok (.invokevirtual 267, 3) := by decide +kernel
theorem dX10_body_218 : decode cX10_body 218 = .ok (.istore 6, 2) := by decide +kernel
theorem dX10_body_220 : decode cX10_body 220 = .ok (.iload 6, 2) := by decide +kernel
theorem dX10_body_222 : decode cX10_body 222 = .ok (.aload_n 0, 1) := by decide +kernel
theorem dX10_body_223 : decode cX10_body 223 = .ok (.iconst 2, 1) := by decide +kernel
theorem dX10_body_224 : decode cX10_body 224 = .ok (.iconst 1, 1) := by decide +kernel
theorem dX10_body_225 : decode cX10_body 225 = .ok (.invokevirtual 279, 3) := by decide +kernel
theorem dX10_body_228 : decode cX10_body 228 = .ok (.isub, 1) := by decide +kernel
theorem dX10_body_229 : decode cX10_body 229 = .ok (.ireturn, 1) := by decide +kernel
theorem dX10_body_230 : decode cX10_body 230 = .ok (.aload_n 0, 1) := by decide +kernel
theorem dX10_body_231 : decode cX10_body 231 = .ok (.bipush 30, 2) := by decide +kernel
theorem dX10_body_233 : decode cX10_body 233 = .ok (.invokevirtual 276, 3) := by decide +kernel
theorem dX10_body_236 : decode cX10_body 236 = .ok (.aload_n 0, 1) := by decide +kernel
theorem dX10_body_237 : decode cX10_body 237 = .ok (.iconst 0, 1) := by decide +kernel
theorem dX10_body_238 : decode cX10_body 238 = .ok (.iconst 0, 1) := by decide +kernel
theorem dX10_body_239 : decode cX10_body 239 = .ok (.iload_n 3, 1) := by decide +kernel
theorem dX10_body_240 : decode cX10_body 240 = .ok (.invokevirtual 267, 3) := by decide +kernel
theorem dX10_body_243 : decode cX10_body 243 = .ok (.iconst 3, 1) := by decide +kernel
theorem dX10_body_244 : decode cX10_body 244 = .ok (.imul, 1) := by decide +kernel
theorem dX10_body_245 : decode cX10_body 245 = .ok (.ireturn, 1) := by decide +kernel
theorem dX10_body_246 : decode cX10_body 246 = .ok (.aload_n 0, 1) := by decide +kernel
theorem dX10_body_247 : decode cX10_body 247 = .ok (.bipush 40, 2) := by decide +kernel
theorem dX10_body_249 : decode cX10_body 249 = .ok (.invokevirtual 276, 3) := by decide +kernel
theorem dX10_body_252 : decode cX10_body 252 = .ok (.aload_n 0, 1) := by decide +kernel
theorem dX10_body_253 : decode cX10_body 253 = .ok (.iconst 0, 1) := by decide +kernel
theorem dX10_body_254 : decode cX10_body 254 = .ok (.iconst 2, 1) := by decide +kernel
theorem dX10_body_255 : decode cX10_body 255 = .ok (.iload_n 3, 1) := by decide +kernel
theorem dX10_body_256 : decode cX10_body 256 = .ok (.invokevirtual 267, 3) := by decide +kernel
theorem dX10_body_259 : decode cX10_body 259 = .ok (.ineg, 1) := by decide +kernel
theorem dX10_body_260 : decode cX10_body 260 = .ok (.ireturn, 1) := by decide +kernel
theorem dX10_body_261 : decode cX10_body 261 = .ok (.aload_n 0, 1) := by decide +kernel
theorem dX10_body_262 : decode cX10_body 262 = .ok (.bipush 50, 2) := by decide +kernel
theorem dX10_body_264 : decode cX10_body 264 = .ok (.invokevirtual 276, 3) := by decide +kernel
theorem dX10_body_267 : decode cX10_body 267 = .ok (.aload_n 0, 1) := by decide +kernel
theorem dX10_body_268 : decode cX10_body 268 = .ok (.iconst 1, 1) := by decide +kernel
theorem dX10_body_269 : decode cX10_body 269 = .ok (.iconst 1, 1) := by decide +kernel
theorem dX10_body_270 : decode cX10_body 270 = .ok (.iload_n 3, 1) := by decide +kernel
theorem dX10_body_271 : decode cX10_body 271 = .ok (.iconst 1, 1) := by decide +kernel
theorem dX10_body_272 : decode cX10_body 272 = .ok (.iadd, 1) := by decide +kernel
theorem dX10_body_273 : decode cX10_body 273 = .ok (.invokevirtual 267, 3) := by decide +kernel
theorem dX10_body_276 : decode cX10_body 276 = .ok (.ireturn, 1) := by decide +kernel
theorem dX10_body_277 : decode cX10_body 277 = .ok (.aload_n 0, 1) := by decide +kernel
theorem dX10_body_278 : decode cX10_body 278 = .ok (.bipush 60, 2) := by decide +kernel
theorem dX10_body_280 : decode cX10_body 280 = .ok (.invokevirtual 276, 3) := by decide +kernel
theorem dX10_body_283 : decode cX10_body 283 = .ok (.aload_n 0, 1) := by decide +kernel
theorem dX10_body_284 : decode cX10_body 284 = .ok (.iconst 2, 1) := by decide +kernel
theorem dX10_body_285 : decode cX10_body 285 = .ok (.iconst 3, 1) := by decide +kernel
theorem dX10_body_286 : decode cX10_body 286 = .ok (.iload_n 3, 1) := by decide +kernel
theorem dX10_body_287 : decode cX10_body 287 = .ok (.invokevirtual 267, 3) := by decide +kernel
theorem dX10_body_290 : decode cX10_body 290 = .ok (.istore 6, 2) := by decide +kernel
theorem dX10_body_292 : decode cX10_body 292 = .ok (.iload 6, 2) := by decide +kernel
theorem dX10_body_294 : decode cX10_body 294 = .ok (.aload_n 0, 1) := by decide +kernel
theorem dX10_body_295 : decode cX10_body 295 = .ok (.iconst 0, 1) := by decide +kernel
theorem dX10_body_296 : decode cX10_body 296 = .ok (.iconst 2, 1) := by decide +kernel
theorem dX10_body_297 : decode cX10_body 297 = .ok (.invokevirtual 279, 3) := by decide +kernel
theorem dX10_body_300 : decode cX10_body 300 = .ok (.isub, 1) := by decide +kernel
theorem dX10_body_301 : decode cX10_body 301 = .ok (.ireturn, 1) := by decide +kernel
theorem dX10_body_302 : decode cX10_body 302 = .ok (.aload_n 0, 1) := by decide +kernel
theorem dX10_body_303 : decode cX10_body 303 = .ok (.bipush 70, 2) := by decide +kernel
theorem dX10_body_305 : decode cX10_body 305 = .ok (.invokevirtual 276, 3) := by decide +kernel
theorem dX10_body_308 : decode cX10_body 308 = .ok (.aload_n 0, 1) := by decide +kernel
theorem dX10_body_309 : decode cX10_body 309 = .ok (.iconst 3, 1) := by decide +kernel
theorem dX10_body_310 : decode cX10_body 310 = .ok (.iconst 2, 1) := by decide +kernel
theorem dX10_body_311 : decode cX10_body 311 = .ok (.iload_n 3, 1) := by decide +kernel
theorem dX10_body_312 : decode cX10_body 312 = .ok (.invokevirtual 267, 3) := by decide +kernel
theorem dX10_body_315 : decode cX10_body 315 = .ok (.iload 4, 2) := by decide +kernel
theorem dX10_body_317 : decode cX10_body 317 = .ok (.ixor, 1) := by decide +kernel
theorem dX10_body_318 : decode cX10_body 318 = .ok (.ireturn, 1) := by decide +kernel
theorem dX10_body_319 : decode cX10_body 319 = .ok (.aload_n 0, 1) := by decide +kernel
theorem dX10_body_320 : decode cX10_body 320 = .ok (.bipush 71, 2) := by decide +kernel
theorem dX10_body_322 : decode cX10_body 322 = .ok (.invokevirtual 276, 3) := by decide +kernel
theorem dX10_body_325 : decode cX10_body 325 = .ok (.aload_n 0, 1) := by decide +kernel
theorem dX10_body_326 : decode cX10_body 326 = .ok (.iconst 1, 1) := by decide +kernel
theorem dX10_body_327 : decode cX10_body 327 = .ok (.iload_n 3, 1) := by decide +kernel
theorem dX10_body_328 : decode cX10_body 328 = .ok (.invokevirtual 279, 3) := by decide +kernel
theorem dX10_body_331 : decode cX10_body 331 = .ok (.istore 6, 2) := by decide +kernel
theorem dX10_body_333 : decode cX10_body 333 = .ok (.iload 6, 2) := by decide +kernel
theorem dX10_body_335 : decode cX10_body 335 = .ok (.aload_n 0, 1) := by decide +kernel
theorem dX10_body_336 : decode cX10_body 336 = .ok (.iconst 3, 1) := by decide +kernel
theorem dX10_body_337 : decode cX10_body 337 = .ok (.iconst 3, 1) := by decide +kernel
theorem dX10_body_338 : decode cX10_body 338 = .ok (.iload_n 3, 1) := by decide +kernel
theorem dX10_body_339 : decode cX10_body 339 = .ok (.invokevirtual 267, 3) := by decide +kernel
theorem dX10_body_342 : decode cX10_body 342 = .ok (.isub, 1) := by decide +kernel
theorem dX10_body_343 : decode cX10_body 343 = .ok (.ireturn, 1) := by decide +kernel
theorem dX10_voice_0 : decode cX10_voice 0 = .ok (.aload_n 0, 1) := by decide +kernel
theorem dX10_voice_1 : decode cX10_voice 1 = .ok (.iload_n 1, 1) := by decide +kernel
theorem dX10_voice_2 : decode cX10_voice 2 = .ok (.bipush 7, 2) := by decide +kernel
theorem dX10_voice_4 : decode cX10_voice 4 = .ok (.invokevirtual 100, 3) := by decide +kernel
theorem dX10_voice_7 : decode cX10_voice 7 = .ok (.ifCond .eq 12, 3) := by decide +kernel
theorem dX10_voice_10 : decode cX10_voice 10 = .ok (.iload_n 2, 1) := by decide +kernel
theorem dX10_voice_11 : decode cX10_voice 11 = .ok (.iconst 0, 1) := by decide +kernel
theorem dX10_voice_12 : decode cX10_voice 12 = .ok (.iconst 3, 1) := by decide +kernel
theorem dX10_voice_13 : decode cX10_voice 13 = .ok (.invokestatic 72, 3) := by decide +kernel
theorem dX10_voice_16 : decode cX10_voice 16 = .ok (.ifCond .ne 10, 3) := by decide +kernel
theorem dX10_voice_19 : decode cX10_voice 19 = .ok (.aload_n 0, 1) := by decide +kernel
theorem dX10_voice_20 : decode cX10_voice 20 = .ok (.ldc 83, 2) := by decide +kernel
theorem dX10_voice_22 : decode cX10_voice 22 = .ok (.invokevirtual 84, 3) := by decide +kernel
theorem dX10_voice_25 : decode cX10_voice 25 = .ok (.ireturn, 1) := by decide +kernel
theorem dX10_voice_26 : decode cX10_voice 26 = .ok (.aload_n 0, 1) := by decide +kernel
theorem dX10_voice_27 : decode cX10_voice 27 = .ok (.iconst 0, 1) := by decide +kernel
theorem dX10_voice_28 : decode cX10_voice 28 = .ok (.putfield 261, 3) := by decide +kernel
theorem dX10_voice_31 : decode cX10_voice 31 = .ok (.aload_n 0, 1) := by decide +kernel
theorem dX10_voice_32 : decode cX10_voice 32 = .ok (.iload_n 1, 1) := by decide +kernel
theorem dX10_voice_33 : decode cX10_voice 33 = .ok (.putfield 264, 3) := by decide +kernel
theorem dX10_voice_36 : decode cX10_voice 36 = .ok (.aload_n 0, 1) := by decide +kernel
theorem dX10_voice_37 : decode cX10_voice 37 = .ok (.iload_n 2, 1) := by decide +kernel
theorem dX10_voice_38 : decode cX10_voice 38 = .ok (.iload_n 3, 1) := by decide +kernel
theorem dX10_voice_39 : decode cX10_voice 39 = .ok (.invokevirtual 279, 3) := by decide +kernel
theorem dX10_voice_42 : decode cX10_voice 42 = .ok (.ireturn, 1) := by decide +kernel
theorem dX10_trace_0 : decode cX10_trace 0 = .ok (.iload_n 1, 1) := by decide +kernel
theorem dX10_trace_1 : decode cX10_trace 1 = .ok (.iconst 0, 1) := by decide +kernel
theorem dX10_trace_2 : decode cX10_trace 2 = .ok (.aload_n 0, 1) := by decide +kernel
theorem dX10_trace_3 : decode cX10_trace 3 = .ok (.getfield 261, 3) := by decide +kernel
theorem dX10_trace_6 : decode cX10_trace 6 = .ok (.iconst 1, 1) := by decide +kernel
theorem dX10_trace_7 : decode cX10_trace 7 = .ok (.isub, 1) := by decide +kernel
theorem dX10_trace_8 : decode cX10_trace 8 = .ok (.invokestatic 72, 3) := by decide +kernel
theorem dX10_trace_11 : decode cX10_trace 11 = .ok (.ifCond .eq 12, 3) := by decide +kernel
theorem dX10_trace_14 : decode cX10_trace 14 = .ok (.aload_n 0, 1) := by decide +kernel
theorem dX10_trace_15 : decode cX10_trace 15 = .ok (.getfield 47, 3) := by decide +kernel
theorem dX10_trace_18 : decode cX10_trace 18 = .ok (.iload_n 1, 1) := by decide +kernel
theorem dX10_trace_19 : decode cX10_trace 19 = .ok (.iaload, 1) := by decide +kernel
theorem dX10_trace_20 : decode cX10_trace 20 = .ok (.goto 10, 3) := by decide +kernel
theorem dX10_trace_23 : decode cX10_trace 23 = .ok (.aload_n 0, 1) := by decide +kernel
theorem dX10_trace_24 : decode cX10_trace 24 = .ok (.ldc_w 260, 3) := by decide +kernel
theorem dX10_trace_27 : decode cX10_trace 27 = .ok (.invokevirtual 84, 3) := by decide +kernel
theorem dX10_trace_30 : decode cX10_trace 30 = .ok (.ireturn, 1) := by decide +kernel
theorem dX10_isSheet_0 : decode cX10_isSheet 0 = .ok (.iload_n 0, 1) := by decide +kernel
theorem dX10_isSheet_1 : decode cX10_isSheet 1 = .ok (.iconst 0, 1) := by decide +kernel
theorem dX10_isSheet_2 : decode cX10_isSheet 2 = .ok (.iconst 3, 1) := by decide +kernel
theorem dX10_isSheet_3 : decode cX10_isSheet 3 = .ok (.invokestatic 72, 3) := by decide +kernel
theorem dX10_isSheet_6 : decode cX10_isSheet 6 = .ok (.ireturn, 1) := by decide +kernel
theorem dX10_sheet_0 : decode cX10_sheet 0 = .ok (.iload_n 1, 1) := by decide +kernel
theorem dX10_sheet_1 : decode cX10_sheet 1 = .ok (.invokestatic 282, 3) := by decide +kernel
theorem dX10_sheet_4 : decode cX10_sheet 4 = .ok (.ifCond .eq 25, 3) := by decide +kernel
theorem dX10_sheet_7 : decode cX10_sheet 7 = .ok (.iload_n 2, 1) := by decide +kernel
theorem dX10_sheet_8 : decode cX10_sheet 8 = .ok (.ifCond .eq 28, 3) := by decide +kernel
theorem dX10_sheet_11 : decode cX10_sheet 11 = .ok (.iload_n 2, 1) := by decide +kernel
theorem dX10_sheet_12 : decode cX10_sheet 12 = .ok (.bipush 8, 2) := by decide +kernel
theorem dX10_sheet_14 : decode cX10_sheet 14 = .ok (.if_icmp .eq 22, 3) := by decide +kernel
theorem dX10_sheet_17 : decode cX10_sheet 17 = .ok (.iload_n 2, 1) := by decide +kernel
theorem dX10_sheet_18 : decode cX10_sheet 18 = .ok (.bipush 16, 2) := by decide +kernel
theorem dX10_sheet_20 : decode cX10_sheet 20 = .ok (.if_icmp .eq 16, 3) := by decide +kernel
theorem dX10_sheet_23 : decode cX10_sheet 23 = .ok (.iload_n 2, 1) := by decide +kernel
theorem dX10_sheet_24 : decode cX10_sheet 24 = .ok (.bipush 32, 2) := by decide +kernel
theorem dX10_sheet_26 : decode cX10_sheet 26 = .ok (.if_icmp .eq 10, 3) := by decide +kernel
theorem dX10_sheet_29 : decode cX10_sheet 29 = .ok (.aload_n 0, 1) := by decide +kernel
theorem dX10_sheet_30 : decode cX10_sheet 30 = .ok (.ldc 83, 2) := by decide +kernel
theorem dX10_sheet_32 : decode cX10_sheet 32 = .ok (.invokevirtual 84, 3) := by decide +kernel
theorem dX10_sheet_35 : decode cX10_sheet 35 = .ok (.ireturn, 1) := by decide +kernel
theorem dX10_sheet_36 : decode cX10_sheet 36 = .ok (.iload_n 2, 1) := by decide +kernel
theorem dX10_sheet_37 : decode cX10_sheet 37 = .ok (.ifCond .eq 14, 3) := by decide +kernel
theorem dX10_sheet_40 : decode cX10_sheet 40 = .ok (.iload_n 3, 1) := by decide +kernel
theorem dX10_sheet_41 : decode cX10_sheet 41 = .ok (.ifCond .ge 10, 3) := by decide +kernel
theorem dX10_sheet_44 : decode cX10_sheet 44 = .ok (.aload_n 0, 1) := by decide +kernel
theorem dX10_sheet_45 : decode cX10_sheet 45 = .ok (.ldc 232, 2) := by decide +kernel
theorem dX10_sheet_47 : decode cX10_sheet 47 = .ok (.invokevirtual 84, 3) := by decide +kernel
theorem dX10_sheet_50 : decode cX10_sheet 50 = .ok (.ireturn, 1) := by decide +kernel
theorem dX10_sheet_51 : decode cX10_sheet 51 = .ok (.iload_n 2, 1) := by decide +kernel
theorem dX10_sheet_52 : decode cX10_sheet 52 = .ok (.ifCond .eq 16, 3) := by decide +kernel
theorem dX10_sheet_55 : decode cX10_sheet 55 = .ok (.iload_n 3, 1) := by decide +kernel
theorem dX10_sheet_56 : decode cX10_sheet 56 = .ok (.bipush 40, 2) := by decide +kernel
theorem dX10_sheet_58 : decode cX10_sheet 58 = .ok (.if_icmp .le 10, 3) := by decide +kernel
theorem dX10_sheet_61 : decode cX10_sheet 61 = .ok (.aload_n 0, 1) := by decide +kernel
theorem dX10_sheet_62 : decode cX10_sheet 62 = .ok (.ldc 83, 2) := by decide +kernel
theorem dX10_sheet_64 : decode cX10_sheet 64 = .ok (.invokevirtual 84, 3) := by decide +kernel
theorem dX10_sheet_67 : decode cX10_sheet 67 = .ok (.ireturn, 1) := by decide +kernel
theorem dX10_sheet_68 : decode cX10_sheet 68 = .ok (.aload_n 0, 1) := by decide +kernel
theorem dX10_sheet_69 : decode cX10_sheet 69 = .ok (.getfield 50, 3) := by decide +kernel
theorem dX10_sheet_72 : decode cX10_sheet 72 = .ok (.iload_n 1, 1) := by decide +kernel
theorem dX10_sheet_73 : decode cX10_sheet 73 = .ok (.iload_n 2, 1) := by decide +kernel
theorem dX10_sheet_74 : decode cX10_sheet 74 = .ok (.iastore, 1) := by decide +kernel
theorem dX10_sheet_75 : decode cX10_sheet 75 = .ok (.aload_n 0, 1) := by decide +kernel
theorem dX10_sheet_76 : decode cX10_sheet 76 = .ok (.getfield 53, 3) := by decide +kernel
theorem dX10_sheet_79 : decode cX10_sheet 79 = .ok (.iload_n 1, 1) := by decide +kernel
theorem dX10_sheet_80 : decode cX10_sheet 80 = .ok (.iload_n 2, 1) := by decide +kernel
theorem dX10_sheet_81 : decode cX10_sheet 81 = .ok (.ifCond .ne 7, 3) := by decide +kernel
theorem dX10_sheet_84 : decode cX10_sheet 84 = .ok (.iconst 0, 1) := by decide +kernel
theorem dX10_sheet_85 : decode cX10_sheet 85 = .ok (.goto 4, 3) := by decide +kernel
theorem dX10_sheet_88 : decode cX10_sheet 88 = .ok (.iload_n 3, 1) := by decide +kernel
theorem dX10_sheet_89 : decode cX10_sheet 89 = .ok (.iastore, 1) := by decide +kernel
theorem dX10_sheet_90 : decode cX10_sheet 90 = .ok (.iconst 0, 1) := by decide +kernel
theorem dX10_sheet_91 : decode cX10_sheet 91 = .ok (.istore 4, 2) := by decide +kernel
theorem dX10_sheet_93 : decode cX10_sheet 93 = .ok (.iload 4, 2) := by decide +kernel
theorem dX10_sheet_95 : decode cX10_sheet 95 = .ok (.bipush 40, 2) := by decide +kernel
theorem dX10_sheet_97 : decode cX10_sheet 97 = .ok (.if_icmp .ge 22, 3) := by decide +kernel
theorem dX10_sheet_100 : decode cX10_sheet 100 = .ok (.aload_n 0, 1) := by decide +kernel
theorem dX10_sheet_101 : decode cX10_sheet 101 = .ok (.getfield 56, 3) := by decide +kernel
theorem dX10_sheet_104 : decode cX10_sheet 104 = .ok (.bipush 40, 2) := by decide +kernel
theorem dX10_sheet_106 : decode cX10_sheet 106 = .ok (.iload_n 1, 1) := by decide +kernel
theorem dX10_sheet_107 : decode cX10_sheet 107 = .ok (.imul, 1) := by decide +kernel
theorem dX10_sheet_108 : decode cX10_sheet 108 = .ok (.iload 4, 2) := by decide +kernel
theorem dX10_sheet_110 : decode cX10_sheet 110 = .ok (.iadd, 1) := by decide +kernel
theorem dX10_sheet_111 : decode cX10_sheet 111 = .ok (.iconst 0, 1) := by decide +kernel
theorem dX10_sheet_112 : decode cX10_sheet 112 = .ok (.iastore, 1) := by decide +kernel
theorem dX10_sheet_113 : decode cX10_sheet 113 = .ok (.iinc 4 1, 3) := by decide +kernel
theorem dX10_sheet_116 : decode cX10_sheet 116 = .ok (.goto (-23), 3) := by decide +kernel
theorem dX10_sheet_119 : decode cX10_sheet 119 = .ok (.iconst 1, 1) := by decide +kernel
theorem dX10_sheet_120 : decode cX10_sheet 120 = .ok (.ireturn, 1) := by decide +kernel
theorem dX10_put_0 : decode cX10_put 0 = .ok (.iload_n 1, 1) := by decide +kernel
theorem dX10_put_1 : decode cX10_put 1 = .ok (.invokestatic 282, 3) := by decide +kernel
theorem dX10_put_4 : decode cX10_put 4 = .ok (.ifCond .ne 10, 3) := by decide +kernel
theorem dX10_put_7 : decode cX10_put 7 = .ok (.aload_n 0, 1) := by decide +kernel
theorem dX10_put_8 : decode cX10_put 8 = .ok (.ldc 83, 2) := by decide +kernel
theorem dX10_put_10 : decode cX10_put 10 = .ok (.invokevirtual 84, 3) := by decide +kernel
theorem dX10_put_13 : decode cX10_put 13 = .ok (.ireturn, 1) := by decide +kernel
theorem dX10_put_14 : decode cX10_put 14 = .ok (.aload_n 0, 1) := by decide +kernel
theorem dX10_put_15 : decode cX10_put 15 = .ok (.getfield 50, 3) := by decide +kernel
theorem dX10_put_18 : decode cX10_put 18 = .ok (.iload_n 1, 1) := by decide +kernel
theorem dX10_put_19 : decode cX10_put 19 = .ok (.iaload, 1) := by decide +kernel
theorem dX10_put_20 : decode cX10_put 20 = .ok (.ifCond .ne 11, 3) := by decide +kernel
theorem dX10_put_23 : decode cX10_put 23 = .ok (.aload_n 0, 1) := by decide +kernel
theorem dX10_put_24 : decode cX10_put 24 = .ok (.ldc_w 260, 3) := by decide +kernel
theorem dX10_put_27 : decode cX10_put 27 = .ok (.invokevirtual 84, 3) := by decide +kernel
theorem dX10_put_30 : decode cX10_put 30 = .ok (.ireturn, 1) := by decide +kernel
theorem dX10_put_31 : decode cX10_put 31 = .ok (.iload_n 2, 1) := by decide +kernel
theorem dX10_put_32 : decode cX10_put 32 = .ok (.iconst 0, 1) := by decide +kernel
theorem dX10_put_33 : decode cX10_put 33 = .ok (.aload_n 0, 1) := by decide +kernel
theorem dX10_put_34 : decode cX10_put 34 = .ok (.getfield 53, 3) := by decide +kernel
theorem dX10_put_37 : decode cX10_put 37 = .ok (.iload_n 1, 1) := by decide +kernel
theorem dX10_put_38 : decode cX10_put 38 = .ok (.iaload, 1) := by decide +kernel
theorem dX10_put_39 : decode cX10_put 39 = .ok (.iconst 1, 1) := by decide +kernel
theorem dX10_put_40 : decode cX10_put 40 = .ok (.isub, 1) := by decide +kernel
theorem dX10_put_41 : decode cX10_put 41 = .ok (.invokestatic 72, 3) := by decide +kernel
theorem dX10_put_44 : decode cX10_put 44 = .ok (.ifCond .ne 10, 3) := by decide +kernel
theorem dX10_put_47 : decode cX10_put 47 = .ok (.aload_n 0, 1) := by decide +kernel
theorem dX10_put_48 : decode cX10_put 48 = .ok (.ldc 83, 2) := by decide +kernel
theorem dX10_put_50 : decode cX10_put 50 = .ok (.invokevirtual 84, 3) := by decide +kernel
theorem dX10_put_53 : decode cX10_put 53 = .ok (.ireturn, 1) := by decide +kernel
theorem dX10_put_54 : decode cX10_put 54 = .ok (.aload_n 0, 1) := by decide +kernel
theorem dX10_put_55 : decode cX10_put 55 = .ok (.getfield 56, 3) := by decide +kernel
theorem dX10_put_58 : decode cX10_put 58 = .ok (.bipush 40, 2) := by decide +kernel
theorem dX10_put_60 : decode cX10_put 60 = .ok (.iload_n 1, 1) := by decide +kernel
theorem dX10_put_61 : decode cX10_put 61 = .ok (.imul, 1) := by decide +kernel
theorem dX10_put_62 : decode cX10_put 62 = .ok (.iload_n 2, 1) := by decide +kernel
theorem dX10_put_63 : decode cX10_put 63 = .ok (.iadd, 1) := by decide +kernel
theorem dX10_put_64 : decode cX10_put 64 = .ok (.aload_n 0, 1) := by decide +kernel
theorem dX10_put_65 : decode cX10_put 65 = .ok (.getfield 50, 3) := by decide +kernel
theorem dX10_put_68 : decode cX10_put 68 = .ok (.iload_n 1, 1) := by decide +kernel
theorem dX10_put_69 : decode cX10_put 69 = .ok (.iaload, 1) := by decide +kernel
theorem dX10_put_70 : decode cX10_put 70 = .ok (.bipush 8, 2) := by decide +kernel
theorem dX10_put_72 : decode cX10_put 72 = .ok (.if_icmp .ne 8, 3) := by decide +kernel
theorem dX10_put_75 : decode cX10_put 75 = .ok (.iload_n 3, 1) := by decide +kernel
theorem dX10_put_76 : decode cX10_put 76 = .ok (.i2b, 1) := by decide +kernel
theorem dX10_put_77 : decode cX10_put 77 = .ok (.goto 20, 3) := by decide +kernel
theorem dX10_put_80 : decode cX10_put 80 = .ok (.aload_n 0, 1) := by decide +kernel
theorem dX10_put_81 : decode cX10_put 81 = .ok (.getfield 50, 3) := by decide +kernel
theorem dX10_put_84 : decode cX10_put 84 = .ok (.iload_n 1, 1) := by decide +kernel
theorem dX10_put_85 : decode cX10_put 85 = .ok (.iaload, 1) := by decide +kernel
theorem dX10_put_86 : decode cX10_put 86 = .ok (.bipush 16, 2) := by decide +kernel
theorem dX10_put_88 : decode cX10_put 88 = .ok (.if_icmp .ne 8, 3) := by decide +kernel
theorem dX10_put_91 : decode cX10_put 91 = .ok (.iload_n 3, 1) := by decide +kernel
theorem dX10_put_92 : decode cX10_put 92 = .ok (.i2s, 1) := by decide +kernel
theorem dX10_put_93 : decode cX10_put 93 = .ok (.goto 4, 3) := by decide +kernel
theorem dX10_put_96 : decode cX10_put 96 = .ok (.iload_n 3, 1) := by decide +kernel
theorem dX10_put_97 : decode cX10_put 97 = .ok (.iastore, 1) := by decide +kernel
theorem dX10_put_98 : decode cX10_put 98 = .ok (.iconst 1, 1) := by decide +kernel
theorem dX10_put_99 : decode cX10_put 99 = .ok (.ireturn, 1) := by decide +kernel
theorem dX10_move_0 : decode cX10_move 0 = .ok (.iload_n 1, 1) := by decide +kernel
theorem dX10_move_1 : decode cX10_move 1 = .ok (.invokestatic 282, 3) := by decide +kernel
theorem dX10_move_4 : decode cX10_move 4 = .ok (.ifCond .eq 10, 3) := by decide +kernel
theorem dX10_move_7 : decode cX10_move 7 = .ok (.iload_n 3, 1) := by decide +kernel
theorem dX10_move_8 : decode cX10_move 8 = .ok (.invokestatic 282, 3) := by decide +kernel
theorem dX10_move_11 : decode cX10_move 11 = .ok (.ifCond .ne 10, 3) := by decide +kernel
theorem dX10_move_14 : decode cX10_move 14 = .ok (.aload_n 0, 1) := by decide +kernel
theorem dX10_move_15 : decode cX10_move 15 = .ok (.ldc 83, 2) := by decide +kernel
theorem dX10_move_17 : decode cX10_move 17 = .ok (.invokevirtual 84, 3) := by decide +kernel
theorem dX10_move_20 : decode cX10_move 20 = .ok (.ireturn, 1) := by decide +kernel
theorem dX10_move_21 : decode cX10_move 21 = .ok (.aload_n 0, 1) := by decide +kernel
theorem dX10_move_22 : decode cX10_move 22 = .ok (.getfield 50, 3) := by decide +kernel
theorem dX10_move_25 : decode cX10_move 25 = .ok (.iload_n 1, 1) := by decide +kernel
theorem dX10_move_26 : decode cX10_move 26 = .ok (.iaload, 1) := by decide +kernel
theorem dX10_move_27 : decode cX10_move 27 = .ok (.ifCond .eq 12, 3) := by decide +kernel
theorem dX10_move_30 : decode cX10_move 30 = .ok (.aload_n 0, 1) := by decide +kernel
theorem dX10_move_31 : decode cX10_move 31 = .ok (.getfield 50, 3) := by decide +kernel
theorem dX10_move_34 : decode cX10_move 34 = .ok (.iload_n 3, 1) := by decide +kernel
theorem dX10_move_35 : decode cX10_move 35 = .ok (.iaload, 1) := by decide +kernel
theorem dX10_move_36 : decode cX10_move 36 = .ok (.ifCond .ne 11, 3) := by decide +kernel
theorem dX10_move_39 : decode cX10_move 39 = .ok (.aload_n 0, 1) := by decide +kernel
theorem dX10_move_40 : decode cX10_move 40 = .ok (.ldc_w 260, 3) := by decide +kernel
theorem dX10_move_43 : decode cX10_move 43 = .ok (.invokevirtual 84, 3) := by decide +kernel
theorem dX10_move_46 : decode cX10_move 46 = .ok (.ireturn, 1) := by decide +kernel
theorem dX10_move_47 : decode cX10_move 47 = .ok (.aload_n 0, 1) := by decide +kernel
theorem dX10_move_48 : decode cX10_move 48 = .ok (.getfield 50, 3) := by decide +kernel
theorem dX10_move_51 : decode cX10_move 51 = .ok (.iload_n 1, 1) := by decide +kernel
theorem dX10_move_52 : decode cX10_move 52 = .ok (.iaload, 1) := by decide +kernel
theorem dX10_move_53 : decode cX10_move 53 = .ok (.aload_n 0, 1) := by decide +kernel
theorem dX10_move_54 : decode cX10_move 54 = .ok (.getfield 50, 3) := by decide +kernel
theorem dX10_move_57 : decode cX10_move 57 = .ok (.iload_n 3, 1) := by decide +kernel
theorem dX10_move_58 : decode cX10_move 58 = .ok (.iaload, 1) := by decide +kernel
theorem dX10_move_59 : decode cX10_move 59 = .ok (.if_icmp .eq 10, 3) := by decide +kernel
theorem dX10_move_62 : decode cX10_move 62 = .ok (.aload_n 0, 1) := by decide +kernel
theorem dX10_move_63 : decode cX10_move 63 = .ok (.ldc 110, 2) := by decide +kernel
theorem dX10_move_65 : decode cX10_move 65 = .ok (.invokevirtual 84, 3) := by decide +kernel
theorem dX10_move_68 : decode cX10_move 68 = .ok (.ireturn, 1) := by decide +kernel
theorem dX10_move_69 : decode cX10_move 69 = .ok (.iload 5, 2) := by decide +kernel
theorem dX10_move_71 : decode cX10_move 71 = .ok (.ifCond .lt 47, 3) := by decide +kernel
theorem dX10_move_74 : decode cX10_move 74 = .ok (.iload_n 2, 1) := by decide +kernel
theorem dX10_move_75 : decode cX10_move 75 = .ok (.ifCond .lt 43, 3) := by decide +kernel
theorem dX10_move_78 : decode cX10_move 78 = .ok (.iload 4, 2) := by decide +kernel
theorem dX10_move_80 : decode cX10_move 80 = .ok (.ifCond .lt 38, 3) := by decide +kernel
theorem dX10_move_83 : decode cX10_move 83 = .ok (.iload_n 2, 1) := by decide +kernel
theorem dX10_move_84 : decode cX10_move 84 = .ok (.i2l, 1) := by decide +kernel
theorem dX10_move_85 : decode cX10_move 85 = .ok (.iload 5, 2) := by decide +kernel
theorem dX10_move_87 : decode cX10_move 87 = .ok (.i2l, 1) := by decide +kernel
theorem dX10_move_88 : decode cX10_move 88 = .ok (.ladd, 1) := by decide +kernel
theorem dX10_move_89 : decode cX10_move 89 = .ok (.aload_n 0, 1) := by decide +kernel
theorem dX10_move_90 : decode cX10_move 90 = .ok (.getfield 53, 3) := by decide +kernel
theorem dX10_move_93 : decode cX10_move 93 = .ok (.iload_n 1, 1) := by decide +kernel
theorem dX10_move_94 : decode cX10_move 94 = .ok (.iaload, 1) := by decide +kernel
theorem dX10_move_95 : decode cX10_move 95 = .ok (.i2l, 1) := by decide +kernel
theorem dX10_move_96 : decode cX10_move 96 = .ok (.lcmp, 1) := by decide +kernel
theorem dX10_move_97 : decode cX10_move 97 = .ok (.ifCond .gt 21, 3) := by decide +kernel
theorem dX10_move_100 : decode cX10_move 100 = .ok (.iload 4, 2) := by decide +kernel
theorem dX10_move_102 : decode cX10_move 102 = .ok (.i2l, 1) := by decide +kernel
theorem dX10_move_103 : decode cX10_move 103 = .ok (.iload 5, 2) := by decide +kernel
theorem dX10_move_105 : decode cX10_move 105 = .ok (.i2l, 1) := by decide +kernel
theorem dX10_move_106 : decode cX10_move 106 = .ok (.ladd, 1) := by decide +kernel
theorem dX10_move_107 : decode cX10_move 107 = .ok (.aload_n 0, 1) := by decide +kernel
theorem dX10_move_108 : decode cX10_move 108 = .ok (.getfield 53, 3) := by decide +kernel
theorem dX10_move_111 : decode cX10_move 111 = .ok (.iload_n 3, 1) := by decide +kernel
theorem dX10_move_112 : decode cX10_move 112 = .ok (.iaload, 1) := by decide +kernel
theorem dX10_move_113 : decode cX10_move 113 = .ok (.i2l, 1) := by decide +kernel
theorem dX10_move_114 : decode cX10_move 114 = .ok (.lcmp, 1) := by decide +kernel
theorem dX10_move_115 : decode cX10_move 115 = .ok (.ifCond .le 10, 3) := by decide +kernel
theorem dX10_move_118 : decode cX10_move 118 = .ok (.aload_n 0, 1) := by decide +kernel
theorem dX10_move_119 : decode cX10_move 119 = .ok (.ldc 83, 2) := by decide +kernel
theorem dX10_move_121 : decode cX10_move 121 = .ok (.invokevirtual 84, 3) := by decide +kernel
theorem dX10_move_124 : decode cX10_move 124 = .ok (.ireturn, 1) := by decide +kernel
theorem dX10_move_125 : decode cX10_move 125 = .ok (.iconst 0, 1) := by decide +kernel
theorem dX10_move_126 : decode cX10_move 126 = .ok (.istore 6, 2) := by decide +kernel
theorem dX10_move_128 : decode cX10_move 128 = .ok (.iload 6, 2) := by decide +kernel
theorem dX10_move_130 : decode cX10_move 130 = .ok (.iload 5, 2) := by decide +kernel
theorem dX10_move_132 : decode cX10_move 132 = .ok (.if_icmp .ge 30, 3) := by decide +kernel
theorem dX10_move_135 : decode cX10_move 135 = .ok (.aload_n 0, 1) := by decide +kernel
theorem dX10_move_136 : decode cX10_move 136 = .ok (.getfield 59, 3) := by decide +kernel
theorem dX10_move_139 : decode cX10_move 139 = .ok (.iload 6, 2) := by decide +kernel
theorem dX10_move_141 : decode cX10_move 141 = .ok (.aload_n 0, 1) := by decide +kernel
theorem dX10_move_142 : decode cX10_move 142 = .ok (.getfield 56, 3) := by decide +kernel
theorem dX10_move_145 : decode cX10_move 145 = .ok (.bipush 40, 2) := by decide +kernel
theorem dX10_move_147 : decode cX10_move 147 = .ok (.iload_n 1, 1) := by decide +kernel
theorem dX10_move_148 : decode cX10_move 148 = .ok (.imul, 1) := by decide +kernel
theorem dX10_move_149 : decode cX10_move 149 = .ok (.iload_n 2, 1) := by decide +kernel
theorem dX10_move_150 : decode cX10_move 150 = .ok (.iadd, 1) := by decide +kernel
theorem dX10_move_151 : decode cX10_move 151 = .ok (.iload 6, 2) := by decide +kernel
theorem dX10_move_153 : decode cX10_move 153 = .ok (.iadd, 1) := by decide +kernel
theorem dX10_move_154 : decode cX10_move 154 = .ok (.iaload, 1) := by decide +kernel
theorem dX10_move_155 : decode cX10_move 155 = .ok (.iastore, 1) := by decide +kernel
theorem dX10_move_156 : decode cX10_move 156 = .ok (.iinc 6 1, 3) := by decide +kernel
theorem dX10_move_159 : decode cX10_move 159 = .ok (.goto (-31), 3) := by decide +kernel
theorem dX10_move_162 : decode cX10_move 162 = .ok (.iconst 0, 1) := by decide +kernel
theorem dX10_move_163 : decode cX10_move 163 = .ok (.istore 6, 2) := by decide +kernel
theorem dX10_move_165 : decode cX10_move 165 = .ok (.iload 6, 2) := by decide +kernel
theorem dX10_move_167 : decode cX10_move 167 = .ok (.iload 5, 2) := by decide +kernel
theorem dX10_move_169 : decode cX10_move 169 = .ok (.if_icmp .ge 31, 3) := by decide +kernel
theorem dX10_move_172 : decode cX10_move 172 = .ok (.aload_n 0, 1) := by decide +kernel
theorem dX10_move_173 : decode cX10_move 173 = .ok (.getfield 56, 3) := by decide +kernel
theorem dX10_move_176 : decode cX10_move 176 = .ok (.bipush 40, 2) := by decide +kernel
theorem dX10_move_178 : decode cX10_move 178 = .ok (.iload_n 3, 1) := by decide +kernel
theorem dX10_move_179 : decode cX10_move 179 = .ok (.imul, 1) := by decide +kernel
theorem dX10_move_180 : decode cX10_move 180 = .ok (.iload 4, 2) := by decide +kernel
theorem dX10_move_182 : decode cX10_move 182 = .ok (.iadd, 1) := by decide +kernel
theorem dX10_move_183 : decode cX10_move 183 = .ok (.iload 6, 2) := by decide +kernel
theorem dX10_move_185 : decode cX10_move 185 = .ok (.iadd, 1) := by decide +kernel
theorem dX10_move_186 : decode cX10_move 186 = .ok (.aload_n 0, 1) := by decide +kernel
theorem dX10_move_187 : decode cX10_move 187 = .ok (.getfield 59, 3) := by decide +kernel
theorem dX10_move_190 : decode cX10_move 190 = .ok (.iload 6, 2) := by decide +kernel
theorem dX10_move_192 : decode cX10_move 192 = .ok (.iaload, 1) := by decide +kernel
theorem dX10_move_193 : decode cX10_move 193 = .ok (.iastore, 1) := by decide +kernel
theorem dX10_move_194 : decode cX10_move 194 = .ok (.iinc 6 1, 3) := by decide +kernel
theorem dX10_move_197 : decode cX10_move 197 = .ok (.goto (-32), 3) := by decide +kernel
theorem dX10_move_200 : decode cX10_move 200 = .ok (.iload 5, 2) := by decide +kernel
theorem dX10_move_202 : decode cX10_move 202 = .ok (.ireturn, 1) := by decide +kernel
theorem dX10_refuses_0 : decode cX10_refuses 0 = .ok (.iload_n 1, 1) := by decide +kernel
theorem dX10_refuses_1 : decode cX10_refuses 1 = .ok (.invokestatic 282, 3) := by decide +kernel
theorem dX10_refuses_4 : decode cX10_refuses 4 = .ok (.ifCond .eq 13, 3) := by decide +kernel
theorem dX10_refuses_7 : decode cX10_refuses 7 = .ok (.aload_n 0, 1) := by decide +kernel
theorem dX10_refuses_8 : decode cX10_refuses 8 = .ok (.iload_n 2, 1) := by decide +kernel
theorem dX10_refuses_9 : decode cX10_refuses 9 = .ok (.bipush 7, 2) := by decide +kernel
theorem dX10_refuses_11 : decode cX10_refuses 11 = .ok (.invokevirtual 100, 3) := by decide +kernel
theorem dX10_refuses_14 : decode cX10_refuses 14 = .ok (.ifCond .ne 8, 3) := by decide +kernel
theorem dX10_refuses_17 : decode cX10_refuses 17 = .ok (.ldc 83, 2) := by decide +kernel
theorem dX10_refuses_19 : decode cX10_refuses 19 = .ok (.goto 19, 3) := by decide +kernel
theorem dX10_refuses_22 : decode cX10_refuses 22 = .ok (.aload_n 0, 1) := by decide +kernel
theorem dX10_refuses_23 : decode cX10_refuses 23 = .ok (.getfield 50, 3) := by decide +kernel
theorem dX10_refuses_26 : decode cX10_refuses 26 = .ok (.iload_n 1, 1) := by decide +kernel
theorem dX10_refuses_27 : decode cX10_refuses 27 = .ok (.iaload, 1) := by decide +kernel
theorem dX10_refuses_28 : decode cX10_refuses 28 = .ok (.ifCond .ne 9, 3) := by decide +kernel
theorem dX10_refuses_31 : decode cX10_refuses 31 = .ok (.ldc_w 260, 3) := by decide +kernel
theorem dX10_refuses_34 : decode cX10_refuses 34 = .ok (.goto 4, 3) := by decide +kernel
theorem dX10_refuses_37 : decode cX10_refuses 37 = .ok (.iconst 0, 1) := by decide +kernel
theorem dX10_refuses_38 : decode cX10_refuses 38 = .ok (.ireturn, 1) := by decide +kernel
theorem dX10_part_0 : decode cX10_part 0 = .ok (.aload_n 0, 1) := by decide +kernel
theorem dX10_part_1 : decode cX10_part 1 = .ok (.iload_n 1, 1) := by decide +kernel
theorem dX10_part_2 : decode cX10_part 2 = .ok (.iload_n 2, 1) := by decide +kernel
theorem dX10_part_3 : decode cX10_part 3 = .ok (.invokevirtual 285, 3) := by decide +kernel
theorem dX10_part_6 : decode cX10_part 6 = .ok (.istore_n 3, 1) := by decide +kernel
theorem dX10_part_7 : decode cX10_part 7 = .ok (.iload_n 3, 1) := by decide +kernel
theorem dX10_part_8 : decode cX10_part 8 = .ok (.ifCond .eq 9, 3) := by decide +kernel
theorem dX10_part_11 : decode cX10_part 11 = .ok (.aload_n 0, 1) := by decide +kernel
theorem dX10_part_12 : decode cX10_part 12 = .ok (.iload_n 3, 1) := by decide +kernel
theorem dX10_part_13 : decode cX10_part 13 = .ok (.invokevirtual 84, 3) := by decide +kernel
theorem dX10_part_16 : decode cX10_part 16 = .ok (.ireturn, 1) := by decide +kernel
theorem dX10_part_17 : decode cX10_part 17 = .ok (.iconst 0, 1) := by decide +kernel
theorem dX10_part_18 : decode cX10_part 18 = .ok (.istore 4, 2) := by decide +kernel
theorem dX10_part_20 : decode cX10_part 20 = .ok (.iconst 0, 1) := by decide +kernel
theorem dX10_part_21 : decode cX10_part 21 = .ok (.istore 5, 2) := by decide +kernel
theorem dX10_part_23 : decode cX10_part 23 = .ok (.iload 5, 2) := by decide +kernel
theorem dX10_part_25 : decode cX10_part 25 = .ok (.aload_n 0, 1) := by decide +kernel
theorem dX10_part_26 : decode cX10_part 26 = .ok (.getfield 53, 3) := by decide +kernel
theorem dX10_part_29 : decode cX10_part 29 = .ok (.iload_n 1, 1) := by decide +kernel
theorem dX10_part_30 : decode cX10_part 30 = .ok (.iaload, 1) := by decide +kernel
theorem dX10_part_31 : decode cX10_part 31 = .ok (.if_icmp .ge 49, 3) := by decide +kernel
theorem dX10_part_34 : decode cX10_part 34 = .ok (.aload_n 0, 1) := by decide +kernel
theorem dX10_part_35 : decode cX10_part 35 = .ok (.getfield 56, 3) := by decide +kernel
theorem dX10_part_38 : decode cX10_part 38 = .ok (.bipush 40, 2) := by decide +kernel
theorem dX10_part_40 : decode cX10_part 40 = .ok (.iload_n 1, 1) := by decide +kernel
theorem dX10_part_41 : decode cX10_part 41 = .ok (.imul, 1) := by decide +kernel
theorem dX10_part_42 : decode cX10_part 42 = .ok (.iload 5, 2) := by decide +kernel
theorem dX10_part_44 : decode cX10_part 44 = .ok (.iadd, 1) := by decide +kernel
theorem dX10_part_45 : decode cX10_part 45 = .ok (.iaload, 1) := by decide +kernel
theorem dX10_part_46 : decode cX10_part 46 = .ok (.iconst 0, 1) := by decide +kernel
theorem dX10_part_47 : decode cX10_part 47 = .ok (.bipush 31, 2) := by decide +kernel
theorem dX10_part_49 : decode cX10_part 49 = .ok (.invokestatic 72, 3) := by decide +kernel
theorem dX10_part_52 : decode cX10_part 52 = .ok (.ifCond .eq 28, 3) := by decide +kernel
theorem dX10_part_55 : decode cX10_part 55 = .ok (.iload 4, 2) := by decide +kernel
theorem dX10_part_57 : decode cX10_part 57 = .ok (.iconst 1, 1) := by decide +kernel
theorem dX10_part_58 : decode cX10_part 58 = .ok (.aload_n 0, 1) := by decide +kernel
theorem dX10_part_59 : decode cX10_part 59 = .ok (.getfield 56, 3) := by decide +kernel
theorem dX10_part_62 : decode cX10_part 62 = .ok (.bipush 40, 2) := by decide +kernel
theorem dX10_part_64 : decode cX10_part 64 = .ok (.iload_n 1, 1) := by decide +kernel
theorem dX10_part_65 : decode cX10_part 65 = .ok (.imul, 1) := by decide +kernel
theorem dX10_part_66 : decode cX10_part 66 = .ok (.iload 5, 2) := by decide +kernel
theorem dX10_part_68 : decode cX10_part 68 = .ok (.iadd, 1) := by decide +kernel
theorem dX10_part_69 : decode cX10_part 69 = .ok (.iaload, 1) := by decide +kernel
theorem dX10_part_70 : decode cX10_part 70 = .ok (.ishl, 1) := by decide +kernel
theorem dX10_part_71 : decode cX10_part 71 = .ok (.ior, 1) := by decide +kernel
theorem dX10_part_72 : decode cX10_part 72 = .ok (.istore 4, 2) := by decide +kernel
theorem dX10_part_74 : decode cX10_part 74 = .ok (.iinc 5 1, 3) := by decide +kernel
theorem dX10_part_77 : decode cX10_part 77 = .ok (.goto (-54), 3) := by decide +kernel
theorem dX10_part_80 : decode cX10_part 80 = .ok (.aload_n 0, 1) := by decide +kernel
theorem dX10_part_81 : decode cX10_part 81 = .ok (.getfield 9, 3) := by decide +kernel
theorem dX10_part_84 : decode cX10_part 84 = .ok (.bipush 12, 2) := by decide +kernel
theorem dX10_part_86 : decode cX10_part 86 = .ok (.iconst 4, 1) := by decide +kernel
theorem dX10_part_87 : decode cX10_part 87 = .ok (.iload_n 2, 1) := by decide +kernel
theorem dX10_part_88 : decode cX10_part 88 = .ok (.imul, 1) := by decide +kernel
theorem dX10_part_89 : decode cX10_part 89 = .ok (.iadd, 1) := by decide +kernel
theorem dX10_part_90 : decode cX10_part 90 = .ok (.iconst 3, 1) := by decide +kernel
theorem dX10_part_91 : decode cX10_part 91 = .ok (.iadd, 1) := by decide +kernel
theorem dX10_part_92 : decode cX10_part 92 = .ok (.iload 4, 2) := by decide +kernel
theorem dX10_part_94 : decode cX10_part 94 = .ok (.iastore, 1) := by decide +kernel
theorem dX10_part_95 : decode cX10_part 95 = .ok (.iload 4, 2) := by decide +kernel
theorem dX10_part_97 : decode cX10_part 97 = .ok (.invokestatic 127, 3) := by decide +kernel
theorem dX10_part_100 : decode cX10_part 100 = .ok (.ireturn, 1) := by decide +kernel
theorem dX10_judge_0 : decode cX10_judge 0 = .ok (.aload_n 0, 1) := by decide +kernel
theorem dX10_judge_1 : decode cX10_judge 1 = .ok (.iload_n 1, 1) := by decide +kernel
theorem dX10_judge_2 : decode cX10_judge 2 = .ok (.iload_n 2, 1) := by decide +kernel
theorem dX10_judge_3 : decode cX10_judge 3 = .ok (.invokevirtual 285, 3) := by decide +kernel
theorem dX10_judge_6 : decode cX10_judge 6 = .ok (.istore_n 3, 1) := by decide +kernel
theorem dX10_judge_7 : decode cX10_judge 7 = .ok (.iload_n 3, 1) := by decide +kernel
theorem dX10_judge_8 : decode cX10_judge 8 = .ok (.ifCond .eq 9, 3) := by decide +kernel
theorem dX10_judge_11 : decode cX10_judge 11 = .ok (.aload_n 0, 1) := by decide +kernel
theorem dX10_judge_12 : decode cX10_judge 12 = .ok (.iload_n 3, 1) := by decide +kernel
theorem dX10_judge_13 : decode cX10_judge 13 = .ok (.invokevirtual 84, 3) := by decide +kernel
theorem dX10_judge_16 : decode cX10_judge 16 = .ok (.ireturn, 1) := by decide +kernel
theorem dX10_judge_17 : decode cX10_judge 17 = .ok (.aload_n 0, 1) := by decide +kernel
theorem dX10_judge_18 : decode cX10_judge 18 = .ok (.getfield 9, 3) := by decide +kernel
theorem dX10_judge_21 : decode cX10_judge 21 = .ok (.aload_n 0, 1) := by decide +kernel
theorem dX10_judge_22 : decode cX10_judge 22 = .ok (.getfield 16, 3) := by decide +kernel
theorem dX10_judge_25 : decode cX10_judge 25 = .ok (.invokestatic 76, 3) := by decide +kernel
theorem dX10_judge_28 : decode cX10_judge 28 = .ok (.iconst 0, 1) := by decide +kernel
theorem dX10_judge_29 : decode cX10_judge 29 = .ok (.istore 4, 2) := by decide +kernel
theorem dX10_judge_31 : decode cX10_judge 31 = .ok (.iload 4, 2) := by decide +kernel
theorem dX10_judge_33 : decode cX10_judge 33 = .ok (.aload_n 0, 1) := by decide +kernel
theorem dX10_judge_34 : decode cX10_judge 34 = .ok (.getfield 53, 3) := by decide +kernel
theorem dX10_judge_37 : decode cX10_judge 37 = .ok (.iload_n 1, 1) := by decide +kernel
theorem dX10_judge_38 : decode cX10_judge 38 = .ok (.iaload, 1) := by decide +kernel
theorem dX10_judge_39 : decode cX10_judge 39 = .ok (.if_icmp .ge 34, 3) := by decide +kernel
theorem dX10_judge_42 : decode cX10_judge 42 = .ok (.aload_n 0, 1) := by decide +kernel
theorem dX10_judge_43 : decode cX10_judge 43 = .ok (.getfield 56, 3) := by decide +kernel
theorem dX10_judge_46 : decode cX10_judge 46 = .ok (.bipush 40, 2) := by decide +kernel
theorem dX10_judge_48 : decode cX10_judge 48 = .ok (.iload_n 1, 1) := by decide +kernel
theorem dX10_judge_49 : decode cX10_judge 49 = .ok (.imul, 1) := by decide +kernel
theorem dX10_judge_50 : decode cX10_judge 50 = .ok (.iload 4, 2) := by decide +kernel
theorem dX10_judge_52 : decode cX10_judge 52 = .ok (.iadd, 1) := by decide +kernel
theorem dX10_judge_53 : decode cX10_judge 53 = .ok (.iaload, 1) := by decide +kernel
theorem dX10_judge_54 : decode cX10_judge 54 = .ok (.aload_n 0, 1) := by decide +kernel
theorem dX10_judge_55 : decode cX10_judge 55 = .ok (.iload_n 2, 1) := by decide +kernel
theorem dX10_judge_56 : decode cX10_judge 56 = .ok (.iconst 2, 1) := by decide +kernel
theorem dX10_judge_57 : decode cX10_judge 57 = .ok (.invokevirtual 93, 3) := by decide +kernel
theorem dX10_judge_60 : decode cX10_judge 60 = .ok (.if_icmp .ne 13, 3) := by decide +kernel
theorem dX10_judge_63 : decode cX10_judge 63 = .ok (.aload_n 0, 1) := by decide +kernel
theorem dX10_judge_64 : decode cX10_judge 64 = .ok (.invokevirtual 229, 3) := by decide +kernel
theorem dX10_judge_67 : decode cX10_judge 67 = .ok (.iinc 4 1, 3) := by decide +kernel
theorem dX10_judge_70 : decode cX10_judge 70 = .ok (.goto (-39), 3) := by decide +kernel
theorem dX10_judge_73 : decode cX10_judge 73 = .ok (.aload_n 0, 1) := by decide +kernel
theorem dX10_judge_74 : decode cX10_judge 74 = .ok (.iload 4, 2) := by decide +kernel
theorem dX10_judge_76 : decode cX10_judge 76 = .ok (.invokevirtual 244, 3) := by decide +kernel
theorem dX10_judge_79 : decode cX10_judge 79 = .ok (.ireturn, 1) := by decide +kernel
theorem dX10_image_0 : decode cX10_image 0 = .ok (.aload_n 0, 1) := by decide +kernel
theorem dX10_image_1 : decode cX10_image 1 = .ok (.getfield 9, 3) := by decide +kernel
theorem dX10_image_4 : decode cX10_image 4 = .ok (.aload_n 0, 1) := by decide +kernel
theorem dX10_image_5 : decode cX10_image 5 = .ok (.getfield 13, 3) := by decide +kernel
theorem dX10_image_8 : decode cX10_image 8 = .ok (.invokestatic 76, 3) := by decide +kernel
theorem dX10_image_11 : decode cX10_image 11 = .ok (.aload_n 0, 1) := by decide +kernel
theorem dX10_image_12 : decode cX10_image 12 = .ok (.dup, 1) := by decide +kernel
theorem dX10_image_13 : decode cX10_image 13 = .ok (.getfield 288, 3) := by decide +kernel
theorem dX10_image_16 : decode cX10_image 16 = .ok (.iconst 1, 1) := by decide +kernel
theorem dX10_image_17 : decode cX10_image 17 = .ok (.iadd, 1) := by decide +kernel
theorem dX10_image_18 : decode cX10_image 18 = .ok (.putfield 288, 3) := by decide +kernel
theorem dX10_image_21 : decode cX10_image 21 = .ok (.aload_n 0, 1) := by decide +kernel
theorem dX10_image_22 : decode cX10_image 22 = .ok (.getfield 288, 3) := by decide +kernel
theorem dX10_image_25 : decode cX10_image 25 = .ok (.ireturn, 1) := by decide +kernel
theorem dX10_restore_0 : decode cX10_restore 0 = .ok (.aload_n 0, 1) := by decide +kernel
theorem dX10_restore_1 : decode cX10_restore 1 = .ok (.getfield 288, 3) := by decide +kernel
theorem dX10_restore_4 : decode cX10_restore 4 = .ok (.ifCond .ne 11, 3) := by decide +kernel
theorem dX10_restore_7 : decode cX10_restore 7 = .ok (.aload_n 0, 1) := by decide +kernel
theorem dX10_restore_8 : decode cX10_restore 8 = .ok (.ldc_w 260, 3) := by decide +kernel
theorem dX10_restore_11 : decode cX10_restore 11 = .ok (.invokevirtual 84, 3) := by decide +kernel
theorem dX10_restore_14 : decode cX10_restore 14 = .ok (.ireturn, 1) := by decide +kernel
theorem dX10_restore_15 : decode cX10_restore 15 = .ok (.aload_n 0, 1) := by decide +kernel
theorem dX10_restore_16 : decode cX10_restore 16 = .ok (.getfield 13, 3) := by decide +kernel
theorem dX10_restore_19 : decode cX10_restore 19 = .ok (.aload_n 0, 1) := by decide +kernel
theorem dX10_restore_20 : decode cX10_restore 20 = .ok (.getfield 9, 3) := by decide +kernel
theorem dX10_restore_23 : decode cX10_restore 23 = .ok (.invokestatic 76, 3) := by decide +kernel
theorem dX10_restore_26 : decode cX10_restore 26 = .ok (.aload_n 0, 1) := by decide +kernel
theorem dX10_restore_27 : decode cX10_restore 27 = .ok (.invokevirtual 199, 3) := by decide +kernel
theorem dX10_restore_30 : decode cX10_restore 30 = .ok (.aload_n 0, 1) := by decide +kernel
theorem dX10_restore_31 : decode cX10_restore 31 = .ok (.getfield 9, 3) := by decide +kernel
theorem dX10_restore_34 : decode cX10_restore 34 = .ok (.iconst 0, 1) := by decide +kernel
theorem dX10_restore_35 : decode cX10_restore 35 = .ok (.iaload, 1) := by decide +kernel
theorem dX10_restore_36 : decode cX10_restore 36 = .ok (.ireturn, 1) := by decide +kernel
theorem dX10_tell_0 : decode cX10_tell 0 = .ok (.aload_n 0, 1) := by decide +kernel
theorem dX10_tell_1 : decode cX10_tell 1 = .ok (.getfield 9, 3) := by decide +kernel
theorem dX10_tell_4 : decode cX10_tell 4 = .ok (.bipush 10, 2) := by decide +kernel
theorem dX10_tell_6 : decode cX10_tell 6 = .ok (.iaload, 1) := by decide +kernel
theorem dX10_tell_7 : decode cX10_tell 7 = .ok (.bipush 20, 2) := by decide +kernel
theorem dX10_tell_9 : decode cX10_tell 9 = .ok (.if_icmp .ne 10, 3) := by decide +kernel
theorem dX10_tell_12 : decode cX10_tell 12 = .ok (.aload_n 0, 1) := by decide +kernel
theorem dX10_tell_13 : decode cX10_tell 13 = .ok (.ldc 92, 2) := by decide +kernel
theorem dX10_tell_15 : decode cX10_tell 15 = .ok (.invokevirtual 84, 3) := by decide +kernel
theorem dX10_tell_18 : decode cX10_tell 18 = .ok (.ireturn, 1) := by decide +kernel
theorem dX10_tell_19 : decode cX10_tell 19 = .ok (.aload_n 0, 1) := by decide +kernel
theorem dX10_tell_20 : decode cX10_tell 20 = .ok (.getfield 9, 3) := by decide +kernel
theorem dX10_tell_23 : decode cX10_tell 23 = .ok (.bipush 116, 2) := by decide +kernel
theorem dX10_tell_25 : decode cX10_tell 25 = .ok (.aload_n 0, 1) := by decide +kernel
theorem dX10_tell_26 : decode cX10_tell 26 = .ok (.getfield 9, 3) := by decide +kernel
theorem dX10_tell_29 : decode cX10_tell 29 = .ok (.bipush 10, 2) := by decide +kernel
theorem dX10_tell_31 : decode cX10_tell 31 = .ok (.iaload, 1) := by decide +kernel
theorem dX10_tell_32 : decode cX10_tell 32 = .ok (.iadd, 1) := by decide +kernel
theorem dX10_tell_33 : decode cX10_tell 33 = .ok (.iload_n 1, 1) := by decide +kernel
theorem dX10_tell_34 : decode cX10_tell 34 = .ok (.iastore, 1) := by decide +kernel
theorem dX10_tell_35 : decode cX10_tell 35 = .ok (.aload_n 0, 1) := by decide +kernel
theorem dX10_tell_36 : decode cX10_tell 36 = .ok (.getfield 9, 3) := by decide +kernel
theorem dX10_tell_39 : decode cX10_tell 39 = .ok (.bipush 10, 2) := by decide +kernel
theorem dX10_tell_41 : decode cX10_tell 41 = .ok (.dup2, 1) := by decide +kernel
theorem dX10_tell_42 : decode cX10_tell 42 = .ok (.iaload, 1) := by decide +kernel
theorem dX10_tell_43 : decode cX10_tell 43 = .ok (.iconst 1, 1) := by decide +kernel
theorem dX10_tell_44 : decode cX10_tell 44 = .ok (.iadd, 1) := by decide +kernel
theorem dX10_tell_45 : decode cX10_tell 45 = .ok (.iastore, 1) := by decide +kernel
theorem dX10_tell_46 : decode cX10_tell 46 = .ok (.aload_n 0, 1) := by decide +kernel
theorem dX10_tell_47 : decode cX10_tell 47 = .ok (.getfield 9, 3) := by decide +kernel
theorem dX10_tell_50 : decode cX10_tell 50 = .ok (.bipush 10, 2) := by decide +kernel
theorem dX10_tell_52 : decode cX10_tell 52 = .ok (.iaload, 1) := by decide +kernel
theorem dX10_tell_53 : decode cX10_tell 53 = .ok (.ireturn, 1) := by decide +kernel
theorem dX10_check_0 : decode cX10_check 0 = .ok (.aload_n 0, 1) := by decide +kernel
theorem dX10_check_1 : decode cX10_check 1 = .ok (.getfield 9, 3) := by decide +kernel
theorem dX10_check_4 : decode cX10_check 4 = .ok (.bipush 10, 2) := by decide +kernel
theorem dX10_check_6 : decode cX10_check 6 = .ok (.iaload, 1) := by decide +kernel
theorem dX10_check_7 : decode cX10_check 7 = .ok (.istore_n 2, 1) := by decide +kernel
theorem dX10_check_8 : decode cX10_check 8 = .ok (.aload_n 0, 1) := by decide +kernel
theorem dX10_check_9 : decode cX10_check 9 = .ok (.getfield 9, 3) := by decide +kernel
theorem dX10_check_12 : decode cX10_check 12 = .ok (.bipush 10, 2) := by decide +kernel
theorem dX10_check_14 : decode cX10_check 14 = .ok (.iconst 0, 1) := by decide +kernel
theorem dX10_check_15 : decode cX10_check 15 = .ok (.iastore, 1) := by decide +kernel
theorem dX10_check_16 : decode cX10_check 16 = .ok (.aload_n 0, 1) := by decide +kernel
theorem dX10_check_17 : decode cX10_check 17 = .ok (.iload_n 1, 1) := by decide +kernel
theorem dX10_check_18 : decode cX10_check 18 = .ok (.bipush 8, 2) := by decide +kernel
theorem dX10_check_20 : decode cX10_check 20 = .ok (.invokevirtual 100, 3) := by decide +kernel
theorem dX10_check_23 : decode cX10_check 23 = .ok (.ifCond .ne 10, 3) := by decide +kernel
theorem dX10_check_26 : decode cX10_check 26 = .ok (.aload_n 0, 1) := by decide +kernel
theorem dX10_check_27 : decode cX10_check 27 = .ok (.ldc 83, 2) := by decide +kernel
theorem dX10_check_29 : decode cX10_check 29 = .ok (.invokevirtual 84, 3) := by decide +kernel
theorem dX10_check_32 : decode cX10_check 32 = .ok (.ireturn, 1) := by decide +kernel
theorem dX10_check_33 : decode cX10_check 33 = .ok (.aload_n 0, 1) := by decide +kernel
theorem dX10_check_34 : decode cX10_check 34 = .ok (.getfield 9, 3) := by decide +kernel
theorem dX10_check_37 : decode cX10_check 37 = .ok (.aload_n 0, 1) := by decide +kernel
theorem dX10_check_38 : decode cX10_check 38 = .ok (.getfield 16, 3) := by decide +kernel
theorem dX10_check_41 : decode cX10_check 41 = .ok (.invokestatic 76, 3) := by decide +kernel
theorem dX10_check_44 : decode cX10_check 44 = .ok (.iconst 0, 1) := by decide +kernel
theorem dX10_check_45 : decode cX10_check 45 = .ok (.istore_n 3, 1) := by decide +kernel
theorem dX10_check_46 : decode cX10_check 46 = .ok (.iconst 0, 1) := by decide +kernel
theorem dX10_check_47 : decode cX10_check 47 = .ok (.istore 4, 2) := by decide +kernel
theorem dX10_check_49 : decode cX10_check 49 = .ok (.iload 4, 2) := by decide +kernel
theorem dX10_check_51 : decode cX10_check 51 = .ok (.iload_n 2, 1) := by decide +kernel
theorem dX10_check_52 : decode cX10_check 52 = .ok (.if_icmp .ge 47, 3) := by decide +kernel
theorem dX10_check_55 : decode cX10_check 55 = .ok (.iload_n 3, 1) := by decide +kernel
theorem dX10_check_56 : decode cX10_check 56 = .ok (.ifCond .ne 43, 3) := by decide +kernel
theorem dX10_check_59 : decode cX10_check 59 = .ok (.aload_n 0, 1) := by decide +kernel
theorem dX10_check_60 : decode cX10_check 60 = .ok (.iconst 1, 1) := by decide +kernel
theorem dX10_check_61 : decode cX10_check 61 = .ok (.iconst 0, 1) := by decide +kernel
theorem dX10_check_62 : decode cX10_check 62 = .ok (.invokevirtual 233, 3) := by decide +kernel
theorem dX10_check_65 : decode cX10_check 65 = .ok (.aload_n 0, 1) := by decide +kernel
theorem dX10_check_66 : decode cX10_check 66 = .ok (.getfield 9, 3) := by decide +kernel
theorem dX10_check_69 : decode cX10_check 69 = .ok (.bipush 116, 2) := by decide +kernel
theorem dX10_check_71 : decode cX10_check 71 = .ok (.iload 4, 2) := by decide +kernel
theorem dX10_check_73 : decode cX10_check 73 = .ok (.iadd, 1) := by decide +kernel
theorem dX10_check_74 : decode cX10_check 74 = .ok (.iaload, 1) := by decide +kernel
theorem dX10_check_75 : decode cX10_check 75 = .ok (.aload_n 0, 1) := by decide +kernel
theorem dX10_check_76 : decode cX10_check 76 = .ok (.iload_n 1, 1) := by decide +kernel
theorem dX10_check_77 : decode cX10_check 77 = .ok (.iconst 1, 1) := by decide +kernel
theorem dX10_check_78 : decode cX10_check 78 = .ok (.invokevirtual 130, 3) := by decide +kernel
theorem dX10_check_81 : decode cX10_check 81 = .ok (.if_icmp .ne 7, 3) := by decide +kernel
theorem dX10_check_84 : decode cX10_check 84 = .ok (.iconst 0, 1) := by decide +kernel
theorem dX10_check_85 : decode cX10_check 85 = .ok (.goto 7, 3) := by decide +kernel
theorem dX10_check_88 : decode cX10_check 88 = .ok (.iconst 1, 1) := by decide +kernel
theorem dX10_check_89 : decode cX10_check 89 = .ok (.iload 4, 2) := by decide +kernel
theorem dX10_check_91 : decode cX10_check 91 = .ok (.iadd, 1) := by decide +kernel
theorem dX10_check_92 : decode cX10_check 92 = .ok (.istore_n 3, 1) := by decide +kernel
theorem dX10_check_93 : decode cX10_check 93 = .ok (.iinc 4 1, 3) := by decide +kernel
theorem dX10_check_96 : decode cX10_check 96 = .ok (.goto (-47), 3) := by decide +kernel
theorem dX10_check_99 : decode cX10_check 99 = .ok (.aload_n 0, 1) := by decide +kernel
theorem dX10_check_100 : decode cX10_check 100 = .ok (.iload_n 3, 1) := by decide +kernel
theorem dX10_check_101 : decode cX10_check 101 = .ok (.invokevirtual 244, 3) := by decide +kernel
theorem dX10_check_104 : decode cX10_check 104 = .ok (.ireturn, 1) := by decide +kernel
theorem dX10_count_0 : decode cX10_count 0 = .ok (.iconst 0, 1) := by decide +kernel
theorem dX10_count_1 : decode cX10_count 1 = .ok (.istore_n 2, 1) := by decide +kernel
theorem dX10_count_2 : decode cX10_count 2 = .ok (.iload_n 1, 1) := by decide +kernel
theorem dX10_count_3 : decode cX10_count 3 = .ok (.tableswitch 162 0 10 #[57, 64, 72, 80, 88, 96, 126, 133, 141, 149, 154], 57) := by decide +kernel
theorem dX10_count_60 : decode cX10_count 60 = .ok (.aload_n 0, 1) := by decide +kernel
theorem dX10_count_61 : decode cX10_count 61 = .ok (.getfield 9, 3) := by decide +kernel
theorem dX10_count_64 : decode cX10_count 64 = .ok (.iconst 0, 1) := by decide +kernel
theorem dX10_count_65 : decode cX10_count 65 = .ok (.iaload, 1) := by decide +kernel
theorem dX10_count_66 : decode cX10_count 66 = .ok (.ireturn, 1) := by decide +kernel
theorem dX10_count_67 : decode cX10_count 67 = .ok (.aload_n 0, 1) := by decide +kernel
theorem dX10_count_68 : decode cX10_count 68 = .ok (.getfield 9, 3) := by decide +kernel
theorem dX10_count_71 : decode cX10_count 71 = .ok (.bipush 7, 2) := by decide +kernel
theorem dX10_count_73 : decode cX10_count 73 = .ok (.iaload, 1) := by decide +kernel
theorem dX10_count_74 : decode cX10_count 74 = .ok (.ireturn, 1) := by decide +kernel
theorem dX10_count_75 : decode cX10_count 75 = .ok (.aload_n 0, 1) := by decide +kernel
theorem dX10_count_76 : decode cX10_count 76 = .ok (.getfield 9, 3) := by decide +kernel
theorem dX10_count_79 : decode cX10_count 79 = .ok (.bipush 8, 2) := by decide +kernel
theorem dX10_count_81 : decode cX10_count 81 = .ok (.iaload, 1) := by decide +kernel
theorem dX10_count_82 : decode cX10_count 82 = .ok (.ireturn, 1) := by decide +kernel
theorem dX10_count_83 : decode cX10_count 83 = .ok (.aload_n 0, 1) := by decide +kernel
theorem dX10_count_84 : decode cX10_count 84 = .ok (.invokevirtual 133, 3) := by decide +kernel
theorem dX10_count_87 : decode cX10_count 87 = .ok (.invokestatic 127, 3) := by decide +kernel
theorem dX10_count_90 : decode cX10_count 90 = .ok (.ireturn, 1) := by decide +kernel
theorem dX10_count_91 : decode cX10_count 91 = .ok (.aload_n 0, 1) := by decide +kernel
theorem dX10_count_92 : decode cX10_count 92 = .ok (.getfield 9, 3) := by decide +kernel
theorem dX10_count_95 : decode cX10_count 95 = .ok (.bipush 6, 2) := by decide +kernel
theorem dX10_count_97 : decode cX10_count 97 = .ok (.iaload, 1) := by decide +kernel
theorem dX10_count_98 : decode cX10_count 98 = .ok (.ireturn, 1) := by decide +kernel
theorem dX10_count_99 : decode cX10_count 99 = .ok (.iconst 0, 1) := by decide +kernel
theorem dX10_count_100 : decode cX10_count 100 = .ok (.istore_n 3, 1) := by decide +kernel
theorem dX10_count_101 : decode cX10_count 101 = .ok (.iload_n 3, 1) := by decide +kernel
theorem dX10_count_102 : decode cX10_count 102 = .ok (.aload_n 0, 1) := by decide +kernel
theorem dX10_count_103 : decode cX10_count 103 = .ok (.getfield 9, 3) := by decide +kernel
theorem dX10_count_106 : decode cX10_count 106 = .ok (.bipush 8, 2) := by decide +kernel
theorem dX10_count_108 : decode cX10_count 108 = .ok (.iaload, 1) := by decide +kernel
theorem dX10_count_109 : decode cX10_count 109 = .ok (.if_icmp .ge 18, 3) := by decide +kernel
theorem dX10_count_112 : decode cX10_count 112 = .ok (.iload_n 2, 1) := by decide +kernel
theorem dX10_count_113 : decode cX10_count 113 = .ok (.aload_n 0, 1) := by decide +kernel
theorem dX10_count_114 : decode cX10_count 114 = .ok (.iload_n 3, 1) := by decide +kernel
theorem dX10_count_115 : decode cX10_count 115 = .ok (.iconst 2, 1) := by decide +kernel
theorem dX10_count_116 : decode cX10_count 116 = .ok (.invokevirtual 130, 3) := by decide +kernel
theorem dX10_count_119 : decode cX10_count 119 = .ok (.iadd, 1) := by decide +kernel
theorem dX10_count_120 : decode cX10_count 120 = .ok (.istore_n 2, 1) := by decide +kernel
theorem dX10_count_121 : decode cX10_count 121 = .ok (.iinc 3 1, 3) := by decide +kernel
theorem dX10_count_124 : decode cX10_count 124 = .ok (.goto (-23), 3) := by decide +kernel
theorem dX10_count_127 : decode cX10_count 127 = .ok (.iload_n 2, 1) := by decide +kernel
theorem dX10_count_128 : decode cX10_count 128 = .ok (.ireturn, 1) := by decide +kernel
theorem dX10_count_129 : decode cX10_count 129 = .ok (.aload_n 0, 1) := by decide +kernel
theorem dX10_count_130 : decode cX10_count 130 = .ok (.getfield 9, 3) := by decide +kernel
theorem dX10_count_133 : decode cX10_count 133 = .ok (.iconst 1, 1) := by decide +kernel
theorem dX10_count_134 : decode cX10_count 134 = .ok (.iaload, 1) := by decide +kernel
theorem dX10_count_135 : decode cX10_count 135 = .ok (.ireturn, 1) := by decide +kernel
theorem dX10_count_136 : decode cX10_count 136 = .ok (.aload_n 0, 1) := by decide +kernel
theorem dX10_count_137 : decode cX10_count 137 = .ok (.getfield 9, 3) := by decide +kernel
theorem dX10_count_140 : decode cX10_count 140 = .ok (.bipush 9, 2) := by decide +kernel
theorem dX10_count_142 : decode cX10_count 142 = .ok (.iaload, 1) := by decide +kernel
theorem dX10_count_143 : decode cX10_count 143 = .ok (.ireturn, 1) := by decide +kernel
theorem dX10_count_144 : decode cX10_count 144 = .ok (.aload_n 0, 1) := by decide +kernel
theorem dX10_count_145 : decode cX10_count 145 = .ok (.getfield 9, 3) := by decide +kernel
theorem dX10_count_148 : decode cX10_count 148 = .ok (.bipush 10, 2) := by decide +kernel
theorem dX10_count_150 : decode cX10_count 150 = .ok (.iaload, 1) := by decide +kernel
theorem dX10_count_151 : decode cX10_count 151 = .ok (.ireturn, 1) := by decide +kernel
theorem dX10_count_152 : decode cX10_count 152 = .ok (.aload_n 0, 1) := by decide +kernel
theorem dX10_count_153 : decode cX10_count 153 = .ok (.getfield 261, 3) := by decide +kernel
theorem dX10_count_156 : decode cX10_count 156 = .ok (.ireturn, 1) := by decide +kernel
theorem dX10_count_157 : decode cX10_count 157 = .ok (.aload_n 0, 1) := by decide +kernel
theorem dX10_count_158 : decode cX10_count 158 = .ok (.getfield 9, 3) := by decide +kernel
theorem dX10_count_161 : decode cX10_count 161 = .ok (.bipush 11, 2) := by decide +kernel
theorem dX10_count_163 : decode cX10_count 163 = .ok (.iaload, 1) := by decide +kernel
theorem dX10_count_164 : decode cX10_count 164 = .ok (.ireturn, 1) := by decide +kernel
theorem dX10_count_165 : decode cX10_count 165 = .ok (.aload_n 0, 1) := by decide +kernel
theorem dX10_count_166 : decode cX10_count 166 = .ok (.ldc 83, 2) := by decide +kernel
theorem dX10_count_168 : decode cX10_count 168 = .ok (.invokevirtual 84, 3) := by decide +kernel
theorem dX10_count_171 : decode cX10_count 171 = .ok (.ireturn, 1) := by decide +kernel
theorem dX10_told_0 : decode cX10_told 0 = .ok (.iload_n 1, 1) := by decide +kernel
theorem dX10_told_1 : decode cX10_told 1 = .ok (.iconst 1, 1) := by decide +kernel
theorem dX10_told_2 : decode cX10_told 2 = .ok (.iconst 5, 1) := by decide +kernel
theorem dX10_told_3 : decode cX10_told 3 = .ok (.invokestatic 72, 3) := by decide +kernel
theorem dX10_told_6 : decode cX10_told 6 = .ok (.ifCond .eq 12, 3) := by decide +kernel
theorem dX10_told_9 : decode cX10_told 9 = .ok (.aload_n 0, 1) := by decide +kernel
theorem dX10_told_10 : decode cX10_told 10 = .ok (.getfield 19, 3) := by decide +kernel
theorem dX10_told_13 : decode cX10_told 13 = .ok (.iload_n 1, 1) := by decide +kernel
theorem dX10_told_14 : decode cX10_told 14 = .ok (.iaload, 1) := by decide +kernel
theorem dX10_told_15 : decode cX10_told 15 = .ok (.goto 9, 3) := by decide +kernel
theorem dX10_told_18 : decode cX10_told 18 = .ok (.aload_n 0, 1) := by decide +kernel
theorem dX10_told_19 : decode cX10_told 19 = .ok (.ldc 83, 2) := by decide +kernel
theorem dX10_told_21 : decode cX10_told 21 = .ok (.invokevirtual 84, 3) := by decide +kernel
theorem dX10_told_24 : decode cX10_told 24 = .ok (.ireturn, 1) := by decide +kernel
