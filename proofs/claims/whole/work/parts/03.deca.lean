theorem dX0_init_0 : decode cX0_init 0 = .ok (.aload_n 0, 1) := by decide +kernel
theorem dX0_init_1 : decode cX0_init 1 = .ok (.invokespecial 3, 3) := by decide +kernel
theorem dX0_init_4 : decode cX0_init 4 = .ok (.aload_n 0, 1) := by decide +kernel
theorem dX0_init_5 : decode cX0_init 5 = .ok (.bipush 9, 2) := by decide +kernel
theorem dX0_init_7 : decode cX0_init 7 = .ok (.newarray .int, 2) := by decide +kernel
theorem dX0_init_9 : decode cX0_init 9 = .ok (.putfield 9, 3) := by decide +kernel
theorem dX0_init_12 : decode cX0_init 12 = .ok (.aload_n 0, 1) := by decide +kernel
theorem dX0_init_13 : decode cX0_init 13 = .ok (.bipush 9, 2) := by decide +kernel
theorem dX0_init_15 : decode cX0_init 15 = .ok (.newarray .int, 2) := by decide +kernel
theorem dX0_init_17 : decode cX0_init 17 = .ok (.putfield 15, 3) := by decide +kernel
theorem dX0_init_20 : decode cX0_init 20 = .ok (.aload_n 0, 1) := by decide +kernel
theorem dX0_init_21 : decode cX0_init 21 = .ok (.bipush 9, 2) := by decide +kernel
theorem dX0_init_23 : decode cX0_init 23 = .ok (.newarray .int, 2) := by decide +kernel
theorem dX0_init_25 : decode cX0_init 25 = .ok (.putfield 18, 3) := by decide +kernel
theorem dX0_init_28 : decode cX0_init 28 = .ok (.aload_n 0, 1) := by decide +kernel
theorem dX0_init_29 : decode cX0_init 29 = .ok (.bipush 9, 2) := by decide +kernel
theorem dX0_init_31 : decode cX0_init 31 = .ok (.newarray .int, 2) := by decide +kernel
theorem dX0_init_33 : decode cX0_init 33 = .ok (.putfield 21, 3) := by decide +kernel
theorem dX0_init_36 : decode cX0_init 36 = .ok (.return_, 1) := by decide +kernel
theorem dX0_copy_0 : decode cX0_copy 0 = .ok (.aload_n 0, 1) := by decide +kernel
theorem dX0_copy_1 : decode cX0_copy 1 = .ok (.aload_n 1, 1) := by decide +kernel
theorem dX0_copy_2 : decode cX0_copy 2 = .ok (.getfield 24, 3) := by decide +kernel
theorem dX0_copy_5 : decode cX0_copy 5 = .ok (.putfield 24, 3) := by decide +kernel
theorem dX0_copy_8 : decode cX0_copy 8 = .ok (.aload_n 1, 1) := by decide +kernel
theorem dX0_copy_9 : decode cX0_copy 9 = .ok (.getfield 9, 3) := by decide +kernel
theorem dX0_copy_12 : decode cX0_copy 12 = .ok (.iconst 0, 1) := by decide +kernel
theorem dX0_copy_13 : decode cX0_copy 13 = .ok (.aload_n 0, 1) := by decide +kernel
theorem dX0_copy_14 : decode cX0_copy 14 = .ok (.getfield 9, 3) := by decide +kernel
theorem dX0_copy_17 : decode cX0_copy 17 = .ok (.iconst 0, 1) := by decide +kernel
theorem dX0_copy_18 : decode cX0_copy 18 = .ok (.bipush 9, 2) := by decide +kernel
theorem dX0_copy_20 : decode cX0_copy 20 = .ok (.invokestatic 28, 3) := by decide +kernel
theorem dX0_copy_23 : decode cX0_copy 23 = .ok (.aload_n 1, 1) := by decide +kernel
theorem dX0_copy_24 : decode cX0_copy 24 = .ok (.getfield 15, 3) := by decide +kernel
theorem dX0_copy_27 : decode cX0_copy 27 = .ok (.iconst 0, 1) := by decide +kernel
theorem dX0_copy_28 : decode cX0_copy 28 = .ok (.aload_n 0, 1) := by decide +kernel
theorem dX0_copy_29 : decode cX0_copy 29 = .ok (.getfield 15, 3) := by decide +kernel
theorem dX0_copy_32 : decode cX0_copy 32 = .ok (.iconst 0, 1) := by decide +kernel
theorem dX0_copy_33 : decode cX0_copy 33 = .ok (.bipush 9, 2) := by decide +kernel
theorem dX0_copy_35 : decode cX0_copy 35 = .ok (.invokestatic 28, 3) := by decide +kernel
theorem dX0_copy_38 : decode cX0_copy 38 = .ok (.aload_n 1, 1) := by decide +kernel
theorem dX0_copy_39 : decode cX0_copy 39 = .ok (.getfield 18, 3) := by decide +kernel
theorem dX0_copy_42 : decode cX0_copy 42 = .ok (.iconst 0, 1) := by decide +kernel
theorem dX0_copy_43 : decode cX0_copy 43 = .ok (.aload_n 0, 1) := by decide +kernel
theorem dX0_copy_44 : decode cX0_copy 44 = .ok (.getfield 18, 3) := by decide +kernel
theorem dX0_copy_47 : decode cX0_copy 47 = .ok (.iconst 0, 1) := by decide +kernel
theorem dX0_copy_48 : decode cX0_copy 48 = .ok (.bipush 9, 2) := by decide +kernel
theorem dX0_copy_50 : decode cX0_copy 50 = .ok (.invokestatic 28, 3) := by decide +kernel
theorem dX0_copy_53 : decode cX0_copy 53 = .ok (.aload_n 1, 1) := by decide +kernel
theorem dX0_copy_54 : decode cX0_copy 54 = .ok (.getfield 21, 3) := by decide +kernel
theorem dX0_copy_57 : decode cX0_copy 57 = .ok (.iconst 0, 1) := by decide +kernel
theorem dX0_copy_58 : decode cX0_copy 58 = .ok (.aload_n 0, 1) := by decide +kernel
theorem dX0_copy_59 : decode cX0_copy 59 = .ok (.getfield 21, 3) := by decide +kernel
theorem dX0_copy_62 : decode cX0_copy 62 = .ok (.iconst 0, 1) := by decide +kernel
theorem dX0_copy_63 : decode cX0_copy 63 = .ok (.bipush 9, 2) := by decide +kernel
theorem dX0_copy_65 : decode cX0_copy 65 = .ok (.invokestatic 28, 3) := by decide +kernel
theorem dX0_copy_68 : decode cX0_copy 68 = .ok (.return_, 1) := by decide +kernel
theorem dX0_hold_0 : decode cX0_hold 0 = .ok (.iload_n 1, 1) := by decide +kernel
theorem dX0_hold_1 : decode cX0_hold 1 = .ok (.ifCond .lt 21, 3) := by decide +kernel
theorem dX0_hold_4 : decode cX0_hold 4 = .ok (.iload_n 1, 1) := by decide +kernel
theorem dX0_hold_5 : decode cX0_hold 5 = .ok (.aload_n 0, 1) := by decide +kernel
theorem dX0_hold_6 : decode cX0_hold 6 = .ok (.getfield 24, 3) := by decide +kernel
theorem dX0_hold_9 : decode cX0_hold 9 = .ok (.if_icmp .ge 13, 3) := by decide +kernel
theorem dX0_hold_12 : decode cX0_hold 12 = .ok (.iload_n 1, 1) := by decide +kernel
theorem dX0_hold_13 : decode cX0_hold 13 = .ok (.bipush 9, 2) := by decide +kernel
theorem dX0_hold_15 : decode cX0_hold 15 = .ok (.if_icmp .ge 7, 3) := by decide +kernel
theorem dX0_hold_18 : decode cX0_hold 18 = .ok (.iconst 1, 1) := by decide +kernel
theorem dX0_hold_19 : decode cX0_hold 19 = .ok (.goto 4, 3) := by decide +kernel
theorem dX0_hold_22 : decode cX0_hold 22 = .ok (.iconst 0, 1) := by decide +kernel
theorem dX0_hold_23 : decode cX0_hold 23 = .ok (.ireturn, 1) := by decide +kernel
theorem dX0_launch_0 : decode cX0_launch 0 = .ok (.aload_n 0, 1) := by decide +kernel
theorem dX0_launch_1 : decode cX0_launch 1 = .ok (.getfield 24, 3) := by decide +kernel
theorem dX0_launch_4 : decode cX0_launch 4 = .ok (.istore_n 3, 1) := by decide +kernel
theorem dX0_launch_5 : decode cX0_launch 5 = .ok (.iload_n 3, 1) := by decide +kernel
theorem dX0_launch_6 : decode cX0_launch 6 = .ok (.ifCond .lt 9, 3) := by decide +kernel
theorem dX0_launch_9 : decode cX0_launch 9 = .ok (.iload_n 3, 1) := by decide +kernel
theorem dX0_launch_10 : decode cX0_launch 10 = .ok (.bipush 9, 2) := by decide +kernel
theorem dX0_launch_12 : decode cX0_launch 12 = .ok (.if_icmp .lt 5, 3) := by decide +kernel
theorem dX0_launch_15 : decode cX0_launch 15 = .ok (.iload_n 3, 1) := by decide +kernel
theorem dX0_launch_16 : decode cX0_launch 16 = .ok (.ireturn, 1) := by decide +kernel
theorem dX0_launch_17 : decode cX0_launch 17 = .ok (.aload_n 0, 1) := by decide +kernel
theorem dX0_launch_18 : decode cX0_launch 18 = .ok (.getfield 9, 3) := by decide +kernel
theorem dX0_launch_21 : decode cX0_launch 21 = .ok (.iload_n 3, 1) := by decide +kernel
theorem dX0_launch_22 : decode cX0_launch 22 = .ok (.iload_n 1, 1) := by decide +kernel
theorem dX0_launch_23 : decode cX0_launch 23 = .ok (.bipush 10, 2) := by decide +kernel
theorem dX0_launch_25 : decode cX0_launch 25 = .ok (.idiv, 1) := by decide +kernel
theorem dX0_launch_26 : decode cX0_launch 26 = .ok (.iastore, 1) := by decide +kernel
theorem dX0_launch_27 : decode cX0_launch 27 = .ok (.aload_n 0, 1) := by decide +kernel
theorem dX0_launch_28 : decode cX0_launch 28 = .ok (.getfield 15, 3) := by decide +kernel
theorem dX0_launch_31 : decode cX0_launch 31 = .ok (.iload_n 3, 1) := by decide +kernel
theorem dX0_launch_32 : decode cX0_launch 32 = .ok (.iload_n 1, 1) := by decide +kernel
theorem dX0_launch_33 : decode cX0_launch 33 = .ok (.bipush 10, 2) := by decide +kernel
theorem dX0_launch_35 : decode cX0_launch 35 = .ok (.irem, 1) := by decide +kernel
theorem dX0_launch_36 : decode cX0_launch 36 = .ok (.iastore, 1) := by decide +kernel
theorem dX0_launch_37 : decode cX0_launch 37 = .ok (.aload_n 0, 1) := by decide +kernel
theorem dX0_launch_38 : decode cX0_launch 38 = .ok (.getfield 18, 3) := by decide +kernel
theorem dX0_launch_41 : decode cX0_launch 41 = .ok (.iload_n 3, 1) := by decide +kernel
theorem dX0_launch_42 : decode cX0_launch 42 = .ok (.iload_n 2, 1) := by decide +kernel
theorem dX0_launch_43 : decode cX0_launch 43 = .ok (.iastore, 1) := by decide +kernel
theorem dX0_launch_44 : decode cX0_launch 44 = .ok (.aload_n 0, 1) := by decide +kernel
theorem dX0_launch_45 : decode cX0_launch 45 = .ok (.getfield 21, 3) := by decide +kernel
theorem dX0_launch_48 : decode cX0_launch 48 = .ok (.iload_n 3, 1) := by decide +kernel
theorem dX0_launch_49 : decode cX0_launch 49 = .ok (.iconst 0, 1) := by decide +kernel
theorem dX0_launch_50 : decode cX0_launch 50 = .ok (.iastore, 1) := by decide +kernel
theorem dX0_launch_51 : decode cX0_launch 51 = .ok (.aload_n 0, 1) := by decide +kernel
theorem dX0_launch_52 : decode cX0_launch 52 = .ok (.dup, 1) := by decide +kernel
theorem dX0_launch_53 : decode cX0_launch 53 = .ok (.getfield 24, 3) := by decide +kernel
theorem dX0_launch_56 : decode cX0_launch 56 = .ok (.iconst 1, 1) := by decide +kernel
theorem dX0_launch_57 : decode cX0_launch 57 = .ok (.iadd, 1) := by decide +kernel
theorem dX0_launch_58 : decode cX0_launch 58 = .ok (.putfield 24, 3) := by decide +kernel
theorem dX0_launch_61 : decode cX0_launch 61 = .ok (.iload_n 3, 1) := by decide +kernel
theorem dX0_launch_62 : decode cX0_launch 62 = .ok (.ireturn, 1) := by decide +kernel
theorem dX0_sings_0 : decode cX0_sings 0 = .ok (.aload_n 0, 1) := by decide +kernel
theorem dX0_sings_1 : decode cX0_sings 1 = .ok (.iload_n 1, 1) := by decide +kernel
theorem dX0_sings_2 : decode cX0_sings 2 = .ok (.invokevirtual 34, 3) := by decide +kernel
theorem dX0_sings_5 : decode cX0_sings 5 = .ok (.ifCond .eq 21, 3) := by decide +kernel
theorem dX0_sings_8 : decode cX0_sings 8 = .ok (.aload_n 0, 1) := by decide +kernel
theorem dX0_sings_9 : decode cX0_sings 9 = .ok (.getfield 21, 3) := by decide +kernel
theorem dX0_sings_12 : decode cX0_sings 12 = .ok (.iload_n 1, 1) := by decide +kernel
theorem dX0_sings_13 : decode cX0_sings 13 = .ok (.iaload, 1) := by decide +kernel
theorem dX0_sings_14 : decode cX0_sings 14 = .ok (.iload_n 2, 1) := by decide +kernel
theorem dX0_sings_15 : decode cX0_sings 15 = .ok (.iushr, 1) := by decide +kernel
theorem dX0_sings_16 : decode cX0_sings 16 = .ok (.iconst 1, 1) := by decide +kernel
theorem dX0_sings_17 : decode cX0_sings 17 = .ok (.iand, 1) := by decide +kernel
theorem dX0_sings_18 : decode cX0_sings 18 = .ok (.iconst 1, 1) := by decide +kernel
theorem dX0_sings_19 : decode cX0_sings 19 = .ok (.if_icmp .ne 7, 3) := by decide +kernel
theorem dX0_sings_22 : decode cX0_sings 22 = .ok (.iconst 1, 1) := by decide +kernel
theorem dX0_sings_23 : decode cX0_sings 23 = .ok (.goto 4, 3) := by decide +kernel
theorem dX0_sings_26 : decode cX0_sings 26 = .ok (.iconst 0, 1) := by decide +kernel
theorem dX0_sings_27 : decode cX0_sings 27 = .ok (.ireturn, 1) := by decide +kernel
theorem dX0_singers_0 : decode cX0_singers 0 = .ok (.iconst 0, 1) := by decide +kernel
theorem dX0_singers_1 : decode cX0_singers 1 = .ok (.istore_n 2, 1) := by decide +kernel
theorem dX0_singers_2 : decode cX0_singers 2 = .ok (.iconst 0, 1) := by decide +kernel
theorem dX0_singers_3 : decode cX0_singers 3 = .ok (.istore_n 3, 1) := by decide +kernel
theorem dX0_singers_4 : decode cX0_singers 4 = .ok (.iload_n 3, 1) := by decide +kernel
theorem dX0_singers_5 : decode cX0_singers 5 = .ok (.aload_n 0, 1) := by decide +kernel
theorem dX0_singers_6 : decode cX0_singers 6 = .ok (.getfield 24, 3) := by decide +kernel
theorem dX0_singers_9 : decode cX0_singers 9 = .ok (.if_icmp .ge 30, 3) := by decide +kernel
theorem dX0_singers_12 : decode cX0_singers 12 = .ok (.iload_n 3, 1) := by decide +kernel
theorem dX0_singers_13 : decode cX0_singers 13 = .ok (.bipush 9, 2) := by decide +kernel
theorem dX0_singers_15 : decode cX0_singers 15 = .ok (.if_icmp .ge 24, 3) := by decide +kernel
theorem dX0_singers_18 : decode cX0_singers 18 = .ok (.aload_n 0, 1) := by decide +kernel
theorem dX0_singers_19 : decode cX0_singers 19 = .ok (.iload_n 3, 1) := by decide +kernel
theorem dX0_singers_20 : decode cX0_singers 20 = .ok (.iload_n 1, 1) := by decide +kernel
theorem dX0_singers_21 : decode cX0_singers 21 = .ok (.invokevirtual 38, 3) := by decide +kernel
theorem dX0_singers_24 : decode cX0_singers 24 = .ok (.ifCond .eq 9, 3) := by decide +kernel
theorem dX0_singers_27 : decode cX0_singers 27 = .ok (.iload_n 2, 1) := by decide +kernel
theorem dX0_singers_28 : decode cX0_singers 28 = .ok (.iconst 1, 1) := by decide +kernel
theorem dX0_singers_29 : decode cX0_singers 29 = .ok (.iload_n 3, 1) := by decide +kernel
theorem dX0_singers_30 : decode cX0_singers 30 = .ok (.ishl, 1) := by decide +kernel
theorem dX0_singers_31 : decode cX0_singers 31 = .ok (.ior, 1) := by decide +kernel
theorem dX0_singers_32 : decode cX0_singers 32 = .ok (.istore_n 2, 1) := by decide +kernel
theorem dX0_singers_33 : decode cX0_singers 33 = .ok (.iinc 3 1, 3) := by decide +kernel
theorem dX0_singers_36 : decode cX0_singers 36 = .ok (.goto (-32), 3) := by decide +kernel
theorem dX0_singers_39 : decode cX0_singers 39 = .ok (.iload_n 2, 1) := by decide +kernel
theorem dX0_singers_40 : decode cX0_singers 40 = .ok (.ireturn, 1) := by decide +kernel
theorem dX0_later_0 : decode cX0_later 0 = .ok (.aload_n 0, 1) := by decide +kernel
theorem dX0_later_1 : decode cX0_later 1 = .ok (.iload_n 1, 1) := by decide +kernel
theorem dX0_later_2 : decode cX0_later 2 = .ok (.invokevirtual 34, 3) := by decide +kernel
theorem dX0_later_5 : decode cX0_later 5 = .ok (.ifCond .ne 5, 3) := by decide +kernel
theorem dX0_later_8 : decode cX0_later 8 = .ok (.iconst 0, 1) := by decide +kernel
theorem dX0_later_9 : decode cX0_later 9 = .ok (.ireturn, 1) := by decide +kernel
theorem dX0_later_10 : decode cX0_later 10 = .ok (.aload_n 0, 1) := by decide +kernel
theorem dX0_later_11 : decode cX0_later 11 = .ok (.getfield 9, 3) := by decide +kernel
theorem dX0_later_14 : decode cX0_later 14 = .ok (.iload_n 1, 1) := by decide +kernel
theorem dX0_later_15 : decode cX0_later 15 = .ok (.iaload, 1) := by decide +kernel
theorem dX0_later_16 : decode cX0_later 16 = .ok (.iconst 5, 1) := by decide +kernel
theorem dX0_later_17 : decode cX0_later 17 = .ok (.if_icmp .ne 12, 3) := by decide +kernel
theorem dX0_later_20 : decode cX0_later 20 = .ok (.aload_n 0, 1) := by decide +kernel
theorem dX0_later_21 : decode cX0_later 21 = .ok (.getfield 15, 3) := by decide +kernel
theorem dX0_later_24 : decode cX0_later 24 = .ok (.iload_n 1, 1) := by decide +kernel
theorem dX0_later_25 : decode cX0_later 25 = .ok (.iaload, 1) := by decide +kernel
theorem dX0_later_26 : decode cX0_later 26 = .ok (.iconst 3, 1) := by decide +kernel
theorem dX0_later_27 : decode cX0_later 27 = .ok (.idiv, 1) := by decide +kernel
theorem dX0_later_28 : decode cX0_later 28 = .ok (.ireturn, 1) := by decide +kernel
theorem dX0_later_29 : decode cX0_later 29 = .ok (.aload_n 0, 1) := by decide +kernel
theorem dX0_later_30 : decode cX0_later 30 = .ok (.getfield 9, 3) := by decide +kernel
theorem dX0_later_33 : decode cX0_later 33 = .ok (.iload_n 1, 1) := by decide +kernel
theorem dX0_later_34 : decode cX0_later 34 = .ok (.iaload, 1) := by decide +kernel
theorem dX0_later_35 : decode cX0_later 35 = .ok (.iconst 4, 1) := by decide +kernel
theorem dX0_later_36 : decode cX0_later 36 = .ok (.if_icmp .ne 12, 3) := by decide +kernel
theorem dX0_later_39 : decode cX0_later 39 = .ok (.aload_n 0, 1) := by decide +kernel
theorem dX0_later_40 : decode cX0_later 40 = .ok (.getfield 15, 3) := by decide +kernel
theorem dX0_later_43 : decode cX0_later 43 = .ok (.iload_n 1, 1) := by decide +kernel
theorem dX0_later_44 : decode cX0_later 44 = .ok (.iaload, 1) := by decide +kernel
theorem dX0_later_45 : decode cX0_later 45 = .ok (.goto 4, 3) := by decide +kernel
theorem dX0_later_48 : decode cX0_later 48 = .ok (.iconst 0, 1) := by decide +kernel
theorem dX0_later_49 : decode cX0_later 49 = .ok (.ireturn, 1) := by decide +kernel
theorem dX0_behind_0 : decode cX0_behind 0 = .ok (.aload_n 0, 1) := by decide +kernel
theorem dX0_behind_1 : decode cX0_behind 1 = .ok (.iload_n 1, 1) := by decide +kernel
theorem dX0_behind_2 : decode cX0_behind 2 = .ok (.invokevirtual 34, 3) := by decide +kernel
theorem dX0_behind_5 : decode cX0_behind 5 = .ok (.ifCond .ne 5, 3) := by decide +kernel
theorem dX0_behind_8 : decode cX0_behind 8 = .ok (.iload_n 2, 1) := by decide +kernel
theorem dX0_behind_9 : decode cX0_behind 9 = .ok (.ireturn, 1) := by decide +kernel
theorem dX0_behind_10 : decode cX0_behind 10 = .ok (.aload_n 0, 1) := by decide +kernel
theorem dX0_behind_11 : decode cX0_behind 11 = .ok (.getfield 9, 3) := by decide +kernel
theorem dX0_behind_14 : decode cX0_behind 14 = .ok (.iload_n 1, 1) := by decide +kernel
theorem dX0_behind_15 : decode cX0_behind 15 = .ok (.iaload, 1) := by decide +kernel
theorem dX0_behind_16 : decode cX0_behind 16 = .ok (.tableswitch 113 0 6 #[44, 113, 52, 80, 113, 59, 90], 44) := by decide +kernel
theorem dX0_behind_60 : decode cX0_behind 60 = .ok (.iload_n 2, 1) := by decide +kernel
theorem dX0_behind_61 : decode cX0_behind 61 = .ok (.iload_n 3, 1) := by decide +kernel
theorem dX0_behind_62 : decode cX0_behind 62 = .ok (.iload 4, 2) := by decide +kernel
theorem dX0_behind_64 : decode cX0_behind 64 = .ok (.invokestatic 42, 3) := by decide +kernel
theorem dX0_behind_67 : decode cX0_behind 67 = .ok (.ireturn, 1) := by decide +kernel
theorem dX0_behind_68 : decode cX0_behind 68 = .ok (.iload_n 2, 1) := by decide +kernel
theorem dX0_behind_69 : decode cX0_behind 69 = .ok (.iload 4, 2) := by decide +kernel
theorem dX0_behind_71 : decode cX0_behind 71 = .ok (.invokestatic 46, 3) := by decide +kernel
theorem dX0_behind_74 : decode cX0_behind 74 = .ok (.ireturn, 1) := by decide +kernel
theorem dX0_behind_75 : decode cX0_behind 75 = .ok (.iload_n 3, 1) := by decide +kernel
theorem dX0_behind_76 : decode cX0_behind 76 = .ok (.aload_n 0, 1) := by decide +kernel
theorem dX0_behind_77 : decode cX0_behind 77 = .ok (.getfield 15, 3) := by decide +kernel
theorem dX0_behind_80 : decode cX0_behind 80 = .ok (.iload_n 1, 1) := by decide +kernel
theorem dX0_behind_81 : decode cX0_behind 81 = .ok (.iaload, 1) := by decide +kernel
theorem dX0_behind_82 : decode cX0_behind 82 = .ok (.if_icmp .ge 7, 3) := by decide +kernel
theorem dX0_behind_85 : decode cX0_behind 85 = .ok (.iload_n 2, 1) := by decide +kernel
theorem dX0_behind_86 : decode cX0_behind 86 = .ok (.goto 9, 3) := by decide +kernel
theorem dX0_behind_89 : decode cX0_behind 89 = .ok (.iload_n 2, 1) := by decide +kernel
theorem dX0_behind_90 : decode cX0_behind 90 = .ok (.iload 4, 2) := by decide +kernel
theorem dX0_behind_92 : decode cX0_behind 92 = .ok (.invokestatic 46, 3) := by decide +kernel
theorem dX0_behind_95 : decode cX0_behind 95 = .ok (.ireturn, 1) := by decide +kernel
theorem dX0_behind_96 : decode cX0_behind 96 = .ok (.aload_n 0, 1) := by decide +kernel
theorem dX0_behind_97 : decode cX0_behind 97 = .ok (.iload_n 1, 1) := by decide +kernel
theorem dX0_behind_98 : decode cX0_behind 98 = .ok (.iload_n 2, 1) := by decide +kernel
theorem dX0_behind_99 : decode cX0_behind 99 = .ok (.iload_n 3, 1) := by decide +kernel
theorem dX0_behind_100 : decode cX0_behind 100 = .ok (.iload 4, 2) := by decide +kernel
theorem dX0_behind_102 : decode cX0_behind 102 = .ok (.invokevirtual 50, 3) := by decide +kernel
theorem dX0_behind_105 : decode cX0_behind 105 = .ok (.ireturn, 1) := by decide +kernel
theorem dX0_behind_106 : decode cX0_behind 106 = .ok (.aload_n 0, 1) := by decide +kernel
theorem dX0_behind_107 : decode cX0_behind 107 = .ok (.iload_n 1, 1) := by decide +kernel
theorem dX0_behind_108 : decode cX0_behind 108 = .ok (.iload_n 3, 1) := by decide +kernel
theorem dX0_behind_109 : decode cX0_behind 109 = .ok (.invokevirtual 38, 3) := by decide +kernel
theorem dX0_behind_112 : decode cX0_behind 112 = .ok (.ifCond .eq 15, 3) := by decide +kernel
theorem dX0_behind_115 : decode cX0_behind 115 = .ok (.aload_n 0, 1) := by decide +kernel
theorem dX0_behind_116 : decode cX0_behind 116 = .ok (.iload_n 1, 1) := by decide +kernel
theorem dX0_behind_117 : decode cX0_behind 117 = .ok (.iload_n 2, 1) := by decide +kernel
theorem dX0_behind_118 : decode cX0_behind 118 = .ok (.iload_n 3, 1) := by decide +kernel
theorem dX0_behind_119 : decode cX0_behind 119 = .ok (.iload 4, 2) := by decide +kernel
theorem dX0_behind_121 : decode cX0_behind 121 = .ok (.invokevirtual 50, 3) := by decide +kernel
theorem dX0_behind_124 : decode cX0_behind 124 = .ok (.goto 4, 3) := by decide +kernel
theorem dX0_behind_127 : decode cX0_behind 127 = .ok (.iload_n 2, 1) := by decide +kernel
theorem dX0_behind_128 : decode cX0_behind 128 = .ok (.ireturn, 1) := by decide +kernel
theorem dX0_behind_129 : decode cX0_behind 129 = .ok (.iload_n 2, 1) := by decide +kernel
theorem dX0_behind_130 : decode cX0_behind 130 = .ok (.ireturn, 1) := by decide +kernel
theorem dX0_rocked_0 : decode cX0_rocked 0 = .ok (.iload_n 1, 1) := by decide +kernel
theorem dX0_rocked_1 : decode cX0_rocked 1 = .ok (.iconst 1, 1) := by decide +kernel
theorem dX0_rocked_2 : decode cX0_rocked 2 = .ok (.iand, 1) := by decide +kernel
theorem dX0_rocked_3 : decode cX0_rocked 3 = .ok (.iconst 1, 1) := by decide +kernel
theorem dX0_rocked_4 : decode cX0_rocked 4 = .ok (.if_icmp .ne 11, 3) := by decide +kernel
theorem dX0_rocked_7 : decode cX0_rocked 7 = .ok (.iload_n 0, 1) := by decide +kernel
theorem dX0_rocked_8 : decode cX0_rocked 8 = .ok (.iload_n 2, 1) := by decide +kernel
theorem dX0_rocked_9 : decode cX0_rocked 9 = .ok (.invokestatic 46, 3) := by decide +kernel
theorem dX0_rocked_12 : decode cX0_rocked 12 = .ok (.goto 4, 3) := by decide +kernel
theorem dX0_rocked_15 : decode cX0_rocked 15 = .ok (.iload_n 0, 1) := by decide +kernel
theorem dX0_rocked_16 : decode cX0_rocked 16 = .ok (.ireturn, 1) := by decide +kernel
theorem dX0_pulled_0 : decode cX0_pulled 0 = .ok (.iload_n 2, 1) := by decide +kernel
theorem dX0_pulled_1 : decode cX0_pulled 1 = .ok (.iload_n 3, 1) := by decide +kernel
theorem dX0_pulled_2 : decode cX0_pulled 2 = .ok (.iload 4, 2) := by decide +kernel
theorem dX0_pulled_4 : decode cX0_pulled 4 = .ok (.invokestatic 42, 3) := by decide +kernel
theorem dX0_pulled_7 : decode cX0_pulled 7 = .ok (.istore 5, 2) := by decide +kernel
theorem dX0_pulled_9 : decode cX0_pulled 9 = .ok (.iload_n 3, 1) := by decide +kernel
theorem dX0_pulled_10 : decode cX0_pulled 10 = .ok (.bipush 7, 2) := by decide +kernel
theorem dX0_pulled_12 : decode cX0_pulled 12 = .ok (.iand, 1) := by decide +kernel
theorem dX0_pulled_13 : decode cX0_pulled 13 = .ok (.bipush 7, 2) := by decide +kernel
theorem dX0_pulled_15 : decode cX0_pulled 15 = .ok (.if_icmp .ne 29, 3) := by decide +kernel
theorem dX0_pulled_18 : decode cX0_pulled 18 = .ok (.aload_n 0, 1) := by decide +kernel
theorem dX0_pulled_19 : decode cX0_pulled 19 = .ok (.iload_n 1, 1) := by decide +kernel
theorem dX0_pulled_20 : decode cX0_pulled 20 = .ok (.invokevirtual 34, 3) := by decide +kernel
theorem dX0_pulled_23 : decode cX0_pulled 23 = .ok (.ifCond .eq 21, 3) := by decide +kernel
theorem dX0_pulled_26 : decode cX0_pulled 26 = .ok (.iload 5, 2) := by decide +kernel
theorem dX0_pulled_28 : decode cX0_pulled 28 = .ok (.aload_n 0, 1) := by decide +kernel
theorem dX0_pulled_29 : decode cX0_pulled 29 = .ok (.getfield 15, 3) := by decide +kernel
theorem dX0_pulled_32 : decode cX0_pulled 32 = .ok (.iload_n 1, 1) := by decide +kernel
theorem dX0_pulled_33 : decode cX0_pulled 33 = .ok (.iaload, 1) := by decide +kernel
theorem dX0_pulled_34 : decode cX0_pulled 34 = .ok (.iconst 4, 1) := by decide +kernel
theorem dX0_pulled_35 : decode cX0_pulled 35 = .ok (.irem, 1) := by decide +kernel
theorem dX0_pulled_36 : decode cX0_pulled 36 = .ok (.iconst 1, 1) := by decide +kernel
theorem dX0_pulled_37 : decode cX0_pulled 37 = .ok (.iadd, 1) := by decide +kernel
theorem dX0_pulled_38 : decode cX0_pulled 38 = .ok (.invokestatic 46, 3) := by decide +kernel
theorem dX0_pulled_41 : decode cX0_pulled 41 = .ok (.goto 5, 3) := by decide +kernel
theorem dX0_pulled_44 : decode cX0_pulled 44 = .ok (.iload 5, 2) := by decide +kernel
theorem dX0_pulled_46 : decode cX0_pulled 46 = .ok (.ireturn, 1) := by decide +kernel
theorem dX0_together_0 : decode cX0_together 0 = .ok (.iload 6, 2) := by decide +kernel
theorem dX0_together_2 : decode cX0_together 2 = .ok (.invokestatic 54, 3) := by decide +kernel
theorem dX0_together_5 : decode cX0_together 5 = .ok (.iconst 2, 1) := by decide +kernel
theorem dX0_together_6 : decode cX0_together 6 = .ok (.if_icmp .ge 5, 3) := by decide +kernel
theorem dX0_together_9 : decode cX0_together 9 = .ok (.iconst 0, 1) := by decide +kernel
theorem dX0_together_10 : decode cX0_together 10 = .ok (.ireturn, 1) := by decide +kernel
theorem dX0_together_11 : decode cX0_together 11 = .ok (.iconst (-1), 1) := by decide +kernel
theorem dX0_together_12 : decode cX0_together 12 = .ok (.istore 7, 2) := by decide +kernel
theorem dX0_together_14 : decode cX0_together 14 = .ok (.iconst 0, 1) := by decide +kernel
theorem dX0_together_15 : decode cX0_together 15 = .ok (.istore 8, 2) := by decide +kernel
theorem dX0_together_17 : decode cX0_together 17 = .ok (.iload 8, 2) := by decide +kernel
theorem dX0_together_19 : decode cX0_together 19 = .ok (.bipush 9, 2) := by decide +kernel
theorem dX0_together_21 : decode cX0_together 21 = .ok (.if_icmp .ge 72, 3) := by decide +kernel
theorem dX0_together_24 : decode cX0_together 24 = .ok (.iload 8, 2) := by decide +kernel
theorem dX0_together_26 : decode cX0_together 26 = .ok (.aload_n 2, 1) := by decide +kernel
theorem dX0_together_27 : decode cX0_together 27 = .ok (.arraylength, 1) := by decide +kernel
theorem dX0_together_28 : decode cX0_together 28 = .ok (.if_icmp .ge 65, 3) := by decide +kernel
theorem dX0_together_31 : decode cX0_together 31 = .ok (.iload 6, 2) := by decide +kernel
theorem dX0_together_33 : decode cX0_together 33 = .ok (.iload 8, 2) := by decide +kernel
theorem dX0_together_35 : decode cX0_together 35 = .ok (.iushr, 1) := by decide +kernel
theorem dX0_together_36 : decode cX0_together 36 = .ok (.iconst 1, 1) := by decide +kernel
theorem dX0_together_37 : decode cX0_together 37 = .ok (.iand, 1) := by decide +kernel
theorem dX0_together_38 : decode cX0_together 38 = .ok (.ifCond .ne 6, 3) := by decide +kernel
theorem dX0_together_41 : decode cX0_together 41 = .ok (.goto 46, 3) := by decide +kernel
theorem dX0_together_44 : decode cX0_together 44 = .ok (.aload_n 1, 1) := by decide +kernel
theorem dX0_together_45 : decode cX0_together 45 = .ok (.aload_n 2, 1) := by decide +kernel
theorem dX0_together_46 : decode cX0_together 46 = .ok (.iload 8, 2) := by decide +kernel
theorem dX0_together_48 : decode cX0_together 48 = .ok (.iaload, 1) := by decide +kernel
theorem dX0_together_49 : decode cX0_together 49 = .ok (.iload_n 3, 1) := by decide +kernel
theorem dX0_together_50 : decode cX0_together 50 = .ok (.invokestatic 60, 3) := by decide +kernel
theorem dX0_together_53 : decode cX0_together 53 = .ok (.iload 5, 2) := by decide +kernel
theorem dX0_together_55 : decode cX0_together 55 = .ok (.iload 4, 2) := by decide +kernel
theorem dX0_together_57 : decode cX0_together 57 = .ok (.invokevirtual 63, 3) := by decide +kernel
theorem dX0_together_60 : decode cX0_together 60 = .ok (.aload_n 0, 1) := by decide +kernel
theorem dX0_together_61 : decode cX0_together 61 = .ok (.iload 8, 2) := by decide +kernel
theorem dX0_together_63 : decode cX0_together 63 = .ok (.invokevirtual 68, 3) := by decide +kernel
theorem dX0_together_66 : decode cX0_together 66 = .ok (.iadd, 1) := by decide +kernel
theorem dX0_together_67 : decode cX0_together 67 = .ok (.istore 9, 2) := by decide +kernel
theorem dX0_together_69 : decode cX0_together 69 = .ok (.iload 7, 2) := by decide +kernel
theorem dX0_together_71 : decode cX0_together 71 = .ok (.ifCond .lt 12, 3) := by decide +kernel
theorem dX0_together_74 : decode cX0_together 74 = .ok (.iload 9, 2) := by decide +kernel
theorem dX0_together_76 : decode cX0_together 76 = .ok (.iload 7, 2) := by decide +kernel
theorem dX0_together_78 : decode cX0_together 78 = .ok (.if_icmp .eq 5, 3) := by decide +kernel
theorem dX0_together_81 : decode cX0_together 81 = .ok (.iconst 0, 1) := by decide +kernel
theorem dX0_together_82 : decode cX0_together 82 = .ok (.ireturn, 1) := by decide +kernel
theorem dX0_together_83 : decode cX0_together 83 = .ok (.iload 9, 2) := by decide +kernel
theorem dX0_together_85 : decode cX0_together 85 = .ok (.istore 7, 2) := by decide +kernel
theorem dX0_together_87 : decode cX0_together 87 = .ok (.iinc 8 1, 3) := by decide +kernel
theorem dX0_together_90 : decode cX0_together 90 = .ok (.goto (-73), 3) := by decide +kernel
theorem dX0_together_93 : decode cX0_together 93 = .ok (.iconst 1, 1) := by decide +kernel
theorem dX0_together_94 : decode cX0_together 94 = .ok (.ireturn, 1) := by decide +kernel
theorem dX1_init_0 : decode cX1_init 0 = .ok (.aload_n 0, 1) := by decide +kernel
theorem dX1_init_1 : decode cX1_init 1 = .ok (.invokespecial 3, 3) := by decide +kernel
theorem dX1_init_4 : decode cX1_init 4 = .ok (.aload_n 0, 1) := by decide +kernel
theorem dX1_init_5 : decode cX1_init 5 = .ok (.bipush 50, 2) := by decide +kernel
theorem dX1_init_7 : decode cX1_init 7 = .ok (.newarray .int, 2) := by decide +kernel
theorem dX1_init_9 : decode cX1_init 9 = .ok (.putfield 9, 3) := by decide +kernel
theorem dX1_init_12 : decode cX1_init 12 = .ok (.aload_n 0, 1) := by decide +kernel
theorem dX1_init_13 : decode cX1_init 13 = .ok (.bipush 20, 2) := by decide +kernel
theorem dX1_init_15 : decode cX1_init 15 = .ok (.newarray .int, 2) := by decide +kernel
theorem dX1_init_17 : decode cX1_init 17 = .ok (.putfield 15, 3) := by decide +kernel
theorem dX1_init_20 : decode cX1_init 20 = .ok (.return_, 1) := by decide +kernel
theorem dX1_copy_0 : decode cX1_copy 0 = .ok (.aload_n 0, 1) := by decide +kernel
theorem dX1_copy_1 : decode cX1_copy 1 = .ok (.aload_n 1, 1) := by decide +kernel
theorem dX1_copy_2 : decode cX1_copy 2 = .ok (.getfield 18, 3) := by decide +kernel
theorem dX1_copy_5 : decode cX1_copy 5 = .ok (.putfield 18, 3) := by decide +kernel
theorem dX1_copy_8 : decode cX1_copy 8 = .ok (.aload_n 1, 1) := by decide +kernel
theorem dX1_copy_9 : decode cX1_copy 9 = .ok (.getfield 9, 3) := by decide +kernel
theorem dX1_copy_12 : decode cX1_copy 12 = .ok (.iconst 0, 1) := by decide +kernel
theorem dX1_copy_13 : decode cX1_copy 13 = .ok (.aload_n 0, 1) := by decide +kernel
theorem dX1_copy_14 : decode cX1_copy 14 = .ok (.getfield 9, 3) := by decide +kernel
theorem dX1_copy_17 : decode cX1_copy 17 = .ok (.iconst 0, 1) := by decide +kernel
theorem dX1_copy_18 : decode cX1_copy 18 = .ok (.bipush 50, 2) := by decide +kernel
theorem dX1_copy_20 : decode cX1_copy 20 = .ok (.invokestatic 22, 3) := by decide +kernel
theorem dX1_copy_23 : decode cX1_copy 23 = .ok (.aload_n 0, 1) := by decide +kernel
theorem dX1_copy_24 : decode cX1_copy 24 = .ok (.aload_n 1, 1) := by decide +kernel
theorem dX1_copy_25 : decode cX1_copy 25 = .ok (.getfield 28, 3) := by decide +kernel
theorem dX1_copy_28 : decode cX1_copy 28 = .ok (.putfield 28, 3) := by decide +kernel
theorem dX1_copy_31 : decode cX1_copy 31 = .ok (.aload_n 1, 1) := by decide +kernel
theorem dX1_copy_32 : decode cX1_copy 32 = .ok (.getfield 15, 3) := by decide +kernel
theorem dX1_copy_35 : decode cX1_copy 35 = .ok (.iconst 0, 1) := by decide +kernel
theorem dX1_copy_36 : decode cX1_copy 36 = .ok (.aload_n 0, 1) := by decide +kernel
theorem dX1_copy_37 : decode cX1_copy 37 = .ok (.getfield 15, 3) := by decide +kernel
theorem dX1_copy_40 : decode cX1_copy 40 = .ok (.iconst 0, 1) := by decide +kernel
theorem dX1_copy_41 : decode cX1_copy 41 = .ok (.bipush 20, 2) := by decide +kernel
theorem dX1_copy_43 : decode cX1_copy 43 = .ok (.invokestatic 22, 3) := by decide +kernel
theorem dX1_copy_46 : decode cX1_copy 46 = .ok (.return_, 1) := by decide +kernel
theorem dX1_take_0 : decode cX1_take 0 = .ok (.iconst 0, 1) := by decide +kernel
theorem dX1_take_1 : decode cX1_take 1 = .ok (.istore 4, 2) := by decide +kernel
theorem dX1_take_3 : decode cX1_take 3 = .ok (.iload 4, 2) := by decide +kernel
theorem dX1_take_5 : decode cX1_take 5 = .ok (.iload_n 3, 1) := by decide +kernel
theorem dX1_take_6 : decode cX1_take 6 = .ok (.if_icmp .ge 56, 3) := by decide +kernel
theorem dX1_take_9 : decode cX1_take 9 = .ok (.aload_n 0, 1) := by decide +kernel
theorem dX1_take_10 : decode cX1_take 10 = .ok (.getfield 18, 3) := by decide +kernel
theorem dX1_take_13 : decode cX1_take 13 = .ok (.ifCond .lt 49, 3) := by decide +kernel
theorem dX1_take_16 : decode cX1_take 16 = .ok (.aload_n 0, 1) := by decide +kernel
theorem dX1_take_17 : decode cX1_take 17 = .ok (.getfield 18, 3) := by decide +kernel
theorem dX1_take_20 : decode cX1_take 20 = .ok (.bipush 50, 2) := by decide +kernel
theorem dX1_take_22 : decode cX1_take 22 = .ok (.if_icmp .ge 40, 3) := by decide +kernel
theorem dX1_take_25 : decode cX1_take 25 = .ok (.aload_n 0, 1) := by decide +kernel
theorem dX1_take_26 : decode cX1_take 26 = .ok (.getfield 9, 3) := by decide +kernel
theorem dX1_take_29 : decode cX1_take 29 = .ok (.aload_n 0, 1) := by decide +kernel
theorem dX1_take_30 : decode cX1_take 30 = .ok (.getfield 18, 3) := by decide +kernel
theorem dX1_take_33 : decode cX1_take 33 = .ok (.lload_n 1, 1) := by decide +kernel
theorem dX1_take_34 : decode cX1_take 34 = .ok (.bipush 8, 2) := by decide +kernel
theorem dX1_take_36 : decode cX1_take 36 = .ok (.iload 4, 2) := by decide +kernel
theorem dX1_take_38 : decode cX1_take 38 = .ok (.imul, 1) := by decide +kernel
theorem dX1_take_39 : decode cX1_take 39 = .ok (.lushr, 1) := by decide +kernel
theorem dX1_take_40 : decode cX1_take 40 = .ok (.l2i, 1) := by decide +kernel
theorem dX1_take_41 : decode cX1_take 41 = .ok (.sipush 255, 3) := by decide +kernel
theorem dX1_take_44 : decode cX1_take 44 = .ok (.iand, 1) := by decide +kernel
theorem dX1_take_45 : decode cX1_take 45 = .ok (.iastore, 1) := by decide +kernel
theorem dX1_take_46 : decode cX1_take 46 = .ok (.aload_n 0, 1) := by decide +kernel
theorem dX1_take_47 : decode cX1_take 47 = .ok (.dup, 1) := by decide +kernel
theorem dX1_take_48 : decode cX1_take 48 = .ok (.getfield 18, 3) := by decide +kernel
theorem dX1_take_51 : decode cX1_take 51 = .ok (.iconst 1, 1) := by decide +kernel
theorem dX1_take_52 : decode cX1_take 52 = .ok (.iadd, 1) := by decide +kernel
theorem dX1_take_53 : decode cX1_take 53 = .ok (.putfield 18, 3) := by decide +kernel
theorem dX1_take_56 : decode cX1_take 56 = .ok (.iinc 4 1, 3) := by decide +kernel
theorem dX1_take_59 : decode cX1_take 59 = .ok (.goto (-56), 3) := by decide +kernel
theorem dX1_take_62 : decode cX1_take 62 = .ok (.return_, 1) := by decide +kernel
theorem dX1_add_0 : decode cX1_add 0 = .ok (.aload_n 0, 1) := by decide +kernel
theorem dX1_add_1 : decode cX1_add 1 = .ok (.getfield 28, 3) := by decide +kernel
theorem dX1_add_4 : decode cX1_add 4 = .ok (.ifCond .lt 12, 3) := by decide +kernel
theorem dX1_add_7 : decode cX1_add 7 = .ok (.aload_n 0, 1) := by decide +kernel
theorem dX1_add_8 : decode cX1_add 8 = .ok (.getfield 28, 3) := by decide +kernel
theorem dX1_add_11 : decode cX1_add 11 = .ok (.bipush 20, 2) := by decide +kernel
theorem dX1_add_13 : decode cX1_add 13 = .ok (.if_icmp .lt 8, 3) := by decide +kernel
theorem dX1_add_16 : decode cX1_add 16 = .ok (.aload_n 0, 1) := by decide +kernel
theorem dX1_add_17 : decode cX1_add 17 = .ok (.getfield 28, 3) := by decide +kernel
theorem dX1_add_20 : decode cX1_add 20 = .ok (.ireturn, 1) := by decide +kernel
theorem dX1_add_21 : decode cX1_add 21 = .ok (.aload_n 0, 1) := by decide +kernel
theorem dX1_add_22 : decode cX1_add 22 = .ok (.getfield 15, 3) := by decide +kernel
theorem dX1_add_25 : decode cX1_add 25 = .ok (.aload_n 0, 1) := by decide +kernel
theorem dX1_add_26 : decode cX1_add 26 = .ok (.getfield 28, 3) := by decide +kernel
theorem dX1_add_29 : decode cX1_add 29 = .ok (.iload_n 1, 1) := by decide +kernel
theorem dX1_add_30 : decode cX1_add 30 = .ok (.iastore, 1) := by decide +kernel
theorem dX1_add_31 : decode cX1_add 31 = .ok (.aload_n 0, 1) := by decide +kernel
theorem dX1_add_32 : decode cX1_add 32 = .ok (.dup, 1) := by decide +kernel
theorem dX1_add_33 : decode cX1_add 33 = .ok (.getfield 28, 3) := by decide +kernel
theorem dX1_add_36 : decode cX1_add 36 = .ok (.iconst 1, 1) := by decide +kernel
theorem dX1_add_37 : decode cX1_add 37 = .ok (.iadd, 1) := by decide +kernel
theorem dX1_add_38 : decode cX1_add 38 = .ok (.putfield 28, 3) := by decide +kernel
theorem dX1_add_41 : decode cX1_add 41 = .ok (.aload_n 0, 1) := by decide +kernel
theorem dX1_add_42 : decode cX1_add 42 = .ok (.getfield 28, 3) := by decide +kernel
theorem dX1_add_45 : decode cX1_add 45 = .ok (.ireturn, 1) := by decide +kernel
theorem dX2_init_0 : decode cX2_init 0 = .ok (.aload_n 0, 1) := by decide +kernel
theorem dX2_init_1 : decode cX2_init 1 = .ok (.invokespecial 3, 3) := by decide +kernel
theorem dX2_init_4 : decode cX2_init 4 = .ok (.aload_n 0, 1) := by decide +kernel
theorem dX2_init_5 : decode cX2_init 5 = .ok (.bipush 50, 2) := by decide +kernel
theorem dX2_init_7 : decode cX2_init 7 = .ok (.newarray .int, 2) := by decide +kernel
theorem dX2_init_9 : decode cX2_init 9 = .ok (.putfield 9, 3) := by decide +kernel
theorem dX2_init_12 : decode cX2_init 12 = .ok (.aload_n 0, 1) := by decide +kernel
theorem dX2_init_13 : decode cX2_init 13 = .ok (.bipush 50, 2) := by decide +kernel
theorem dX2_init_15 : decode cX2_init 15 = .ok (.newarray .int, 2) := by decide +kernel
theorem dX2_init_17 : decode cX2_init 17 = .ok (.putfield 15, 3) := by decide +kernel
theorem dX2_init_20 : decode cX2_init 20 = .ok (.return_, 1) := by decide +kernel
theorem dX2_isThere_0 : decode cX2_isThere 0 = .ok (.aload_n 0, 1) := by decide +kernel
theorem dX2_isThere_1 : decode cX2_isThere 1 = .ok (.getfield 18, 3) := by decide +kernel
theorem dX2_isThere_4 : decode cX2_isThere 4 = .ok (.ifCond .le 7, 3) := by decide +kernel
theorem dX2_isThere_7 : decode cX2_isThere 7 = .ok (.iconst 1, 1) := by decide +kernel
theorem dX2_isThere_8 : decode cX2_isThere 8 = .ok (.goto 4, 3) := by decide +kernel
theorem dX2_isThere_11 : decode cX2_isThere 11 = .ok (.iconst 0, 1) := by decide +kernel
theorem dX2_isThere_12 : decode cX2_isThere 12 = .ok (.ireturn, 1) := by decide +kernel
theorem dX2_copy_0 : decode cX2_copy 0 = .ok (.aload_n 0, 1) := by decide +kernel
theorem dX2_copy_1 : decode cX2_copy 1 = .ok (.aload_n 1, 1) := by decide +kernel
theorem dX2_copy_2 : decode cX2_copy 2 = .ok (.getfield 18, 3) := by decide +kernel
theorem dX2_copy_5 : decode cX2_copy 5 = .ok (.putfield 18, 3) := by decide +kernel
theorem dX2_copy_8 : decode cX2_copy 8 = .ok (.aload_n 1, 1) := by decide +kernel
theorem dX2_copy_9 : decode cX2_copy 9 = .ok (.getfield 9, 3) := by decide +kernel
theorem dX2_copy_12 : decode cX2_copy 12 = .ok (.iconst 0, 1) := by decide +kernel
theorem dX2_copy_13 : decode cX2_copy 13 = .ok (.aload_n 0, 1) := by decide +kernel
theorem dX2_copy_14 : decode cX2_copy 14 = .ok (.getfield 9, 3) := by decide +kernel
theorem dX2_copy_17 : decode cX2_copy 17 = .ok (.iconst 0, 1) := by decide +kernel
theorem dX2_copy_18 : decode cX2_copy 18 = .ok (.bipush 50, 2) := by decide +kernel
theorem dX2_copy_20 : decode cX2_copy 20 = .ok (.invokestatic 22, 3) := by decide +kernel
theorem dX2_copy_23 : decode cX2_copy 23 = .ok (.return_, 1) := by decide +kernel
theorem dX2_add_0 : decode cX2_add 0 = .ok (.aload_n 0, 1) := by decide +kernel
theorem dX2_add_1 : decode cX2_add 1 = .ok (.getfield 18, 3) := by decide +kernel
theorem dX2_add_4 : decode cX2_add 4 = .ok (.ifCond .lt 12, 3) := by decide +kernel
theorem dX2_add_7 : decode cX2_add 7 = .ok (.aload_n 0, 1) := by decide +kernel
theorem dX2_add_8 : decode cX2_add 8 = .ok (.getfield 18, 3) := by decide +kernel
theorem dX2_add_11 : decode cX2_add 11 = .ok (.bipush 50, 2) := by decide +kernel
theorem dX2_add_13 : decode cX2_add 13 = .ok (.if_icmp .lt 4, 3) := by decide +kernel
theorem dX2_add_16 : decode cX2_add 16 = .ok (.return_, 1) := by decide +kernel
theorem dX2_add_17 : decode cX2_add 17 = .ok (.aload_n 0, 1) := by decide +kernel
theorem dX2_add_18 : decode cX2_add 18 = .ok (.getfield 9, 3) := by decide +kernel
theorem dX2_add_21 : decode cX2_add 21 = .ok (.aload_n 0, 1) := by decide +kernel
theorem dX2_add_22 : decode cX2_add 22 = .ok (.getfield 18, 3) := by decide +kernel
theorem dX2_add_25 : decode cX2_add 25 = .ok (.iload_n 1, 1) := by decide +kernel
theorem dX2_add_26 : decode cX2_add 26 = .ok (.iastore, 1) := by decide +kernel
theorem dX2_add_27 : decode cX2_add 27 = .ok (.aload_n 0, 1) := by decide +kernel
theorem dX2_add_28 : decode cX2_add 28 = .ok (.dup, 1) := by decide +kernel
theorem dX2_add_29 : decode cX2_add 29 = .ok (.getfield 18, 3) := by decide +kernel
theorem dX2_add_32 : decode cX2_add 32 = .ok (.iconst 1, 1) := by decide +kernel
theorem dX2_add_33 : decode cX2_add 33 = .ok (.iadd, 1) := by decide +kernel
theorem dX2_add_34 : decode cX2_add 34 = .ok (.putfield 18, 3) := by decide +kernel
theorem dX2_add_37 : decode cX2_add 37 = .ok (.return_, 1) := by decide +kernel
theorem dX2_worth_0 : decode cX2_worth 0 = .ok (.iconst 0, 1) := by decide +kernel
theorem dX2_worth_1 : decode cX2_worth 1 = .ok (.istore 4, 2) := by decide +kernel
theorem dX2_worth_3 : decode cX2_worth 3 = .ok (.iconst 0, 1) := by decide +kernel
theorem dX2_worth_4 : decode cX2_worth 4 = .ok (.istore 5, 2) := by decide +kernel
theorem dX2_worth_6 : decode cX2_worth 6 = .ok (.iload 5, 2) := by decide +kernel
theorem dX2_worth_8 : decode cX2_worth 8 = .ok (.aload_n 0, 1) := by decide +kernel
theorem dX2_worth_9 : decode cX2_worth 9 = .ok (.getfield 18, 3) := by decide +kernel
theorem dX2_worth_12 : decode cX2_worth 12 = .ok (.if_icmp .ge 191, 3) := by decide +kernel
theorem dX2_worth_15 : decode cX2_worth 15 = .ok (.iload 5, 2) := by decide +kernel
theorem dX2_worth_17 : decode cX2_worth 17 = .ok (.bipush 50, 2) := by decide +kernel
theorem dX2_worth_19 : decode cX2_worth 19 = .ok (.if_icmp .ge 184, 3) := by decide +kernel
theorem dX2_worth_22 : decode cX2_worth 22 = .ok (.aload_n 0, 1) := by decide +kernel
theorem dX2_worth_23 : decode cX2_worth 23 = .ok (.getfield 9, 3) := by decide +kernel
theorem dX2_worth_26 : decode cX2_worth 26 = .ok (.iload 5, 2) := by decide +kernel
theorem dX2_worth_28 : decode cX2_worth 28 = .ok (.iaload, 1) := by decide +kernel
theorem dX2_worth_29 : decode cX2_worth 29 = .ok (.istore 6, 2) := by decide +kernel
theorem dX2_worth_31 : decode cX2_worth 31 = .ok (.iload 6, 2) := by decide +kernel
theorem dX2_worth_33 : decode cX2_worth 33 = .ok (.bipush (-3), 2) := by decide +kernel
theorem dX2_worth_35 : decode cX2_worth 35 = .ok (.if_icmp .lt 62, 3) := by decide +kernel
theorem dX2_worth_38 : decode cX2_worth 38 = .ok (.iload 4, 2) := by decide +kernel
theorem dX2_worth_40 : decode cX2_worth 40 = .ok (.ifCond .lt 10, 3) := by decide +kernel
theorem dX2_worth_43 : decode cX2_worth 43 = .ok (.iload 4, 2) := by decide +kernel
theorem dX2_worth_45 : decode cX2_worth 45 = .ok (.bipush 50, 2) := by decide +kernel
theorem dX2_worth_47 : decode cX2_worth 47 = .ok (.if_icmp .lt 5, 3) := by decide +kernel
theorem dX2_worth_50 : decode cX2_worth 50 = .ok (.iconst 0, 1) := by decide +kernel
theorem dX2_worth_51 : decode cX2_worth 51 = .ok (.ireturn, 1) := by decide +kernel
theorem dX2_worth_52 : decode cX2_worth 52 = .ok (.aload_n 0, 1) := by decide +kernel
theorem dX2_worth_53 : decode cX2_worth 53 = .ok (.getfield 15, 3) := by decide +kernel
theorem dX2_worth_56 : decode cX2_worth 56 = .ok (.iload 4, 2) := by decide +kernel
theorem dX2_worth_58 : decode cX2_worth 58 = .ok (.iload 6, 2) := by decide +kernel
theorem dX2_worth_60 : decode cX2_worth 60 = .ok (.ifCond .lt 8, 3) := by decide +kernel
theorem dX2_worth_63 : decode cX2_worth 63 = .ok (.iload 6, 2) := by decide +kernel
theorem dX2_worth_65 : decode cX2_worth 65 = .ok (.goto 25, 3) := by decide +kernel
theorem dX2_worth_68 : decode cX2_worth 68 = .ok (.iload 6, 2) := by decide +kernel
theorem dX2_worth_70 : decode cX2_worth 70 = .ok (.iconst (-1), 1) := by decide +kernel
theorem dX2_worth_71 : decode cX2_worth 71 = .ok (.if_icmp .ne 7, 3) := by decide +kernel
theorem dX2_worth_74 : decode cX2_worth 74 = .ok (.iload_n 1, 1) := by decide +kernel
theorem dX2_worth_75 : decode cX2_worth 75 = .ok (.goto 15, 3) := by decide +kernel
theorem dX2_worth_78 : decode cX2_worth 78 = .ok (.iload 6, 2) := by decide +kernel
theorem dX2_worth_80 : decode cX2_worth 80 = .ok (.bipush (-2), 2) := by decide +kernel
theorem dX2_worth_82 : decode cX2_worth 82 = .ok (.if_icmp .ne 7, 3) := by decide +kernel
theorem dX2_worth_85 : decode cX2_worth 85 = .ok (.iload_n 2, 1) := by decide +kernel
theorem dX2_worth_86 : decode cX2_worth 86 = .ok (.goto 4, 3) := by decide +kernel
theorem dX2_worth_89 : decode cX2_worth 89 = .ok (.iload_n 3, 1) := by decide +kernel
theorem dX2_worth_90 : decode cX2_worth 90 = .ok (.iastore, 1) := by decide +kernel
theorem dX2_worth_91 : decode cX2_worth 91 = .ok (.iinc 4 1, 3) := by decide +kernel
theorem dX2_worth_94 : decode cX2_worth 94 = .ok (.goto 103, 3) := by decide +kernel
theorem dX2_worth_97 : decode cX2_worth 97 = .ok (.iload 6, 2) := by decide +kernel
theorem dX2_worth_99 : decode cX2_worth 99 = .ok (.bipush (-33), 2) := by decide +kernel
theorem dX2_worth_101 : decode cX2_worth 101 = .ok (.if_icmp .ne 47, 3) := by decide +kernel
theorem dX2_worth_104 : decode cX2_worth 104 = .ok (.iload 4, 2) := by decide +kernel
theorem dX2_worth_106 : decode cX2_worth 106 = .ok (.iconst 1, 1) := by decide +kernel
theorem dX2_worth_107 : decode cX2_worth 107 = .ok (.if_icmp .lt 10, 3) := by decide +kernel
theorem dX2_worth_110 : decode cX2_worth 110 = .ok (.iload 4, 2) := by decide +kernel
theorem dX2_worth_112 : decode cX2_worth 112 = .ok (.bipush 50, 2) := by decide +kernel
theorem dX2_worth_114 : decode cX2_worth 114 = .ok (.if_icmp .le 5, 3) := by decide +kernel
theorem dX2_worth_117 : decode cX2_worth 117 = .ok (.iconst 0, 1) := by decide +kernel
theorem dX2_worth_118 : decode cX2_worth 118 = .ok (.ireturn, 1) := by decide +kernel
theorem dX2_worth_119 : decode cX2_worth 119 = .ok (.aload_n 0, 1) := by decide +kernel
theorem dX2_worth_120 : decode cX2_worth 120 = .ok (.getfield 15, 3) := by decide +kernel
theorem dX2_worth_123 : decode cX2_worth 123 = .ok (.iload 4, 2) := by decide +kernel
theorem dX2_worth_125 : decode cX2_worth 125 = .ok (.iconst 1, 1) := by decide +kernel
theorem dX2_worth_126 : decode cX2_worth 126 = .ok (.isub, 1) := by decide +kernel
theorem dX2_worth_127 : decode cX2_worth 127 = .ok (.aload_n 0, 1) := by decide +kernel
theorem dX2_worth_128 : decode cX2_worth 128 = .ok (.getfield 15, 3) := by decide +kernel
theorem dX2_worth_131 : decode cX2_worth 131 = .ok (.iload 4, 2) := by decide +kernel
theorem dX2_worth_133 : decode cX2_worth 133 = .ok (.iconst 1, 1) := by decide +kernel
theorem dX2_worth_134 : decode cX2_worth 134 = .ok (.isub, 1) := by decide +kernel
theorem dX2_worth_135 : decode cX2_worth 135 = .ok (.iaload, 1) := by decide +kernel
theorem dX2_worth_136 : decode cX2_worth 136 = .ok (.ifCond .ne 7, 3) := by decide +kernel
theorem dX2_worth_139 : decode cX2_worth 139 = .ok (.iconst 1, 1) := by decide +kernel
theorem dX2_worth_140 : decode cX2_worth 140 = .ok (.goto 4, 3) := by decide +kernel
theorem dX2_worth_143 : decode cX2_worth 143 = .ok (.iconst 0, 1) := by decide +kernel
theorem dX2_worth_144 : decode cX2_worth 144 = .ok (.iastore, 1) := by decide +kernel
theorem dX2_worth_145 : decode cX2_worth 145 = .ok (.goto 52, 3) := by decide +kernel
theorem dX2_worth_148 : decode cX2_worth 148 = .ok (.iload 4, 2) := by decide +kernel
theorem dX2_worth_150 : decode cX2_worth 150 = .ok (.iconst 2, 1) := by decide +kernel
theorem dX2_worth_151 : decode cX2_worth 151 = .ok (.if_icmp .lt 10, 3) := by decide +kernel
theorem dX2_worth_154 : decode cX2_worth 154 = .ok (.iload 4, 2) := by decide +kernel
theorem dX2_worth_156 : decode cX2_worth 156 = .ok (.bipush 50, 2) := by decide +kernel
theorem dX2_worth_158 : decode cX2_worth 158 = .ok (.if_icmp .le 5, 3) := by decide +kernel
theorem dX2_worth_161 : decode cX2_worth 161 = .ok (.iconst 0, 1) := by decide +kernel
theorem dX2_worth_162 : decode cX2_worth 162 = .ok (.ireturn, 1) := by decide +kernel
theorem dX2_worth_163 : decode cX2_worth 163 = .ok (.iinc 4 (-1), 3) := by decide +kernel
theorem dX2_worth_166 : decode cX2_worth 166 = .ok (.aload_n 0, 1) := by decide +kernel
theorem dX2_worth_167 : decode cX2_worth 167 = .ok (.getfield 15, 3) := by decide +kernel
theorem dX2_worth_170 : decode cX2_worth 170 = .ok (.iload 4, 2) := by decide +kernel
theorem dX2_worth_172 : decode cX2_worth 172 = .ok (.iconst 1, 1) := by decide +kernel
theorem dX2_worth_173 : decode cX2_worth 173 = .ok (.isub, 1) := by decide +kernel
theorem dX2_worth_174 : decode cX2_worth 174 = .ok (.iload 6, 2) := by decide +kernel
theorem dX2_worth_176 : decode cX2_worth 176 = .ok (.ineg, 1) := by decide +kernel
theorem dX2_worth_177 : decode cX2_worth 177 = .ok (.aload_n 0, 1) := by decide +kernel
theorem dX2_worth_178 : decode cX2_worth 178 = .ok (.getfield 15, 3) := by decide +kernel
theorem dX2_worth_181 : decode cX2_worth 181 = .ok (.iload 4, 2) := by decide +kernel
theorem dX2_worth_183 : decode cX2_worth 183 = .ok (.iconst 1, 1) := by decide +kernel
theorem dX2_worth_184 : decode cX2_worth 184 = .ok (.isub, 1) := by decide +kernel
theorem dX2_worth_185 : decode cX2_worth 185 = .ok (.iaload, 1) := by decide +kernel
theorem dX2_worth_186 : decode cX2_worth 186 = .ok (.aload_n 0, 1) := by decide +kernel
theorem dX2_worth_187 : decode cX2_worth 187 = .ok (.getfield 15, 3) := by decide +kernel
theorem dX2_worth_190 : decode cX2_worth 190 = .ok (.iload 4, 2) := by decide +kernel
theorem dX2_worth_192 : decode cX2_worth 192 = .ok (.iaload, 1) := by decide +kernel
theorem dX2_worth_193 : decode cX2_worth 193 = .ok (.invokestatic 28, 3) := by decide +kernel
theorem dX2_worth_196 : decode cX2_worth 196 = .ok (.iastore, 1) := by decide +kernel
theorem dX2_worth_197 : decode cX2_worth 197 = .ok (.iinc 5 1, 3) := by decide +kernel
theorem dX2_worth_200 : decode cX2_worth 200 = .ok (.goto (-194), 3) := by decide +kernel
theorem dX2_worth_203 : decode cX2_worth 203 = .ok (.aload_n 0, 1) := by decide +kernel
theorem dX2_worth_204 : decode cX2_worth 204 = .ok (.getfield 15, 3) := by decide +kernel
theorem dX2_worth_207 : decode cX2_worth 207 = .ok (.iconst 0, 1) := by decide +kernel
theorem dX2_worth_208 : decode cX2_worth 208 = .ok (.iaload, 1) := by decide +kernel
theorem dX2_worth_209 : decode cX2_worth 209 = .ok (.ireturn, 1) := by decide +kernel
theorem dX2_joined_0 : decode cX2_joined 0 = .ok (.iload_n 0, 1) := by decide +kernel
theorem dX2_joined_1 : decode cX2_joined 1 = .ok (.lookupswitch 188 #[(37, 176), (38, 105), (42, 160), (43, 152), (45, 156), (47, 164), (60, 119), (61, 130), (62, 141), (124, 91)], 91) := by decide +kernel
theorem dX2_joined_92 : decode cX2_joined 92 = .ok (.iload_n 1, 1) := by decide +kernel
theorem dX2_joined_93 : decode cX2_joined 93 = .ok (.ifCond .ne 7, 3) := by decide +kernel
theorem dX2_joined_96 : decode cX2_joined 96 = .ok (.iload_n 2, 1) := by decide +kernel
theorem dX2_joined_97 : decode cX2_joined 97 = .ok (.ifCond .eq 7, 3) := by decide +kernel
theorem dX2_joined_100 : decode cX2_joined 100 = .ok (.iconst 1, 1) := by decide +kernel
theorem dX2_joined_101 : decode cX2_joined 101 = .ok (.goto 4, 3) := by decide +kernel
theorem dX2_joined_104 : decode cX2_joined 104 = .ok (.iconst 0, 1) := by decide +kernel
theorem dX2_joined_105 : decode cX2_joined 105 = .ok (.ireturn, 1) := by decide +kernel
theorem dX2_joined_106 : decode cX2_joined 106 = .ok (.iload_n 1, 1) := by decide +kernel
theorem dX2_joined_107 : decode cX2_joined 107 = .ok (.ifCond .eq 11, 3) := by decide +kernel
theorem dX2_joined_110 : decode cX2_joined 110 = .ok (.iload_n 2, 1) := by decide +kernel
theorem dX2_joined_111 : decode cX2_joined 111 = .ok (.ifCond .eq 7, 3) := by decide +kernel
theorem dX2_joined_114 : decode cX2_joined 114 = .ok (.iconst 1, 1) := by decide +kernel
theorem dX2_joined_115 : decode cX2_joined 115 = .ok (.goto 4, 3) := by decide +kernel
theorem dX2_joined_118 : decode cX2_joined 118 = .ok (.iconst 0, 1) := by decide +kernel
theorem dX2_joined_119 : decode cX2_joined 119 = .ok (.ireturn, 1) := by decide +kernel
theorem dX2_joined_120 : decode cX2_joined 120 = .ok (.iload_n 1, 1) := by decide +kernel
theorem dX2_joined_121 : decode cX2_joined 121 = .ok (.iload_n 2, 1) := by decide +kernel
theorem dX2_joined_122 : decode cX2_joined 122 = .ok (.if_icmp .ge 7, 3) := by decide +kernel
theorem dX2_joined_125 : decode cX2_joined 125 = .ok (.iconst 1, 1) := by decide +kernel
theorem dX2_joined_126 : decode cX2_joined 126 = .ok (.goto 4, 3) := by decide +kernel
theorem dX2_joined_129 : decode cX2_joined 129 = .ok (.iconst 0, 1) := by decide +kernel
theorem dX2_joined_130 : decode cX2_joined 130 = .ok (.ireturn, 1) := by decide +kernel
theorem dX2_joined_131 : decode cX2_joined 131 = .ok (.iload_n 1, 1) := by decide +kernel
theorem dX2_joined_132 : decode cX2_joined 132 = .ok (.iload_n 2, 1) := by decide +kernel
theorem dX2_joined_133 : decode cX2_joined 133 = .ok (.if_icmp .ne 7, 3) := by decide +kernel
theorem dX2_joined_136 : decode cX2_joined 136 = .ok (.iconst 1, 1) := by decide +kernel
theorem dX2_joined_137 : decode cX2_joined 137 = .ok (.goto 4, 3) := by decide +kernel
theorem dX2_joined_140 : decode cX2_joined 140 = .ok (.iconst 0, 1) := by decide +kernel
theorem dX2_joined_141 : decode cX2_joined 141 = .ok (.ireturn, 1) := by decide +kernel
theorem dX2_joined_142 : decode cX2_joined 142 = .ok (.iload_n 1, 1) := by decide +kernel
theorem dX2_joined_143 : decode cX2_joined 143 = .ok (.iload_n 2, 1) := by decide +kernel
theorem dX2_joined_144 : decode cX2_joined 144 = .ok (.if_icmp .le 7, 3) := by decide +kernel
theorem dX2_joined_147 : decode cX2_joined 147 = .ok (.iconst 1, 1) := by decide +kernel
theorem dX2_joined_148 : decode cX2_joined 148 = .ok (.goto 4, 3) := by decide +kernel
theorem dX2_joined_151 : decode cX2_joined 151 = .ok (.iconst 0, 1) := by decide +kernel
theorem dX2_joined_152 : decode cX2_joined 152 = .ok (.ireturn, 1) := by decide +kernel
theorem dX2_joined_153 : decode cX2_joined 153 = .ok (.iload_n 1, 1) := by decide +kernel
theorem dX2_joined_154 : decode cX2_joined 154 = .ok (.iload_n 2, 1) := by decide +kernel
theorem dX2_joined_155 : decode cX2_joined 155 = .ok (.iadd, 1) := by decide +kernel
theorem dX2_joined_156 : decode cX2_joined 156 = .ok (.ireturn, 1) := by decide +kernel
theorem dX2_joined_157 : decode cX2_joined 157 = .ok (.iload_n 1, 1) := by decide +kernel
theorem dX2_joined_158 : decode cX2_joined 158 = .ok (.iload_n 2, 1) := by decide +kernel
theorem dX2_joined_159 : decode cX2_joined 159 = .ok (.isub, 1) := by decide +kernel
theorem dX2_joined_160 : decode cX2_joined 160 = .ok (.ireturn, 1) := by decide +kernel
theorem dX2_joined_161 : decode cX2_joined 161 = .ok (.iload_n 1, 1) := by decide +kernel
theorem dX2_joined_162 : decode cX2_joined 162 = .ok (.iload_n 2, 1) := by decide +kernel
theorem dX2_joined_163 : decode cX2_joined 163 = .ok (.imul, 1) := by decide +kernel
theorem dX2_joined_164 : decode cX2_joined 164 = .ok (.ireturn, 1) := by decide +kernel
theorem dX2_joined_165 : decode cX2_joined 165 = .ok (.iload_n 2, 1) := by decide +kernel
theorem dX2_joined_166 : decode cX2_joined 166 = .ok (.ifCond .ne 7, 3) := by decide +kernel
theorem dX2_joined_169 : decode cX2_joined 169 = .ok (.iconst 0, 1) := by decide +kernel
theorem dX2_joined_170 : decode cX2_joined 170 = .ok (.goto 6, 3) := by decide +kernel
theorem dX2_joined_173 : decode cX2_joined 173 = .ok (.iload_n 1, 1) := by decide +kernel
theorem dX2_joined_174 : decode cX2_joined 174 = .ok (.iload_n 2, 1) := by decide +kernel
theorem dX2_joined_175 : decode cX2_joined 175 = .ok (.idiv, 1) := by decide +kernel
theorem dX2_joined_176 : decode cX2_joined 176 = .ok (.ireturn, 1) := by decide +kernel
theorem dX2_joined_177 : decode cX2_joined 177 = .ok (.iload_n 2, 1) := by decide +kernel
theorem dX2_joined_178 : decode cX2_joined 178 = .ok (.ifCond .ne 7, 3) := by decide +kernel
theorem dX2_joined_181 : decode cX2_joined 181 = .ok (.iconst 0, 1) := by decide +kernel
theorem dX2_joined_182 : decode cX2_joined 182 = .ok (.goto 6, 3) := by decide +kernel
theorem dX2_joined_185 : decode cX2_joined 185 = .ok (.iload_n 1, 1) := by decide +kernel
theorem dX2_joined_186 : decode cX2_joined 186 = .ok (.iload_n 2, 1) := by decide +kernel
theorem dX2_joined_187 : decode cX2_joined 187 = .ok (.irem, 1) := by decide +kernel
theorem dX2_joined_188 : decode cX2_joined 188 = .ok (.ireturn, 1) := by decide +kernel
theorem dX2_joined_189 : decode cX2_joined 189 = .ok (.iconst 0, 1) := by decide +kernel
theorem dX2_joined_190 : decode cX2_joined 190 = .ok (.ireturn, 1) := by decide +kernel
theorem dX3_init_0 : decode cX3_init 0 = .ok (.aload_n 0, 1) := by decide +kernel
theorem dX3_init_1 : decode cX3_init 1 = .ok (.invokespecial 3, 3) := by decide +kernel
theorem dX3_init_4 : decode cX3_init 4 = .ok (.aload_n 0, 1) := by decide +kernel
theorem dX3_init_5 : decode cX3_init 5 = .ok (.iconst 2, 1) := by decide +kernel
theorem dX3_init_6 : decode cX3_init 6 = .ok (.putfield 9, 3) := by decide +kernel
theorem dX3_init_9 : decode cX3_init 9 = .ok (.aload_n 0, 1) := by decide +kernel
theorem dX3_init_10 : decode cX3_init 10 = .ok (.iconst 4, 1) := by decide +kernel
theorem dX3_init_11 : decode cX3_init 11 = .ok (.newarray .int, 2) := by decide +kernel
theorem dX3_init_13 : decode cX3_init 13 = .ok (.putfield 15, 3) := by decide +kernel
theorem dX3_init_16 : decode cX3_init 16 = .ok (.aload_n 0, 1) := by decide +kernel
theorem dX3_init_17 : decode cX3_init 17 = .ok (.new 19, 3) := by decide +kernel
theorem dX3_init_20 : decode cX3_init 20 = .ok (.dup, 1) := by decide +kernel
theorem dX3_init_21 : decode cX3_init 21 = .ok (.invokespecial 21, 3) := by decide +kernel
theorem dX3_init_24 : decode cX3_init 24 = .ok (.putfield 22, 3) := by decide +kernel
theorem dX3_init_27 : decode cX3_init 27 = .ok (.aload_n 0, 1) := by decide +kernel
theorem dX3_init_28 : decode cX3_init 28 = .ok (.new 19, 3) := by decide +kernel
theorem dX3_init_31 : decode cX3_init 31 = .ok (.dup, 1) := by decide +kernel
theorem dX3_init_32 : decode cX3_init 32 = .ok (.invokespecial 21, 3) := by decide +kernel
theorem dX3_init_35 : decode cX3_init 35 = .ok (.putfield 26, 3) := by decide +kernel
theorem dX3_init_38 : decode cX3_init 38 = .ok (.aload_n 0, 1) := by decide +kernel
theorem dX3_init_39 : decode cX3_init 39 = .ok (.sipush 2304, 3) := by decide +kernel
theorem dX3_init_42 : decode cX3_init 42 = .ok (.newarray .int, 2) := by decide +kernel
theorem dX3_init_44 : decode cX3_init 44 = .ok (.putfield 29, 3) := by decide +kernel
theorem dX3_init_47 : decode cX3_init 47 = .ok (.aload_n 0, 1) := by decide +kernel
theorem dX3_init_48 : decode cX3_init 48 = .ok (.getfield 29, 3) := by decide +kernel
theorem dX3_init_51 : decode cX3_init 51 = .ok (.iconst (-1), 1) := by decide +kernel
theorem dX3_init_52 : decode cX3_init 52 = .ok (.invokestatic 32, 3) := by decide +kernel
theorem dX3_init_55 : decode cX3_init 55 = .ok (.return_, 1) := by decide +kernel
theorem dX3_copy_0 : decode cX3_copy 0 = .ok (.aload_n 0, 1) := by decide +kernel
theorem dX3_copy_1 : decode cX3_copy 1 = .ok (.aload_n 1, 1) := by decide +kernel
theorem dX3_copy_2 : decode cX3_copy 2 = .ok (.getfield 9, 3) := by decide +kernel
theorem dX3_copy_5 : decode cX3_copy 5 = .ok (.putfield 9, 3) := by decide +kernel
theorem dX3_copy_8 : decode cX3_copy 8 = .ok (.aload_n 1, 1) := by decide +kernel
theorem dX3_copy_9 : decode cX3_copy 9 = .ok (.getfield 15, 3) := by decide +kernel
theorem dX3_copy_12 : decode cX3_copy 12 = .ok (.iconst 0, 1) := by decide +kernel
theorem dX3_copy_13 : decode cX3_copy 13 = .ok (.aload_n 0, 1) := by decide +kernel
theorem dX3_copy_14 : decode cX3_copy 14 = .ok (.getfield 15, 3) := by decide +kernel
theorem dX3_copy_17 : decode cX3_copy 17 = .ok (.iconst 0, 1) := by decide +kernel
theorem dX3_copy_18 : decode cX3_copy 18 = .ok (.iconst 4, 1) := by decide +kernel
theorem dX3_copy_19 : decode cX3_copy 19 = .ok (.invokestatic 38, 3) := by decide +kernel
theorem dX3_copy_22 : decode cX3_copy 22 = .ok (.aload_n 0, 1) := by decide +kernel
theorem dX3_copy_23 : decode cX3_copy 23 = .ok (.getfield 22, 3) := by decide +kernel
theorem dX3_copy_26 : decode cX3_copy 26 = .ok (.aload_n 1, 1) := by decide +kernel
theorem dX3_copy_27 : decode cX3_copy 27 = .ok (.getfield 22, 3) := by decide +kernel
theorem dX3_copy_30 : decode cX3_copy 30 = .ok (.invokevirtual 44, 3) := by decide +kernel
theorem dX3_copy_33 : decode cX3_copy 33 = .ok (.aload_n 0, 1) := by decide +kernel
theorem dX3_copy_34 : decode cX3_copy 34 = .ok (.getfield 26, 3) := by decide +kernel
theorem dX3_copy_37 : decode cX3_copy 37 = .ok (.aload_n 1, 1) := by decide +kernel
theorem dX3_copy_38 : decode cX3_copy 38 = .ok (.getfield 26, 3) := by decide +kernel
theorem dX3_copy_41 : decode cX3_copy 41 = .ok (.invokevirtual 44, 3) := by decide +kernel
theorem dX3_copy_44 : decode cX3_copy 44 = .ok (.aload_n 0, 1) := by decide +kernel
theorem dX3_copy_45 : decode cX3_copy 45 = .ok (.getfield 29, 3) := by decide +kernel
theorem dX3_copy_48 : decode cX3_copy 48 = .ok (.iconst (-1), 1) := by decide +kernel
theorem dX3_copy_49 : decode cX3_copy 49 = .ok (.invokestatic 32, 3) := by decide +kernel
theorem dX3_copy_52 : decode cX3_copy 52 = .ok (.return_, 1) := by decide +kernel
theorem dX3_adopt_0 : decode cX3_adopt 0 = .ok (.iload_n 1, 1) := by decide +kernel
theorem dX3_adopt_1 : decode cX3_adopt 1 = .ok (.ifCond .ne 22, 3) := by decide +kernel
theorem dX3_adopt_4 : decode cX3_adopt 4 = .ok (.aload_n 0, 1) := by decide +kernel
theorem dX3_adopt_5 : decode cX3_adopt 5 = .ok (.getfield 22, 3) := by decide +kernel
theorem dX3_adopt_8 : decode cX3_adopt 8 = .ok (.aload_n 2, 1) := by decide +kernel
theorem dX3_adopt_9 : decode cX3_adopt 9 = .ok (.invokevirtual 44, 3) := by decide +kernel
theorem dX3_adopt_12 : decode cX3_adopt 12 = .ok (.aload_n 0, 1) := by decide +kernel
theorem dX3_adopt_13 : decode cX3_adopt 13 = .ok (.getfield 29, 3) := by decide +kernel
theorem dX3_adopt_16 : decode cX3_adopt 16 = .ok (.iconst (-1), 1) := by decide +kernel
theorem dX3_adopt_17 : decode cX3_adopt 17 = .ok (.invokestatic 32, 3) := by decide +kernel
theorem dX3_adopt_20 : decode cX3_adopt 20 = .ok (.goto 11, 3) := by decide +kernel
theorem dX3_adopt_23 : decode cX3_adopt 23 = .ok (.aload_n 0, 1) := by decide +kernel
theorem dX3_adopt_24 : decode cX3_adopt 24 = .ok (.getfield 26, 3) := by decide +kernel
theorem dX3_adopt_27 : decode cX3_adopt 27 = .ok (.aload_n 2, 1) := by decide +kernel
theorem dX3_adopt_28 : decode cX3_adopt 28 = .ok (.invokevirtual 44, 3) := by decide +kernel
theorem dX3_adopt_31 : decode cX3_adopt 31 = .ok (.return_, 1) := by decide +kernel
theorem dX3_tideIn_0 : decode cX3_tideIn 0 = .ok (.aload_n 0, 1) := by decide +kernel
theorem dX3_tideIn_1 : decode cX3_tideIn 1 = .ok (.getfield 15, 3) := by decide +kernel
theorem dX3_tideIn_4 : decode cX3_tideIn 4 = .ok (.iload_n 1, 1) := by decide +kernel
theorem dX3_tideIn_5 : decode cX3_tideIn 5 = .ok (.iconst 3, 1) := by decide +kernel
theorem dX3_tideIn_6 : decode cX3_tideIn 6 = .ok (.ishr, 1) := by decide +kernel
theorem dX3_tideIn_7 : decode cX3_tideIn 7 = .ok (.iconst 3, 1) := by decide +kernel
theorem dX3_tideIn_8 : decode cX3_tideIn 8 = .ok (.iand, 1) := by decide +kernel
theorem dX3_tideIn_9 : decode cX3_tideIn 9 = .ok (.iaload, 1) := by decide +kernel
theorem dX3_tideIn_10 : decode cX3_tideIn 10 = .ok (.ireturn, 1) := by decide +kernel
theorem dX3_lagBy_0 : decode cX3_lagBy 0 = .ok (.iload_n 2, 1) := by decide +kernel
theorem dX3_lagBy_1 : decode cX3_lagBy 1 = .ok (.iconst 1, 1) := by decide +kernel
theorem dX3_lagBy_2 : decode cX3_lagBy 2 = .ok (.isub, 1) := by decide +kernel
theorem dX3_lagBy_3 : decode cX3_lagBy 3 = .ok (.bipush 32, 2) := by decide +kernel
theorem dX3_lagBy_5 : decode cX3_lagBy 5 = .ok (.imul, 1) := by decide +kernel
theorem dX3_lagBy_6 : decode cX3_lagBy 6 = .ok (.iload_n 3, 1) := by decide +kernel
theorem dX3_lagBy_7 : decode cX3_lagBy 7 = .ok (.iadd, 1) := by decide +kernel
theorem dX3_lagBy_8 : decode cX3_lagBy 8 = .ok (.bipush 8, 2) := by decide +kernel
theorem dX3_lagBy_10 : decode cX3_lagBy 10 = .ok (.imul, 1) := by decide +kernel
theorem dX3_lagBy_11 : decode cX3_lagBy 11 = .ok (.iload_n 1, 1) := by decide +kernel
theorem dX3_lagBy_12 : decode cX3_lagBy 12 = .ok (.iadd, 1) := by decide +kernel
theorem dX3_lagBy_13 : decode cX3_lagBy 13 = .ok (.istore 4, 2) := by decide +kernel
theorem dX3_lagBy_15 : decode cX3_lagBy 15 = .ok (.iload 4, 2) := by decide +kernel
theorem dX3_lagBy_17 : decode cX3_lagBy 17 = .ok (.ifCond .lt 13, 3) := by decide +kernel
theorem dX3_lagBy_20 : decode cX3_lagBy 20 = .ok (.iload 4, 2) := by decide +kernel
theorem dX3_lagBy_22 : decode cX3_lagBy 22 = .ok (.aload_n 0, 1) := by decide +kernel
theorem dX3_lagBy_23 : decode cX3_lagBy 23 = .ok (.getfield 29, 3) := by decide +kernel
theorem dX3_lagBy_26 : decode cX3_lagBy 26 = .ok (.arraylength, 1) := by decide +kernel
theorem dX3_lagBy_27 : decode cX3_lagBy 27 = .ok (.if_icmp .lt 12, 3) := by decide +kernel
theorem dX3_lagBy_30 : decode cX3_lagBy 30 = .ok (.aload_n 0, 1) := by decide +kernel
theorem dX3_lagBy_31 : decode cX3_lagBy 31 = .ok (.iconst 0, 1) := by decide +kernel
theorem dX3_lagBy_32 : decode cX3_lagBy 32 = .ok (.iload_n 1, 1) := by decide +kernel
theorem dX3_lagBy_33 : decode cX3_lagBy 33 = .ok (.iload_n 2, 1) := by decide +kernel
theorem dX3_lagBy_34 : decode cX3_lagBy 34 = .ok (.iload_n 3, 1) := by decide +kernel
theorem dX3_lagBy_35 : decode cX3_lagBy 35 = .ok (.invokevirtual 48, 3) := by decide +kernel
theorem dX3_lagBy_38 : decode cX3_lagBy 38 = .ok (.ireturn, 1) := by decide +kernel
theorem dX3_lagBy_39 : decode cX3_lagBy 39 = .ok (.aload_n 0, 1) := by decide +kernel
theorem dX3_lagBy_40 : decode cX3_lagBy 40 = .ok (.getfield 29, 3) := by decide +kernel
theorem dX3_lagBy_43 : decode cX3_lagBy 43 = .ok (.iload 4, 2) := by decide +kernel
theorem dX3_lagBy_45 : decode cX3_lagBy 45 = .ok (.iaload, 1) := by decide +kernel
theorem dX3_lagBy_46 : decode cX3_lagBy 46 = .ok (.iconst (-1), 1) := by decide +kernel
theorem dX3_lagBy_47 : decode cX3_lagBy 47 = .ok (.if_icmp .ne 18, 3) := by decide +kernel
theorem dX3_lagBy_50 : decode cX3_lagBy 50 = .ok (.aload_n 0, 1) := by decide +kernel
theorem dX3_lagBy_51 : decode cX3_lagBy 51 = .ok (.getfield 29, 3) := by decide +kernel
theorem dX3_lagBy_54 : decode cX3_lagBy 54 = .ok (.iload 4, 2) := by decide +kernel
theorem dX3_lagBy_56 : decode cX3_lagBy 56 = .ok (.aload_n 0, 1) := by decide +kernel
theorem dX3_lagBy_57 : decode cX3_lagBy 57 = .ok (.iconst 0, 1) := by decide +kernel
theorem dX3_lagBy_58 : decode cX3_lagBy 58 = .ok (.iload_n 1, 1) := by decide +kernel
theorem dX3_lagBy_59 : decode cX3_lagBy 59 = .ok (.iload_n 2, 1) := by decide +kernel
theorem dX3_lagBy_60 : decode cX3_lagBy 60 = .ok (.iload_n 3, 1) := by decide +kernel
theorem dX3_lagBy_61 : decode cX3_lagBy 61 = .ok (.invokevirtual 48, 3) := by decide +kernel
theorem dX3_lagBy_64 : decode cX3_lagBy 64 = .ok (.iastore, 1) := by decide +kernel
theorem dX3_lagBy_65 : decode cX3_lagBy 65 = .ok (.aload_n 0, 1) := by decide +kernel
theorem dX3_lagBy_66 : decode cX3_lagBy 66 = .ok (.getfield 29, 3) := by decide +kernel
theorem dX3_lagBy_69 : decode cX3_lagBy 69 = .ok (.iload 4, 2) := by decide +kernel
theorem dX3_lagBy_71 : decode cX3_lagBy 71 = .ok (.iaload, 1) := by decide +kernel
theorem dX3_lagBy_72 : decode cX3_lagBy 72 = .ok (.ireturn, 1) := by decide +kernel
theorem dX3_gives_0 : decode cX3_gives 0 = .ok (.iload_n 1, 1) := by decide +kernel
theorem dX3_gives_1 : decode cX3_gives 1 = .ok (.ifCond .ne 10, 3) := by decide +kernel
theorem dX3_gives_4 : decode cX3_gives 4 = .ok (.aload_n 0, 1) := by decide +kernel
theorem dX3_gives_5 : decode cX3_gives 5 = .ok (.getfield 22, 3) := by decide +kernel
theorem dX3_gives_8 : decode cX3_gives 8 = .ok (.goto 7, 3) := by decide +kernel
theorem dX3_gives_11 : decode cX3_gives 11 = .ok (.aload_n 0, 1) := by decide +kernel
theorem dX3_gives_12 : decode cX3_gives 12 = .ok (.getfield 26, 3) := by decide +kernel
theorem dX3_gives_15 : decode cX3_gives 15 = .ok (.astore 5, 2) := by decide +kernel
theorem dX3_gives_17 : decode cX3_gives 17 = .ok (.aload 5, 2) := by decide +kernel
theorem dX3_gives_19 : decode cX3_gives 19 = .ok (.invokevirtual 52, 3) := by decide +kernel
theorem dX3_gives_22 : decode cX3_gives 22 = .ok (.ifCond .eq 15, 3) := by decide +kernel
theorem dX3_gives_25 : decode cX3_gives 25 = .ok (.aload 5, 2) := by decide +kernel
theorem dX3_gives_27 : decode cX3_gives 27 = .ok (.iload_n 2, 1) := by decide +kernel
theorem dX3_gives_28 : decode cX3_gives 28 = .ok (.iload_n 3, 1) := by decide +kernel
theorem dX3_gives_29 : decode cX3_gives 29 = .ok (.iload 4, 2) := by decide +kernel
theorem dX3_gives_31 : decode cX3_gives 31 = .ok (.invokevirtual 56, 3) := by decide +kernel
theorem dX3_gives_34 : decode cX3_gives 34 = .ok (.goto 9, 3) := by decide +kernel
theorem dX3_gives_37 : decode cX3_gives 37 = .ok (.iload_n 1, 1) := by decide +kernel
theorem dX3_gives_38 : decode cX3_gives 38 = .ok (.iload_n 2, 1) := by decide +kernel
theorem dX3_gives_39 : decode cX3_gives 39 = .ok (.iload_n 3, 1) := by decide +kernel
theorem dX3_gives_40 : decode cX3_gives 40 = .ok (.invokestatic 60, 3) := by decide +kernel
theorem dX3_gives_43 : decode cX3_gives 43 = .ok (.istore 6, 2) := by decide +kernel
theorem dX3_gives_45 : decode cX3_gives 45 = .ok (.iconst 0, 1) := by decide +kernel
theorem dX3_gives_46 : decode cX3_gives 46 = .ok (.bipush 99, 2) := by decide +kernel
theorem dX3_gives_48 : decode cX3_gives 48 = .ok (.iload 6, 2) := by decide +kernel
theorem dX3_gives_50 : decode cX3_gives 50 = .ok (.invokestatic 63, 3) := by decide +kernel
theorem dX3_gives_53 : decode cX3_gives 53 = .ok (.invokestatic 69, 3) := by decide +kernel
theorem dX3_gives_56 : decode cX3_gives 56 = .ok (.ireturn, 1) := by decide +kernel
theorem dX3_withoutText_0 : decode cX3_withoutText 0 = .ok (.iload_n 0, 1) := by decide +kernel
theorem dX3_withoutText_1 : decode cX3_withoutText 1 = .ok (.iconst 1, 1) := by decide +kernel
theorem dX3_withoutText_2 : decode cX3_withoutText 2 = .ok (.if_icmp .ne 5, 3) := by decide +kernel
theorem dX3_withoutText_5 : decode cX3_withoutText 5 = .ok (.iload_n 2, 1) := by decide +kernel
theorem dX3_withoutText_6 : decode cX3_withoutText 6 = .ok (.ireturn, 1) := by decide +kernel
theorem dX3_withoutText_7 : decode cX3_withoutText 7 = .ok (.iload_n 2, 1) := by decide +kernel
theorem dX3_withoutText_8 : decode cX3_withoutText 8 = .ok (.ifCond .ne 7, 3) := by decide +kernel
theorem dX3_withoutText_11 : decode cX3_withoutText 11 = .ok (.iconst 0, 1) := by decide +kernel
theorem dX3_withoutText_12 : decode cX3_withoutText 12 = .ok (.goto 6, 3) := by decide +kernel
theorem dX3_withoutText_15 : decode cX3_withoutText 15 = .ok (.iload_n 1, 1) := by decide +kernel
theorem dX3_withoutText_16 : decode cX3_withoutText 16 = .ok (.iload_n 2, 1) := by decide +kernel
theorem dX3_withoutText_17 : decode cX3_withoutText 17 = .ok (.idiv, 1) := by decide +kernel
theorem dX3_withoutText_18 : decode cX3_withoutText 18 = .ok (.ireturn, 1) := by decide +kernel
theorem dX4_init_0 : decode cX4_init 0 = .ok (.aload_n 0, 1) := by decide +kernel
theorem dX4_init_1 : decode cX4_init 1 = .ok (.invokespecial 3, 3) := by decide +kernel
theorem dX4_init_4 : decode cX4_init 4 = .ok (.aload_n 0, 1) := by decide +kernel
theorem dX4_init_5 : decode cX4_init 5 = .ok (.new 9, 3) := by decide +kernel
theorem dX4_init_8 : decode cX4_init 8 = .ok (.dup, 1) := by decide +kernel
theorem dX4_init_9 : decode cX4_init 9 = .ok (.invokespecial 11, 3) := by decide +kernel
theorem dX4_init_12 : decode cX4_init 12 = .ok (.putfield 12, 3) := by decide +kernel
theorem dX4_init_15 : decode cX4_init 15 = .ok (.aload_n 0, 1) := by decide +kernel
theorem dX4_init_16 : decode cX4_init 16 = .ok (.sipush 129, 3) := by decide +kernel
theorem dX4_init_19 : decode cX4_init 19 = .ok (.bipush 9, 2) := by decide +kernel
theorem dX4_init_21 : decode cX4_init 21 = .ok (.multianewarray 18 2, 4) := by decide +kernel
theorem dX4_init_25 : decode cX4_init 25 = .ok (.putfield 20, 3) := by decide +kernel
theorem dX4_init_28 : decode cX4_init 28 = .ok (.aload_n 0, 1) := by decide +kernel
theorem dX4_init_29 : decode cX4_init 29 = .ok (.sipush 129, 3) := by decide +kernel
theorem dX4_init_32 : decode cX4_init 32 = .ok (.newarray .int, 2) := by decide +kernel
theorem dX4_init_34 : decode cX4_init 34 = .ok (.putfield 23, 3) := by decide +kernel
theorem dX4_init_37 : decode cX4_init 37 = .ok (.return_, 1) := by decide +kernel
theorem dX4_watch_0 : decode cX4_watch 0 = .ok (.aload_n 0, 1) := by decide +kernel
theorem dX4_watch_1 : decode cX4_watch 1 = .ok (.getfield 12, 3) := by decide +kernel
theorem dX4_watch_4 : decode cX4_watch 4 = .ok (.aload_n 1, 1) := by decide +kernel
theorem dX4_watch_5 : decode cX4_watch 5 = .ok (.getfield 27, 3) := by decide +kernel
theorem dX4_watch_8 : decode cX4_watch 8 = .ok (.invokevirtual 30, 3) := by decide +kernel
theorem dX4_watch_11 : decode cX4_watch 11 = .ok (.aload_n 0, 1) := by decide +kernel
theorem dX4_watch_12 : decode cX4_watch 12 = .ok (.aload_n 1, 1) := by decide +kernel
theorem dX4_watch_13 : decode cX4_watch 13 = .ok (.getfield 34, 3) := by decide +kernel
theorem dX4_watch_16 : decode cX4_watch 16 = .ok (.putfield 38, 3) := by decide +kernel
theorem dX4_watch_19 : decode cX4_watch 19 = .ok (.aload_n 0, 1) := by decide +kernel
theorem dX4_watch_20 : decode cX4_watch 20 = .ok (.iconst 0, 1) := by decide +kernel
theorem dX4_watch_21 : decode cX4_watch 21 = .ok (.sipush 128, 3) := by decide +kernel
theorem dX4_watch_24 : decode cX4_watch 24 = .ok (.iload_n 2, 1) := by decide +kernel
theorem dX4_watch_25 : decode cX4_watch 25 = .ok (.invokestatic 39, 3) := by decide +kernel
theorem dX4_watch_28 : decode cX4_watch 28 = .ok (.invokestatic 45, 3) := by decide +kernel
theorem dX4_watch_31 : decode cX4_watch 31 = .ok (.putfield 48, 3) := by decide +kernel
theorem dX4_watch_34 : decode cX4_watch 34 = .ok (.aload_n 0, 1) := by decide +kernel
theorem dX4_watch_35 : decode cX4_watch 35 = .ok (.getfield 23, 3) := by decide +kernel
theorem dX4_watch_38 : decode cX4_watch 38 = .ok (.iconst 0, 1) := by decide +kernel
theorem dX4_watch_39 : decode cX4_watch 39 = .ok (.invokestatic 51, 3) := by decide +kernel
theorem dX4_watch_42 : decode cX4_watch 42 = .ok (.return_, 1) := by decide +kernel
theorem dX4_sail_0 : decode cX4_sail 0 = .ok (.aload_n 0, 1) := by decide +kernel
theorem dX4_sail_1 : decode cX4_sail 1 = .ok (.getfield 12, 3) := by decide +kernel
theorem dX4_sail_4 : decode cX4_sail 4 = .ok (.iload_n 2, 1) := by decide +kernel
theorem dX4_sail_5 : decode cX4_sail 5 = .ok (.invokevirtual 57, 3) := by decide +kernel
theorem dX4_sail_8 : decode cX4_sail 8 = .ok (.ifCond .ne 4, 3) := by decide +kernel
theorem dX4_sail_11 : decode cX4_sail 11 = .ok (.return_, 1) := by decide +kernel
theorem dX4_sail_12 : decode cX4_sail 12 = .ok (.aload_n 0, 1) := by decide +kernel
theorem dX4_sail_13 : decode cX4_sail 13 = .ok (.getfield 12, 3) := by decide +kernel
theorem dX4_sail_16 : decode cX4_sail 16 = .ok (.getfield 61, 3) := by decide +kernel
theorem dX4_sail_19 : decode cX4_sail 19 = .ok (.iload_n 2, 1) := by decide +kernel
theorem dX4_sail_20 : decode cX4_sail 20 = .ok (.iaload, 1) := by decide +kernel
theorem dX4_sail_21 : decode cX4_sail 21 = .ok (.istore_n 3, 1) := by decide +kernel
theorem dX4_sail_22 : decode cX4_sail 22 = .ok (.iconst 0, 1) := by decide +kernel
theorem dX4_sail_23 : decode cX4_sail 23 = .ok (.istore 4, 2) := by decide +kernel
theorem dX4_sail_25 : decode cX4_sail 25 = .ok (.iload 4, 2) := by decide +kernel
theorem dX4_sail_27 : decode cX4_sail 27 = .ok (.aload_n 0, 1) := by decide +kernel
theorem dX4_sail_28 : decode cX4_sail 28 = .ok (.getfield 48, 3) := by decide +kernel
theorem dX4_sail_31 : decode cX4_sail 31 = .ok (.if_icmp .gt 107, 3) := by decide +kernel
theorem dX4_sail_34 : decode cX4_sail 34 = .ok (.iload 4, 2) := by decide +kernel
theorem dX4_sail_36 : decode cX4_sail 36 = .ok (.sipush 128, 3) := by decide +kernel
theorem dX4_sail_39 : decode cX4_sail 39 = .ok (.if_icmp .gt 99, 3) := by decide +kernel
theorem dX4_sail_42 : decode cX4_sail 42 = .ok (.aload_n 0, 1) := by decide +kernel
theorem dX4_sail_43 : decode cX4_sail 43 = .ok (.getfield 38, 3) := by decide +kernel
theorem dX4_sail_46 : decode cX4_sail 46 = .ok (.iload 4, 2) := by decide +kernel
theorem dX4_sail_48 : decode cX4_sail 48 = .ok (.iadd, 1) := by decide +kernel
theorem dX4_sail_49 : decode cX4_sail 49 = .ok (.bipush 31, 2) := by decide +kernel
theorem dX4_sail_51 : decode cX4_sail 51 = .ok (.iand, 1) := by decide +kernel
theorem dX4_sail_52 : decode cX4_sail 52 = .ok (.istore 5, 2) := by decide +kernel
theorem dX4_sail_54 : decode cX4_sail 54 = .ok (.iconst 1, 1) := by decide +kernel
theorem dX4_sail_55 : decode cX4_sail 55 = .ok (.iload_n 2, 1) := by decide +kernel
theorem dX4_sail_56 : decode cX4_sail 56 = .ok (.ishl, 1) := by decide +kernel
theorem dX4_sail_57 : decode cX4_sail 57 = .ok (.istore 6, 2) := by decide +kernel
theorem dX4_sail_59 : decode cX4_sail 59 = .ok (.aload_n 0, 1) := by decide +kernel
theorem dX4_sail_60 : decode cX4_sail 60 = .ok (.getfield 20, 3) := by decide +kernel
theorem dX4_sail_63 : decode cX4_sail 63 = .ok (.iload 4, 2) := by decide +kernel
theorem dX4_sail_65 : decode cX4_sail 65 = .ok (.aaload, 1) := by decide +kernel
theorem dX4_sail_66 : decode cX4_sail 66 = .ok (.iload_n 2, 1) := by decide +kernel
theorem dX4_sail_67 : decode cX4_sail 67 = .ok (.iload_n 3, 1) := by decide +kernel
theorem dX4_sail_68 : decode cX4_sail 68 = .ok (.iastore, 1) := by decide +kernel
theorem dX4_sail_69 : decode cX4_sail 69 = .ok (.aload_n 0, 1) := by decide +kernel
theorem dX4_sail_70 : decode cX4_sail 70 = .ok (.getfield 23, 3) := by decide +kernel
theorem dX4_sail_73 : decode cX4_sail 73 = .ok (.iload 4, 2) := by decide +kernel
theorem dX4_sail_75 : decode cX4_sail 75 = .ok (.aload_n 0, 1) := by decide +kernel
theorem dX4_sail_76 : decode cX4_sail 76 = .ok (.getfield 12, 3) := by decide +kernel
theorem dX4_sail_79 : decode cX4_sail 79 = .ok (.iload_n 2, 1) := by decide +kernel
theorem dX4_sail_80 : decode cX4_sail 80 = .ok (.iload 5, 2) := by decide +kernel
theorem dX4_sail_82 : decode cX4_sail 82 = .ok (.invokevirtual 63, 3) := by decide +kernel
theorem dX4_sail_85 : decode cX4_sail 85 = .ok (.ifCond .eq 16, 3) := by decide +kernel
theorem dX4_sail_88 : decode cX4_sail 88 = .ok (.aload_n 0, 1) := by decide +kernel
theorem dX4_sail_89 : decode cX4_sail 89 = .ok (.getfield 23, 3) := by decide +kernel
theorem dX4_sail_92 : decode cX4_sail 92 = .ok (.iload 4, 2) := by decide +kernel
theorem dX4_sail_94 : decode cX4_sail 94 = .ok (.iaload, 1) := by decide +kernel
theorem dX4_sail_95 : decode cX4_sail 95 = .ok (.iload 6, 2) := by decide +kernel
theorem dX4_sail_97 : decode cX4_sail 97 = .ok (.ior, 1) := by decide +kernel
theorem dX4_sail_98 : decode cX4_sail 98 = .ok (.goto 15, 3) := by decide +kernel
theorem dX4_sail_101 : decode cX4_sail 101 = .ok (.aload_n 0, 1) := by decide +kernel
theorem dX4_sail_102 : decode cX4_sail 102 = .ok (.getfield 23, 3) := by decide +kernel
theorem dX4_sail_105 : decode cX4_sail 105 = .ok (.iload 4, 2) := by decide +kernel
theorem dX4_sail_107 : decode cX4_sail 107 = .ok (.iaload, 1) := by decide +kernel
theorem dX4_sail_108 : decode cX4_sail 108 = .ok (.iload 6, 2) := by decide +kernel
theorem dX4_sail_110 : decode cX4_sail 110 = .ok (.iconst (-1), 1) := by decide +kernel
theorem dX4_sail_111 : decode cX4_sail 111 = .ok (.ixor, 1) := by decide +kernel
theorem dX4_sail_112 : decode cX4_sail 112 = .ok (.iand, 1) := by decide +kernel
theorem dX4_sail_113 : decode cX4_sail 113 = .ok (.iastore, 1) := by decide +kernel
theorem dX4_sail_114 : decode cX4_sail 114 = .ok (.aload_n 0, 1) := by decide +kernel
theorem dX4_sail_115 : decode cX4_sail 115 = .ok (.getfield 12, 3) := by decide +kernel
theorem dX4_sail_118 : decode cX4_sail 118 = .ok (.iload_n 2, 1) := by decide +kernel
theorem dX4_sail_119 : decode cX4_sail 119 = .ok (.iload_n 3, 1) := by decide +kernel
theorem dX4_sail_120 : decode cX4_sail 120 = .ok (.iload 5, 2) := by decide +kernel
theorem dX4_sail_122 : decode cX4_sail 122 = .ok (.aload_n 1, 1) := by decide +kernel
theorem dX4_sail_123 : decode cX4_sail 123 = .ok (.iload 5, 2) := by decide +kernel
theorem dX4_sail_125 : decode cX4_sail 125 = .ok (.invokevirtual 67, 3) := by decide +kernel
theorem dX4_sail_128 : decode cX4_sail 128 = .ok (.invokevirtual 73, 3) := by decide +kernel
theorem dX4_sail_131 : decode cX4_sail 131 = .ok (.istore_n 3, 1) := by decide +kernel
theorem dX4_sail_132 : decode cX4_sail 132 = .ok (.iinc 4 1, 3) := by decide +kernel
theorem dX4_sail_135 : decode cX4_sail 135 = .ok (.goto (-110), 3) := by decide +kernel
theorem dX4_sail_138 : decode cX4_sail 138 = .ok (.return_, 1) := by decide +kernel
theorem dX4_cellBehind_0 : decode cX4_cellBehind 0 = .ok (.iload_n 1, 1) := by decide +kernel
theorem dX4_cellBehind_1 : decode cX4_cellBehind 1 = .ok (.ifCond .lt 32, 3) := by decide +kernel
theorem dX4_cellBehind_4 : decode cX4_cellBehind 4 = .ok (.iload_n 1, 1) := by decide +kernel
theorem dX4_cellBehind_5 : decode cX4_cellBehind 5 = .ok (.sipush 128, 3) := by decide +kernel
theorem dX4_cellBehind_8 : decode cX4_cellBehind 8 = .ok (.if_icmp .gt 25, 3) := by decide +kernel
theorem dX4_cellBehind_11 : decode cX4_cellBehind 11 = .ok (.aload_n 0, 1) := by decide +kernel
theorem dX4_cellBehind_12 : decode cX4_cellBehind 12 = .ok (.getfield 12, 3) := by decide +kernel
theorem dX4_cellBehind_15 : decode cX4_cellBehind 15 = .ok (.iload_n 2, 1) := by decide +kernel
theorem dX4_cellBehind_16 : decode cX4_cellBehind 16 = .ok (.invokevirtual 57, 3) := by decide +kernel
theorem dX4_cellBehind_19 : decode cX4_cellBehind 19 = .ok (.ifCond .eq 14, 3) := by decide +kernel
theorem dX4_cellBehind_22 : decode cX4_cellBehind 22 = .ok (.aload_n 0, 1) := by decide +kernel
theorem dX4_cellBehind_23 : decode cX4_cellBehind 23 = .ok (.getfield 20, 3) := by decide +kernel
theorem dX4_cellBehind_26 : decode cX4_cellBehind 26 = .ok (.iload_n 1, 1) := by decide +kernel
theorem dX4_cellBehind_27 : decode cX4_cellBehind 27 = .ok (.aaload, 1) := by decide +kernel
theorem dX4_cellBehind_28 : decode cX4_cellBehind 28 = .ok (.iload_n 2, 1) := by decide +kernel
theorem dX4_cellBehind_29 : decode cX4_cellBehind 29 = .ok (.iaload, 1) := by decide +kernel
theorem dX4_cellBehind_30 : decode cX4_cellBehind 30 = .ok (.goto 4, 3) := by decide +kernel
theorem dX4_cellBehind_33 : decode cX4_cellBehind 33 = .ok (.iconst 0, 1) := by decide +kernel
theorem dX4_cellBehind_34 : decode cX4_cellBehind 34 = .ok (.ireturn, 1) := by decide +kernel
theorem dX4_inTime_0 : decode cX4_inTime 0 = .ok (.iconst 0, 1) := by decide +kernel
theorem dX4_inTime_1 : decode cX4_inTime 1 = .ok (.istore 4, 2) := by decide +kernel
theorem dX4_inTime_3 : decode cX4_inTime 3 = .ok (.iconst 0, 1) := by decide +kernel
theorem dX4_inTime_4 : decode cX4_inTime 4 = .ok (.istore 5, 2) := by decide +kernel
theorem dX4_inTime_6 : decode cX4_inTime 6 = .ok (.iload 5, 2) := by decide +kernel
theorem dX4_inTime_8 : decode cX4_inTime 8 = .ok (.aload_n 0, 1) := by decide +kernel
theorem dX4_inTime_9 : decode cX4_inTime 9 = .ok (.getfield 48, 3) := by decide +kernel
theorem dX4_inTime_12 : decode cX4_inTime 12 = .ok (.if_icmp .ge 57, 3) := by decide +kernel
theorem dX4_inTime_15 : decode cX4_inTime 15 = .ok (.iload 5, 2) := by decide +kernel
theorem dX4_inTime_17 : decode cX4_inTime 17 = .ok (.sipush 128, 3) := by decide +kernel
theorem dX4_inTime_20 : decode cX4_inTime 20 = .ok (.if_icmp .ge 49, 3) := by decide +kernel
theorem dX4_inTime_23 : decode cX4_inTime 23 = .ok (.aload_n 0, 1) := by decide +kernel
theorem dX4_inTime_24 : decode cX4_inTime 24 = .ok (.getfield 12, 3) := by decide +kernel
theorem dX4_inTime_27 : decode cX4_inTime 27 = .ok (.aload_n 1, 1) := by decide +kernel
theorem dX4_inTime_28 : decode cX4_inTime 28 = .ok (.aload_n 0, 1) := by decide +kernel
theorem dX4_inTime_29 : decode cX4_inTime 29 = .ok (.getfield 20, 3) := by decide +kernel
theorem dX4_inTime_32 : decode cX4_inTime 32 = .ok (.iload 5, 2) := by decide +kernel
theorem dX4_inTime_34 : decode cX4_inTime 34 = .ok (.aaload, 1) := by decide +kernel
theorem dX4_inTime_35 : decode cX4_inTime 35 = .ok (.iload_n 2, 1) := by decide +kernel
theorem dX4_inTime_36 : decode cX4_inTime 36 = .ok (.aload_n 0, 1) := by decide +kernel
theorem dX4_inTime_37 : decode cX4_inTime 37 = .ok (.getfield 38, 3) := by decide +kernel
theorem dX4_inTime_40 : decode cX4_inTime 40 = .ok (.iload 5, 2) := by decide +kernel
theorem dX4_inTime_42 : decode cX4_inTime 42 = .ok (.iadd, 1) := by decide +kernel
theorem dX4_inTime_43 : decode cX4_inTime 43 = .ok (.bipush 31, 2) := by decide +kernel
theorem dX4_inTime_45 : decode cX4_inTime 45 = .ok (.iand, 1) := by decide +kernel
theorem dX4_inTime_46 : decode cX4_inTime 46 = .ok (.iload_n 3, 1) := by decide +kernel
theorem dX4_inTime_47 : decode cX4_inTime 47 = .ok (.aload_n 0, 1) := by decide +kernel
theorem dX4_inTime_48 : decode cX4_inTime 48 = .ok (.getfield 23, 3) := by decide +kernel
theorem dX4_inTime_51 : decode cX4_inTime 51 = .ok (.iload 5, 2) := by decide +kernel
theorem dX4_inTime_53 : decode cX4_inTime 53 = .ok (.iaload, 1) := by decide +kernel
theorem dX4_inTime_54 : decode cX4_inTime 54 = .ok (.invokevirtual 77, 3) := by decide +kernel
theorem dX4_inTime_57 : decode cX4_inTime 57 = .ok (.ifCond .eq 6, 3) := by decide +kernel
theorem dX4_inTime_60 : decode cX4_inTime 60 = .ok (.iinc 4 1, 3) := by decide +kernel
theorem dX4_inTime_63 : decode cX4_inTime 63 = .ok (.iinc 5 1, 3) := by decide +kernel
theorem dX4_inTime_66 : decode cX4_inTime 66 = .ok (.goto (-60), 3) := by decide +kernel
theorem dX4_inTime_69 : decode cX4_inTime 69 = .ok (.iload 4, 2) := by decide +kernel
theorem dX4_inTime_71 : decode cX4_inTime 71 = .ok (.ireturn, 1) := by decide +kernel
theorem dX5_init_0 : decode cX5_init 0 = .ok (.aload_n 0, 1) := by decide +kernel
theorem dX5_init_1 : decode cX5_init 1 = .ok (.invokespecial 3, 3) := by decide +kernel
theorem dX5_init_4 : decode cX5_init 4 = .ok (.aload_n 0, 1) := by decide +kernel
theorem dX5_init_5 : decode cX5_init 5 = .ok (.new 9, 3) := by decide +kernel
theorem dX5_init_8 : decode cX5_init 8 = .ok (.dup, 1) := by decide +kernel
theorem dX5_init_9 : decode cX5_init 9 = .ok (.invokespecial 11, 3) := by decide +kernel
theorem dX5_init_12 : decode cX5_init 12 = .ok (.putfield 12, 3) := by decide +kernel
theorem dX5_init_15 : decode cX5_init 15 = .ok (.aload_n 0, 1) := by decide +kernel
theorem dX5_init_16 : decode cX5_init 16 = .ok (.bipush 50, 2) := by decide +kernel
theorem dX5_init_18 : decode cX5_init 18 = .ok (.newarray .int, 2) := by decide +kernel
theorem dX5_init_20 : decode cX5_init 20 = .ok (.putfield 18, 3) := by decide +kernel
theorem dX5_init_23 : decode cX5_init 23 = .ok (.return_, 1) := by decide +kernel
theorem dX5_reads_0 : decode cX5_reads 0 = .ok (.aload_n 0, 1) := by decide +kernel
theorem dX5_reads_1 : decode cX5_reads 1 = .ok (.iconst 0, 1) := by decide +kernel
theorem dX5_reads_2 : decode cX5_reads 2 = .ok (.iload_n 2, 1) := by decide +kernel
theorem dX5_reads_3 : decode cX5_reads 3 = .ok (.aload_n 1, 1) := by decide +kernel
theorem dX5_reads_4 : decode cX5_reads 4 = .ok (.arraylength, 1) := by decide +kernel
theorem dX5_reads_5 : decode cX5_reads 5 = .ok (.bipush 50, 2) := by decide +kernel
theorem dX5_reads_7 : decode cX5_reads 7 = .ok (.invokestatic 22, 3) := by decide +kernel
theorem dX5_reads_10 : decode cX5_reads 10 = .ok (.invokestatic 22, 3) := by decide +kernel
theorem dX5_reads_13 : decode cX5_reads 13 = .ok (.invokestatic 28, 3) := by decide +kernel
theorem dX5_reads_16 : decode cX5_reads 16 = .ok (.putfield 31, 3) := by decide +kernel
theorem dX5_reads_19 : decode cX5_reads 19 = .ok (.aload_n 1, 1) := by decide +kernel
theorem dX5_reads_20 : decode cX5_reads 20 = .ok (.iconst 0, 1) := by decide +kernel
theorem dX5_reads_21 : decode cX5_reads 21 = .ok (.aload_n 0, 1) := by decide +kernel
theorem dX5_reads_22 : decode cX5_reads 22 = .ok (.getfield 18, 3) := by decide +kernel
theorem dX5_reads_25 : decode cX5_reads 25 = .ok (.iconst 0, 1) := by decide +kernel
theorem dX5_reads_26 : decode cX5_reads 26 = .ok (.aload_n 0, 1) := by decide +kernel
theorem dX5_reads_27 : decode cX5_reads 27 = .ok (.getfield 31, 3) := by decide +kernel
theorem dX5_reads_30 : decode cX5_reads 30 = .ok (.invokestatic 35, 3) := by decide +kernel
theorem dX5_reads_33 : decode cX5_reads 33 = .ok (.aload_n 0, 1) := by decide +kernel
theorem dX5_reads_34 : decode cX5_reads 34 = .ok (.iconst 0, 1) := by decide +kernel
theorem dX5_reads_35 : decode cX5_reads 35 = .ok (.putfield 41, 3) := by decide +kernel
theorem dX5_reads_38 : decode cX5_reads 38 = .ok (.aload_n 0, 1) := by decide +kernel
theorem dX5_reads_39 : decode cX5_reads 39 = .ok (.iload_n 3, 1) := by decide +kernel
theorem dX5_reads_40 : decode cX5_reads 40 = .ok (.putfield 44, 3) := by decide +kernel
theorem dX5_reads_43 : decode cX5_reads 43 = .ok (.aload_n 0, 1) := by decide +kernel
theorem dX5_reads_44 : decode cX5_reads 44 = .ok (.getfield 12, 3) := by decide +kernel
theorem dX5_reads_47 : decode cX5_reads 47 = .ok (.iconst 0, 1) := by decide +kernel
theorem dX5_reads_48 : decode cX5_reads 48 = .ok (.putfield 47, 3) := by decide +kernel
theorem dX5_reads_51 : decode cX5_reads 51 = .ok (.aload_n 0, 1) := by decide +kernel
theorem dX5_reads_52 : decode cX5_reads 52 = .ok (.iconst 0, 1) := by decide +kernel
theorem dX5_reads_53 : decode cX5_reads 53 = .ok (.invokevirtual 48, 3) := by decide +kernel
theorem dX5_reads_56 : decode cX5_reads 56 = .ok (.ifCond .eq 18, 3) := by decide +kernel
theorem dX5_reads_59 : decode cX5_reads 59 = .ok (.aload_n 0, 1) := by decide +kernel
theorem dX5_reads_60 : decode cX5_reads 60 = .ok (.getfield 41, 3) := by decide +kernel
theorem dX5_reads_63 : decode cX5_reads 63 = .ok (.aload_n 0, 1) := by decide +kernel
theorem dX5_reads_64 : decode cX5_reads 64 = .ok (.getfield 31, 3) := by decide +kernel
theorem dX5_reads_67 : decode cX5_reads 67 = .ok (.if_icmp .ne 7, 3) := by decide +kernel
theorem dX5_reads_70 : decode cX5_reads 70 = .ok (.iconst 1, 1) := by decide +kernel
theorem dX5_reads_71 : decode cX5_reads 71 = .ok (.goto 4, 3) := by decide +kernel
theorem dX5_reads_74 : decode cX5_reads 74 = .ok (.iconst 0, 1) := by decide +kernel
theorem dX5_reads_75 : decode cX5_reads 75 = .ok (.ireturn, 1) := by decide +kernel
theorem dX5_sign_0 : decode cX5_sign 0 = .ok (.aload_n 0, 1) := by decide +kernel
theorem dX5_sign_1 : decode cX5_sign 1 = .ok (.getfield 41, 3) := by decide +kernel
theorem dX5_sign_4 : decode cX5_sign 4 = .ok (.ifCond .lt 35, 3) := by decide +kernel
theorem dX5_sign_7 : decode cX5_sign 7 = .ok (.aload_n 0, 1) := by decide +kernel
theorem dX5_sign_8 : decode cX5_sign 8 = .ok (.getfield 41, 3) := by decide +kernel
theorem dX5_sign_11 : decode cX5_sign 11 = .ok (.aload_n 0, 1) := by decide +kernel
theorem dX5_sign_12 : decode cX5_sign 12 = .ok (.getfield 31, 3) := by decide +kernel
theorem dX5_sign_15 : decode cX5_sign 15 = .ok (.if_icmp .ge 24, 3) := by decide +kernel
theorem dX5_sign_18 : decode cX5_sign 18 = .ok (.aload_n 0, 1) := by decide +kernel
theorem dX5_sign_19 : decode cX5_sign 19 = .ok (.getfield 41, 3) := by decide +kernel
theorem dX5_sign_22 : decode cX5_sign 22 = .ok (.bipush 50, 2) := by decide +kernel
theorem dX5_sign_24 : decode cX5_sign 24 = .ok (.if_icmp .ge 15, 3) := by decide +kernel
theorem dX5_sign_27 : decode cX5_sign 27 = .ok (.aload_n 0, 1) := by decide +kernel
theorem dX5_sign_28 : decode cX5_sign 28 = .ok (.getfield 18, 3) := by decide +kernel
theorem dX5_sign_31 : decode cX5_sign 31 = .ok (.aload_n 0, 1) := by decide +kernel
theorem dX5_sign_32 : decode cX5_sign 32 = .ok (.getfield 41, 3) := by decide +kernel
theorem dX5_sign_35 : decode cX5_sign 35 = .ok (.iaload, 1) := by decide +kernel
theorem dX5_sign_36 : decode cX5_sign 36 = .ok (.goto 4, 3) := by decide +kernel
theorem dX5_sign_39 : decode cX5_sign 39 = .ok (.iconst (-1), 1) := by decide +kernel
theorem dX5_sign_40 : decode cX5_sign 40 = .ok (.ireturn, 1) := by decide +kernel
theorem dX5_takes_0 : decode cX5_takes 0 = .ok (.aload_n 0, 1) := by decide +kernel
theorem dX5_takes_1 : decode cX5_takes 1 = .ok (.invokevirtual 52, 3) := by decide +kernel
theorem dX5_takes_4 : decode cX5_takes 4 = .ok (.iload_n 1, 1) := by decide +kernel
theorem dX5_takes_5 : decode cX5_takes 5 = .ok (.if_icmp .eq 5, 3) := by decide +kernel
theorem dX5_takes_8 : decode cX5_takes 8 = .ok (.iconst 0, 1) := by decide +kernel
theorem dX5_takes_9 : decode cX5_takes 9 = .ok (.ireturn, 1) := by decide +kernel
theorem dX5_takes_10 : decode cX5_takes 10 = .ok (.aload_n 0, 1) := by decide +kernel
theorem dX5_takes_11 : decode cX5_takes 11 = .ok (.dup, 1) := by decide +kernel
theorem dX5_takes_12 : decode cX5_takes 12 = .ok (.getfield 41, 3) := by decide +kernel
theorem dX5_takes_15 : decode cX5_takes 15 = .ok (.iconst 1, 1) := by decide +kernel
theorem dX5_takes_16 : decode cX5_takes 16 = .ok (.iadd, 1) := by decide +kernel
theorem dX5_takes_17 : decode cX5_takes 17 = .ok (.putfield 41, 3) := by decide +kernel
theorem dX5_takes_20 : decode cX5_takes 20 = .ok (.iconst 1, 1) := by decide +kernel
theorem dX5_takes_21 : decode cX5_takes 21 = .ok (.ireturn, 1) := by decide +kernel
theorem dX5_readT_0 : decode cX5_readT 0 = .ok (.aload_n 0, 1) := by decide +kernel
theorem dX5_readT_1 : decode cX5_readT 1 = .ok (.iload_n 1, 1) := by decide +kernel
theorem dX5_readT_2 : decode cX5_readT 2 = .ok (.invokevirtual 56, 3) := by decide +kernel
theorem dX5_readT_5 : decode cX5_readT 5 = .ok (.ifCond .ne 5, 3) := by decide +kernel
theorem dX5_readT_8 : decode cX5_readT 8 = .ok (.iconst 0, 1) := by decide +kernel
theorem dX5_readT_9 : decode cX5_readT 9 = .ok (.ireturn, 1) := by decide +kernel
theorem dX5_readT_10 : decode cX5_readT 10 = .ok (.iconst 0, 1) := by decide +kernel
theorem dX5_readT_11 : decode cX5_readT 11 = .ok (.istore_n 2, 1) := by decide +kernel
theorem dX5_readT_12 : decode cX5_readT 12 = .ok (.iload_n 2, 1) := by decide +kernel
theorem dX5_readT_13 : decode cX5_readT 13 = .ok (.bipush 50, 2) := by decide +kernel
theorem dX5_readT_15 : decode cX5_readT 15 = .ok (.if_icmp .ge 37, 3) := by decide +kernel
theorem dX5_readT_18 : decode cX5_readT 18 = .ok (.aload_n 0, 1) := by decide +kernel
theorem dX5_readT_19 : decode cX5_readT 19 = .ok (.bipush 124, 2) := by decide +kernel
theorem dX5_readT_21 : decode cX5_readT 21 = .ok (.invokevirtual 59, 3) := by decide +kernel
theorem dX5_readT_24 : decode cX5_readT 24 = .ok (.ifCond .eq 28, 3) := by decide +kernel
theorem dX5_readT_27 : decode cX5_readT 27 = .ok (.aload_n 0, 1) := by decide +kernel
theorem dX5_readT_28 : decode cX5_readT 28 = .ok (.iload_n 1, 1) := by decide +kernel
theorem dX5_readT_29 : decode cX5_readT 29 = .ok (.invokevirtual 56, 3) := by decide +kernel
theorem dX5_readT_32 : decode cX5_readT 32 = .ok (.ifCond .ne 5, 3) := by decide +kernel
theorem dX5_readT_35 : decode cX5_readT 35 = .ok (.iconst 0, 1) := by decide +kernel
theorem dX5_readT_36 : decode cX5_readT 36 = .ok (.ireturn, 1) := by decide +kernel
theorem dX5_readT_37 : decode cX5_readT 37 = .ok (.aload_n 0, 1) := by decide +kernel
theorem dX5_readT_38 : decode cX5_readT 38 = .ok (.getfield 12, 3) := by decide +kernel
theorem dX5_readT_41 : decode cX5_readT 41 = .ok (.bipush (-124), 2) := by decide +kernel
theorem dX5_readT_43 : decode cX5_readT 43 = .ok (.invokevirtual 62, 3) := by decide +kernel
theorem dX5_readT_46 : decode cX5_readT 46 = .ok (.iinc 2 1, 3) := by decide +kernel
theorem dX5_readT_49 : decode cX5_readT 49 = .ok (.goto (-37), 3) := by decide +kernel
theorem dX5_readT_52 : decode cX5_readT 52 = .ok (.iconst 1, 1) := by decide +kernel
theorem dX5_readT_53 : decode cX5_readT 53 = .ok (.ireturn, 1) := by decide +kernel
theorem dX5_readA_0 : decode cX5_readA 0 = .ok (.aload_n 0, 1) := by decide +kernel
theorem dX5_readA_1 : decode cX5_readA 1 = .ok (.iload_n 1, 1) := by decide +kernel
theorem dX5_readA_2 : decode cX5_readA 2 = .ok (.invokevirtual 66, 3) := by decide +kernel
theorem dX5_readA_5 : decode cX5_readA 5 = .ok (.ifCond .ne 5, 3) := by decide +kernel
theorem dX5_readA_8 : decode cX5_readA 8 = .ok (.iconst 0, 1) := by decide +kernel
theorem dX5_readA_9 : decode cX5_readA 9 = .ok (.ireturn, 1) := by decide +kernel
theorem dX5_readA_10 : decode cX5_readA 10 = .ok (.iconst 0, 1) := by decide +kernel
theorem dX5_readA_11 : decode cX5_readA 11 = .ok (.istore_n 2, 1) := by decide +kernel
theorem dX5_readA_12 : decode cX5_readA 12 = .ok (.iload_n 2, 1) := by decide +kernel
theorem dX5_readA_13 : decode cX5_readA 13 = .ok (.bipush 50, 2) := by decide +kernel
theorem dX5_readA_15 : decode cX5_readA 15 = .ok (.if_icmp .ge 37, 3) := by decide +kernel
theorem dX5_readA_18 : decode cX5_readA 18 = .ok (.aload_n 0, 1) := by decide +kernel
theorem dX5_readA_19 : decode cX5_readA 19 = .ok (.bipush 38, 2) := by decide +kernel
theorem dX5_readA_21 : decode cX5_readA 21 = .ok (.invokevirtual 59, 3) := by decide +kernel
theorem dX5_readA_24 : decode cX5_readA 24 = .ok (.ifCond .eq 28, 3) := by decide +kernel
theorem dX5_readA_27 : decode cX5_readA 27 = .ok (.aload_n 0, 1) := by decide +kernel
theorem dX5_readA_28 : decode cX5_readA 28 = .ok (.iload_n 1, 1) := by decide +kernel
theorem dX5_readA_29 : decode cX5_readA 29 = .ok (.invokevirtual 66, 3) := by decide +kernel
theorem dX5_readA_32 : decode cX5_readA 32 = .ok (.ifCond .ne 5, 3) := by decide +kernel
theorem dX5_readA_35 : decode cX5_readA 35 = .ok (.iconst 0, 1) := by decide +kernel
theorem dX5_readA_36 : decode cX5_readA 36 = .ok (.ireturn, 1) := by decide +kernel
theorem dX5_readA_37 : decode cX5_readA 37 = .ok (.aload_n 0, 1) := by decide +kernel
theorem dX5_readA_38 : decode cX5_readA 38 = .ok (.getfield 12, 3) := by decide +kernel
theorem dX5_readA_41 : decode cX5_readA 41 = .ok (.bipush (-38), 2) := by decide +kernel
theorem dX5_readA_43 : decode cX5_readA 43 = .ok (.invokevirtual 62, 3) := by decide +kernel
theorem dX5_readA_46 : decode cX5_readA 46 = .ok (.iinc 2 1, 3) := by decide +kernel
theorem dX5_readA_49 : decode cX5_readA 49 = .ok (.goto (-37), 3) := by decide +kernel
theorem dX5_readA_52 : decode cX5_readA 52 = .ok (.iconst 1, 1) := by decide +kernel
theorem dX5_readA_53 : decode cX5_readA 53 = .ok (.ireturn, 1) := by decide +kernel
theorem dX5_readB_0 : decode cX5_readB 0 = .ok (.aload_n 0, 1) := by decide +kernel
theorem dX5_readB_1 : decode cX5_readB 1 = .ok (.iload_n 1, 1) := by decide +kernel
theorem dX5_readB_2 : decode cX5_readB 2 = .ok (.invokevirtual 69, 3) := by decide +kernel
theorem dX5_readB_5 : decode cX5_readB 5 = .ok (.ifCond .ne 5, 3) := by decide +kernel
theorem dX5_readB_8 : decode cX5_readB 8 = .ok (.iconst 0, 1) := by decide +kernel
theorem dX5_readB_9 : decode cX5_readB 9 = .ok (.ireturn, 1) := by decide +kernel
theorem dX5_readB_10 : decode cX5_readB 10 = .ok (.aload_n 0, 1) := by decide +kernel
theorem dX5_readB_11 : decode cX5_readB 11 = .ok (.invokevirtual 52, 3) := by decide +kernel
theorem dX5_readB_14 : decode cX5_readB 14 = .ok (.istore_n 2, 1) := by decide +kernel
theorem dX5_readB_15 : decode cX5_readB 15 = .ok (.iload_n 2, 1) := by decide +kernel
theorem dX5_readB_16 : decode cX5_readB 16 = .ok (.bipush 60, 2) := by decide +kernel
theorem dX5_readB_18 : decode cX5_readB 18 = .ok (.if_icmp .eq 17, 3) := by decide +kernel
theorem dX5_readB_21 : decode cX5_readB 21 = .ok (.iload_n 2, 1) := by decide +kernel
theorem dX5_readB_22 : decode cX5_readB 22 = .ok (.bipush 61, 2) := by decide +kernel
theorem dX5_readB_24 : decode cX5_readB 24 = .ok (.if_icmp .eq 11, 3) := by decide +kernel
theorem dX5_readB_27 : decode cX5_readB 27 = .ok (.iload_n 2, 1) := by decide +kernel
theorem dX5_readB_28 : decode cX5_readB 28 = .ok (.bipush 62, 2) := by decide +kernel
theorem dX5_readB_30 : decode cX5_readB 30 = .ok (.if_icmp .eq 5, 3) := by decide +kernel
theorem dX5_readB_33 : decode cX5_readB 33 = .ok (.iconst 1, 1) := by decide +kernel
theorem dX5_readB_34 : decode cX5_readB 34 = .ok (.ireturn, 1) := by decide +kernel
theorem dX5_readB_35 : decode cX5_readB 35 = .ok (.aload_n 0, 1) := by decide +kernel
theorem dX5_readB_36 : decode cX5_readB 36 = .ok (.dup, 1) := by decide +kernel
theorem dX5_readB_37 : decode cX5_readB 37 = .ok (.getfield 41, 3) := by decide +kernel
theorem dX5_readB_40 : decode cX5_readB 40 = .ok (.iconst 1, 1) := by decide +kernel
theorem dX5_readB_41 : decode cX5_readB 41 = .ok (.iadd, 1) := by decide +kernel
theorem dX5_readB_42 : decode cX5_readB 42 = .ok (.putfield 41, 3) := by decide +kernel
theorem dX5_readB_45 : decode cX5_readB 45 = .ok (.aload_n 0, 1) := by decide +kernel
theorem dX5_readB_46 : decode cX5_readB 46 = .ok (.iload_n 1, 1) := by decide +kernel
theorem dX5_readB_47 : decode cX5_readB 47 = .ok (.invokevirtual 69, 3) := by decide +kernel
theorem dX5_readB_50 : decode cX5_readB 50 = .ok (.ifCond .ne 5, 3) := by decide +kernel
theorem dX5_readB_53 : decode cX5_readB 53 = .ok (.iconst 0, 1) := by decide +kernel
theorem dX5_readB_54 : decode cX5_readB 54 = .ok (.ireturn, 1) := by decide +kernel
theorem dX5_readB_55 : decode cX5_readB 55 = .ok (.aload_n 0, 1) := by decide +kernel
theorem dX5_readB_56 : decode cX5_readB 56 = .ok (.getfield 12, 3) := by decide +kernel
theorem dX5_readB_59 : decode cX5_readB 59 = .ok (.iload_n 2, 1) := by decide +kernel
theorem dX5_readB_60 : decode cX5_readB 60 = .ok (.ineg, 1) := by decide +kernel
theorem dX5_readB_61 : decode cX5_readB 61 = .ok (.invokevirtual 62, 3) := by decide +kernel
theorem dX5_readB_64 : decode cX5_readB 64 = .ok (.iconst 1, 1) := by decide +kernel
theorem dX5_readB_65 : decode cX5_readB 65 = .ok (.ireturn, 1) := by decide +kernel
theorem dX5_readS_0 : decode cX5_readS 0 = .ok (.aload_n 0, 1) := by decide +kernel
theorem dX5_readS_1 : decode cX5_readS 1 = .ok (.iload_n 1, 1) := by decide +kernel
theorem dX5_readS_2 : decode cX5_readS 2 = .ok (.invokevirtual 72, 3) := by decide +kernel
theorem dX5_readS_5 : decode cX5_readS 5 = .ok (.ifCond .ne 5, 3) := by decide +kernel
theorem dX5_readS_8 : decode cX5_readS 8 = .ok (.iconst 0, 1) := by decide +kernel
theorem dX5_readS_9 : decode cX5_readS 9 = .ok (.ireturn, 1) := by decide +kernel
theorem dX5_readS_10 : decode cX5_readS 10 = .ok (.iconst 0, 1) := by decide +kernel
theorem dX5_readS_11 : decode cX5_readS 11 = .ok (.istore_n 2, 1) := by decide +kernel
theorem dX5_readS_12 : decode cX5_readS 12 = .ok (.iload_n 2, 1) := by decide +kernel
theorem dX5_readS_13 : decode cX5_readS 13 = .ok (.bipush 50, 2) := by decide +kernel
theorem dX5_readS_15 : decode cX5_readS 15 = .ok (.if_icmp .ge 57, 3) := by decide +kernel
theorem dX5_readS_18 : decode cX5_readS 18 = .ok (.aload_n 0, 1) := by decide +kernel
theorem dX5_readS_19 : decode cX5_readS 19 = .ok (.invokevirtual 52, 3) := by decide +kernel
theorem dX5_readS_22 : decode cX5_readS 22 = .ok (.istore_n 3, 1) := by decide +kernel
theorem dX5_readS_23 : decode cX5_readS 23 = .ok (.iload_n 3, 1) := by decide +kernel
theorem dX5_readS_24 : decode cX5_readS 24 = .ok (.bipush 43, 2) := by decide +kernel
theorem dX5_readS_26 : decode cX5_readS 26 = .ok (.if_icmp .eq 11, 3) := by decide +kernel
theorem dX5_readS_29 : decode cX5_readS 29 = .ok (.iload_n 3, 1) := by decide +kernel
theorem dX5_readS_30 : decode cX5_readS 30 = .ok (.bipush 45, 2) := by decide +kernel
theorem dX5_readS_32 : decode cX5_readS 32 = .ok (.if_icmp .eq 5, 3) := by decide +kernel
theorem dX5_readS_35 : decode cX5_readS 35 = .ok (.iconst 1, 1) := by decide +kernel
theorem dX5_readS_36 : decode cX5_readS 36 = .ok (.ireturn, 1) := by decide +kernel
theorem dX5_readS_37 : decode cX5_readS 37 = .ok (.aload_n 0, 1) := by decide +kernel
theorem dX5_readS_38 : decode cX5_readS 38 = .ok (.dup, 1) := by decide +kernel
theorem dX5_readS_39 : decode cX5_readS 39 = .ok (.getfield 41, 3) := by decide +kernel
theorem dX5_readS_42 : decode cX5_readS 42 = .ok (.iconst 1, 1) := by decide +kernel
theorem dX5_readS_43 : decode cX5_readS 43 = .ok (.iadd, 1) := by decide +kernel
theorem dX5_readS_44 : decode cX5_readS 44 = .ok (.putfield 41, 3) := by decide +kernel
theorem dX5_readS_47 : decode cX5_readS 47 = .ok (.aload_n 0, 1) := by decide +kernel
theorem dX5_readS_48 : decode cX5_readS 48 = .ok (.iload_n 1, 1) := by decide +kernel
theorem dX5_readS_49 : decode cX5_readS 49 = .ok (.invokevirtual 72, 3) := by decide +kernel
theorem dX5_readS_52 : decode cX5_readS 52 = .ok (.ifCond .ne 5, 3) := by decide +kernel
theorem dX5_readS_55 : decode cX5_readS 55 = .ok (.iconst 0, 1) := by decide +kernel
theorem dX5_readS_56 : decode cX5_readS 56 = .ok (.ireturn, 1) := by decide +kernel
theorem dX5_readS_57 : decode cX5_readS 57 = .ok (.aload_n 0, 1) := by decide +kernel
theorem dX5_readS_58 : decode cX5_readS 58 = .ok (.getfield 12, 3) := by decide +kernel
theorem dX5_readS_61 : decode cX5_readS 61 = .ok (.iload_n 3, 1) := by decide +kernel
theorem dX5_readS_62 : decode cX5_readS 62 = .ok (.ineg, 1) := by decide +kernel
theorem dX5_readS_63 : decode cX5_readS 63 = .ok (.invokevirtual 62, 3) := by decide +kernel
theorem dX5_readS_66 : decode cX5_readS 66 = .ok (.iinc 2 1, 3) := by decide +kernel
theorem dX5_readS_69 : decode cX5_readS 69 = .ok (.goto (-57), 3) := by decide +kernel
theorem dX5_readS_72 : decode cX5_readS 72 = .ok (.iconst 1, 1) := by decide +kernel
theorem dX5_readS_73 : decode cX5_readS 73 = .ok (.ireturn, 1) := by decide +kernel
theorem dX5_readP_0 : decode cX5_readP 0 = .ok (.aload_n 0, 1) := by decide +kernel
theorem dX5_readP_1 : decode cX5_readP 1 = .ok (.iload_n 1, 1) := by decide +kernel
theorem dX5_readP_2 : decode cX5_readP 2 = .ok (.invokevirtual 75, 3) := by decide +kernel
theorem dX5_readP_5 : decode cX5_readP 5 = .ok (.ifCond .ne 5, 3) := by decide +kernel
theorem dX5_readP_8 : decode cX5_readP 8 = .ok (.iconst 0, 1) := by decide +kernel
theorem dX5_readP_9 : decode cX5_readP 9 = .ok (.ireturn, 1) := by decide +kernel
theorem dX5_readP_10 : decode cX5_readP 10 = .ok (.iconst 0, 1) := by decide +kernel
theorem dX5_readP_11 : decode cX5_readP 11 = .ok (.istore_n 2, 1) := by decide +kernel
theorem dX5_readP_12 : decode cX5_readP 12 = .ok (.iload_n 2, 1) := by decide +kernel
theorem dX5_readP_13 : decode cX5_readP 13 = .ok (.bipush 50, 2) := by decide +kernel
theorem dX5_readP_15 : decode cX5_readP 15 = .ok (.if_icmp .ge 63, 3) := by decide +kernel
theorem dX5_readP_18 : decode cX5_readP 18 = .ok (.aload_n 0, 1) := by decide +kernel
theorem dX5_readP_19 : decode cX5_readP 19 = .ok (.invokevirtual 52, 3) := by decide +kernel
theorem dX5_readP_22 : decode cX5_readP 22 = .ok (.istore_n 3, 1) := by decide +kernel
theorem dX5_readP_23 : decode cX5_readP 23 = .ok (.iload_n 3, 1) := by decide +kernel
theorem dX5_readP_24 : decode cX5_readP 24 = .ok (.bipush 42, 2) := by decide +kernel
theorem dX5_readP_26 : decode cX5_readP 26 = .ok (.if_icmp .eq 17, 3) := by decide +kernel
theorem dX5_readP_29 : decode cX5_readP 29 = .ok (.iload_n 3, 1) := by decide +kernel
theorem dX5_readP_30 : decode cX5_readP 30 = .ok (.bipush 47, 2) := by decide +kernel
theorem dX5_readP_32 : decode cX5_readP 32 = .ok (.if_icmp .eq 11, 3) := by decide +kernel
theorem dX5_readP_35 : decode cX5_readP 35 = .ok (.iload_n 3, 1) := by decide +kernel
theorem dX5_readP_36 : decode cX5_readP 36 = .ok (.bipush 37, 2) := by decide +kernel
theorem dX5_readP_38 : decode cX5_readP 38 = .ok (.if_icmp .eq 5, 3) := by decide +kernel
theorem dX5_readP_41 : decode cX5_readP 41 = .ok (.iconst 1, 1) := by decide +kernel
theorem dX5_readP_42 : decode cX5_readP 42 = .ok (.ireturn, 1) := by decide +kernel
theorem dX5_readP_43 : decode cX5_readP 43 = .ok (.aload_n 0, 1) := by decide +kernel
theorem dX5_readP_44 : decode cX5_readP 44 = .ok (.dup, 1) := by decide +kernel
theorem dX5_readP_45 : decode cX5_readP 45 = .ok (.getfield 41, 3) := by decide +kernel
theorem dX5_readP_48 : decode cX5_readP 48 = .ok (.iconst 1, 1) := by decide +kernel
theorem dX5_readP_49 : decode cX5_readP 49 = .ok (.iadd, 1) := by decide +kernel
theorem dX5_readP_50 : decode cX5_readP 50 = .ok (.putfield 41, 3) := by decide +kernel
theorem dX5_readP_53 : decode cX5_readP 53 = .ok (.aload_n 0, 1) := by decide +kernel
theorem dX5_readP_54 : decode cX5_readP 54 = .ok (.iload_n 1, 1) := by decide +kernel
theorem dX5_readP_55 : decode cX5_readP 55 = .ok (.invokevirtual 75, 3) := by decide +kernel
theorem dX5_readP_58 : decode cX5_readP 58 = .ok (.ifCond .ne 5, 3) := by decide +kernel
theorem dX5_readP_61 : decode cX5_readP 61 = .ok (.iconst 0, 1) := by decide +kernel
theorem dX5_readP_62 : decode cX5_readP 62 = .ok (.ireturn, 1) := by decide +kernel
theorem dX5_readP_63 : decode cX5_readP 63 = .ok (.aload_n 0, 1) := by decide +kernel
theorem dX5_readP_64 : decode cX5_readP 64 = .ok (.getfield 12, 3) := by decide +kernel
theorem dX5_readP_67 : decode cX5_readP 67 = .ok (.iload_n 3, 1) := by decide +kernel
theorem dX5_readP_68 : decode cX5_readP 68 = .ok (.ineg, 1) := by decide +kernel
theorem dX5_readP_69 : decode cX5_readP 69 = .ok (.invokevirtual 62, 3) := by decide +kernel
theorem dX5_readP_72 : decode cX5_readP 72 = .ok (.iinc 2 1, 3) := by decide +kernel
theorem dX5_readP_75 : decode cX5_readP 75 = .ok (.goto (-63), 3) := by decide +kernel
theorem dX5_readP_78 : decode cX5_readP 78 = .ok (.iconst 1, 1) := by decide +kernel
theorem dX5_readP_79 : decode cX5_readP 79 = .ok (.ireturn, 1) := by decide +kernel
theorem dX5_readQ_0 : decode cX5_readQ 0 = .ok (.aload_n 0, 1) := by decide +kernel
theorem dX5_readQ_1 : decode cX5_readQ 1 = .ok (.invokevirtual 52, 3) := by decide +kernel
theorem dX5_readQ_4 : decode cX5_readQ 4 = .ok (.invokestatic 78, 3) := by decide +kernel
theorem dX5_readQ_7 : decode cX5_readQ 7 = .ok (.ifCond .eq 9, 3) := by decide +kernel
theorem dX5_readQ_10 : decode cX5_readQ 10 = .ok (.aload_n 0, 1) := by decide +kernel
theorem dX5_readQ_11 : decode cX5_readQ 11 = .ok (.invokevirtual 81, 3) := by decide +kernel
theorem dX5_readQ_14 : decode cX5_readQ 14 = .ok (.iconst 1, 1) := by decide +kernel
theorem dX5_readQ_15 : decode cX5_readQ 15 = .ok (.ireturn, 1) := by decide +kernel
theorem dX5_readQ_16 : decode cX5_readQ 16 = .ok (.aload_n 0, 1) := by decide +kernel
theorem dX5_readQ_17 : decode cX5_readQ 17 = .ok (.invokevirtual 84, 3) := by decide +kernel
theorem dX5_readQ_20 : decode cX5_readQ 20 = .ok (.ifCond .eq 5, 3) := by decide +kernel
theorem dX5_readQ_23 : decode cX5_readQ 23 = .ok (.iconst 1, 1) := by decide +kernel
theorem dX5_readQ_24 : decode cX5_readQ 24 = .ok (.ireturn, 1) := by decide +kernel
theorem dX5_readQ_25 : decode cX5_readQ 25 = .ok (.iload_n 1, 1) := by decide +kernel
theorem dX5_readQ_26 : decode cX5_readQ 26 = .ok (.iconst 5, 1) := by decide +kernel
theorem dX5_readQ_27 : decode cX5_readQ 27 = .ok (.if_icmp .lt 5, 3) := by decide +kernel
theorem dX5_readQ_30 : decode cX5_readQ 30 = .ok (.iconst 0, 1) := by decide +kernel
theorem dX5_readQ_31 : decode cX5_readQ 31 = .ok (.ireturn, 1) := by decide +kernel
theorem dX5_readQ_32 : decode cX5_readQ 32 = .ok (.aload_n 0, 1) := by decide +kernel
theorem dX5_readQ_33 : decode cX5_readQ 33 = .ok (.bipush 33, 2) := by decide +kernel
theorem dX5_readQ_35 : decode cX5_readQ 35 = .ok (.invokevirtual 59, 3) := by decide +kernel
theorem dX5_readQ_38 : decode cX5_readQ 38 = .ok (.ifCond .eq 26, 3) := by decide +kernel
theorem dX5_readQ_41 : decode cX5_readQ 41 = .ok (.aload_n 0, 1) := by decide +kernel
theorem dX5_readQ_42 : decode cX5_readQ 42 = .ok (.iload_n 1, 1) := by decide +kernel
theorem dX5_readQ_43 : decode cX5_readQ 43 = .ok (.iconst 1, 1) := by decide +kernel
theorem dX5_readQ_44 : decode cX5_readQ 44 = .ok (.iadd, 1) := by decide +kernel
theorem dX5_readQ_45 : decode cX5_readQ 45 = .ok (.invokevirtual 75, 3) := by decide +kernel
theorem dX5_readQ_48 : decode cX5_readQ 48 = .ok (.ifCond .ne 5, 3) := by decide +kernel
theorem dX5_readQ_51 : decode cX5_readQ 51 = .ok (.iconst 0, 1) := by decide +kernel
theorem dX5_readQ_52 : decode cX5_readQ 52 = .ok (.ireturn, 1) := by decide +kernel
theorem dX5_readQ_53 : decode cX5_readQ 53 = .ok (.aload_n 0, 1) := by decide +kernel
theorem dX5_readQ_54 : decode cX5_readQ 54 = .ok (.getfield 12, 3) := by decide +kernel
theorem dX5_readQ_57 : decode cX5_readQ 57 = .ok (.bipush (-33), 2) := by decide +kernel
theorem dX5_readQ_59 : decode cX5_readQ 59 = .ok (.invokevirtual 62, 3) := by decide +kernel
theorem dX5_readQ_62 : decode cX5_readQ 62 = .ok (.iconst 1, 1) := by decide +kernel
theorem dX5_readQ_63 : decode cX5_readQ 63 = .ok (.ireturn, 1) := by decide +kernel
theorem dX5_readQ_64 : decode cX5_readQ 64 = .ok (.aload_n 0, 1) := by decide +kernel
theorem dX5_readQ_65 : decode cX5_readQ 65 = .ok (.bipush 40, 2) := by decide +kernel
theorem dX5_readQ_67 : decode cX5_readQ 67 = .ok (.invokevirtual 59, 3) := by decide +kernel
theorem dX5_readQ_70 : decode cX5_readQ 70 = .ok (.ifCond .eq 26, 3) := by decide +kernel
theorem dX5_readQ_73 : decode cX5_readQ 73 = .ok (.aload_n 0, 1) := by decide +kernel
theorem dX5_readQ_74 : decode cX5_readQ 74 = .ok (.iload_n 1, 1) := by decide +kernel
theorem dX5_readQ_75 : decode cX5_readQ 75 = .ok (.iconst 1, 1) := by decide +kernel
theorem dX5_readQ_76 : decode cX5_readQ 76 = .ok (.iadd, 1) := by decide +kernel
theorem dX5_readQ_77 : decode cX5_readQ 77 = .ok (.invokevirtual 48, 3) := by decide +kernel
theorem dX5_readQ_80 : decode cX5_readQ 80 = .ok (.ifCond .eq 16, 3) := by decide +kernel
theorem dX5_readQ_83 : decode cX5_readQ 83 = .ok (.aload_n 0, 1) := by decide +kernel
theorem dX5_readQ_84 : decode cX5_readQ 84 = .ok (.bipush 41, 2) := by decide +kernel
theorem dX5_readQ_86 : decode cX5_readQ 86 = .ok (.invokevirtual 59, 3) := by decide +kernel
theorem dX5_readQ_89 : decode cX5_readQ 89 = .ok (.ifCond .eq 7, 3) := by decide +kernel
theorem dX5_readQ_92 : decode cX5_readQ 92 = .ok (.iconst 1, 1) := by decide +kernel
theorem dX5_readQ_93 : decode cX5_readQ 93 = .ok (.goto 4, 3) := by decide +kernel
theorem dX5_readQ_96 : decode cX5_readQ 96 = .ok (.iconst 0, 1) := by decide +kernel
theorem dX5_readQ_97 : decode cX5_readQ 97 = .ok (.ireturn, 1) := by decide +kernel
theorem dX5_readNumber_0 : decode cX5_readNumber 0 = .ok (.iconst 0, 1) := by decide +kernel
theorem dX5_readNumber_1 : decode cX5_readNumber 1 = .ok (.istore_n 1, 1) := by decide +kernel
theorem dX5_readNumber_2 : decode cX5_readNumber 2 = .ok (.iconst 0, 1) := by decide +kernel
theorem dX5_readNumber_3 : decode cX5_readNumber 3 = .ok (.istore_n 2, 1) := by decide +kernel
theorem dX5_readNumber_4 : decode cX5_readNumber 4 = .ok (.iload_n 2, 1) := by decide +kernel
theorem dX5_readNumber_5 : decode cX5_readNumber 5 = .ok (.iconst 4, 1) := by decide +kernel
theorem dX5_readNumber_6 : decode cX5_readNumber 6 = .ok (.if_icmp .ge 42, 3) := by decide +kernel
theorem dX5_readNumber_9 : decode cX5_readNumber 9 = .ok (.aload_n 0, 1) := by decide +kernel
theorem dX5_readNumber_10 : decode cX5_readNumber 10 = .ok (.invokevirtual 52, 3) := by decide +kernel
theorem dX5_readNumber_13 : decode cX5_readNumber 13 = .ok (.invokestatic 78, 3) := by decide +kernel
theorem dX5_readNumber_16 : decode cX5_readNumber 16 = .ok (.ifCond .eq 32, 3) := by decide +kernel
theorem dX5_readNumber_19 : decode cX5_readNumber 19 = .ok (.iload_n 1, 1) := by decide +kernel
theorem dX5_readNumber_20 : decode cX5_readNumber 20 = .ok (.bipush 10, 2) := by decide +kernel
theorem dX5_readNumber_22 : decode cX5_readNumber 22 = .ok (.imul, 1) := by decide +kernel
theorem dX5_readNumber_23 : decode cX5_readNumber 23 = .ok (.aload_n 0, 1) := by decide +kernel
theorem dX5_readNumber_24 : decode cX5_readNumber 24 = .ok (.invokevirtual 52, 3) := by decide +kernel
theorem dX5_readNumber_27 : decode cX5_readNumber 27 = .ok (.iadd, 1) := by decide +kernel
theorem dX5_readNumber_28 : decode cX5_readNumber 28 = .ok (.bipush 48, 2) := by decide +kernel
theorem dX5_readNumber_30 : decode cX5_readNumber 30 = .ok (.isub, 1) := by decide +kernel
theorem dX5_readNumber_31 : decode cX5_readNumber 31 = .ok (.istore_n 1, 1) := by decide +kernel
theorem dX5_readNumber_32 : decode cX5_readNumber 32 = .ok (.aload_n 0, 1) := by decide +kernel
theorem dX5_readNumber_33 : decode cX5_readNumber 33 = .ok (.dup, 1) := by decide +kernel
theorem dX5_readNumber_34 : decode cX5_readNumber 34 = .ok (.getfield 41, 3) := by decide +kernel
theorem dX5_readNumber_37 : decode cX5_readNumber 37 = .ok (.iconst 1, 1) := by decide +kernel
theorem dX5_readNumber_38 : decode cX5_readNumber 38 = .ok (.iadd, 1) := by decide +kernel
theorem dX5_readNumber_39 : decode cX5_readNumber 39 = .ok (.putfield 41, 3) := by decide +kernel
theorem dX5_readNumber_42 : decode cX5_readNumber 42 = .ok (.iinc 2 1, 3) := by decide +kernel
theorem dX5_readNumber_45 : decode cX5_readNumber 45 = .ok (.goto (-41), 3) := by decide +kernel
theorem dX5_readNumber_48 : decode cX5_readNumber 48 = .ok (.aload_n 0, 1) := by decide +kernel
theorem dX5_readNumber_49 : decode cX5_readNumber 49 = .ok (.getfield 12, 3) := by decide +kernel
theorem dX5_readNumber_52 : decode cX5_readNumber 52 = .ok (.iload_n 1, 1) := by decide +kernel
theorem dX5_readNumber_53 : decode cX5_readNumber 53 = .ok (.invokevirtual 62, 3) := by decide +kernel
theorem dX5_readNumber_56 : decode cX5_readNumber 56 = .ok (.return_, 1) := by decide +kernel
theorem dX5_readName_0 : decode cX5_readName 0 = .ok (.iconst 0, 1) := by decide +kernel
theorem dX5_readName_1 : decode cX5_readName 1 = .ok (.istore_n 1, 1) := by decide +kernel
theorem dX5_readName_2 : decode cX5_readName 2 = .ok (.iload_n 1, 1) := by decide +kernel
theorem dX5_readName_3 : decode cX5_readName 3 = .ok (.iconst 3, 1) := by decide +kernel
theorem dX5_readName_4 : decode cX5_readName 4 = .ok (.if_icmp .ge 57, 3) := by decide +kernel
theorem dX5_readName_7 : decode cX5_readName 7 = .ok (.aload_n 0, 1) := by decide +kernel
theorem dX5_readName_8 : decode cX5_readName 8 = .ok (.getfield 44, 3) := by decide +kernel
theorem dX5_readName_11 : decode cX5_readName 11 = .ok (.iconst 3, 1) := by decide +kernel
theorem dX5_readName_12 : decode cX5_readName 12 = .ok (.imul, 1) := by decide +kernel
theorem dX5_readName_13 : decode cX5_readName 13 = .ok (.iload_n 1, 1) := by decide +kernel
theorem dX5_readName_14 : decode cX5_readName 14 = .ok (.iadd, 1) := by decide +kernel
theorem dX5_readName_15 : decode cX5_readName 15 = .ok (.istore_n 2, 1) := by decide +kernel
theorem dX5_readName_16 : decode cX5_readName 16 = .ok (.iload_n 2, 1) := by decide +kernel
theorem dX5_readName_17 : decode cX5_readName 17 = .ok (.ifCond .lt 38, 3) := by decide +kernel
theorem dX5_readName_20 : decode cX5_readName 20 = .ok (.iload_n 2, 1) := by decide +kernel
theorem dX5_readName_21 : decode cX5_readName 21 = .ok (.getstatic 88, 3) := by decide +kernel
theorem dX5_readName_24 : decode cX5_readName 24 = .ok (.arraylength, 1) := by decide +kernel
theorem dX5_readName_25 : decode cX5_readName 25 = .ok (.if_icmp .ge 30, 3) := by decide +kernel
theorem dX5_readName_28 : decode cX5_readName 28 = .ok (.aload_n 0, 1) := by decide +kernel
theorem dX5_readName_29 : decode cX5_readName 29 = .ok (.getstatic 88, 3) := by decide +kernel
theorem dX5_readName_32 : decode cX5_readName 32 = .ok (.iload_n 2, 1) := by decide +kernel
theorem dX5_readName_33 : decode cX5_readName 33 = .ok (.caload, 1) := by decide +kernel
theorem dX5_readName_34 : decode cX5_readName 34 = .ok (.invokevirtual 59, 3) := by decide +kernel
theorem dX5_readName_37 : decode cX5_readName 37 = .ok (.ifCond .ne 6, 3) := by decide +kernel
theorem dX5_readName_40 : decode cX5_readName 40 = .ok (.goto 15, 3) := by decide +kernel
theorem dX5_readName_43 : decode cX5_readName 43 = .ok (.aload_n 0, 1) := by decide +kernel
theorem dX5_readName_44 : decode cX5_readName 44 = .ok (.getfield 12, 3) := by decide +kernel
theorem dX5_readName_47 : decode cX5_readName 47 = .ok (.iconst (-1), 1) := by decide +kernel
theorem dX5_readName_48 : decode cX5_readName 48 = .ok (.iload_n 1, 1) := by decide +kernel
theorem dX5_readName_49 : decode cX5_readName 49 = .ok (.isub, 1) := by decide +kernel
theorem dX5_readName_50 : decode cX5_readName 50 = .ok (.invokevirtual 62, 3) := by decide +kernel
theorem dX5_readName_53 : decode cX5_readName 53 = .ok (.iconst 1, 1) := by decide +kernel
theorem dX5_readName_54 : decode cX5_readName 54 = .ok (.ireturn, 1) := by decide +kernel
theorem dX5_readName_55 : decode cX5_readName 55 = .ok (.iinc 1 1, 3) := by decide +kernel
theorem dX5_readName_58 : decode cX5_readName 58 = .ok (.goto (-56), 3) := by decide +kernel
theorem dX5_readName_61 : decode cX5_readName 61 = .ok (.iconst 0, 1) := by decide +kernel
theorem dX5_readName_62 : decode cX5_readName 62 = .ok (.ireturn, 1) := by decide +kernel
theorem dX5_isDigit_0 : decode cX5_isDigit 0 = .ok (.iload_n 0, 1) := by decide +kernel
theorem dX5_isDigit_1 : decode cX5_isDigit 1 = .ok (.bipush 48, 2) := by decide +kernel
theorem dX5_isDigit_3 : decode cX5_isDigit 3 = .ok (.if_icmp .lt 13, 3) := by decide +kernel
theorem dX5_isDigit_6 : decode cX5_isDigit 6 = .ok (.iload_n 0, 1) := by decide +kernel
theorem dX5_isDigit_7 : decode cX5_isDigit 7 = .ok (.bipush 57, 2) := by decide +kernel
theorem dX5_isDigit_9 : decode cX5_isDigit 9 = .ok (.if_icmp .gt 7, 3) := by decide +kernel
theorem dX5_isDigit_12 : decode cX5_isDigit 12 = .ok (.iconst 1, 1) := by decide +kernel
theorem dX5_isDigit_13 : decode cX5_isDigit 13 = .ok (.goto 4, 3) := by decide +kernel
theorem dX5_isDigit_16 : decode cX5_isDigit 16 = .ok (.iconst 0, 1) := by decide +kernel
theorem dX5_isDigit_17 : decode cX5_isDigit 17 = .ok (.ireturn, 1) := by decide +kernel
theorem dX6_init_0 : decode cX6_init 0 = .ok (.aload_n 0, 1) := by decide +kernel
theorem dX6_init_1 : decode cX6_init 1 = .ok (.invokespecial 3, 3) := by decide +kernel
theorem dX6_init_4 : decode cX6_init 4 = .ok (.aload_n 0, 1) := by decide +kernel
theorem dX6_init_5 : decode cX6_init 5 = .ok (.iconst 1, 1) := by decide +kernel
theorem dX6_init_6 : decode cX6_init 6 = .ok (.putfield 9, 3) := by decide +kernel
theorem dX6_init_9 : decode cX6_init 9 = .ok (.aload_n 0, 1) := by decide +kernel
theorem dX6_init_10 : decode cX6_init 10 = .ok (.new 15, 3) := by decide +kernel
theorem dX6_init_13 : decode cX6_init 13 = .ok (.dup, 1) := by decide +kernel
theorem dX6_init_14 : decode cX6_init 14 = .ok (.invokespecial 17, 3) := by decide +kernel
theorem dX6_init_17 : decode cX6_init 17 = .ok (.putfield 18, 3) := by decide +kernel
theorem dX6_init_20 : decode cX6_init 20 = .ok (.aload_n 0, 1) := by decide +kernel
theorem dX6_init_21 : decode cX6_init 21 = .ok (.bipush 6, 2) := by decide +kernel
theorem dX6_init_23 : decode cX6_init 23 = .ok (.newarray .int, 2) := by decide +kernel
theorem dX6_init_25 : decode cX6_init 25 = .ok (.putfield 22, 3) := by decide +kernel
theorem dX6_init_28 : decode cX6_init 28 = .ok (.aload_n 0, 1) := by decide +kernel
theorem dX6_init_29 : decode cX6_init 29 = .ok (.bipush 6, 2) := by decide +kernel
theorem dX6_init_31 : decode cX6_init 31 = .ok (.newarray .int, 2) := by decide +kernel
theorem dX6_init_33 : decode cX6_init 33 = .ok (.putfield 26, 3) := by decide +kernel
theorem dX6_init_36 : decode cX6_init 36 = .ok (.aload_n 0, 1) := by decide +kernel
theorem dX6_init_37 : decode cX6_init 37 = .ok (.bipush 6, 2) := by decide +kernel
theorem dX6_init_39 : decode cX6_init 39 = .ok (.newarray .int, 2) := by decide +kernel
theorem dX6_init_41 : decode cX6_init 41 = .ok (.putfield 29, 3) := by decide +kernel
theorem dX6_init_44 : decode cX6_init 44 = .ok (.return_, 1) := by decide +kernel
theorem dX6_copy_0 : decode cX6_copy 0 = .ok (.aload_n 0, 1) := by decide +kernel
theorem dX6_copy_1 : decode cX6_copy 1 = .ok (.aload_n 1, 1) := by decide +kernel
theorem dX6_copy_2 : decode cX6_copy 2 = .ok (.getfield 32, 3) := by decide +kernel
theorem dX6_copy_5 : decode cX6_copy 5 = .ok (.putfield 32, 3) := by decide +kernel
theorem dX6_copy_8 : decode cX6_copy 8 = .ok (.aload_n 0, 1) := by decide +kernel
theorem dX6_copy_9 : decode cX6_copy 9 = .ok (.aload_n 1, 1) := by decide +kernel
theorem dX6_copy_10 : decode cX6_copy 10 = .ok (.getfield 35, 3) := by decide +kernel
theorem dX6_copy_13 : decode cX6_copy 13 = .ok (.putfield 35, 3) := by decide +kernel
theorem dX6_copy_16 : decode cX6_copy 16 = .ok (.aload_n 0, 1) := by decide +kernel
theorem dX6_copy_17 : decode cX6_copy 17 = .ok (.aload_n 1, 1) := by decide +kernel
theorem dX6_copy_18 : decode cX6_copy 18 = .ok (.getfield 9, 3) := by decide +kernel
theorem dX6_copy_21 : decode cX6_copy 21 = .ok (.putfield 9, 3) := by decide +kernel
theorem dX6_copy_24 : decode cX6_copy 24 = .ok (.aload_n 0, 1) := by decide +kernel
theorem dX6_copy_25 : decode cX6_copy 25 = .ok (.getfield 18, 3) := by decide +kernel
theorem dX6_copy_28 : decode cX6_copy 28 = .ok (.aload_n 1, 1) := by decide +kernel
theorem dX6_copy_29 : decode cX6_copy 29 = .ok (.getfield 18, 3) := by decide +kernel
theorem dX6_copy_32 : decode cX6_copy 32 = .ok (.invokevirtual 38, 3) := by decide +kernel
theorem dX6_copy_35 : decode cX6_copy 35 = .ok (.aload_n 0, 1) := by decide +kernel
theorem dX6_copy_36 : decode cX6_copy 36 = .ok (.aload_n 1, 1) := by decide +kernel
theorem dX6_copy_37 : decode cX6_copy 37 = .ok (.getfield 42, 3) := by decide +kernel
theorem dX6_copy_40 : decode cX6_copy 40 = .ok (.putfield 42, 3) := by decide +kernel
theorem dX6_copy_43 : decode cX6_copy 43 = .ok (.aload_n 1, 1) := by decide +kernel
theorem dX6_copy_44 : decode cX6_copy 44 = .ok (.getfield 22, 3) := by decide +kernel
theorem dX6_copy_47 : decode cX6_copy 47 = .ok (.iconst 0, 1) := by decide +kernel
theorem dX6_copy_48 : decode cX6_copy 48 = .ok (.aload_n 0, 1) := by decide +kernel
theorem dX6_copy_49 : decode cX6_copy 49 = .ok (.getfield 22, 3) := by decide +kernel
theorem dX6_copy_52 : decode cX6_copy 52 = .ok (.iconst 0, 1) := by decide +kernel
theorem dX6_copy_53 : decode cX6_copy 53 = .ok (.bipush 6, 2) := by decide +kernel
theorem dX6_copy_55 : decode cX6_copy 55 = .ok (.invokestatic 45, 3) := by decide +kernel
theorem dX6_copy_58 : decode cX6_copy 58 = .ok (.aload_n 1, 1) := by decide +kernel
theorem dX6_copy_59 : decode cX6_copy 59 = .ok (.getfield 26, 3) := by decide +kernel
theorem dX6_copy_62 : decode cX6_copy 62 = .ok (.iconst 0, 1) := by decide +kernel
theorem dX6_copy_63 : decode cX6_copy 63 = .ok (.aload_n 0, 1) := by decide +kernel
theorem dX6_copy_64 : decode cX6_copy 64 = .ok (.getfield 26, 3) := by decide +kernel
theorem dX6_copy_67 : decode cX6_copy 67 = .ok (.iconst 0, 1) := by decide +kernel
theorem dX6_copy_68 : decode cX6_copy 68 = .ok (.bipush 6, 2) := by decide +kernel
theorem dX6_copy_70 : decode cX6_copy 70 = .ok (.invokestatic 45, 3) := by decide +kernel
theorem dX6_copy_73 : decode cX6_copy 73 = .ok (.aload_n 1, 1) := by decide +kernel
theorem dX6_copy_74 : decode cX6_copy 74 = .ok (.getfield 29, 3) := by decide +kernel
theorem dX6_copy_77 : decode cX6_copy 77 = .ok (.iconst 0, 1) := by decide +kernel
theorem dX6_copy_78 : decode cX6_copy 78 = .ok (.aload_n 0, 1) := by decide +kernel
theorem dX6_copy_79 : decode cX6_copy 79 = .ok (.getfield 29, 3) := by decide +kernel
theorem dX6_copy_82 : decode cX6_copy 82 = .ok (.iconst 0, 1) := by decide +kernel
theorem dX6_copy_83 : decode cX6_copy 83 = .ok (.bipush 6, 2) := by decide +kernel
theorem dX6_copy_85 : decode cX6_copy 85 = .ok (.invokestatic 45, 3) := by decide +kernel
theorem dX6_copy_88 : decode cX6_copy 88 = .ok (.return_, 1) := by decide +kernel
theorem dX6_pieceBeat_0 : decode cX6_pieceBeat 0 = .ok (.aload_n 0, 1) := by decide +kernel
theorem dX6_pieceBeat_1 : decode cX6_pieceBeat 1 = .ok (.getfield 32, 3) := by decide +kernel
theorem dX6_pieceBeat_4 : decode cX6_pieceBeat 4 = .ok (.bipush 31, 2) := by decide +kernel
theorem dX6_pieceBeat_6 : decode cX6_pieceBeat 6 = .ok (.iand, 1) := by decide +kernel
theorem dX6_pieceBeat_7 : decode cX6_pieceBeat 7 = .ok (.ireturn, 1) := by decide +kernel
theorem dX6_seats_0 : decode cX6_seats 0 = .ok (.iload_n 1, 1) := by decide +kernel
theorem dX6_seats_1 : decode cX6_seats 1 = .ok (.ifCond .lt 21, 3) := by decide +kernel
theorem dX6_seats_4 : decode cX6_seats 4 = .ok (.iload_n 1, 1) := by decide +kernel
theorem dX6_seats_5 : decode cX6_seats 5 = .ok (.aload_n 0, 1) := by decide +kernel
theorem dX6_seats_6 : decode cX6_seats 6 = .ok (.getfield 42, 3) := by decide +kernel
theorem dX6_seats_9 : decode cX6_seats 9 = .ok (.if_icmp .ge 13, 3) := by decide +kernel
theorem dX6_seats_12 : decode cX6_seats 12 = .ok (.iload_n 1, 1) := by decide +kernel
theorem dX6_seats_13 : decode cX6_seats 13 = .ok (.bipush 6, 2) := by decide +kernel
theorem dX6_seats_15 : decode cX6_seats 15 = .ok (.if_icmp .ge 7, 3) := by decide +kernel
theorem dX6_seats_18 : decode cX6_seats 18 = .ok (.iconst 1, 1) := by decide +kernel
theorem dX6_seats_19 : decode cX6_seats 19 = .ok (.goto 4, 3) := by decide +kernel
theorem dX6_seats_22 : decode cX6_seats 22 = .ok (.iconst 0, 1) := by decide +kernel
theorem dX6_seats_23 : decode cX6_seats 23 = .ok (.ireturn, 1) := by decide +kernel
theorem dX6_seat_0 : decode cX6_seat 0 = .ok (.aload_n 0, 1) := by decide +kernel
theorem dX6_seat_1 : decode cX6_seat 1 = .ok (.getfield 42, 3) := by decide +kernel
theorem dX6_seat_4 : decode cX6_seat 4 = .ok (.istore_n 2, 1) := by decide +kernel
theorem dX6_seat_5 : decode cX6_seat 5 = .ok (.iload_n 2, 1) := by decide +kernel
theorem dX6_seat_6 : decode cX6_seat 6 = .ok (.ifCond .lt 9, 3) := by decide +kernel
theorem dX6_seat_9 : decode cX6_seat 9 = .ok (.iload_n 2, 1) := by decide +kernel
theorem dX6_seat_10 : decode cX6_seat 10 = .ok (.bipush 6, 2) := by decide +kernel
theorem dX6_seat_12 : decode cX6_seat 12 = .ok (.if_icmp .lt 5, 3) := by decide +kernel
theorem dX6_seat_15 : decode cX6_seat 15 = .ok (.iload_n 2, 1) := by decide +kernel
theorem dX6_seat_16 : decode cX6_seat 16 = .ok (.ireturn, 1) := by decide +kernel
theorem dX6_seat_17 : decode cX6_seat 17 = .ok (.aload_n 0, 1) := by decide +kernel
theorem dX6_seat_18 : decode cX6_seat 18 = .ok (.getfield 22, 3) := by decide +kernel
theorem dX6_seat_21 : decode cX6_seat 21 = .ok (.iload_n 2, 1) := by decide +kernel
theorem dX6_seat_22 : decode cX6_seat 22 = .ok (.iload_n 1, 1) := by decide +kernel
theorem dX6_seat_23 : decode cX6_seat 23 = .ok (.iastore, 1) := by decide +kernel
theorem dX6_seat_24 : decode cX6_seat 24 = .ok (.aload_n 0, 1) := by decide +kernel
theorem dX6_seat_25 : decode cX6_seat 25 = .ok (.getfield 26, 3) := by decide +kernel
theorem dX6_seat_28 : decode cX6_seat 28 = .ok (.iload_n 2, 1) := by decide +kernel
theorem dX6_seat_29 : decode cX6_seat 29 = .ok (.iconst 0, 1) := by decide +kernel
theorem dX6_seat_30 : decode cX6_seat 30 = .ok (.iastore, 1) := by decide +kernel
theorem dX6_seat_31 : decode cX6_seat 31 = .ok (.aload_n 0, 1) := by decide +kernel
theorem dX6_seat_32 : decode cX6_seat 32 = .ok (.getfield 29, 3) := by decide +kernel
theorem dX6_seat_35 : decode cX6_seat 35 = .ok (.iload_n 2, 1) := by decide +kernel
theorem dX6_seat_36 : decode cX6_seat 36 = .ok (.bipush 50, 2) := by decide +kernel
theorem dX6_seat_38 : decode cX6_seat 38 = .ok (.iastore, 1) := by decide +kernel
theorem dX6_seat_39 : decode cX6_seat 39 = .ok (.aload_n 0, 1) := by decide +kernel
theorem dX6_seat_40 : decode cX6_seat 40 = .ok (.dup, 1) := by decide +kernel
theorem dX6_seat_41 : decode cX6_seat 41 = .ok (.getfield 42, 3) := by decide +kernel
theorem dX6_seat_44 : decode cX6_seat 44 = .ok (.iconst 1, 1) := by decide +kernel
theorem dX6_seat_45 : decode cX6_seat 45 = .ok (.iadd, 1) := by decide +kernel
theorem dX6_seat_46 : decode cX6_seat 46 = .ok (.putfield 42, 3) := by decide +kernel
theorem dX6_seat_49 : decode cX6_seat 49 = .ok (.iload_n 2, 1) := by decide +kernel
theorem dX6_seat_50 : decode cX6_seat 50 = .ok (.ireturn, 1) := by decide +kernel
theorem dX6_allCoins_0 : decode cX6_allCoins 0 = .ok (.iconst 0, 1) := by decide +kernel
theorem dX6_allCoins_1 : decode cX6_allCoins 1 = .ok (.istore_n 1, 1) := by decide +kernel
theorem dX6_allCoins_2 : decode cX6_allCoins 2 = .ok (.iconst 0, 1) := by decide +kernel
theorem dX6_allCoins_3 : decode cX6_allCoins 3 = .ok (.istore_n 2, 1) := by decide +kernel
theorem dX6_allCoins_4 : decode cX6_allCoins 4 = .ok (.iload_n 2, 1) := by decide +kernel
theorem dX6_allCoins_5 : decode cX6_allCoins 5 = .ok (.aload_n 0, 1) := by decide +kernel
theorem dX6_allCoins_6 : decode cX6_allCoins 6 = .ok (.getfield 42, 3) := by decide +kernel
theorem dX6_allCoins_9 : decode cX6_allCoins 9 = .ok (.if_icmp .ge 24, 3) := by decide +kernel
theorem dX6_allCoins_12 : decode cX6_allCoins 12 = .ok (.iload_n 2, 1) := by decide +kernel
theorem dX6_allCoins_13 : decode cX6_allCoins 13 = .ok (.bipush 6, 2) := by decide +kernel
theorem dX6_allCoins_15 : decode cX6_allCoins 15 = .ok (.if_icmp .ge 18, 3) := by decide +kernel
theorem dX6_allCoins_18 : decode cX6_allCoins 18 = .ok (.iload_n 1, 1) := by decide +kernel
theorem dX6_allCoins_19 : decode cX6_allCoins 19 = .ok (.aload_n 0, 1) := by decide +kernel
theorem dX6_allCoins_20 : decode cX6_allCoins 20 = .ok (.getfield 29, 3) := by decide +kernel
theorem dX6_allCoins_23 : decode cX6_allCoins 23 = .ok (.iload_n 2, 1) := by decide +kernel
theorem dX6_allCoins_24 : decode cX6_allCoins 24 = .ok (.iaload, 1) := by decide +kernel
theorem dX6_allCoins_25 : decode cX6_allCoins 25 = .ok (.iadd, 1) := by decide +kernel
theorem dX6_allCoins_26 : decode cX6_allCoins 26 = .ok (.istore_n 1, 1) := by decide +kernel
theorem dX6_allCoins_27 : decode cX6_allCoins 27 = .ok (.iinc 2 1, 3) := by decide +kernel
theorem dX6_allCoins_30 : decode cX6_allCoins 30 = .ok (.goto (-26), 3) := by decide +kernel
theorem dX6_allCoins_33 : decode cX6_allCoins 33 = .ok (.iload_n 1, 1) := by decide +kernel
theorem dX6_allCoins_34 : decode cX6_allCoins 34 = .ok (.ireturn, 1) := by decide +kernel
theorem dX6_tellOf_0 : decode cX6_tellOf 0 = .ok (.aload_n 0, 1) := by decide +kernel
theorem dX6_tellOf_1 : decode cX6_tellOf 1 = .ok (.iload_n 2, 1) := by decide +kernel
theorem dX6_tellOf_2 : decode cX6_tellOf 2 = .ok (.invokevirtual 51, 3) := by decide +kernel
theorem dX6_tellOf_5 : decode cX6_tellOf 5 = .ok (.ifCond .ne 5, 3) := by decide +kernel
theorem dX6_tellOf_8 : decode cX6_tellOf 8 = .ok (.iconst 0, 1) := by decide +kernel
theorem dX6_tellOf_9 : decode cX6_tellOf 9 = .ok (.ireturn, 1) := by decide +kernel
theorem dX6_tellOf_10 : decode cX6_tellOf 10 = .ok (.iload_n 3, 1) := by decide +kernel
theorem dX6_tellOf_11 : decode cX6_tellOf 11 = .ok (.ifCond .ne 10, 3) := by decide +kernel
theorem dX6_tellOf_14 : decode cX6_tellOf 14 = .ok (.aload_n 0, 1) := by decide +kernel
theorem dX6_tellOf_15 : decode cX6_tellOf 15 = .ok (.getfield 22, 3) := by decide +kernel
theorem dX6_tellOf_18 : decode cX6_tellOf 18 = .ok (.iload_n 2, 1) := by decide +kernel
theorem dX6_tellOf_19 : decode cX6_tellOf 19 = .ok (.iaload, 1) := by decide +kernel
theorem dX6_tellOf_20 : decode cX6_tellOf 20 = .ok (.ireturn, 1) := by decide +kernel
theorem dX6_tellOf_21 : decode cX6_tellOf 21 = .ok (.iload_n 3, 1) := by decide +kernel
theorem dX6_tellOf_22 : decode cX6_tellOf 22 = .ok (.iconst 1, 1) := by decide +kernel
theorem dX6_tellOf_23 : decode cX6_tellOf 23 = .ok (.if_icmp .ne 10, 3) := by decide +kernel
theorem dX6_tellOf_26 : decode cX6_tellOf 26 = .ok (.aload_n 0, 1) := by decide +kernel
theorem dX6_tellOf_27 : decode cX6_tellOf 27 = .ok (.getfield 26, 3) := by decide +kernel
theorem dX6_tellOf_30 : decode cX6_tellOf 30 = .ok (.iload_n 2, 1) := by decide +kernel
theorem dX6_tellOf_31 : decode cX6_tellOf 31 = .ok (.iaload, 1) := by decide +kernel
theorem dX6_tellOf_32 : decode cX6_tellOf 32 = .ok (.ireturn, 1) := by decide +kernel
theorem dX6_tellOf_33 : decode cX6_tellOf 33 = .ok (.iload_n 3, 1) := by decide +kernel
theorem dX6_tellOf_34 : decode cX6_tellOf 34 = .ok (.iconst 2, 1) := by decide +kernel
theorem dX6_tellOf_35 : decode cX6_tellOf 35 = .ok (.if_icmp .ne 10, 3) := by decide +kernel
theorem dX6_tellOf_38 : decode cX6_tellOf 38 = .ok (.aload_n 0, 1) := by decide +kernel
theorem dX6_tellOf_39 : decode cX6_tellOf 39 = .ok (.getfield 29, 3) := by decide +kernel
theorem dX6_tellOf_42 : decode cX6_tellOf 42 = .ok (.iload_n 2, 1) := by decide +kernel
theorem dX6_tellOf_43 : decode cX6_tellOf 43 = .ok (.iaload, 1) := by decide +kernel
theorem dX6_tellOf_44 : decode cX6_tellOf 44 = .ok (.ireturn, 1) := by decide +kernel
theorem dX6_tellOf_45 : decode cX6_tellOf 45 = .ok (.aload_n 0, 1) := by decide +kernel
theorem dX6_tellOf_46 : decode cX6_tellOf 46 = .ok (.invokevirtual 55, 3) := by decide +kernel
theorem dX6_tellOf_49 : decode cX6_tellOf 49 = .ok (.istore 4, 2) := by decide +kernel
theorem dX6_tellOf_51 : decode cX6_tellOf 51 = .ok (.aload_n 0, 1) := by decide +kernel
theorem dX6_tellOf_52 : decode cX6_tellOf 52 = .ok (.getfield 18, 3) := by decide +kernel
theorem dX6_tellOf_55 : decode cX6_tellOf 55 = .ok (.aload_n 1, 1) := by decide +kernel
theorem dX6_tellOf_56 : decode cX6_tellOf 56 = .ok (.aload_n 0, 1) := by decide +kernel
theorem dX6_tellOf_57 : decode cX6_tellOf 57 = .ok (.getfield 18, 3) := by decide +kernel
theorem dX6_tellOf_60 : decode cX6_tellOf 60 = .ok (.getfield 59, 3) := by decide +kernel
theorem dX6_tellOf_63 : decode cX6_tellOf 63 = .ok (.aload_n 0, 1) := by decide +kernel
theorem dX6_tellOf_64 : decode cX6_tellOf 64 = .ok (.getfield 22, 3) := by decide +kernel
theorem dX6_tellOf_67 : decode cX6_tellOf 67 = .ok (.iload_n 2, 1) := by decide +kernel
theorem dX6_tellOf_68 : decode cX6_tellOf 68 = .ok (.iaload, 1) := by decide +kernel
theorem dX6_tellOf_69 : decode cX6_tellOf 69 = .ok (.iload 4, 2) := by decide +kernel
theorem dX6_tellOf_71 : decode cX6_tellOf 71 = .ok (.aload_n 1, 1) := by decide +kernel
theorem dX6_tellOf_72 : decode cX6_tellOf 72 = .ok (.getfield 62, 3) := by decide +kernel
theorem dX6_tellOf_75 : decode cX6_tellOf 75 = .ok (.aload_n 0, 1) := by decide +kernel
theorem dX6_tellOf_76 : decode cX6_tellOf 76 = .ok (.getfield 18, 3) := by decide +kernel
theorem dX6_tellOf_79 : decode cX6_tellOf 79 = .ok (.iload 4, 2) := by decide +kernel
theorem dX6_tellOf_81 : decode cX6_tellOf 81 = .ok (.invokevirtual 67, 3) := by decide +kernel
theorem dX6_tellOf_84 : decode cX6_tellOf 84 = .ok (.invokevirtual 71, 3) := by decide +kernel
theorem dX6_tellOf_87 : decode cX6_tellOf 87 = .ok (.ifCond .eq 7, 3) := by decide +kernel
theorem dX6_tellOf_90 : decode cX6_tellOf 90 = .ok (.iconst 1, 1) := by decide +kernel
theorem dX6_tellOf_91 : decode cX6_tellOf 91 = .ok (.goto 4, 3) := by decide +kernel
theorem dX6_tellOf_94 : decode cX6_tellOf 94 = .ok (.iconst 0, 1) := by decide +kernel
theorem dX6_tellOf_95 : decode cX6_tellOf 95 = .ok (.ireturn, 1) := by decide +kernel
theorem dX6_goBy_0 : decode cX6_goBy 0 = .ok (.aload_n 0, 1) := by decide +kernel
theorem dX6_goBy_1 : decode cX6_goBy 1 = .ok (.invokevirtual 55, 3) := by decide +kernel
theorem dX6_goBy_4 : decode cX6_goBy 4 = .ok (.istore_n 3, 1) := by decide +kernel
theorem dX6_goBy_5 : decode cX6_goBy 5 = .ok (.aload_n 0, 1) := by decide +kernel
theorem dX6_goBy_6 : decode cX6_goBy 6 = .ok (.getfield 18, 3) := by decide +kernel
theorem dX6_goBy_9 : decode cX6_goBy 9 = .ok (.iload_n 3, 1) := by decide +kernel
theorem dX6_goBy_10 : decode cX6_goBy 10 = .ok (.invokevirtual 67, 3) := by decide +kernel
theorem dX6_goBy_13 : decode cX6_goBy 13 = .ok (.istore 4, 2) := by decide +kernel
theorem dX6_goBy_15 : decode cX6_goBy 15 = .ok (.iload_n 2, 1) := by decide +kernel
theorem dX6_goBy_16 : decode cX6_goBy 16 = .ok (.ifCond .eq 11, 3) := by decide +kernel
theorem dX6_goBy_19 : decode cX6_goBy 19 = .ok (.aload_n 0, 1) := by decide +kernel
theorem dX6_goBy_20 : decode cX6_goBy 20 = .ok (.iload 4, 2) := by decide +kernel
theorem dX6_goBy_22 : decode cX6_goBy 22 = .ok (.invokevirtual 75, 3) := by decide +kernel
theorem dX6_goBy_25 : decode cX6_goBy 25 = .ok (.istore 4, 2) := by decide +kernel
theorem dX6_goBy_27 : decode cX6_goBy 27 = .ok (.iconst 0, 1) := by decide +kernel
theorem dX6_goBy_28 : decode cX6_goBy 28 = .ok (.istore 5, 2) := by decide +kernel
theorem dX6_goBy_30 : decode cX6_goBy 30 = .ok (.iload 5, 2) := by decide +kernel
theorem dX6_goBy_32 : decode cX6_goBy 32 = .ok (.aload_n 0, 1) := by decide +kernel
theorem dX6_goBy_33 : decode cX6_goBy 33 = .ok (.getfield 42, 3) := by decide +kernel
theorem dX6_goBy_36 : decode cX6_goBy 36 = .ok (.if_icmp .ge 139, 3) := by decide +kernel
theorem dX6_goBy_39 : decode cX6_goBy 39 = .ok (.iload 5, 2) := by decide +kernel
theorem dX6_goBy_41 : decode cX6_goBy 41 = .ok (.bipush 6, 2) := by decide +kernel
theorem dX6_goBy_43 : decode cX6_goBy 43 = .ok (.if_icmp .ge 132, 3) := by decide +kernel
theorem dX6_goBy_46 : decode cX6_goBy 46 = .ok (.aload_n 0, 1) := by decide +kernel
theorem dX6_goBy_47 : decode cX6_goBy 47 = .ok (.getfield 18, 3) := by decide +kernel
theorem dX6_goBy_50 : decode cX6_goBy 50 = .ok (.aload_n 1, 1) := by decide +kernel
theorem dX6_goBy_51 : decode cX6_goBy 51 = .ok (.aload_n 0, 1) := by decide +kernel
theorem dX6_goBy_52 : decode cX6_goBy 52 = .ok (.getfield 18, 3) := by decide +kernel
theorem dX6_goBy_55 : decode cX6_goBy 55 = .ok (.getfield 59, 3) := by decide +kernel
theorem dX6_goBy_58 : decode cX6_goBy 58 = .ok (.aload_n 0, 1) := by decide +kernel
theorem dX6_goBy_59 : decode cX6_goBy 59 = .ok (.getfield 22, 3) := by decide +kernel
theorem dX6_goBy_62 : decode cX6_goBy 62 = .ok (.iload 5, 2) := by decide +kernel
theorem dX6_goBy_64 : decode cX6_goBy 64 = .ok (.iaload, 1) := by decide +kernel
theorem dX6_goBy_65 : decode cX6_goBy 65 = .ok (.iload_n 3, 1) := by decide +kernel
theorem dX6_goBy_66 : decode cX6_goBy 66 = .ok (.aload_n 1, 1) := by decide +kernel
theorem dX6_goBy_67 : decode cX6_goBy 67 = .ok (.getfield 62, 3) := by decide +kernel
theorem dX6_goBy_70 : decode cX6_goBy 70 = .ok (.iload 4, 2) := by decide +kernel
theorem dX6_goBy_72 : decode cX6_goBy 72 = .ok (.invokevirtual 71, 3) := by decide +kernel
theorem dX6_goBy_75 : decode cX6_goBy 75 = .ok (.istore 6, 2) := by decide +kernel
theorem dX6_goBy_77 : decode cX6_goBy 77 = .ok (.iload 6, 2) := by decide +kernel
theorem dX6_goBy_79 : decode cX6_goBy 79 = .ok (.ifCond .eq 25, 3) := by decide +kernel
theorem dX6_goBy_82 : decode cX6_goBy 82 = .ok (.aload_n 0, 1) := by decide +kernel
theorem dX6_goBy_83 : decode cX6_goBy 83 = .ok (.getfield 26, 3) := by decide +kernel
theorem dX6_goBy_86 : decode cX6_goBy 86 = .ok (.iload 5, 2) := by decide +kernel
theorem dX6_goBy_88 : decode cX6_goBy 88 = .ok (.sipush 9999, 3) := by decide +kernel
theorem dX6_goBy_91 : decode cX6_goBy 91 = .ok (.aload_n 0, 1) := by decide +kernel
theorem dX6_goBy_92 : decode cX6_goBy 92 = .ok (.getfield 26, 3) := by decide +kernel
theorem dX6_goBy_95 : decode cX6_goBy 95 = .ok (.iload 5, 2) := by decide +kernel
theorem dX6_goBy_97 : decode cX6_goBy 97 = .ok (.iaload, 1) := by decide +kernel
theorem dX6_goBy_98 : decode cX6_goBy 98 = .ok (.iconst 1, 1) := by decide +kernel
theorem dX6_goBy_99 : decode cX6_goBy 99 = .ok (.iadd, 1) := by decide +kernel
theorem dX6_goBy_100 : decode cX6_goBy 100 = .ok (.invokestatic 78, 3) := by decide +kernel
theorem dX6_goBy_103 : decode cX6_goBy 103 = .ok (.iastore, 1) := by decide +kernel
theorem dX6_goBy_104 : decode cX6_goBy 104 = .ok (.aload_n 1, 1) := by decide +kernel
theorem dX6_goBy_105 : decode cX6_goBy 105 = .ok (.iconst 1, 1) := by decide +kernel
theorem dX6_goBy_106 : decode cX6_goBy 106 = .ok (.iload 4, 2) := by decide +kernel
theorem dX6_goBy_108 : decode cX6_goBy 108 = .ok (.invokestatic 84, 3) := by decide +kernel
theorem dX6_goBy_111 : decode cX6_goBy 111 = .ok (.iload 6, 2) := by decide +kernel
theorem dX6_goBy_113 : decode cX6_goBy 113 = .ok (.ifCond .eq 7, 3) := by decide +kernel
theorem dX6_goBy_116 : decode cX6_goBy 116 = .ok (.iconst 1, 1) := by decide +kernel
theorem dX6_goBy_117 : decode cX6_goBy 117 = .ok (.goto 4, 3) := by decide +kernel
theorem dX6_goBy_120 : decode cX6_goBy 120 = .ok (.iconst 0, 1) := by decide +kernel
theorem dX6_goBy_121 : decode cX6_goBy 121 = .ok (.iload_n 3, 1) := by decide +kernel
theorem dX6_goBy_122 : decode cX6_goBy 122 = .ok (.invokevirtual 89, 3) := by decide +kernel
theorem dX6_goBy_125 : decode cX6_goBy 125 = .ok (.istore 7, 2) := by decide +kernel
theorem dX6_goBy_127 : decode cX6_goBy 127 = .ok (.iload 7, 2) := by decide +kernel
theorem dX6_goBy_129 : decode cX6_goBy 129 = .ok (.aload_n 0, 1) := by decide +kernel
theorem dX6_goBy_130 : decode cX6_goBy 130 = .ok (.getfield 29, 3) := by decide +kernel
theorem dX6_goBy_133 : decode cX6_goBy 133 = .ok (.iload 5, 2) := by decide +kernel
theorem dX6_goBy_135 : decode cX6_goBy 135 = .ok (.iaload, 1) := by decide +kernel
theorem dX6_goBy_136 : decode cX6_goBy 136 = .ok (.invokestatic 78, 3) := by decide +kernel
theorem dX6_goBy_139 : decode cX6_goBy 139 = .ok (.istore 8, 2) := by decide +kernel
theorem dX6_goBy_141 : decode cX6_goBy 141 = .ok (.aload_n 0, 1) := by decide +kernel
theorem dX6_goBy_142 : decode cX6_goBy 142 = .ok (.getfield 29, 3) := by decide +kernel
theorem dX6_goBy_145 : decode cX6_goBy 145 = .ok (.iload 5, 2) := by decide +kernel
theorem dX6_goBy_147 : decode cX6_goBy 147 = .ok (.dup2, 1) := by decide +kernel
theorem dX6_goBy_148 : decode cX6_goBy 148 = .ok (.iaload, 1) := by decide +kernel
theorem dX6_goBy_149 : decode cX6_goBy 149 = .ok (.iload 8, 2) := by decide +kernel
theorem dX6_goBy_151 : decode cX6_goBy 151 = .ok (.isub, 1) := by decide +kernel
theorem dX6_goBy_152 : decode cX6_goBy 152 = .ok (.iastore, 1) := by decide +kernel
theorem dX6_goBy_153 : decode cX6_goBy 153 = .ok (.aload_n 0, 1) := by decide +kernel
theorem dX6_goBy_154 : decode cX6_goBy 154 = .ok (.ldc 93, 2) := by decide +kernel
theorem dX6_goBy_156 : decode cX6_goBy 156 = .ok (.aload_n 0, 1) := by decide +kernel
theorem dX6_goBy_157 : decode cX6_goBy 157 = .ok (.getfield 35, 3) := by decide +kernel
theorem dX6_goBy_160 : decode cX6_goBy 160 = .ok (.iload 8, 2) := by decide +kernel
theorem dX6_goBy_162 : decode cX6_goBy 162 = .ok (.iadd, 1) := by decide +kernel
theorem dX6_goBy_163 : decode cX6_goBy 163 = .ok (.invokestatic 78, 3) := by decide +kernel
theorem dX6_goBy_166 : decode cX6_goBy 166 = .ok (.putfield 35, 3) := by decide +kernel
theorem dX6_goBy_169 : decode cX6_goBy 169 = .ok (.iinc 5 1, 3) := by decide +kernel
theorem dX6_goBy_172 : decode cX6_goBy 172 = .ok (.goto (-142), 3) := by decide +kernel
theorem dX6_goBy_175 : decode cX6_goBy 175 = .ok (.aload_n 1, 1) := by decide +kernel
theorem dX6_goBy_176 : decode cX6_goBy 176 = .ok (.iload_n 3, 1) := by decide +kernel
theorem dX6_goBy_177 : decode cX6_goBy 177 = .ok (.invokevirtual 94, 3) := by decide +kernel
theorem dX6_goBy_180 : decode cX6_goBy 180 = .ok (.istore 5, 2) := by decide +kernel
theorem dX6_goBy_182 : decode cX6_goBy 182 = .ok (.iconst 0, 1) := by decide +kernel
theorem dX6_goBy_183 : decode cX6_goBy 183 = .ok (.istore 6, 2) := by decide +kernel
theorem dX6_goBy_185 : decode cX6_goBy 185 = .ok (.iload 6, 2) := by decide +kernel
theorem dX6_goBy_187 : decode cX6_goBy 187 = .ok (.aload_n 0, 1) := by decide +kernel
theorem dX6_goBy_188 : decode cX6_goBy 188 = .ok (.getfield 18, 3) := by decide +kernel
theorem dX6_goBy_191 : decode cX6_goBy 191 = .ok (.getfield 97, 3) := by decide +kernel
theorem dX6_goBy_194 : decode cX6_goBy 194 = .ok (.if_icmp .ge 48, 3) := by decide +kernel
theorem dX6_goBy_197 : decode cX6_goBy 197 = .ok (.iload 6, 2) := by decide +kernel
theorem dX6_goBy_199 : decode cX6_goBy 199 = .ok (.bipush 9, 2) := by decide +kernel
theorem dX6_goBy_201 : decode cX6_goBy 201 = .ok (.if_icmp .ge 41, 3) := by decide +kernel
theorem dX6_goBy_204 : decode cX6_goBy 204 = .ok (.aload_n 0, 1) := by decide +kernel
theorem dX6_goBy_205 : decode cX6_goBy 205 = .ok (.getfield 18, 3) := by decide +kernel
theorem dX6_goBy_208 : decode cX6_goBy 208 = .ok (.getfield 59, 3) := by decide +kernel
theorem dX6_goBy_211 : decode cX6_goBy 211 = .ok (.iload 6, 2) := by decide +kernel
theorem dX6_goBy_213 : decode cX6_goBy 213 = .ok (.aload_n 0, 1) := by decide +kernel
theorem dX6_goBy_214 : decode cX6_goBy 214 = .ok (.getfield 18, 3) := by decide +kernel
theorem dX6_goBy_217 : decode cX6_goBy 217 = .ok (.iload 6, 2) := by decide +kernel
theorem dX6_goBy_219 : decode cX6_goBy 219 = .ok (.aload_n 0, 1) := by decide +kernel
theorem dX6_goBy_220 : decode cX6_goBy 220 = .ok (.getfield 18, 3) := by decide +kernel
theorem dX6_goBy_223 : decode cX6_goBy 223 = .ok (.getfield 59, 3) := by decide +kernel
theorem dX6_goBy_226 : decode cX6_goBy 226 = .ok (.iload 6, 2) := by decide +kernel
theorem dX6_goBy_228 : decode cX6_goBy 228 = .ok (.iaload, 1) := by decide +kernel
theorem dX6_goBy_229 : decode cX6_goBy 229 = .ok (.iload_n 3, 1) := by decide +kernel
theorem dX6_goBy_230 : decode cX6_goBy 230 = .ok (.iload 5, 2) := by decide +kernel
theorem dX6_goBy_232 : decode cX6_goBy 232 = .ok (.invokevirtual 100, 3) := by decide +kernel
theorem dX6_goBy_235 : decode cX6_goBy 235 = .ok (.iastore, 1) := by decide +kernel
theorem dX6_goBy_236 : decode cX6_goBy 236 = .ok (.iinc 6 1, 3) := by decide +kernel
theorem dX6_goBy_239 : decode cX6_goBy 239 = .ok (.goto (-54), 3) := by decide +kernel
theorem dX6_goBy_242 : decode cX6_goBy 242 = .ok (.aload_n 0, 1) := by decide +kernel
theorem dX6_goBy_243 : decode cX6_goBy 243 = .ok (.dup, 1) := by decide +kernel
theorem dX6_goBy_244 : decode cX6_goBy 244 = .ok (.getfield 32, 3) := by decide +kernel
theorem dX6_goBy_247 : decode cX6_goBy 247 = .ok (.iconst 1, 1) := by decide +kernel
theorem dX6_goBy_248 : decode cX6_goBy 248 = .ok (.iadd, 1) := by decide +kernel
theorem dX6_goBy_249 : decode cX6_goBy 249 = .ok (.putfield 32, 3) := by decide +kernel
theorem dX6_goBy_252 : decode cX6_goBy 252 = .ok (.return_, 1) := by decide +kernel
theorem dX6_leftByFog_0 : decode cX6_leftByFog 0 = .ok (.iload_n 1, 1) := by decide +kernel
theorem dX6_leftByFog_1 : decode cX6_leftByFog 1 = .ok (.istore_n 2, 1) := by decide +kernel
theorem dX6_leftByFog_2 : decode cX6_leftByFog 2 = .ok (.iconst 0, 1) := by decide +kernel
theorem dX6_leftByFog_3 : decode cX6_leftByFog 3 = .ok (.istore_n 3, 1) := by decide +kernel
theorem dX6_leftByFog_4 : decode cX6_leftByFog 4 = .ok (.iload_n 3, 1) := by decide +kernel
theorem dX6_leftByFog_5 : decode cX6_leftByFog 5 = .ok (.bipush 9, 2) := by decide +kernel
theorem dX6_leftByFog_7 : decode cX6_leftByFog 7 = .ok (.if_icmp .ge 56, 3) := by decide +kernel
theorem dX6_leftByFog_10 : decode cX6_leftByFog 10 = .ok (.iload_n 1, 1) := by decide +kernel
theorem dX6_leftByFog_11 : decode cX6_leftByFog 11 = .ok (.iload_n 3, 1) := by decide +kernel
theorem dX6_leftByFog_12 : decode cX6_leftByFog 12 = .ok (.iushr, 1) := by decide +kernel
theorem dX6_leftByFog_13 : decode cX6_leftByFog 13 = .ok (.iconst 1, 1) := by decide +kernel
theorem dX6_leftByFog_14 : decode cX6_leftByFog 14 = .ok (.iand, 1) := by decide +kernel
theorem dX6_leftByFog_15 : decode cX6_leftByFog 15 = .ok (.ifCond .ne 6, 3) := by decide +kernel
theorem dX6_leftByFog_18 : decode cX6_leftByFog 18 = .ok (.goto 39, 3) := by decide +kernel
theorem dX6_leftByFog_21 : decode cX6_leftByFog 21 = .ok (.aload_n 0, 1) := by decide +kernel
theorem dX6_leftByFog_22 : decode cX6_leftByFog 22 = .ok (.aload_n 0, 1) := by decide +kernel
theorem dX6_leftByFog_23 : decode cX6_leftByFog 23 = .ok (.getfield 9, 3) := by decide +kernel
theorem dX6_leftByFog_26 : decode cX6_leftByFog 26 = .ok (.ldc 103, 2) := by decide +kernel
theorem dX6_leftByFog_28 : decode cX6_leftByFog 28 = .ok (.imul, 1) := by decide +kernel
theorem dX6_leftByFog_29 : decode cX6_leftByFog 29 = .ok (.sipush 12345, 3) := by decide +kernel
theorem dX6_leftByFog_32 : decode cX6_leftByFog 32 = .ok (.iadd, 1) := by decide +kernel
theorem dX6_leftByFog_33 : decode cX6_leftByFog 33 = .ok (.putfield 9, 3) := by decide +kernel
theorem dX6_leftByFog_36 : decode cX6_leftByFog 36 = .ok (.aload_n 0, 1) := by decide +kernel
theorem dX6_leftByFog_37 : decode cX6_leftByFog 37 = .ok (.getfield 9, 3) := by decide +kernel
theorem dX6_leftByFog_40 : decode cX6_leftByFog 40 = .ok (.bipush 8, 2) := by decide +kernel
theorem dX6_leftByFog_42 : decode cX6_leftByFog 42 = .ok (.iushr, 1) := by decide +kernel
theorem dX6_leftByFog_43 : decode cX6_leftByFog 43 = .ok (.bipush 6, 2) := by decide +kernel
theorem dX6_leftByFog_45 : decode cX6_leftByFog 45 = .ok (.irem, 1) := by decide +kernel
theorem dX6_leftByFog_46 : decode cX6_leftByFog 46 = .ok (.ifCond .ne 11, 3) := by decide +kernel
theorem dX6_leftByFog_49 : decode cX6_leftByFog 49 = .ok (.iload_n 2, 1) := by decide +kernel
theorem dX6_leftByFog_50 : decode cX6_leftByFog 50 = .ok (.iconst 1, 1) := by decide +kernel
theorem dX6_leftByFog_51 : decode cX6_leftByFog 51 = .ok (.iload_n 3, 1) := by decide +kernel
theorem dX6_leftByFog_52 : decode cX6_leftByFog 52 = .ok (.ishl, 1) := by decide +kernel
theorem dX6_leftByFog_53 : decode cX6_leftByFog 53 = .ok (.iconst (-1), 1) := by decide +kernel
theorem dX6_leftByFog_54 : decode cX6_leftByFog 54 = .ok (.ixor, 1) := by decide +kernel
theorem dX6_leftByFog_55 : decode cX6_leftByFog 55 = .ok (.iand, 1) := by decide +kernel
theorem dX6_leftByFog_56 : decode cX6_leftByFog 56 = .ok (.istore_n 2, 1) := by decide +kernel
theorem dX6_leftByFog_57 : decode cX6_leftByFog 57 = .ok (.iinc 3 1, 3) := by decide +kernel
theorem dX6_leftByFog_60 : decode cX6_leftByFog 60 = .ok (.goto (-56), 3) := by decide +kernel
theorem dX6_leftByFog_63 : decode cX6_leftByFog 63 = .ok (.iload_n 2, 1) := by decide +kernel
theorem dX6_leftByFog_64 : decode cX6_leftByFog 64 = .ok (.ireturn, 1) := by decide +kernel
theorem dX7_init_0 : decode cX7_init 0 = .ok (.aload_n 0, 1) := by decide +kernel
theorem dX7_init_1 : decode cX7_init 1 = .ok (.invokespecial 3, 3) := by decide +kernel
theorem dX7_init_4 : decode cX7_init 4 = .ok (.aload_n 0, 1) := by decide +kernel
theorem dX7_init_5 : decode cX7_init 5 = .ok (.bipush 40, 2) := by decide +kernel
theorem dX7_init_7 : decode cX7_init 7 = .ok (.newarray .int, 2) := by decide +kernel
theorem dX7_init_9 : decode cX7_init 9 = .ok (.putfield 9, 3) := by decide +kernel
theorem dX7_init_12 : decode cX7_init 12 = .ok (.return_, 1) := by decide +kernel
theorem dX7_isMissing_0 : decode cX7_isMissing 0 = .ok (.aload_n 0, 1) := by decide +kernel
theorem dX7_isMissing_1 : decode cX7_isMissing 1 = .ok (.getfield 15, 3) := by decide +kernel
theorem dX7_isMissing_4 : decode cX7_isMissing 4 = .ok (.ifCond .ne 7, 3) := by decide +kernel
theorem dX7_isMissing_7 : decode cX7_isMissing 7 = .ok (.iconst 1, 1) := by decide +kernel
theorem dX7_isMissing_8 : decode cX7_isMissing 8 = .ok (.goto 4, 3) := by decide +kernel
theorem dX7_isMissing_11 : decode cX7_isMissing 11 = .ok (.iconst 0, 1) := by decide +kernel
theorem dX7_isMissing_12 : decode cX7_isMissing 12 = .ok (.ireturn, 1) := by decide +kernel
theorem dX7_holds_0 : decode cX7_holds 0 = .ok (.iload_n 1, 1) := by decide +kernel
theorem dX7_holds_1 : decode cX7_holds 1 = .ok (.ifCond .lt 21, 3) := by decide +kernel
theorem dX7_holds_4 : decode cX7_holds 4 = .ok (.iload_n 1, 1) := by decide +kernel
theorem dX7_holds_5 : decode cX7_holds 5 = .ok (.aload_n 0, 1) := by decide +kernel
theorem dX7_holds_6 : decode cX7_holds 6 = .ok (.getfield 19, 3) := by decide +kernel
theorem dX7_holds_9 : decode cX7_holds 9 = .ok (.if_icmp .ge 13, 3) := by decide +kernel
theorem dX7_holds_12 : decode cX7_holds 12 = .ok (.iload_n 1, 1) := by decide +kernel
theorem dX7_holds_13 : decode cX7_holds 13 = .ok (.bipush 40, 2) := by decide +kernel
theorem dX7_holds_15 : decode cX7_holds 15 = .ok (.if_icmp .ge 7, 3) := by decide +kernel
theorem dX7_holds_18 : decode cX7_holds 18 = .ok (.iconst 1, 1) := by decide +kernel
theorem dX7_holds_19 : decode cX7_holds 19 = .ok (.goto 4, 3) := by decide +kernel
theorem dX7_holds_22 : decode cX7_holds 22 = .ok (.iconst 0, 1) := by decide +kernel
theorem dX7_holds_23 : decode cX7_holds 23 = .ok (.ireturn, 1) := by decide +kernel
theorem dX7_holdsFrom_0 : decode cX7_holdsFrom 0 = .ok (.iload_n 1, 1) := by decide +kernel
theorem dX7_holdsFrom_1 : decode cX7_holdsFrom 1 = .ok (.ifCond .lt 30, 3) := by decide +kernel
theorem dX7_holdsFrom_4 : decode cX7_holdsFrom 4 = .ok (.iload_n 2, 1) := by decide +kernel
theorem dX7_holdsFrom_5 : decode cX7_holdsFrom 5 = .ok (.ifCond .lt 26, 3) := by decide +kernel
theorem dX7_holdsFrom_8 : decode cX7_holdsFrom 8 = .ok (.iload_n 1, 1) := by decide +kernel
theorem dX7_holdsFrom_9 : decode cX7_holdsFrom 9 = .ok (.aload_n 0, 1) := by decide +kernel
theorem dX7_holdsFrom_10 : decode cX7_holdsFrom 10 = .ok (.getfield 19, 3) := by decide +kernel
theorem dX7_holdsFrom_13 : decode cX7_holdsFrom 13 = .ok (.iload_n 2, 1) := by decide +kernel
theorem dX7_holdsFrom_14 : decode cX7_holdsFrom 14 = .ok (.isub, 1) := by decide +kernel
theorem dX7_holdsFrom_15 : decode cX7_holdsFrom 15 = .ok (.if_icmp .gt 16, 3) := by decide +kernel
theorem dX7_holdsFrom_18 : decode cX7_holdsFrom 18 = .ok (.aload_n 0, 1) := by decide +kernel
theorem dX7_holdsFrom_19 : decode cX7_holdsFrom 19 = .ok (.getfield 19, 3) := by decide +kernel
theorem dX7_holdsFrom_22 : decode cX7_holdsFrom 22 = .ok (.bipush 40, 2) := by decide +kernel
theorem dX7_holdsFrom_24 : decode cX7_holdsFrom 24 = .ok (.if_icmp .gt 7, 3) := by decide +kernel
theorem dX7_holdsFrom_27 : decode cX7_holdsFrom 27 = .ok (.iconst 1, 1) := by decide +kernel
theorem dX7_holdsFrom_28 : decode cX7_holdsFrom 28 = .ok (.goto 4, 3) := by decide +kernel
theorem dX7_holdsFrom_31 : decode cX7_holdsFrom 31 = .ok (.iconst 0, 1) := by decide +kernel
theorem dX7_holdsFrom_32 : decode cX7_holdsFrom 32 = .ok (.ireturn, 1) := by decide +kernel
theorem dX7_lay_0 : decode cX7_lay 0 = .ok (.aload_n 0, 1) := by decide +kernel
theorem dX7_lay_1 : decode cX7_lay 1 = .ok (.iload_n 1, 1) := by decide +kernel
theorem dX7_lay_2 : decode cX7_lay 2 = .ok (.putfield 15, 3) := by decide +kernel
theorem dX7_lay_5 : decode cX7_lay 5 = .ok (.aload_n 0, 1) := by decide +kernel
theorem dX7_lay_6 : decode cX7_lay 6 = .ok (.iload_n 2, 1) := by decide +kernel
theorem dX7_lay_7 : decode cX7_lay 7 = .ok (.putfield 19, 3) := by decide +kernel
theorem dX7_lay_10 : decode cX7_lay 10 = .ok (.aload_n 0, 1) := by decide +kernel
theorem dX7_lay_11 : decode cX7_lay 11 = .ok (.getfield 9, 3) := by decide +kernel
theorem dX7_lay_14 : decode cX7_lay 14 = .ok (.iconst 0, 1) := by decide +kernel
theorem dX7_lay_15 : decode cX7_lay 15 = .ok (.invokestatic 22, 3) := by decide +kernel
theorem dX7_lay_18 : decode cX7_lay 18 = .ok (.return_, 1) := by decide +kernel
theorem dX7_write_0 : decode cX7_write 0 = .ok (.aload_n 0, 1) := by decide +kernel
theorem dX7_write_1 : decode cX7_write 1 = .ok (.iload_n 1, 1) := by decide +kernel
theorem dX7_write_2 : decode cX7_write 2 = .ok (.invokevirtual 28, 3) := by decide +kernel
theorem dX7_write_5 : decode cX7_write 5 = .ok (.ifCond .ne 4, 3) := by decide +kernel
theorem dX7_write_8 : decode cX7_write 8 = .ok (.return_, 1) := by decide +kernel
theorem dX7_write_9 : decode cX7_write 9 = .ok (.aload_n 0, 1) := by decide +kernel
theorem dX7_write_10 : decode cX7_write 10 = .ok (.getfield 9, 3) := by decide +kernel
theorem dX7_write_13 : decode cX7_write 13 = .ok (.iload_n 1, 1) := by decide +kernel
theorem dX7_write_14 : decode cX7_write 14 = .ok (.aload_n 0, 1) := by decide +kernel
theorem dX7_write_15 : decode cX7_write 15 = .ok (.getfield 15, 3) := by decide +kernel
theorem dX7_write_18 : decode cX7_write 18 = .ok (.bipush 8, 2) := by decide +kernel
theorem dX7_write_20 : decode cX7_write 20 = .ok (.if_icmp .ne 11, 3) := by decide +kernel
theorem dX7_write_23 : decode cX7_write 23 = .ok (.iload_n 2, 1) := by decide +kernel
theorem dX7_write_24 : decode cX7_write 24 = .ok (.sipush 255, 3) := by decide +kernel
theorem dX7_write_27 : decode cX7_write 27 = .ok (.iand, 1) := by decide +kernel
theorem dX7_write_28 : decode cX7_write 28 = .ok (.goto 20, 3) := by decide +kernel
theorem dX7_write_31 : decode cX7_write 31 = .ok (.aload_n 0, 1) := by decide +kernel
theorem dX7_write_32 : decode cX7_write 32 = .ok (.getfield 15, 3) := by decide +kernel
theorem dX7_write_35 : decode cX7_write 35 = .ok (.bipush 16, 2) := by decide +kernel
theorem dX7_write_37 : decode cX7_write 37 = .ok (.if_icmp .ne 10, 3) := by decide +kernel
theorem dX7_write_40 : decode cX7_write 40 = .ok (.iload_n 2, 1) := by decide +kernel
theorem dX7_write_41 : decode cX7_write 41 = .ok (.ldc 32, 2) := by decide +kernel
theorem dX7_write_43 : decode cX7_write 43 = .ok (.iand, 1) := by decide +kernel
theorem dX7_write_44 : decode cX7_write 44 = .ok (.goto 4, 3) := by decide +kernel
theorem dX7_write_47 : decode cX7_write 47 = .ok (.iload_n 2, 1) := by decide +kernel
theorem dX7_write_48 : decode cX7_write 48 = .ok (.iastore, 1) := by decide +kernel
theorem dX7_write_49 : decode cX7_write 49 = .ok (.return_, 1) := by decide +kernel
theorem dX7_readPart_0 : decode cX7_readPart 0 = .ok (.iconst 0, 1) := by decide +kernel
theorem dX7_readPart_1 : decode cX7_readPart 1 = .ok (.istore_n 1, 1) := by decide +kernel
theorem dX7_readPart_2 : decode cX7_readPart 2 = .ok (.iconst 0, 1) := by decide +kernel
theorem dX7_readPart_3 : decode cX7_readPart 3 = .ok (.istore_n 2, 1) := by decide +kernel
theorem dX7_readPart_4 : decode cX7_readPart 4 = .ok (.iload_n 2, 1) := by decide +kernel
theorem dX7_readPart_5 : decode cX7_readPart 5 = .ok (.aload_n 0, 1) := by decide +kernel
theorem dX7_readPart_6 : decode cX7_readPart 6 = .ok (.getfield 19, 3) := by decide +kernel
theorem dX7_readPart_9 : decode cX7_readPart 9 = .ok (.if_icmp .ge 43, 3) := by decide +kernel
theorem dX7_readPart_12 : decode cX7_readPart 12 = .ok (.iload_n 2, 1) := by decide +kernel
theorem dX7_readPart_13 : decode cX7_readPart 13 = .ok (.bipush 40, 2) := by decide +kernel
theorem dX7_readPart_15 : decode cX7_readPart 15 = .ok (.if_icmp .ge 37, 3) := by decide +kernel
theorem dX7_readPart_18 : decode cX7_readPart 18 = .ok (.aload_n 0, 1) := by decide +kernel
theorem dX7_readPart_19 : decode cX7_readPart 19 = .ok (.getfield 9, 3) := by decide +kernel
theorem dX7_readPart_22 : decode cX7_readPart 22 = .ok (.iload_n 2, 1) := by decide +kernel
theorem dX7_readPart_23 : decode cX7_readPart 23 = .ok (.iaload, 1) := by decide +kernel
theorem dX7_readPart_24 : decode cX7_readPart 24 = .ok (.iconst 0, 1) := by decide +kernel
theorem dX7_readPart_25 : decode cX7_readPart 25 = .ok (.bipush 31, 2) := by decide +kernel
theorem dX7_readPart_27 : decode cX7_readPart 27 = .ok (.invokestatic 33, 3) := by decide +kernel
theorem dX7_readPart_30 : decode cX7_readPart 30 = .ok (.ifCond .ne 5, 3) := by decide +kernel
theorem dX7_readPart_33 : decode cX7_readPart 33 = .ok (.iload_n 1, 1) := by decide +kernel
theorem dX7_readPart_34 : decode cX7_readPart 34 = .ok (.ireturn, 1) := by decide +kernel
theorem dX7_readPart_35 : decode cX7_readPart 35 = .ok (.iload_n 1, 1) := by decide +kernel
theorem dX7_readPart_36 : decode cX7_readPart 36 = .ok (.iconst 1, 1) := by decide +kernel
theorem dX7_readPart_37 : decode cX7_readPart 37 = .ok (.aload_n 0, 1) := by decide +kernel
theorem dX7_readPart_38 : decode cX7_readPart 38 = .ok (.getfield 9, 3) := by decide +kernel
theorem dX7_readPart_41 : decode cX7_readPart 41 = .ok (.iload_n 2, 1) := by decide +kernel
theorem dX7_readPart_42 : decode cX7_readPart 42 = .ok (.iaload, 1) := by decide +kernel
theorem dX7_readPart_43 : decode cX7_readPart 43 = .ok (.ishl, 1) := by decide +kernel
theorem dX7_readPart_44 : decode cX7_readPart 44 = .ok (.ior, 1) := by decide +kernel
theorem dX7_readPart_45 : decode cX7_readPart 45 = .ok (.istore_n 1, 1) := by decide +kernel
theorem dX7_readPart_46 : decode cX7_readPart 46 = .ok (.iinc 2 1, 3) := by decide +kernel
theorem dX7_readPart_49 : decode cX7_readPart 49 = .ok (.goto (-45), 3) := by decide +kernel
theorem dX7_readPart_52 : decode cX7_readPart 52 = .ok (.iload_n 1, 1) := by decide +kernel
theorem dX7_readPart_53 : decode cX7_readPart 53 = .ok (.ireturn, 1) := by decide +kernel
theorem dX8_init_0 : decode cX8_init 0 = .ok (.aload_n 0, 1) := by decide +kernel
theorem dX8_init_1 : decode cX8_init 1 = .ok (.invokespecial 3, 3) := by decide +kernel
theorem dX8_init_4 : decode cX8_init 4 = .ok (.aload_n 0, 1) := by decide +kernel
theorem dX8_init_5 : decode cX8_init 5 = .ok (.bipush 40, 2) := by decide +kernel
theorem dX8_init_7 : decode cX8_init 7 = .ok (.newarray .int, 2) := by decide +kernel
theorem dX8_init_9 : decode cX8_init 9 = .ok (.putfield 9, 3) := by decide +kernel
theorem dX8_init_12 : decode cX8_init 12 = .ok (.return_, 1) := by decide +kernel
theorem dX8_raise_0 : decode cX8_raise 0 = .ok (.aload_n 0, 1) := by decide +kernel
theorem dX8_raise_1 : decode cX8_raise 1 = .ok (.iload_n 1, 1) := by decide +kernel
theorem dX8_raise_2 : decode cX8_raise 2 = .ok (.putfield 15, 3) := by decide +kernel
theorem dX8_raise_5 : decode cX8_raise 5 = .ok (.aload_n 0, 1) := by decide +kernel
theorem dX8_raise_6 : decode cX8_raise 6 = .ok (.iload_n 2, 1) := by decide +kernel
theorem dX8_raise_7 : decode cX8_raise 7 = .ok (.putfield 19, 3) := by decide +kernel
theorem dX8_raise_10 : decode cX8_raise 10 = .ok (.aload_n 0, 1) := by decide +kernel
theorem dX8_raise_11 : decode cX8_raise 11 = .ok (.iload_n 3, 1) := by decide +kernel
theorem dX8_raise_12 : decode cX8_raise 12 = .ok (.putfield 22, 3) := by decide +kernel
theorem dX8_raise_15 : decode cX8_raise 15 = .ok (.aload_n 0, 1) := by decide +kernel
theorem dX8_raise_16 : decode cX8_raise 16 = .ok (.iconst 0, 1) := by decide +kernel
theorem dX8_raise_17 : decode cX8_raise 17 = .ok (.putfield 25, 3) := by decide +kernel
theorem dX8_raise_20 : decode cX8_raise 20 = .ok (.aload_n 0, 1) := by decide +kernel
theorem dX8_raise_21 : decode cX8_raise 21 = .ok (.iload 4, 2) := by decide +kernel
theorem dX8_raise_23 : decode cX8_raise 23 = .ok (.iload 5, 2) := by decide +kernel
theorem dX8_raise_25 : decode cX8_raise 25 = .ok (.iconst 0, 1) := by decide +kernel
theorem dX8_raise_26 : decode cX8_raise 26 = .ok (.invokevirtual 28, 3) := by decide +kernel
theorem dX8_raise_29 : decode cX8_raise 29 = .ok (.ireturn, 1) := by decide +kernel
theorem dX8_own_0 : decode cX8_own 0 = .ok (.aload_n 0, 1) := by decide +kernel
theorem dX8_own_1 : decode cX8_own 1 = .ok (.aload_n 0, 1) := by decide +kernel
theorem dX8_own_2 : decode cX8_own 2 = .ok (.getfield 19, 3) := by decide +kernel
theorem dX8_own_5 : decode cX8_own 5 = .ok (.iload_n 1, 1) := by decide +kernel
theorem dX8_own_6 : decode cX8_own 6 = .ok (.iload_n 2, 1) := by decide +kernel
theorem dX8_own_7 : decode cX8_own 7 = .ok (.iload_n 3, 1) := by decide +kernel
theorem dX8_own_8 : decode cX8_own 8 = .ok (.invokevirtual 32, 3) := by decide +kernel
theorem dX8_own_11 : decode cX8_own 11 = .ok (.ireturn, 1) := by decide +kernel
theorem dX8_from_0 : decode cX8_from 0 = .ok (.iload_n 1, 1) := by decide +kernel
theorem dX8_from_1 : decode cX8_from 1 = .ok (.iload_n 2, 1) := by decide +kernel
theorem dX8_from_2 : decode cX8_from 2 = .ok (.invokestatic 36, 3) := by decide +kernel
theorem dX8_from_5 : decode cX8_from 5 = .ok (.istore 5, 2) := by decide +kernel
theorem dX8_from_7 : decode cX8_from 7 = .ok (.iload 5, 2) := by decide +kernel
theorem dX8_from_9 : decode cX8_from 9 = .ok (.ifCond .eq 10, 3) := by decide +kernel
theorem dX8_from_12 : decode cX8_from 12 = .ok (.iload 4, 2) := by decide +kernel
theorem dX8_from_14 : decode cX8_from 14 = .ok (.bipush 40, 2) := by decide +kernel
theorem dX8_from_16 : decode cX8_from 16 = .ok (.if_icmp .lt 5, 3) := by decide +kernel
theorem dX8_from_19 : decode cX8_from 19 = .ok (.iconst 0, 1) := by decide +kernel
theorem dX8_from_20 : decode cX8_from 20 = .ok (.ireturn, 1) := by decide +kernel
theorem dX8_from_21 : decode cX8_from 21 = .ok (.aload_n 0, 1) := by decide +kernel
theorem dX8_from_22 : decode cX8_from 22 = .ok (.iload 5, 2) := by decide +kernel
theorem dX8_from_24 : decode cX8_from 24 = .ok (.invokevirtual 40, 3) := by decide +kernel
theorem dX8_from_27 : decode cX8_from 27 = .ok (.iload 5, 2) := by decide +kernel
theorem dX8_from_29 : decode cX8_from 29 = .ok (.bipush 10, 2) := by decide +kernel
theorem dX8_from_31 : decode cX8_from 31 = .ok (.idiv, 1) := by decide +kernel
theorem dX8_from_32 : decode cX8_from 32 = .ok (.iconst 1, 1) := by decide +kernel
theorem dX8_from_33 : decode cX8_from 33 = .ok (.isub, 1) := by decide +kernel
theorem dX8_from_34 : decode cX8_from 34 = .ok (.invokestatic 44, 3) := by decide +kernel
theorem dX8_from_37 : decode cX8_from 37 = .ok (.istore 6, 2) := by decide +kernel
theorem dX8_from_39 : decode cX8_from 39 = .ok (.iload 4, 2) := by decide +kernel
theorem dX8_from_41 : decode cX8_from 41 = .ok (.iconst 1, 1) := by decide +kernel
theorem dX8_from_42 : decode cX8_from 42 = .ok (.iadd, 1) := by decide +kernel
theorem dX8_from_43 : decode cX8_from 43 = .ok (.istore 7, 2) := by decide +kernel
theorem dX8_from_45 : decode cX8_from 45 = .ok (.iload 5, 2) := by decide +kernel
theorem dX8_from_47 : decode cX8_from 47 = .ok (.lookupswitch 254 #[(10, 97), (11, 104), (12, 115), (13, 122), (20, 140), (30, 160), (40, 173), (50, 185), (60, 198), (70, 218), (71, 234)], 97) := by decide +kernel
theorem dX8_from_144 : decode cX8_from 144 = .ok (.iload_n 3, 1) := by decide +kernel
theorem dX8_from_145 : decode cX8_from 145 = .ok (.aload_n 0, 1) := by decide +kernel
theorem dX8_from_146 : decode cX8_from 146 = .ok (.getfield 15, 3) := by decide +kernel
theorem dX8_from_149 : decode cX8_from 149 = .ok (.iadd, 1) := by decide +kernel
theorem dX8_from_150 : decode cX8_from 150 = .ok (.ireturn, 1) := by decide +kernel
theorem dX8_from_151 : decode cX8_from 151 = .ok (.aload_n 0, 1) := by decide +kernel
theorem dX8_from_152 : decode cX8_from 152 = .ok (.iconst 0, 1) := by decide +kernel
theorem dX8_from_153 : decode cX8_from 153 = .ok (.iload_n 3, 1) := by decide +kernel
theorem dX8_from_154 : decode cX8_from 154 = .ok (.iload 7, 2) := by decide +kernel
theorem dX8_from_156 : decode cX8_from 156 = .ok (.invokevirtual 28, 3) := by decide +kernel
theorem dX8_from_159 : decode cX8_from 159 = .ok (.iconst 2, 1) := by decide +kernel
theorem dX8_from_160 : decode cX8_from 160 = .ok (.imul, 1) := by decide +kernel
theorem dX8_from_161 : decode cX8_from 161 = .ok (.ireturn, 1) := by decide +kernel
theorem dX8_from_162 : decode cX8_from 162 = .ok (.iload_n 3, 1) := by decide +kernel
theorem dX8_from_163 : decode cX8_from 163 = .ok (.aload_n 0, 1) := by decide +kernel
theorem dX8_from_164 : decode cX8_from 164 = .ok (.getfield 22, 3) := by decide +kernel
theorem dX8_from_167 : decode cX8_from 167 = .ok (.isub, 1) := by decide +kernel
theorem dX8_from_168 : decode cX8_from 168 = .ok (.ireturn, 1) := by decide +kernel
theorem dX8_from_169 : decode cX8_from 169 = .ok (.aload_n 0, 1) := by decide +kernel
theorem dX8_from_170 : decode cX8_from 170 = .ok (.iconst 1, 1) := by decide +kernel
theorem dX8_from_171 : decode cX8_from 171 = .ok (.iload_n 3, 1) := by decide +kernel
theorem dX8_from_172 : decode cX8_from 172 = .ok (.iload 7, 2) := by decide +kernel
theorem dX8_from_174 : decode cX8_from 174 = .ok (.invokevirtual 28, 3) := by decide +kernel
theorem dX8_from_177 : decode cX8_from 177 = .ok (.aload_n 0, 1) := by decide +kernel
theorem dX8_from_178 : decode cX8_from 178 = .ok (.iconst 2, 1) := by decide +kernel
theorem dX8_from_179 : decode cX8_from 179 = .ok (.iload_n 3, 1) := by decide +kernel
theorem dX8_from_180 : decode cX8_from 180 = .ok (.iload 7, 2) := by decide +kernel
theorem dX8_from_182 : decode cX8_from 182 = .ok (.invokevirtual 28, 3) := by decide +kernel
theorem dX8_from_185 : decode cX8_from 185 = .ok (.ixor, 1) := by decide +kernel
theorem dX8_from_186 : decode cX8_from 186 = .ok (.ireturn, 1) := by decide +kernel
theorem dX8_from_187 : decode cX8_from 187 = .ok (.aload_n 0, 1) := by decide +kernel
theorem dX8_from_188 : decode cX8_from 188 = .ok (.iload 6, 2) := by decide +kernel
theorem dX8_from_190 : decode cX8_from 190 = .ok (.iconst 1, 1) := by decide +kernel
theorem dX8_from_191 : decode cX8_from 191 = .ok (.iload_n 3, 1) := by decide +kernel
theorem dX8_from_192 : decode cX8_from 192 = .ok (.iload 7, 2) := by decide +kernel
theorem dX8_from_194 : decode cX8_from 194 = .ok (.invokevirtual 32, 3) := by decide +kernel
theorem dX8_from_197 : decode cX8_from 197 = .ok (.aload_n 0, 1) := by decide +kernel
theorem dX8_from_198 : decode cX8_from 198 = .ok (.iconst 2, 1) := by decide +kernel
theorem dX8_from_199 : decode cX8_from 199 = .ok (.iconst 1, 1) := by decide +kernel
theorem dX8_from_200 : decode cX8_from 200 = .ok (.iload 7, 2) := by decide +kernel
theorem dX8_from_202 : decode cX8_from 202 = .ok (.invokevirtual 28, 3) := by decide +kernel
theorem dX8_from_205 : decode cX8_from 205 = .ok (.isub, 1) := by decide +kernel
theorem dX8_from_206 : decode cX8_from 206 = .ok (.ireturn, 1) := by decide +kernel
theorem dX8_from_207 : decode cX8_from 207 = .ok (.aload_n 0, 1) := by decide +kernel
theorem dX8_from_208 : decode cX8_from 208 = .ok (.iload 6, 2) := by decide +kernel
theorem dX8_from_210 : decode cX8_from 210 = .ok (.iconst 0, 1) := by decide +kernel
theorem dX8_from_211 : decode cX8_from 211 = .ok (.iload_n 3, 1) := by decide +kernel
theorem dX8_from_212 : decode cX8_from 212 = .ok (.iload 7, 2) := by decide +kernel
theorem dX8_from_214 : decode cX8_from 214 = .ok (.invokevirtual 32, 3) := by decide +kernel
theorem dX8_from_217 : decode cX8_from 217 = .ok (.iconst 3, 1) := by decide +kernel
theorem dX8_from_218 : decode cX8_from 218 = .ok (.imul, 1) := by decide +kernel
theorem dX8_from_219 : decode cX8_from 219 = .ok (.ireturn, 1) := by decide +kernel
theorem dX8_from_220 : decode cX8_from 220 = .ok (.aload_n 0, 1) := by decide +kernel
theorem dX8_from_221 : decode cX8_from 221 = .ok (.iload 6, 2) := by decide +kernel
theorem dX8_from_223 : decode cX8_from 223 = .ok (.iconst 2, 1) := by decide +kernel
theorem dX8_from_224 : decode cX8_from 224 = .ok (.iload_n 3, 1) := by decide +kernel
theorem dX8_from_225 : decode cX8_from 225 = .ok (.iload 7, 2) := by decide +kernel
theorem dX8_from_227 : decode cX8_from 227 = .ok (.invokevirtual 32, 3) := by decide +kernel
theorem dX8_from_230 : decode cX8_from 230 = .ok (.ineg, 1) := by decide +kernel
theorem dX8_from_231 : decode cX8_from 231 = .ok (.ireturn, 1) := by decide +kernel
theorem dX8_from_232 : decode cX8_from 232 = .ok (.aload_n 0, 1) := by decide +kernel
theorem dX8_from_233 : decode cX8_from 233 = .ok (.iload 6, 2) := by decide +kernel
theorem dX8_from_235 : decode cX8_from 235 = .ok (.iconst 1, 1) := by decide +kernel
theorem dX8_from_236 : decode cX8_from 236 = .ok (.iload_n 3, 1) := by decide +kernel
theorem dX8_from_237 : decode cX8_from 237 = .ok (.iconst 1, 1) := by decide +kernel
theorem dX8_from_238 : decode cX8_from 238 = .ok (.iadd, 1) := by decide +kernel
theorem dX8_from_239 : decode cX8_from 239 = .ok (.iload 7, 2) := by decide +kernel
theorem dX8_from_241 : decode cX8_from 241 = .ok (.invokevirtual 32, 3) := by decide +kernel
theorem dX8_from_244 : decode cX8_from 244 = .ok (.ireturn, 1) := by decide +kernel
theorem dX8_from_245 : decode cX8_from 245 = .ok (.aload_n 0, 1) := by decide +kernel
theorem dX8_from_246 : decode cX8_from 246 = .ok (.iload 6, 2) := by decide +kernel
theorem dX8_from_248 : decode cX8_from 248 = .ok (.iconst 3, 1) := by decide +kernel
theorem dX8_from_249 : decode cX8_from 249 = .ok (.iload_n 3, 1) := by decide +kernel
theorem dX8_from_250 : decode cX8_from 250 = .ok (.iload 7, 2) := by decide +kernel
theorem dX8_from_252 : decode cX8_from 252 = .ok (.invokevirtual 32, 3) := by decide +kernel
theorem dX8_from_255 : decode cX8_from 255 = .ok (.aload_n 0, 1) := by decide +kernel
theorem dX8_from_256 : decode cX8_from 256 = .ok (.iconst 0, 1) := by decide +kernel
theorem dX8_from_257 : decode cX8_from 257 = .ok (.iconst 2, 1) := by decide +kernel
theorem dX8_from_258 : decode cX8_from 258 = .ok (.iload 7, 2) := by decide +kernel
theorem dX8_from_260 : decode cX8_from 260 = .ok (.invokevirtual 28, 3) := by decide +kernel
theorem dX8_from_263 : decode cX8_from 263 = .ok (.isub, 1) := by decide +kernel
theorem dX8_from_264 : decode cX8_from 264 = .ok (.ireturn, 1) := by decide +kernel
theorem dX8_from_265 : decode cX8_from 265 = .ok (.aload_n 0, 1) := by decide +kernel
theorem dX8_from_266 : decode cX8_from 266 = .ok (.iload 6, 2) := by decide +kernel
theorem dX8_from_268 : decode cX8_from 268 = .ok (.iconst 2, 1) := by decide +kernel
theorem dX8_from_269 : decode cX8_from 269 = .ok (.iload_n 3, 1) := by decide +kernel
theorem dX8_from_270 : decode cX8_from 270 = .ok (.iload 7, 2) := by decide +kernel
theorem dX8_from_272 : decode cX8_from 272 = .ok (.invokevirtual 32, 3) := by decide +kernel
theorem dX8_from_275 : decode cX8_from 275 = .ok (.aload_n 0, 1) := by decide +kernel
theorem dX8_from_276 : decode cX8_from 276 = .ok (.getfield 15, 3) := by decide +kernel
theorem dX8_from_279 : decode cX8_from 279 = .ok (.ixor, 1) := by decide +kernel
theorem dX8_from_280 : decode cX8_from 280 = .ok (.ireturn, 1) := by decide +kernel
theorem dX8_from_281 : decode cX8_from 281 = .ok (.aload_n 0, 1) := by decide +kernel
theorem dX8_from_282 : decode cX8_from 282 = .ok (.iconst 1, 1) := by decide +kernel
theorem dX8_from_283 : decode cX8_from 283 = .ok (.iload_n 3, 1) := by decide +kernel
theorem dX8_from_284 : decode cX8_from 284 = .ok (.iload 7, 2) := by decide +kernel
theorem dX8_from_286 : decode cX8_from 286 = .ok (.invokevirtual 28, 3) := by decide +kernel
theorem dX8_from_289 : decode cX8_from 289 = .ok (.aload_n 0, 1) := by decide +kernel
theorem dX8_from_290 : decode cX8_from 290 = .ok (.iload 6, 2) := by decide +kernel
theorem dX8_from_292 : decode cX8_from 292 = .ok (.iconst 3, 1) := by decide +kernel
theorem dX8_from_293 : decode cX8_from 293 = .ok (.iload_n 3, 1) := by decide +kernel
theorem dX8_from_294 : decode cX8_from 294 = .ok (.iload 7, 2) := by decide +kernel
theorem dX8_from_296 : decode cX8_from 296 = .ok (.invokevirtual 32, 3) := by decide +kernel
theorem dX8_from_299 : decode cX8_from 299 = .ok (.isub, 1) := by decide +kernel
theorem dX8_from_300 : decode cX8_from 300 = .ok (.ireturn, 1) := by decide +kernel
theorem dX8_from_301 : decode cX8_from 301 = .ok (.iconst 0, 1) := by decide +kernel
theorem dX8_from_302 : decode cX8_from 302 = .ok (.ireturn, 1) := by decide +kernel
theorem dX8_bodyFrom_0 : decode cX8_bodyFrom 0 = .ok (.iload_n 0, 1) := by decide +kernel
theorem dX8_bodyFrom_1 : decode cX8_bodyFrom 1 = .ok (.istore_n 2, 1) := by decide +kernel
theorem dX8_bodyFrom_2 : decode cX8_bodyFrom 2 = .ok (.iconst 0, 1) := by decide +kernel
theorem dX8_bodyFrom_3 : decode cX8_bodyFrom 3 = .ok (.istore_n 3, 1) := by decide +kernel
theorem dX8_bodyFrom_4 : decode cX8_bodyFrom 4 = .ok (.iload_n 3, 1) := by decide +kernel
theorem dX8_bodyFrom_5 : decode cX8_bodyFrom 5 = .ok (.getstatic 48, 3) := by decide +kernel
theorem dX8_bodyFrom_8 : decode cX8_bodyFrom 8 = .ok (.arraylength, 1) := by decide +kernel
theorem dX8_bodyFrom_9 : decode cX8_bodyFrom 9 = .ok (.if_icmp .ge 55, 3) := by decide +kernel
theorem dX8_bodyFrom_12 : decode cX8_bodyFrom 12 = .ok (.iload_n 2, 1) := by decide +kernel
theorem dX8_bodyFrom_13 : decode cX8_bodyFrom 13 = .ok (.ifCond .lt 51, 3) := by decide +kernel
theorem dX8_bodyFrom_16 : decode cX8_bodyFrom 16 = .ok (.iload_n 2, 1) := by decide +kernel
theorem dX8_bodyFrom_17 : decode cX8_bodyFrom 17 = .ok (.iconst 4, 1) := by decide +kernel
theorem dX8_bodyFrom_18 : decode cX8_bodyFrom 18 = .ok (.imul, 1) := by decide +kernel
theorem dX8_bodyFrom_19 : decode cX8_bodyFrom 19 = .ok (.iload_n 1, 1) := by decide +kernel
theorem dX8_bodyFrom_20 : decode cX8_bodyFrom 20 = .ok (.iadd, 1) := by decide +kernel
theorem dX8_bodyFrom_21 : decode cX8_bodyFrom 21 = .ok (.istore 4, 2) := by decide +kernel
theorem dX8_bodyFrom_23 : decode cX8_bodyFrom 23 = .ok (.iload 4, 2) := by decide +kernel
theorem dX8_bodyFrom_25 : decode cX8_bodyFrom 25 = .ok (.ifCond .lt 28, 3) := by decide +kernel
theorem dX8_bodyFrom_28 : decode cX8_bodyFrom 28 = .ok (.iload 4, 2) := by decide +kernel
theorem dX8_bodyFrom_30 : decode cX8_bodyFrom 30 = .ok (.getstatic 51, 3) := by decide +kernel
theorem dX8_bodyFrom_33 : decode cX8_bodyFrom 33 = .ok (.arraylength, 1) := by decide +kernel
theorem dX8_bodyFrom_34 : decode cX8_bodyFrom 34 = .ok (.if_icmp .ge 19, 3) := by decide +kernel
theorem dX8_bodyFrom_37 : decode cX8_bodyFrom 37 = .ok (.getstatic 51, 3) := by decide +kernel
theorem dX8_bodyFrom_40 : decode cX8_bodyFrom 40 = .ok (.iload 4, 2) := by decide +kernel
theorem dX8_bodyFrom_42 : decode cX8_bodyFrom 42 = .ok (.iaload, 1) := by decide +kernel
theorem dX8_bodyFrom_43 : decode cX8_bodyFrom 43 = .ok (.ifCond .eq 10, 3) := by decide +kernel
theorem dX8_bodyFrom_46 : decode cX8_bodyFrom 46 = .ok (.getstatic 51, 3) := by decide +kernel
theorem dX8_bodyFrom_49 : decode cX8_bodyFrom 49 = .ok (.iload 4, 2) := by decide +kernel
theorem dX8_bodyFrom_51 : decode cX8_bodyFrom 51 = .ok (.iaload, 1) := by decide +kernel
theorem dX8_bodyFrom_52 : decode cX8_bodyFrom 52 = .ok (.ireturn, 1) := by decide +kernel
theorem dX8_bodyFrom_53 : decode cX8_bodyFrom 53 = .ok (.iload_n 2, 1) := by decide +kernel
theorem dX8_bodyFrom_54 : decode cX8_bodyFrom 54 = .ok (.invokestatic 44, 3) := by decide +kernel
theorem dX8_bodyFrom_57 : decode cX8_bodyFrom 57 = .ok (.istore_n 2, 1) := by decide +kernel
theorem dX8_bodyFrom_58 : decode cX8_bodyFrom 58 = .ok (.iinc 3 1, 3) := by decide +kernel
theorem dX8_bodyFrom_61 : decode cX8_bodyFrom 61 = .ok (.goto (-57), 3) := by decide +kernel
theorem dX8_bodyFrom_64 : decode cX8_bodyFrom 64 = .ok (.iconst 0, 1) := by decide +kernel
theorem dX8_bodyFrom_65 : decode cX8_bodyFrom 65 = .ok (.ireturn, 1) := by decide +kernel
theorem dX8_begin_0 : decode cX8_begin 0 = .ok (.aload_n 0, 1) := by decide +kernel
theorem dX8_begin_1 : decode cX8_begin 1 = .ok (.getfield 25, 3) := by decide +kernel
theorem dX8_begin_4 : decode cX8_begin 4 = .ok (.ifCond .lt 12, 3) := by decide +kernel
theorem dX8_begin_7 : decode cX8_begin 7 = .ok (.aload_n 0, 1) := by decide +kernel
theorem dX8_begin_8 : decode cX8_begin 8 = .ok (.getfield 25, 3) := by decide +kernel
theorem dX8_begin_11 : decode cX8_begin 11 = .ok (.bipush 40, 2) := by decide +kernel
theorem dX8_begin_13 : decode cX8_begin 13 = .ok (.if_icmp .lt 4, 3) := by decide +kernel
theorem dX8_begin_16 : decode cX8_begin 16 = .ok (.return_, 1) := by decide +kernel
theorem dX8_begin_17 : decode cX8_begin 17 = .ok (.aload_n 0, 1) := by decide +kernel
theorem dX8_begin_18 : decode cX8_begin 18 = .ok (.getfield 9, 3) := by decide +kernel
theorem dX8_begin_21 : decode cX8_begin 21 = .ok (.aload_n 0, 1) := by decide +kernel
theorem dX8_begin_22 : decode cX8_begin 22 = .ok (.getfield 25, 3) := by decide +kernel
theorem dX8_begin_25 : decode cX8_begin 25 = .ok (.iload_n 1, 1) := by decide +kernel
theorem dX8_begin_26 : decode cX8_begin 26 = .ok (.iastore, 1) := by decide +kernel
theorem dX8_begin_27 : decode cX8_begin 27 = .ok (.aload_n 0, 1) := by decide +kernel
theorem dX8_begin_28 : decode cX8_begin 28 = .ok (.dup, 1) := by decide +kernel
theorem dX8_begin_29 : decode cX8_begin 29 = .ok (.getfield 25, 3) := by decide +kernel
theorem dX8_begin_32 : decode cX8_begin 32 = .ok (.iconst 1, 1) := by decide +kernel
theorem dX8_begin_33 : decode cX8_begin 33 = .ok (.iadd, 1) := by decide +kernel
theorem dX8_begin_34 : decode cX8_begin 34 = .ok (.putfield 25, 3) := by decide +kernel
theorem dX8_begin_37 : decode cX8_begin 37 = .ok (.return_, 1) := by decide +kernel
theorem dX9_init_0 : decode cX9_init 0 = .ok (.aload_n 0, 1) := by decide +kernel
theorem dX9_init_1 : decode cX9_init 1 = .ok (.invokespecial 1, 3) := by decide +kernel
theorem dX9_init_4 : decode cX9_init 4 = .ok (.aload_n 0, 1) := by decide +kernel
theorem dX9_init_5 : decode cX9_init 5 = .ok (.new 7, 3) := by decide +kernel
theorem dX9_init_8 : decode cX9_init 8 = .ok (.dup, 1) := by decide +kernel
theorem dX9_init_9 : decode cX9_init 9 = .ok (.invokespecial 9, 3) := by decide +kernel
theorem dX9_init_12 : decode cX9_init 12 = .ok (.putfield 10, 3) := by decide +kernel
theorem dX9_init_15 : decode cX9_init 15 = .ok (.aload_n 0, 1) := by decide +kernel
theorem dX9_init_16 : decode cX9_init 16 = .ok (.new 16, 3) := by decide +kernel
theorem dX9_init_19 : decode cX9_init 19 = .ok (.dup, 1) := by decide +kernel
theorem dX9_init_20 : decode cX9_init 20 = .ok (.invokespecial 18, 3) := by decide +kernel
theorem dX9_init_23 : decode cX9_init 23 = .ok (.putfield 19, 3) := by decide +kernel
theorem dX9_init_26 : decode cX9_init 26 = .ok (.aload_n 0, 1) := by decide +kernel
theorem dX9_init_27 : decode cX9_init 27 = .ok (.new 23, 3) := by decide +kernel
theorem dX9_init_30 : decode cX9_init 30 = .ok (.dup, 1) := by decide +kernel
theorem dX9_init_31 : decode cX9_init 31 = .ok (.invokespecial 25, 3) := by decide +kernel
theorem dX9_init_34 : decode cX9_init 34 = .ok (.putfield 26, 3) := by decide +kernel
theorem dX9_init_37 : decode cX9_init 37 = .ok (.aload_n 0, 1) := by decide +kernel
theorem dX9_init_38 : decode cX9_init 38 = .ok (.new 7, 3) := by decide +kernel
theorem dX9_init_41 : decode cX9_init 41 = .ok (.dup, 1) := by decide +kernel
theorem dX9_init_42 : decode cX9_init 42 = .ok (.invokespecial 9, 3) := by decide +kernel
theorem dX9_init_45 : decode cX9_init 45 = .ok (.putfield 30, 3) := by decide +kernel
theorem dX9_init_48 : decode cX9_init 48 = .ok (.aload_n 0, 1) := by decide +kernel
theorem dX9_init_49 : decode cX9_init 49 = .ok (.new 16, 3) := by decide +kernel
theorem dX9_init_52 : decode cX9_init 52 = .ok (.dup, 1) := by decide +kernel
theorem dX9_init_53 : decode cX9_init 53 = .ok (.invokespecial 18, 3) := by decide +kernel
theorem dX9_init_56 : decode cX9_init 56 = .ok (.putfield 33, 3) := by decide +kernel
theorem dX9_init_59 : decode cX9_init 59 = .ok (.aload_n 0, 1) := by decide +kernel
theorem dX9_init_60 : decode cX9_init 60 = .ok (.new 23, 3) := by decide +kernel
theorem dX9_init_63 : decode cX9_init 63 = .ok (.dup, 1) := by decide +kernel
theorem dX9_init_64 : decode cX9_init 64 = .ok (.invokespecial 25, 3) := by decide +kernel
theorem dX9_init_67 : decode cX9_init 67 = .ok (.putfield 36, 3) := by decide +kernel
theorem dX9_init_70 : decode cX9_init 70 = .ok (.aload_n 0, 1) := by decide +kernel
theorem dX9_init_71 : decode cX9_init 71 = .ok (.iconst 4, 1) := by decide +kernel
theorem dX9_init_72 : decode cX9_init 72 = .ok (.anewarray 39, 3) := by decide +kernel
theorem dX9_init_75 : decode cX9_init 75 = .ok (.dup, 1) := by decide +kernel
theorem dX9_init_76 : decode cX9_init 76 = .ok (.iconst 0, 1) := by decide +kernel
theorem dX9_init_77 : decode cX9_init 77 = .ok (.new 39, 3) := by decide +kernel
theorem dX9_init_80 : decode cX9_init 80 = .ok (.dup, 1) := by decide +kernel
theorem dX9_init_81 : decode cX9_init 81 = .ok (.invokespecial 41, 3) := by decide +kernel
theorem dX9_init_84 : decode cX9_init 84 = .ok (.aastore, 1) := by decide +kernel
theorem dX9_init_85 : decode cX9_init 85 = .ok (.dup, 1) := by decide +kernel
theorem dX9_init_86 : decode cX9_init 86 = .ok (.iconst 1, 1) := by decide +kernel
theorem dX9_init_87 : decode cX9_init 87 = .ok (.new 39, 3) := by decide +kernel
theorem dX9_init_90 : decode cX9_init 90 = .ok (.dup, 1) := by decide +kernel
theorem dX9_init_91 : decode cX9_init 91 = .ok (.invokespecial 41, 3) := by decide +kernel
theorem dX9_init_94 : decode cX9_init 94 = .ok (.aastore, 1) := by decide +kernel
theorem dX9_init_95 : decode cX9_init 95 = .ok (.dup, 1) := by decide +kernel
theorem dX9_init_96 : decode cX9_init 96 = .ok (.iconst 2, 1) := by decide +kernel
theorem dX9_init_97 : decode cX9_init 97 = .ok (.new 39, 3) := by decide +kernel
theorem dX9_init_100 : decode cX9_init 100 = .ok (.dup, 1) := by decide +kernel
theorem dX9_init_101 : decode cX9_init 101 = .ok (.invokespecial 41, 3) := by decide +kernel
theorem dX9_init_104 : decode cX9_init 104 = .ok (.aastore, 1) := by decide +kernel
theorem dX9_init_105 : decode cX9_init 105 = .ok (.dup, 1) := by decide +kernel
theorem dX9_init_106 : decode cX9_init 106 = .ok (.iconst 3, 1) := by decide +kernel
theorem dX9_init_107 : decode cX9_init 107 = .ok (.new 39, 3) := by decide +kernel
theorem dX9_init_110 : decode cX9_init 110 = .ok (.dup, 1) := by decide +kernel
theorem dX9_init_111 : decode cX9_init 111 = .ok (.invokespecial 41, 3) := by decide +kernel
theorem dX9_init_114 : decode cX9_init 114 = .ok (.aastore, 1) := by decide +kernel
theorem dX9_init_115 : decode cX9_init 115 = .ok (.putfield 42, 3) := by decide +kernel
theorem dX9_init_118 : decode cX9_init 118 = .ok (.aload_n 0, 1) := by decide +kernel
theorem dX9_init_119 : decode cX9_init 119 = .ok (.new 46, 3) := by decide +kernel
theorem dX9_init_122 : decode cX9_init 122 = .ok (.dup, 1) := by decide +kernel
theorem dX9_init_123 : decode cX9_init 123 = .ok (.invokespecial 48, 3) := by decide +kernel
theorem dX9_init_126 : decode cX9_init 126 = .ok (.putfield 49, 3) := by decide +kernel
theorem dX9_init_129 : decode cX9_init 129 = .ok (.aload_n 0, 1) := by decide +kernel
theorem dX9_init_130 : decode cX9_init 130 = .ok (.bipush 6, 2) := by decide +kernel
theorem dX9_init_132 : decode cX9_init 132 = .ok (.newarray .int, 2) := by decide +kernel
theorem dX9_init_134 : decode cX9_init 134 = .ok (.putfield 53, 3) := by decide +kernel
theorem dX9_init_137 : decode cX9_init 137 = .ok (.aload_n 0, 1) := by decide +kernel
theorem dX9_init_138 : decode cX9_init 138 = .ok (.new 57, 3) := by decide +kernel
theorem dX9_init_141 : decode cX9_init 141 = .ok (.dup, 1) := by decide +kernel
theorem dX9_init_142 : decode cX9_init 142 = .ok (.invokespecial 59, 3) := by decide +kernel
theorem dX9_init_145 : decode cX9_init 145 = .ok (.putfield 60, 3) := by decide +kernel
theorem dX9_init_148 : decode cX9_init 148 = .ok (.aload_n 0, 1) := by decide +kernel
theorem dX9_init_149 : decode cX9_init 149 = .ok (.new 16, 3) := by decide +kernel
theorem dX9_init_152 : decode cX9_init 152 = .ok (.dup, 1) := by decide +kernel
theorem dX9_init_153 : decode cX9_init 153 = .ok (.invokespecial 18, 3) := by decide +kernel
theorem dX9_init_156 : decode cX9_init 156 = .ok (.putfield 64, 3) := by decide +kernel
theorem dX9_init_159 : decode cX9_init 159 = .ok (.aload_n 0, 1) := by decide +kernel
theorem dX9_init_160 : decode cX9_init 160 = .ok (.new 67, 3) := by decide +kernel
theorem dX9_init_163 : decode cX9_init 163 = .ok (.dup, 1) := by decide +kernel
theorem dX9_init_164 : decode cX9_init 164 = .ok (.invokespecial 69, 3) := by decide +kernel
theorem dX9_init_167 : decode cX9_init 167 = .ok (.putfield 70, 3) := by decide +kernel
theorem dX9_init_170 : decode cX9_init 170 = .ok (.aload_n 0, 1) := by decide +kernel
theorem dX9_init_171 : decode cX9_init 171 = .ok (.bipush 64, 2) := by decide +kernel
theorem dX9_init_173 : decode cX9_init 173 = .ok (.newarray .int, 2) := by decide +kernel
theorem dX9_init_175 : decode cX9_init 175 = .ok (.putfield 74, 3) := by decide +kernel
theorem dX9_init_178 : decode cX9_init 178 = .ok (.return_, 1) := by decide +kernel
theorem dX9_tide_0 : decode cX9_tide 0 = .ok (.iload_n 1, 1) := by decide +kernel
theorem dX9_tide_1 : decode cX9_tide 1 = .ok (.ifCond .lt 17, 3) := by decide +kernel
theorem dX9_tide_4 : decode cX9_tide 4 = .ok (.iload_n 1, 1) := by decide +kernel
theorem dX9_tide_5 : decode cX9_tide 5 = .ok (.iconst 4, 1) := by decide +kernel
theorem dX9_tide_6 : decode cX9_tide 6 = .ok (.if_icmp .ge 12, 3) := by decide +kernel
theorem dX9_tide_9 : decode cX9_tide 9 = .ok (.iload_n 2, 1) := by decide +kernel
theorem dX9_tide_10 : decode cX9_tide 10 = .ok (.iconst 0, 1) := by decide +kernel
theorem dX9_tide_11 : decode cX9_tide 11 = .ok (.iconst 4, 1) := by decide +kernel
theorem dX9_tide_12 : decode cX9_tide 12 = .ok (.invokestatic 77, 3) := by decide +kernel
theorem dX9_tide_15 : decode cX9_tide 15 = .ok (.ifCond .ne 9, 3) := by decide +kernel
theorem dX9_tide_18 : decode cX9_tide 18 = .ok (.aload_n 0, 1) := by decide +kernel
theorem dX9_tide_19 : decode cX9_tide 19 = .ok (.iconst 1, 1) := by decide +kernel
theorem dX9_tide_20 : decode cX9_tide 20 = .ok (.invokevirtual 81, 3) := by decide +kernel
theorem dX9_tide_23 : decode cX9_tide 23 = .ok (.ireturn, 1) := by decide +kernel
theorem dX9_tide_24 : decode cX9_tide 24 = .ok (.aload_n 0, 1) := by decide +kernel
theorem dX9_tide_25 : decode cX9_tide 25 = .ok (.getfield 10, 3) := by decide +kernel
theorem dX9_tide_28 : decode cX9_tide 28 = .ok (.getfield 85, 3) := by decide +kernel
theorem dX9_tide_31 : decode cX9_tide 31 = .ok (.iload_n 1, 1) := by decide +kernel
theorem dX9_tide_32 : decode cX9_tide 32 = .ok (.iaload, 1) := by decide +kernel
theorem dX9_tide_33 : decode cX9_tide 33 = .ok (.istore_n 3, 1) := by decide +kernel
theorem dX9_tide_34 : decode cX9_tide 34 = .ok (.aload_n 0, 1) := by decide +kernel
theorem dX9_tide_35 : decode cX9_tide 35 = .ok (.getfield 10, 3) := by decide +kernel
theorem dX9_tide_38 : decode cX9_tide 38 = .ok (.getfield 85, 3) := by decide +kernel
theorem dX9_tide_41 : decode cX9_tide 41 = .ok (.iload_n 1, 1) := by decide +kernel
theorem dX9_tide_42 : decode cX9_tide 42 = .ok (.iload_n 2, 1) := by decide +kernel
theorem dX9_tide_43 : decode cX9_tide 43 = .ok (.iastore, 1) := by decide +kernel
theorem dX9_tide_44 : decode cX9_tide 44 = .ok (.iload_n 3, 1) := by decide +kernel
theorem dX9_tide_45 : decode cX9_tide 45 = .ok (.ireturn, 1) := by decide +kernel
theorem dX9_speed_0 : decode cX9_speed 0 = .ok (.iload_n 1, 1) := by decide +kernel
theorem dX9_speed_1 : decode cX9_speed 1 = .ok (.iconst 1, 1) := by decide +kernel
theorem dX9_speed_2 : decode cX9_speed 2 = .ok (.bipush 9, 2) := by decide +kernel
theorem dX9_speed_4 : decode cX9_speed 4 = .ok (.invokestatic 77, 3) := by decide +kernel
theorem dX9_speed_7 : decode cX9_speed 7 = .ok (.ifCond .ne 9, 3) := by decide +kernel
theorem dX9_speed_10 : decode cX9_speed 10 = .ok (.aload_n 0, 1) := by decide +kernel
theorem dX9_speed_11 : decode cX9_speed 11 = .ok (.iconst 1, 1) := by decide +kernel
theorem dX9_speed_12 : decode cX9_speed 12 = .ok (.invokevirtual 81, 3) := by decide +kernel
theorem dX9_speed_15 : decode cX9_speed 15 = .ok (.ireturn, 1) := by decide +kernel
theorem dX9_speed_16 : decode cX9_speed 16 = .ok (.aload_n 0, 1) := by decide +kernel
theorem dX9_speed_17 : decode cX9_speed 17 = .ok (.getfield 10, 3) := by decide +kernel
theorem dX9_speed_20 : decode cX9_speed 20 = .ok (.getfield 88, 3) := by decide +kernel
theorem dX9_speed_23 : decode cX9_speed 23 = .ok (.istore_n 2, 1) := by decide +kernel
theorem dX9_speed_24 : decode cX9_speed 24 = .ok (.aload_n 0, 1) := by decide +kernel
theorem dX9_speed_25 : decode cX9_speed 25 = .ok (.getfield 10, 3) := by decide +kernel
theorem dX9_speed_28 : decode cX9_speed 28 = .ok (.iload_n 1, 1) := by decide +kernel
theorem dX9_speed_29 : decode cX9_speed 29 = .ok (.putfield 88, 3) := by decide +kernel
theorem dX9_speed_32 : decode cX9_speed 32 = .ok (.iload_n 2, 1) := by decide +kernel
theorem dX9_speed_33 : decode cX9_speed 33 = .ok (.ireturn, 1) := by decide +kernel
theorem dX9_boat_0 : decode cX9_boat 0 = .ok (.iload_n 1, 1) := by decide +kernel
theorem dX9_boat_1 : decode cX9_boat 1 = .ok (.invokestatic 92, 3) := by decide +kernel
theorem dX9_boat_4 : decode cX9_boat 4 = .ok (.ifCond .eq 10, 3) := by decide +kernel
theorem dX9_boat_7 : decode cX9_boat 7 = .ok (.iload_n 2, 1) := by decide +kernel
theorem dX9_boat_8 : decode cX9_boat 8 = .ok (.invokestatic 96, 3) := by decide +kernel
theorem dX9_boat_11 : decode cX9_boat 11 = .ok (.ifCond .ne 9, 3) := by decide +kernel
theorem dX9_boat_14 : decode cX9_boat 14 = .ok (.aload_n 0, 1) := by decide +kernel
theorem dX9_boat_15 : decode cX9_boat 15 = .ok (.iconst 1, 1) := by decide +kernel
theorem dX9_boat_16 : decode cX9_boat 16 = .ok (.invokevirtual 81, 3) := by decide +kernel
theorem dX9_boat_19 : decode cX9_boat 19 = .ok (.ireturn, 1) := by decide +kernel
theorem dX9_boat_20 : decode cX9_boat 20 = .ok (.aload_n 0, 1) := by decide +kernel
theorem dX9_boat_21 : decode cX9_boat 21 = .ok (.getfield 19, 3) := by decide +kernel
theorem dX9_boat_24 : decode cX9_boat 24 = .ok (.getfield 99, 3) := by decide +kernel
theorem dX9_boat_27 : decode cX9_boat 27 = .ok (.getfield 103, 3) := by decide +kernel
theorem dX9_boat_30 : decode cX9_boat 30 = .ok (.bipush 9, 2) := by decide +kernel
theorem dX9_boat_32 : decode cX9_boat 32 = .ok (.if_icmp .lt 9, 3) := by decide +kernel
theorem dX9_boat_35 : decode cX9_boat 35 = .ok (.aload_n 0, 1) := by decide +kernel
theorem dX9_boat_36 : decode cX9_boat 36 = .ok (.iconst 4, 1) := by decide +kernel
theorem dX9_boat_37 : decode cX9_boat 37 = .ok (.invokevirtual 81, 3) := by decide +kernel
theorem dX9_boat_40 : decode cX9_boat 40 = .ok (.ireturn, 1) := by decide +kernel
theorem dX9_boat_41 : decode cX9_boat 41 = .ok (.aload_n 0, 1) := by decide +kernel
theorem dX9_boat_42 : decode cX9_boat 42 = .ok (.getfield 19, 3) := by decide +kernel
theorem dX9_boat_45 : decode cX9_boat 45 = .ok (.getfield 99, 3) := by decide +kernel
theorem dX9_boat_48 : decode cX9_boat 48 = .ok (.iload_n 1, 1) := by decide +kernel
theorem dX9_boat_49 : decode cX9_boat 49 = .ok (.iload_n 2, 1) := by decide +kernel
theorem dX9_boat_50 : decode cX9_boat 50 = .ok (.invokevirtual 108, 3) := by decide +kernel
theorem dX9_boat_53 : decode cX9_boat 53 = .ok (.ireturn, 1) := by decide +kernel
theorem dX9_ofBoat_0 : decode cX9_ofBoat 0 = .ok (.aload_n 0, 1) := by decide +kernel
theorem dX9_ofBoat_1 : decode cX9_ofBoat 1 = .ok (.getfield 19, 3) := by decide +kernel
theorem dX9_ofBoat_4 : decode cX9_ofBoat 4 = .ok (.getfield 99, 3) := by decide +kernel
theorem dX9_ofBoat_7 : decode cX9_ofBoat 7 = .ok (.astore_n 3, 1) := by decide +kernel
theorem dX9_ofBoat_8 : decode cX9_ofBoat 8 = .ok (.aload_n 3, 1) := by decide +kernel
theorem dX9_ofBoat_9 : decode cX9_ofBoat 9 = .ok (.iload_n 1, 1) := by decide +kernel
theorem dX9_ofBoat_10 : decode cX9_ofBoat 10 = .ok (.invokevirtual 112, 3) := by decide +kernel
theorem dX9_ofBoat_13 : decode cX9_ofBoat 13 = .ok (.ifCond .eq 12, 3) := by decide +kernel
theorem dX9_ofBoat_16 : decode cX9_ofBoat 16 = .ok (.iload_n 2, 1) := by decide +kernel
theorem dX9_ofBoat_17 : decode cX9_ofBoat 17 = .ok (.iconst 0, 1) := by decide +kernel
theorem dX9_ofBoat_18 : decode cX9_ofBoat 18 = .ok (.iconst 4, 1) := by decide +kernel
theorem dX9_ofBoat_19 : decode cX9_ofBoat 19 = .ok (.invokestatic 77, 3) := by decide +kernel
theorem dX9_ofBoat_22 : decode cX9_ofBoat 22 = .ok (.ifCond .ne 9, 3) := by decide +kernel
theorem dX9_ofBoat_25 : decode cX9_ofBoat 25 = .ok (.aload_n 0, 1) := by decide +kernel
theorem dX9_ofBoat_26 : decode cX9_ofBoat 26 = .ok (.iconst 1, 1) := by decide +kernel
theorem dX9_ofBoat_27 : decode cX9_ofBoat 27 = .ok (.invokevirtual 81, 3) := by decide +kernel
theorem dX9_ofBoat_30 : decode cX9_ofBoat 30 = .ok (.ireturn, 1) := by decide +kernel
theorem dX9_ofBoat_31 : decode cX9_ofBoat 31 = .ok (.iload_n 2, 1) := by decide +kernel
theorem dX9_ofBoat_32 : decode cX9_ofBoat 32 = .ok (.tableswitch 60 0 3 #[32, 39, 46, 53], 32) := by decide +kernel
theorem dX9_ofBoat_64 : decode cX9_ofBoat 64 = .ok (.aload_n 3, 1) := by decide +kernel
theorem dX9_ofBoat_65 : decode cX9_ofBoat 65 = .ok (.getfield 115, 3) := by decide +kernel
theorem dX9_ofBoat_68 : decode cX9_ofBoat 68 = .ok (.iload_n 1, 1) := by decide +kernel
theorem dX9_ofBoat_69 : decode cX9_ofBoat 69 = .ok (.iaload, 1) := by decide +kernel
theorem dX9_ofBoat_70 : decode cX9_ofBoat 70 = .ok (.ireturn, 1) := by decide +kernel
theorem dX9_ofBoat_71 : decode cX9_ofBoat 71 = .ok (.aload_n 3, 1) := by decide +kernel
theorem dX9_ofBoat_72 : decode cX9_ofBoat 72 = .ok (.getfield 118, 3) := by decide +kernel
theorem dX9_ofBoat_75 : decode cX9_ofBoat 75 = .ok (.iload_n 1, 1) := by decide +kernel
theorem dX9_ofBoat_76 : decode cX9_ofBoat 76 = .ok (.iaload, 1) := by decide +kernel
theorem dX9_ofBoat_77 : decode cX9_ofBoat 77 = .ok (.ireturn, 1) := by decide +kernel
theorem dX9_ofBoat_78 : decode cX9_ofBoat 78 = .ok (.aload_n 3, 1) := by decide +kernel
theorem dX9_ofBoat_79 : decode cX9_ofBoat 79 = .ok (.getfield 121, 3) := by decide +kernel
theorem dX9_ofBoat_82 : decode cX9_ofBoat 82 = .ok (.iload_n 1, 1) := by decide +kernel
theorem dX9_ofBoat_83 : decode cX9_ofBoat 83 = .ok (.iaload, 1) := by decide +kernel
theorem dX9_ofBoat_84 : decode cX9_ofBoat 84 = .ok (.ireturn, 1) := by decide +kernel
theorem dX9_ofBoat_85 : decode cX9_ofBoat 85 = .ok (.aload_n 3, 1) := by decide +kernel
theorem dX9_ofBoat_86 : decode cX9_ofBoat 86 = .ok (.getfield 124, 3) := by decide +kernel
theorem dX9_ofBoat_89 : decode cX9_ofBoat 89 = .ok (.iload_n 1, 1) := by decide +kernel
theorem dX9_ofBoat_90 : decode cX9_ofBoat 90 = .ok (.iaload, 1) := by decide +kernel
theorem dX9_ofBoat_91 : decode cX9_ofBoat 91 = .ok (.ireturn, 1) := by decide +kernel
theorem dX9_ofBoat_92 : decode cX9_ofBoat 92 = .ok (.aload_n 3, 1) := by decide +kernel
theorem dX9_ofBoat_93 : decode cX9_ofBoat 93 = .ok (.iload_n 1, 1) := by decide +kernel
theorem dX9_ofBoat_94 : decode cX9_ofBoat 94 = .ok (.aload_n 0, 1) := by decide +kernel
theorem dX9_ofBoat_95 : decode cX9_ofBoat 95 = .ok (.getfield 19, 3) := by decide +kernel
theorem dX9_ofBoat_98 : decode cX9_ofBoat 98 = .ok (.invokevirtual 127, 3) := by decide +kernel
theorem dX9_ofBoat_101 : decode cX9_ofBoat 101 = .ok (.invokevirtual 131, 3) := by decide +kernel
theorem dX9_ofBoat_104 : decode cX9_ofBoat 104 = .ok (.ifCond .eq 7, 3) := by decide +kernel
theorem dX9_ofBoat_107 : decode cX9_ofBoat 107 = .ok (.iconst 1, 1) := by decide +kernel
theorem dX9_ofBoat_108 : decode cX9_ofBoat 108 = .ok (.goto 4, 3) := by decide +kernel
theorem dX9_ofBoat_111 : decode cX9_ofBoat 111 = .ok (.iconst 0, 1) := by decide +kernel
theorem dX9_ofBoat_112 : decode cX9_ofBoat 112 = .ok (.ireturn, 1) := by decide +kernel
theorem dX9_change_0 : decode cX9_change 0 = .ok (.aload_n 0, 1) := by decide +kernel
theorem dX9_change_1 : decode cX9_change 1 = .ok (.getfield 19, 3) := by decide +kernel
theorem dX9_change_4 : decode cX9_change 4 = .ok (.getfield 99, 3) := by decide +kernel
theorem dX9_change_7 : decode cX9_change 7 = .ok (.astore 4, 2) := by decide +kernel
theorem dX9_change_9 : decode cX9_change 9 = .ok (.aload 4, 2) := by decide +kernel
theorem dX9_change_11 : decode cX9_change 11 = .ok (.iload_n 1, 1) := by decide +kernel
theorem dX9_change_12 : decode cX9_change 12 = .ok (.invokevirtual 112, 3) := by decide +kernel
theorem dX9_change_15 : decode cX9_change 15 = .ok (.ifCond .ne 9, 3) := by decide +kernel
theorem dX9_change_18 : decode cX9_change 18 = .ok (.aload_n 0, 1) := by decide +kernel
theorem dX9_change_19 : decode cX9_change 19 = .ok (.iconst 1, 1) := by decide +kernel
theorem dX9_change_20 : decode cX9_change 20 = .ok (.invokevirtual 81, 3) := by decide +kernel
theorem dX9_change_23 : decode cX9_change 23 = .ok (.ireturn, 1) := by decide +kernel
theorem dX9_change_24 : decode cX9_change 24 = .ok (.iload_n 2, 1) := by decide +kernel
theorem dX9_change_25 : decode cX9_change 25 = .ok (.iconst 2, 1) := by decide +kernel
theorem dX9_change_26 : decode cX9_change 26 = .ok (.if_icmp .ne 30, 3) := by decide +kernel
theorem dX9_change_29 : decode cX9_change 29 = .ok (.iload_n 3, 1) := by decide +kernel
theorem dX9_change_30 : decode cX9_change 30 = .ok (.invokestatic 96, 3) := by decide +kernel
theorem dX9_change_33 : decode cX9_change 33 = .ok (.ifCond .eq 23, 3) := by decide +kernel
theorem dX9_change_36 : decode cX9_change 36 = .ok (.aload 4, 2) := by decide +kernel
theorem dX9_change_38 : decode cX9_change 38 = .ok (.getfield 121, 3) := by decide +kernel
theorem dX9_change_41 : decode cX9_change 41 = .ok (.iload_n 1, 1) := by decide +kernel
theorem dX9_change_42 : decode cX9_change 42 = .ok (.iaload, 1) := by decide +kernel
theorem dX9_change_43 : decode cX9_change 43 = .ok (.istore 5, 2) := by decide +kernel
theorem dX9_change_45 : decode cX9_change 45 = .ok (.aload 4, 2) := by decide +kernel
theorem dX9_change_47 : decode cX9_change 47 = .ok (.getfield 121, 3) := by decide +kernel
theorem dX9_change_50 : decode cX9_change 50 = .ok (.iload_n 1, 1) := by decide +kernel
theorem dX9_change_51 : decode cX9_change 51 = .ok (.iload_n 3, 1) := by decide +kernel
theorem dX9_change_52 : decode cX9_change 52 = .ok (.iastore, 1) := by decide +kernel
theorem dX9_change_53 : decode cX9_change 53 = .ok (.iload 5, 2) := by decide +kernel
theorem dX9_change_55 : decode cX9_change 55 = .ok (.ireturn, 1) := by decide +kernel
theorem dX9_change_56 : decode cX9_change 56 = .ok (.iload_n 2, 1) := by decide +kernel
theorem dX9_change_57 : decode cX9_change 57 = .ok (.iconst 3, 1) := by decide +kernel
theorem dX9_change_58 : decode cX9_change 58 = .ok (.if_icmp .ne 23, 3) := by decide +kernel
theorem dX9_change_61 : decode cX9_change 61 = .ok (.aload 4, 2) := by decide +kernel
theorem dX9_change_63 : decode cX9_change 63 = .ok (.getfield 124, 3) := by decide +kernel
theorem dX9_change_66 : decode cX9_change 66 = .ok (.iload_n 1, 1) := by decide +kernel
theorem dX9_change_67 : decode cX9_change 67 = .ok (.iaload, 1) := by decide +kernel
theorem dX9_change_68 : decode cX9_change 68 = .ok (.istore 5, 2) := by decide +kernel
theorem dX9_change_70 : decode cX9_change 70 = .ok (.aload 4, 2) := by decide +kernel
theorem dX9_change_72 : decode cX9_change 72 = .ok (.getfield 124, 3) := by decide +kernel
theorem dX9_change_75 : decode cX9_change 75 = .ok (.iload_n 1, 1) := by decide +kernel
theorem dX9_change_76 : decode cX9_change 76 = .ok (.iload_n 3, 1) := by decide +kernel
theorem dX9_change_77 : decode cX9_change 77 = .ok (.iastore, 1) := by decide +kernel
theorem dX9_change_78 : decode cX9_change 78 = .ok (.iload 5, 2) := by decide +kernel
theorem dX9_change_80 : decode cX9_change 80 = .ok (.ireturn, 1) := by decide +kernel
theorem dX9_change_81 : decode cX9_change 81 = .ok (.aload_n 0, 1) := by decide +kernel
theorem dX9_change_82 : decode cX9_change 82 = .ok (.iconst 1, 1) := by decide +kernel
theorem dX9_change_83 : decode cX9_change 83 = .ok (.invokevirtual 81, 3) := by decide +kernel
theorem dX9_change_86 : decode cX9_change 86 = .ok (.ireturn, 1) := by decide +kernel
theorem dX9_become_0 : decode cX9_become 0 = .ok (.aload_n 0, 1) := by decide +kernel
theorem dX9_become_1 : decode cX9_become 1 = .ok (.getfield 19, 3) := by decide +kernel
theorem dX9_become_4 : decode cX9_become 4 = .ok (.getfield 99, 3) := by decide +kernel
theorem dX9_become_7 : decode cX9_become 7 = .ok (.astore_n 3, 1) := by decide +kernel
theorem dX9_become_8 : decode cX9_become 8 = .ok (.aload_n 3, 1) := by decide +kernel
theorem dX9_become_9 : decode cX9_become 9 = .ok (.iload_n 1, 1) := by decide +kernel
theorem dX9_become_10 : decode cX9_become 10 = .ok (.invokevirtual 112, 3) := by decide +kernel
theorem dX9_become_13 : decode cX9_become 13 = .ok (.ifCond .eq 10, 3) := by decide +kernel
theorem dX9_become_16 : decode cX9_become 16 = .ok (.iload_n 2, 1) := by decide +kernel
theorem dX9_become_17 : decode cX9_become 17 = .ok (.invokestatic 92, 3) := by decide +kernel
theorem dX9_become_20 : decode cX9_become 20 = .ok (.ifCond .ne 9, 3) := by decide +kernel
theorem dX9_become_23 : decode cX9_become 23 = .ok (.aload_n 0, 1) := by decide +kernel
theorem dX9_become_24 : decode cX9_become 24 = .ok (.iconst 1, 1) := by decide +kernel
theorem dX9_become_25 : decode cX9_become 25 = .ok (.invokevirtual 81, 3) := by decide +kernel
theorem dX9_become_28 : decode cX9_become 28 = .ok (.ireturn, 1) := by decide +kernel
theorem dX9_become_29 : decode cX9_become 29 = .ok (.aload_n 3, 1) := by decide +kernel
theorem dX9_become_30 : decode cX9_become 30 = .ok (.getfield 115, 3) := by decide +kernel
theorem dX9_become_33 : decode cX9_become 33 = .ok (.iload_n 1, 1) := by decide +kernel
theorem dX9_become_34 : decode cX9_become 34 = .ok (.iaload, 1) := by decide +kernel
theorem dX9_become_35 : decode cX9_become 35 = .ok (.istore 4, 2) := by decide +kernel
theorem dX9_become_37 : decode cX9_become 37 = .ok (.aload_n 3, 1) := by decide +kernel
theorem dX9_become_38 : decode cX9_become 38 = .ok (.getfield 115, 3) := by decide +kernel
theorem dX9_become_41 : decode cX9_become 41 = .ok (.iload_n 1, 1) := by decide +kernel
theorem dX9_become_42 : decode cX9_become 42 = .ok (.iload_n 2, 1) := by decide +kernel
theorem dX9_become_43 : decode cX9_become 43 = .ok (.bipush 10, 2) := by decide +kernel
theorem dX9_become_45 : decode cX9_become 45 = .ok (.idiv, 1) := by decide +kernel
theorem dX9_become_46 : decode cX9_become 46 = .ok (.iastore, 1) := by decide +kernel
theorem dX9_become_47 : decode cX9_become 47 = .ok (.aload_n 3, 1) := by decide +kernel
theorem dX9_become_48 : decode cX9_become 48 = .ok (.getfield 118, 3) := by decide +kernel
theorem dX9_become_51 : decode cX9_become 51 = .ok (.iload_n 1, 1) := by decide +kernel
theorem dX9_become_52 : decode cX9_become 52 = .ok (.iload_n 2, 1) := by decide +kernel
theorem dX9_become_53 : decode cX9_become 53 = .ok (.bipush 10, 2) := by decide +kernel
theorem dX9_become_55 : decode cX9_become 55 = .ok (.irem, 1) := by decide +kernel
theorem dX9_become_56 : decode cX9_become 56 = .ok (.iastore, 1) := by decide +kernel
theorem dX9_become_57 : decode cX9_become 57 = .ok (.iload 4, 2) := by decide +kernel
theorem dX9_become_59 : decode cX9_become 59 = .ok (.ireturn, 1) := by decide +kernel
theorem dX9_as_0 : decode cX9_as 0 = .ok (.aload_n 0, 1) := by decide +kernel
theorem dX9_as_1 : decode cX9_as 1 = .ok (.getfield 19, 3) := by decide +kernel
theorem dX9_as_4 : decode cX9_as 4 = .ok (.getfield 99, 3) := by decide +kernel
theorem dX9_as_7 : decode cX9_as 7 = .ok (.astore_n 3, 1) := by decide +kernel
theorem dX9_as_8 : decode cX9_as 8 = .ok (.aload_n 3, 1) := by decide +kernel
theorem dX9_as_9 : decode cX9_as 9 = .ok (.iload_n 1, 1) := by decide +kernel
theorem dX9_as_10 : decode cX9_as 10 = .ok (.invokevirtual 112, 3) := by decide +kernel
theorem dX9_as_13 : decode cX9_as 13 = .ok (.ifCond .eq 13, 3) := by decide +kernel
theorem dX9_as_16 : decode cX9_as 16 = .ok (.iload_n 2, 1) := by decide +kernel
theorem dX9_as_17 : decode cX9_as 17 = .ok (.iconst 0, 1) := by decide +kernel
theorem dX9_as_18 : decode cX9_as 18 = .ok (.bipush 6, 2) := by decide +kernel
theorem dX9_as_20 : decode cX9_as 20 = .ok (.invokestatic 77, 3) := by decide +kernel
theorem dX9_as_23 : decode cX9_as 23 = .ok (.ifCond .ne 9, 3) := by decide +kernel
theorem dX9_as_26 : decode cX9_as 26 = .ok (.aload_n 0, 1) := by decide +kernel
theorem dX9_as_27 : decode cX9_as 27 = .ok (.iconst 1, 1) := by decide +kernel
theorem dX9_as_28 : decode cX9_as 28 = .ok (.invokevirtual 81, 3) := by decide +kernel
theorem dX9_as_31 : decode cX9_as 31 = .ok (.ireturn, 1) := by decide +kernel
theorem dX9_as_32 : decode cX9_as 32 = .ok (.aload_n 3, 1) := by decide +kernel
theorem dX9_as_33 : decode cX9_as 33 = .ok (.getfield 115, 3) := by decide +kernel
theorem dX9_as_36 : decode cX9_as 36 = .ok (.iload_n 1, 1) := by decide +kernel
theorem dX9_as_37 : decode cX9_as 37 = .ok (.iaload, 1) := by decide +kernel
theorem dX9_as_38 : decode cX9_as 38 = .ok (.iload_n 2, 1) := by decide +kernel
theorem dX9_as_39 : decode cX9_as 39 = .ok (.invokestatic 135, 3) := by decide +kernel
theorem dX9_as_42 : decode cX9_as 42 = .ok (.ifCond .ne 9, 3) := by decide +kernel
theorem dX9_as_45 : decode cX9_as 45 = .ok (.aload_n 0, 1) := by decide +kernel
theorem dX9_as_46 : decode cX9_as 46 = .ok (.iconst 5, 1) := by decide +kernel
theorem dX9_as_47 : decode cX9_as 47 = .ok (.invokevirtual 81, 3) := by decide +kernel
theorem dX9_as_50 : decode cX9_as 50 = .ok (.ireturn, 1) := by decide +kernel
theorem dX9_as_51 : decode cX9_as 51 = .ok (.aload_n 3, 1) := by decide +kernel
theorem dX9_as_52 : decode cX9_as 52 = .ok (.getfield 118, 3) := by decide +kernel
theorem dX9_as_55 : decode cX9_as 55 = .ok (.iload_n 1, 1) := by decide +kernel
theorem dX9_as_56 : decode cX9_as 56 = .ok (.iaload, 1) := by decide +kernel
theorem dX9_as_57 : decode cX9_as 57 = .ok (.ireturn, 1) := by decide +kernel
theorem dX9_lag_0 : decode cX9_lag 0 = .ok (.aload_n 0, 1) := by decide +kernel
theorem dX9_lag_1 : decode cX9_lag 1 = .ok (.getfield 19, 3) := by decide +kernel
theorem dX9_lag_4 : decode cX9_lag 4 = .ok (.getfield 99, 3) := by decide +kernel
theorem dX9_lag_7 : decode cX9_lag 7 = .ok (.astore_n 3, 1) := by decide +kernel
theorem dX9_lag_8 : decode cX9_lag 8 = .ok (.aload_n 3, 1) := by decide +kernel
theorem dX9_lag_9 : decode cX9_lag 9 = .ok (.iload_n 1, 1) := by decide +kernel
theorem dX9_lag_10 : decode cX9_lag 10 = .ok (.invokevirtual 112, 3) := by decide +kernel
theorem dX9_lag_13 : decode cX9_lag 13 = .ok (.ifCond .eq 10, 3) := by decide +kernel
theorem dX9_lag_16 : decode cX9_lag 16 = .ok (.iload_n 2, 1) := by decide +kernel
theorem dX9_lag_17 : decode cX9_lag 17 = .ok (.invokestatic 96, 3) := by decide +kernel
theorem dX9_lag_20 : decode cX9_lag 20 = .ok (.ifCond .ne 9, 3) := by decide +kernel
theorem dX9_lag_23 : decode cX9_lag 23 = .ok (.aload_n 0, 1) := by decide +kernel
theorem dX9_lag_24 : decode cX9_lag 24 = .ok (.iconst 1, 1) := by decide +kernel
theorem dX9_lag_25 : decode cX9_lag 25 = .ok (.invokevirtual 81, 3) := by decide +kernel
theorem dX9_lag_28 : decode cX9_lag 28 = .ok (.ireturn, 1) := by decide +kernel
theorem dX9_lag_29 : decode cX9_lag 29 = .ok (.aload_n 3, 1) := by decide +kernel
theorem dX9_lag_30 : decode cX9_lag 30 = .ok (.getfield 121, 3) := by decide +kernel
theorem dX9_lag_33 : decode cX9_lag 33 = .ok (.iload_n 1, 1) := by decide +kernel
theorem dX9_lag_34 : decode cX9_lag 34 = .ok (.iaload, 1) := by decide +kernel
theorem dX9_lag_35 : decode cX9_lag 35 = .ok (.iload_n 2, 1) := by decide +kernel
theorem dX9_lag_36 : decode cX9_lag 36 = .ok (.invokestatic 138, 3) := by decide +kernel
theorem dX9_lag_39 : decode cX9_lag 39 = .ok (.istore 4, 2) := by decide +kernel
theorem dX9_lag_41 : decode cX9_lag 41 = .ok (.aload_n 0, 1) := by decide +kernel
theorem dX9_lag_42 : decode cX9_lag 42 = .ok (.getfield 10, 3) := by decide +kernel
theorem dX9_lag_45 : decode cX9_lag 45 = .ok (.iload 4, 2) := by decide +kernel
theorem dX9_lag_47 : decode cX9_lag 47 = .ok (.aload_n 0, 1) := by decide +kernel
theorem dX9_lag_48 : decode cX9_lag 48 = .ok (.getfield 10, 3) := by decide +kernel
theorem dX9_lag_51 : decode cX9_lag 51 = .ok (.getfield 88, 3) := by decide +kernel
theorem dX9_lag_54 : decode cX9_lag 54 = .ok (.aload_n 0, 1) := by decide +kernel
theorem dX9_lag_55 : decode cX9_lag 55 = .ok (.getfield 19, 3) := by decide +kernel
theorem dX9_lag_58 : decode cX9_lag 58 = .ok (.invokevirtual 127, 3) := by decide +kernel
theorem dX9_lag_61 : decode cX9_lag 61 = .ok (.invokevirtual 141, 3) := by decide +kernel
theorem dX9_lag_64 : decode cX9_lag 64 = .ok (.aload_n 3, 1) := by decide +kernel
theorem dX9_lag_65 : decode cX9_lag 65 = .ok (.iload_n 1, 1) := by decide +kernel
theorem dX9_lag_66 : decode cX9_lag 66 = .ok (.invokevirtual 145, 3) := by decide +kernel
theorem dX9_lag_69 : decode cX9_lag 69 = .ok (.iadd, 1) := by decide +kernel
theorem dX9_lag_70 : decode cX9_lag 70 = .ok (.ireturn, 1) := by decide +kernel
theorem dX9_listener_0 : decode cX9_listener 0 = .ok (.iload_n 1, 1) := by decide +kernel
theorem dX9_listener_1 : decode cX9_listener 1 = .ok (.invokestatic 96, 3) := by decide +kernel
theorem dX9_listener_4 : decode cX9_listener 4 = .ok (.ifCond .ne 9, 3) := by decide +kernel
theorem dX9_listener_7 : decode cX9_listener 7 = .ok (.aload_n 0, 1) := by decide +kernel
theorem dX9_listener_8 : decode cX9_listener 8 = .ok (.iconst 1, 1) := by decide +kernel
theorem dX9_listener_9 : decode cX9_listener 9 = .ok (.invokevirtual 81, 3) := by decide +kernel
theorem dX9_listener_12 : decode cX9_listener 12 = .ok (.ireturn, 1) := by decide +kernel
theorem dX9_listener_13 : decode cX9_listener 13 = .ok (.aload_n 0, 1) := by decide +kernel
theorem dX9_listener_14 : decode cX9_listener 14 = .ok (.getfield 19, 3) := by decide +kernel
theorem dX9_listener_17 : decode cX9_listener 17 = .ok (.getfield 148, 3) := by decide +kernel
theorem dX9_listener_20 : decode cX9_listener 20 = .ok (.bipush 6, 2) := by decide +kernel
theorem dX9_listener_22 : decode cX9_listener 22 = .ok (.if_icmp .lt 9, 3) := by decide +kernel
theorem dX9_listener_25 : decode cX9_listener 25 = .ok (.aload_n 0, 1) := by decide +kernel
theorem dX9_listener_26 : decode cX9_listener 26 = .ok (.iconst 4, 1) := by decide +kernel
theorem dX9_listener_27 : decode cX9_listener 27 = .ok (.invokevirtual 81, 3) := by decide +kernel
theorem dX9_listener_30 : decode cX9_listener 30 = .ok (.ireturn, 1) := by decide +kernel
theorem dX9_listener_31 : decode cX9_listener 31 = .ok (.aload_n 0, 1) := by decide +kernel
theorem dX9_listener_32 : decode cX9_listener 32 = .ok (.getfield 19, 3) := by decide +kernel
theorem dX9_listener_35 : decode cX9_listener 35 = .ok (.iload_n 1, 1) := by decide +kernel
theorem dX9_listener_36 : decode cX9_listener 36 = .ok (.invokevirtual 151, 3) := by decide +kernel
theorem dX9_listener_39 : decode cX9_listener 39 = .ok (.ireturn, 1) := by decide +kernel
theorem dX9_ofListener_0 : decode cX9_ofListener 0 = .ok (.aload_n 0, 1) := by decide +kernel
theorem dX9_ofListener_1 : decode cX9_ofListener 1 = .ok (.getfield 19, 3) := by decide +kernel
theorem dX9_ofListener_4 : decode cX9_ofListener 4 = .ok (.iload_n 1, 1) := by decide +kernel
theorem dX9_ofListener_5 : decode cX9_ofListener 5 = .ok (.invokevirtual 154, 3) := by decide +kernel
theorem dX9_ofListener_8 : decode cX9_ofListener 8 = .ok (.ifCond .eq 12, 3) := by decide +kernel
theorem dX9_ofListener_11 : decode cX9_ofListener 11 = .ok (.iload_n 2, 1) := by decide +kernel
theorem dX9_ofListener_12 : decode cX9_ofListener 12 = .ok (.iconst 0, 1) := by decide +kernel
theorem dX9_ofListener_13 : decode cX9_ofListener 13 = .ok (.iconst 3, 1) := by decide +kernel
theorem dX9_ofListener_14 : decode cX9_ofListener 14 = .ok (.invokestatic 77, 3) := by decide +kernel
theorem dX9_ofListener_17 : decode cX9_ofListener 17 = .ok (.ifCond .ne 9, 3) := by decide +kernel
theorem dX9_ofListener_20 : decode cX9_ofListener 20 = .ok (.aload_n 0, 1) := by decide +kernel
theorem dX9_ofListener_21 : decode cX9_ofListener 21 = .ok (.iconst 1, 1) := by decide +kernel
theorem dX9_ofListener_22 : decode cX9_ofListener 22 = .ok (.invokevirtual 81, 3) := by decide +kernel
theorem dX9_ofListener_25 : decode cX9_ofListener 25 = .ok (.ireturn, 1) := by decide +kernel
theorem dX9_ofListener_26 : decode cX9_ofListener 26 = .ok (.aload_n 0, 1) := by decide +kernel
theorem dX9_ofListener_27 : decode cX9_ofListener 27 = .ok (.getfield 19, 3) := by decide +kernel
theorem dX9_ofListener_30 : decode cX9_ofListener 30 = .ok (.aload_n 0, 1) := by decide +kernel
theorem dX9_ofListener_31 : decode cX9_ofListener 31 = .ok (.getfield 10, 3) := by decide +kernel
theorem dX9_ofListener_34 : decode cX9_ofListener 34 = .ok (.iload_n 1, 1) := by decide +kernel
theorem dX9_ofListener_35 : decode cX9_ofListener 35 = .ok (.iload_n 2, 1) := by decide +kernel
theorem dX9_ofListener_36 : decode cX9_ofListener 36 = .ok (.invokevirtual 157, 3) := by decide +kernel
theorem dX9_ofListener_39 : decode cX9_ofListener 39 = .ok (.ireturn, 1) := by decide +kernel
theorem dX9_row_0 : decode cX9_row 0 = .ok (.aload_n 0, 1) := by decide +kernel
theorem dX9_row_1 : decode cX9_row 1 = .ok (.getfield 19, 3) := by decide +kernel
theorem dX9_row_4 : decode cX9_row 4 = .ok (.iload_n 1, 1) := by decide +kernel
theorem dX9_row_5 : decode cX9_row 5 = .ok (.invokevirtual 154, 3) := by decide +kernel
theorem dX9_row_8 : decode cX9_row 8 = .ok (.ifCond .eq 10, 3) := by decide +kernel
theorem dX9_row_11 : decode cX9_row 11 = .ok (.iload_n 2, 1) := by decide +kernel
theorem dX9_row_12 : decode cX9_row 12 = .ok (.invokestatic 96, 3) := by decide +kernel
theorem dX9_row_15 : decode cX9_row 15 = .ok (.ifCond .ne 9, 3) := by decide +kernel
theorem dX9_row_18 : decode cX9_row 18 = .ok (.aload_n 0, 1) := by decide +kernel
theorem dX9_row_19 : decode cX9_row 19 = .ok (.iconst 1, 1) := by decide +kernel
theorem dX9_row_20 : decode cX9_row 20 = .ok (.invokevirtual 81, 3) := by decide +kernel
theorem dX9_row_23 : decode cX9_row 23 = .ok (.ireturn, 1) := by decide +kernel
theorem dX9_row_24 : decode cX9_row 24 = .ok (.aload_n 0, 1) := by decide +kernel
theorem dX9_row_25 : decode cX9_row 25 = .ok (.getfield 19, 3) := by decide +kernel
theorem dX9_row_28 : decode cX9_row 28 = .ok (.getfield 161, 3) := by decide +kernel
theorem dX9_row_31 : decode cX9_row 31 = .ok (.iload_n 1, 1) := by decide +kernel
theorem dX9_row_32 : decode cX9_row 32 = .ok (.iaload, 1) := by decide +kernel
theorem dX9_row_33 : decode cX9_row 33 = .ok (.istore_n 3, 1) := by decide +kernel
theorem dX9_row_34 : decode cX9_row 34 = .ok (.aload_n 0, 1) := by decide +kernel
theorem dX9_row_35 : decode cX9_row 35 = .ok (.getfield 19, 3) := by decide +kernel
theorem dX9_row_38 : decode cX9_row 38 = .ok (.getfield 161, 3) := by decide +kernel
theorem dX9_row_41 : decode cX9_row 41 = .ok (.iload_n 1, 1) := by decide +kernel
theorem dX9_row_42 : decode cX9_row 42 = .ok (.iload_n 2, 1) := by decide +kernel
theorem dX9_row_43 : decode cX9_row 43 = .ok (.iastore, 1) := by decide +kernel
theorem dX9_row_44 : decode cX9_row 44 = .ok (.iload_n 3, 1) := by decide +kernel
theorem dX9_row_45 : decode cX9_row 45 = .ok (.ireturn, 1) := by decide +kernel
theorem dX9_feed_0 : decode cX9_feed 0 = .ok (.iload_n 3, 1) := by decide +kernel
theorem dX9_feed_1 : decode cX9_feed 1 = .ok (.iconst 1, 1) := by decide +kernel
theorem dX9_feed_2 : decode cX9_feed 2 = .ok (.bipush 8, 2) := by decide +kernel
theorem dX9_feed_4 : decode cX9_feed 4 = .ok (.invokestatic 77, 3) := by decide +kernel
theorem dX9_feed_7 : decode cX9_feed 7 = .ok (.ifCond .ne 9, 3) := by decide +kernel
theorem dX9_feed_10 : decode cX9_feed 10 = .ok (.aload_n 0, 1) := by decide +kernel
theorem dX9_feed_11 : decode cX9_feed 11 = .ok (.iconst 1, 1) := by decide +kernel
theorem dX9_feed_12 : decode cX9_feed 12 = .ok (.invokevirtual 81, 3) := by decide +kernel
theorem dX9_feed_15 : decode cX9_feed 15 = .ok (.ireturn, 1) := by decide +kernel
theorem dX9_feed_16 : decode cX9_feed 16 = .ok (.aload_n 0, 1) := by decide +kernel
theorem dX9_feed_17 : decode cX9_feed 17 = .ok (.getfield 26, 3) := by decide +kernel
theorem dX9_feed_20 : decode cX9_feed 20 = .ok (.getfield 164, 3) := by decide +kernel
theorem dX9_feed_23 : decode cX9_feed 23 = .ok (.iload_n 3, 1) := by decide +kernel
theorem dX9_feed_24 : decode cX9_feed 24 = .ok (.iadd, 1) := by decide +kernel
theorem dX9_feed_25 : decode cX9_feed 25 = .ok (.bipush 50, 2) := by decide +kernel
theorem dX9_feed_27 : decode cX9_feed 27 = .ok (.if_icmp .le 9, 3) := by decide +kernel
theorem dX9_feed_30 : decode cX9_feed 30 = .ok (.aload_n 0, 1) := by decide +kernel
theorem dX9_feed_31 : decode cX9_feed 31 = .ok (.iconst 4, 1) := by decide +kernel
theorem dX9_feed_32 : decode cX9_feed 32 = .ok (.invokevirtual 81, 3) := by decide +kernel
theorem dX9_feed_35 : decode cX9_feed 35 = .ok (.ireturn, 1) := by decide +kernel
theorem dX9_feed_36 : decode cX9_feed 36 = .ok (.aload_n 0, 1) := by decide +kernel
theorem dX9_feed_37 : decode cX9_feed 37 = .ok (.getfield 26, 3) := by decide +kernel
theorem dX9_feed_40 : decode cX9_feed 40 = .ok (.lload_n 1, 1) := by decide +kernel
theorem dX9_feed_41 : decode cX9_feed 41 = .ok (.iload_n 3, 1) := by decide +kernel
theorem dX9_feed_42 : decode cX9_feed 42 = .ok (.invokevirtual 167, 3) := by decide +kernel
theorem dX9_feed_45 : decode cX9_feed 45 = .ok (.aload_n 0, 1) := by decide +kernel
theorem dX9_feed_46 : decode cX9_feed 46 = .ok (.getfield 26, 3) := by decide +kernel
theorem dX9_feed_49 : decode cX9_feed 49 = .ok (.getfield 164, 3) := by decide +kernel
theorem dX9_feed_52 : decode cX9_feed 52 = .ok (.ireturn, 1) := by decide +kernel
theorem dX9_text_0 : decode cX9_text 0 = .ok (.iload_n 1, 1) := by decide +kernel
theorem dX9_text_1 : decode cX9_text 1 = .ok (.iconst 0, 1) := by decide +kernel
theorem dX9_text_2 : decode cX9_text 2 = .ok (.iconst 1, 1) := by decide +kernel
theorem dX9_text_3 : decode cX9_text 3 = .ok (.invokestatic 77, 3) := by decide +kernel
theorem dX9_text_6 : decode cX9_text 6 = .ok (.ifCond .ne 9, 3) := by decide +kernel
theorem dX9_text_9 : decode cX9_text 9 = .ok (.aload_n 0, 1) := by decide +kernel
theorem dX9_text_10 : decode cX9_text 10 = .ok (.iconst 1, 1) := by decide +kernel
theorem dX9_text_11 : decode cX9_text 11 = .ok (.invokevirtual 81, 3) := by decide +kernel
theorem dX9_text_14 : decode cX9_text 14 = .ok (.ireturn, 1) := by decide +kernel
theorem dX9_text_15 : decode cX9_text 15 = .ok (.aload_n 0, 1) := by decide +kernel
theorem dX9_text_16 : decode cX9_text 16 = .ok (.getfield 60, 3) := by decide +kernel
theorem dX9_text_19 : decode cX9_text 19 = .ok (.aload_n 0, 1) := by decide +kernel
theorem dX9_text_20 : decode cX9_text 20 = .ok (.getfield 26, 3) := by decide +kernel
theorem dX9_text_23 : decode cX9_text 23 = .ok (.getfield 171, 3) := by decide +kernel
theorem dX9_text_26 : decode cX9_text 26 = .ok (.aload_n 0, 1) := by decide +kernel
theorem dX9_text_27 : decode cX9_text 27 = .ok (.getfield 26, 3) := by decide +kernel
theorem dX9_text_30 : decode cX9_text 30 = .ok (.getfield 164, 3) := by decide +kernel
theorem dX9_text_33 : decode cX9_text 33 = .ok (.iload_n 1, 1) := by decide +kernel
theorem dX9_text_34 : decode cX9_text 34 = .ok (.invokevirtual 174, 3) := by decide +kernel
theorem dX9_text_37 : decode cX9_text 37 = .ok (.istore_n 2, 1) := by decide +kernel
theorem dX9_text_38 : decode cX9_text 38 = .ok (.aload_n 0, 1) := by decide +kernel
theorem dX9_text_39 : decode cX9_text 39 = .ok (.getfield 26, 3) := by decide +kernel
theorem dX9_text_42 : decode cX9_text 42 = .ok (.iconst 0, 1) := by decide +kernel
theorem dX9_text_43 : decode cX9_text 43 = .ok (.putfield 164, 3) := by decide +kernel
theorem dX9_text_46 : decode cX9_text 46 = .ok (.iload_n 2, 1) := by decide +kernel
theorem dX9_text_47 : decode cX9_text 47 = .ok (.ifCond .ne 14, 3) := by decide +kernel
theorem dX9_text_50 : decode cX9_text 50 = .ok (.bipush (-10), 2) := by decide +kernel
theorem dX9_text_52 : decode cX9_text 52 = .ok (.aload_n 0, 1) := by decide +kernel
theorem dX9_text_53 : decode cX9_text 53 = .ok (.getfield 60, 3) := by decide +kernel
theorem dX9_text_56 : decode cX9_text 56 = .ok (.getfield 178, 3) := by decide +kernel
theorem dX9_text_59 : decode cX9_text 59 = .ok (.isub, 1) := by decide +kernel
theorem dX9_text_60 : decode cX9_text 60 = .ok (.ireturn, 1) := by decide +kernel
theorem dX9_text_61 : decode cX9_text 61 = .ok (.aload_n 0, 1) := by decide +kernel
theorem dX9_text_62 : decode cX9_text 62 = .ok (.getfield 10, 3) := by decide +kernel
theorem dX9_text_65 : decode cX9_text 65 = .ok (.iload_n 1, 1) := by decide +kernel
theorem dX9_text_66 : decode cX9_text 66 = .ok (.aload_n 0, 1) := by decide +kernel
theorem dX9_text_67 : decode cX9_text 67 = .ok (.getfield 60, 3) := by decide +kernel
theorem dX9_text_70 : decode cX9_text 70 = .ok (.getfield 181, 3) := by decide +kernel
theorem dX9_text_73 : decode cX9_text 73 = .ok (.invokevirtual 185, 3) := by decide +kernel
theorem dX9_text_76 : decode cX9_text 76 = .ok (.iconst 1, 1) := by decide +kernel
theorem dX9_text_77 : decode cX9_text 77 = .ok (.ireturn, 1) := by decide +kernel
theorem dX9_law_0 : decode cX9_law 0 = .ok (.iload_n 1, 1) := by decide +kernel
theorem dX9_law_1 : decode cX9_law 1 = .ok (.iconst 0, 1) := by decide +kernel
theorem dX9_law_2 : decode cX9_law 2 = .ok (.iconst 1, 1) := by decide +kernel
theorem dX9_law_3 : decode cX9_law 3 = .ok (.invokestatic 77, 3) := by decide +kernel
theorem dX9_law_6 : decode cX9_law 6 = .ok (.ifCond .ne 9, 3) := by decide +kernel
theorem dX9_law_9 : decode cX9_law 9 = .ok (.aload_n 0, 1) := by decide +kernel
theorem dX9_law_10 : decode cX9_law 10 = .ok (.iconst 1, 1) := by decide +kernel
theorem dX9_law_11 : decode cX9_law 11 = .ok (.invokevirtual 81, 3) := by decide +kernel
theorem dX9_law_14 : decode cX9_law 14 = .ok (.ireturn, 1) := by decide +kernel
theorem dX9_law_15 : decode cX9_law 15 = .ok (.aload_n 0, 1) := by decide +kernel
theorem dX9_law_16 : decode cX9_law 16 = .ok (.getfield 10, 3) := by decide +kernel
theorem dX9_law_19 : decode cX9_law 19 = .ok (.iload_n 1, 1) := by decide +kernel
theorem dX9_law_20 : decode cX9_law 20 = .ok (.iload_n 2, 1) := by decide +kernel
theorem dX9_law_21 : decode cX9_law 21 = .ok (.iload_n 3, 1) := by decide +kernel
theorem dX9_law_22 : decode cX9_law 22 = .ok (.iload 4, 2) := by decide +kernel
theorem dX9_law_24 : decode cX9_law 24 = .ok (.invokevirtual 189, 3) := by decide +kernel
theorem dX9_law_27 : decode cX9_law 27 = .ok (.ireturn, 1) := by decide +kernel
theorem dX9_beats_0 : decode cX9_beats 0 = .ok (.aload_n 0, 1) := by decide +kernel
theorem dX9_beats_1 : decode cX9_beats 1 = .ok (.iload_n 1, 1) := by decide +kernel
theorem dX9_beats_2 : decode cX9_beats 2 = .ok (.iconst 0, 1) := by decide +kernel
theorem dX9_beats_3 : decode cX9_beats 3 = .ok (.invokevirtual 193, 3) := by decide +kernel
theorem dX9_beats_6 : decode cX9_beats 6 = .ok (.ireturn, 1) := by decide +kernel
theorem dX9_loose_0 : decode cX9_loose 0 = .ok (.aload_n 0, 1) := by decide +kernel
theorem dX9_loose_1 : decode cX9_loose 1 = .ok (.iload_n 1, 1) := by decide +kernel
theorem dX9_loose_2 : decode cX9_loose 2 = .ok (.iconst 1, 1) := by decide +kernel
theorem dX9_loose_3 : decode cX9_loose 3 = .ok (.invokevirtual 193, 3) := by decide +kernel
theorem dX9_loose_6 : decode cX9_loose 6 = .ok (.ireturn, 1) := by decide +kernel
theorem dX9_then_0 : decode cX9_then 0 = .ok (.iload_n 1, 1) := by decide +kernel
theorem dX9_then_1 : decode cX9_then 1 = .ok (.invokestatic 197, 3) := by decide +kernel
theorem dX9_then_4 : decode cX9_then 4 = .ok (.ifCond .eq 17, 3) := by decide +kernel
theorem dX9_then_7 : decode cX9_then 7 = .ok (.aload_n 0, 1) := by decide +kernel
theorem dX9_then_8 : decode cX9_then 8 = .ok (.getfield 19, 3) := by decide +kernel
theorem dX9_then_11 : decode cX9_then 11 = .ok (.getfield 99, 3) := by decide +kernel
theorem dX9_then_14 : decode cX9_then 14 = .ok (.iload_n 2, 1) := by decide +kernel
theorem dX9_then_15 : decode cX9_then 15 = .ok (.invokevirtual 112, 3) := by decide +kernel
theorem dX9_then_18 : decode cX9_then 18 = .ok (.ifCond .ne 9, 3) := by decide +kernel
theorem dX9_then_21 : decode cX9_then 21 = .ok (.aload_n 0, 1) := by decide +kernel
theorem dX9_then_22 : decode cX9_then 22 = .ok (.iconst 1, 1) := by decide +kernel
theorem dX9_then_23 : decode cX9_then 23 = .ok (.invokevirtual 81, 3) := by decide +kernel
theorem dX9_then_26 : decode cX9_then 26 = .ok (.ireturn, 1) := by decide +kernel
theorem dX9_then_27 : decode cX9_then 27 = .ok (.aload_n 0, 1) := by decide +kernel
theorem dX9_then_28 : decode cX9_then 28 = .ok (.getfield 70, 3) := by decide +kernel
theorem dX9_then_31 : decode cX9_then 31 = .ok (.aload_n 0, 1) := by decide +kernel
theorem dX9_then_32 : decode cX9_then 32 = .ok (.getfield 19, 3) := by decide +kernel
theorem dX9_then_35 : decode cX9_then 35 = .ok (.iload_n 1, 1) := by decide +kernel
theorem dX9_then_36 : decode cX9_then 36 = .ok (.invokevirtual 200, 3) := by decide +kernel
theorem dX9_then_39 : decode cX9_then 39 = .ok (.aload_n 0, 1) := by decide +kernel
theorem dX9_then_40 : decode cX9_then 40 = .ok (.getfield 70, 3) := by decide +kernel
theorem dX9_then_43 : decode cX9_then 43 = .ok (.aload_n 0, 1) := by decide +kernel
theorem dX9_then_44 : decode cX9_then 44 = .ok (.getfield 10, 3) := by decide +kernel
theorem dX9_then_47 : decode cX9_then 47 = .ok (.iload_n 2, 1) := by decide +kernel
theorem dX9_then_48 : decode cX9_then 48 = .ok (.invokevirtual 204, 3) := by decide +kernel
theorem dX9_then_51 : decode cX9_then 51 = .ok (.aload_n 0, 1) := by decide +kernel
theorem dX9_then_52 : decode cX9_then 52 = .ok (.getfield 70, 3) := by decide +kernel
theorem dX9_then_55 : decode cX9_then 55 = .ok (.iload_n 1, 1) := by decide +kernel
theorem dX9_then_56 : decode cX9_then 56 = .ok (.iload_n 2, 1) := by decide +kernel
theorem dX9_then_57 : decode cX9_then 57 = .ok (.invokevirtual 208, 3) := by decide +kernel
theorem dX9_then_60 : decode cX9_then 60 = .ok (.ireturn, 1) := by decide +kernel
theorem dX9_thenListener_0 : decode cX9_thenListener 0 = .ok (.iload_n 1, 1) := by decide +kernel
theorem dX9_thenListener_1 : decode cX9_thenListener 1 = .ok (.invokestatic 197, 3) := by decide +kernel
theorem dX9_thenListener_4 : decode cX9_thenListener 4 = .ok (.ifCond .eq 23, 3) := by decide +kernel
theorem dX9_thenListener_7 : decode cX9_thenListener 7 = .ok (.aload_n 0, 1) := by decide +kernel
theorem dX9_thenListener_8 : decode cX9_thenListener 8 = .ok (.getfield 19, 3) := by decide +kernel
theorem dX9_thenListener_11 : decode cX9_thenListener 11 = .ok (.iload_n 2, 1) := by decide +kernel
theorem dX9_thenListener_12 : decode cX9_thenListener 12 = .ok (.invokevirtual 154, 3) := by decide +kernel
theorem dX9_thenListener_15 : decode cX9_thenListener 15 = .ok (.ifCond .eq 12, 3) := by decide +kernel
theorem dX9_thenListener_18 : decode cX9_thenListener 18 = .ok (.iload_n 3, 1) := by decide +kernel
theorem dX9_thenListener_19 : decode cX9_thenListener 19 = .ok (.iconst 0, 1) := by decide +kernel
theorem dX9_thenListener_20 : decode cX9_thenListener 20 = .ok (.iconst 3, 1) := by decide +kernel
theorem dX9_thenListener_21 : decode cX9_thenListener 21 = .ok (.invokestatic 77, 3) := by decide +kernel
theorem dX9_thenListener_24 : decode cX9_thenListener 24 = .ok (.ifCond .ne 9, 3) := by decide +kernel
theorem dX9_thenListener_27 : decode cX9_thenListener 27 = .ok (.aload_n 0, 1) := by decide +kernel
theorem dX9_thenListener_28 : decode cX9_thenListener 28 = .ok (.iconst 1, 1) := by decide +kernel
theorem dX9_thenListener_29 : decode cX9_thenListener 29 = .ok (.invokevirtual 81, 3) := by decide +kernel
theorem dX9_thenListener_32 : decode cX9_thenListener 32 = .ok (.ireturn, 1) := by decide +kernel
theorem dX9_thenListener_33 : decode cX9_thenListener 33 = .ok (.aload_n 0, 1) := by decide +kernel
theorem dX9_thenListener_34 : decode cX9_thenListener 34 = .ok (.getfield 64, 3) := by decide +kernel
theorem dX9_thenListener_37 : decode cX9_thenListener 37 = .ok (.aload_n 0, 1) := by decide +kernel
theorem dX9_thenListener_38 : decode cX9_thenListener 38 = .ok (.getfield 19, 3) := by decide +kernel
theorem dX9_thenListener_41 : decode cX9_thenListener 41 = .ok (.invokevirtual 211, 3) := by decide +kernel
theorem dX9_thenListener_44 : decode cX9_thenListener 44 = .ok (.iconst 0, 1) := by decide +kernel
theorem dX9_thenListener_45 : decode cX9_thenListener 45 = .ok (.istore 4, 2) := by decide +kernel
theorem dX9_thenListener_47 : decode cX9_thenListener 47 = .ok (.iload 4, 2) := by decide +kernel
theorem dX9_thenListener_49 : decode cX9_thenListener 49 = .ok (.iload_n 1, 1) := by decide +kernel
theorem dX9_thenListener_50 : decode cX9_thenListener 50 = .ok (.if_icmp .ge 21, 3) := by decide +kernel
theorem dX9_thenListener_53 : decode cX9_thenListener 53 = .ok (.aload_n 0, 1) := by decide +kernel
theorem dX9_thenListener_54 : decode cX9_thenListener 54 = .ok (.getfield 64, 3) := by decide +kernel
theorem dX9_thenListener_57 : decode cX9_thenListener 57 = .ok (.aload_n 0, 1) := by decide +kernel
theorem dX9_thenListener_58 : decode cX9_thenListener 58 = .ok (.getfield 10, 3) := by decide +kernel
theorem dX9_thenListener_61 : decode cX9_thenListener 61 = .ok (.iconst 0, 1) := by decide +kernel
theorem dX9_thenListener_62 : decode cX9_thenListener 62 = .ok (.invokevirtual 215, 3) := by decide +kernel
theorem dX9_thenListener_65 : decode cX9_thenListener 65 = .ok (.iinc 4 1, 3) := by decide +kernel
theorem dX9_thenListener_68 : decode cX9_thenListener 68 = .ok (.goto (-21), 3) := by decide +kernel
theorem dX9_thenListener_71 : decode cX9_thenListener 71 = .ok (.aload_n 0, 1) := by decide +kernel
theorem dX9_thenListener_72 : decode cX9_thenListener 72 = .ok (.getfield 64, 3) := by decide +kernel
theorem dX9_thenListener_75 : decode cX9_thenListener 75 = .ok (.aload_n 0, 1) := by decide +kernel
theorem dX9_thenListener_76 : decode cX9_thenListener 76 = .ok (.getfield 10, 3) := by decide +kernel
theorem dX9_thenListener_79 : decode cX9_thenListener 79 = .ok (.iload_n 2, 1) := by decide +kernel
theorem dX9_thenListener_80 : decode cX9_thenListener 80 = .ok (.iload_n 3, 1) := by decide +kernel
theorem dX9_thenListener_81 : decode cX9_thenListener 81 = .ok (.invokevirtual 157, 3) := by decide +kernel
theorem dX9_thenListener_84 : decode cX9_thenListener 84 = .ok (.ireturn, 1) := by decide +kernel
theorem dX9_score_0 : decode cX9_score 0 = .ok (.iload_n 1, 1) := by decide +kernel
theorem dX9_score_1 : decode cX9_score 1 = .ok (.invokestatic 96, 3) := by decide +kernel
theorem dX9_score_4 : decode cX9_score 4 = .ok (.ifCond .eq 10, 3) := by decide +kernel
theorem dX9_score_7 : decode cX9_score 7 = .ok (.iload_n 2, 1) := by decide +kernel
theorem dX9_score_8 : decode cX9_score 8 = .ok (.invokestatic 197, 3) := by decide +kernel
theorem dX9_score_11 : decode cX9_score 11 = .ok (.ifCond .ne 9, 3) := by decide +kernel
theorem dX9_score_14 : decode cX9_score 14 = .ok (.aload_n 0, 1) := by decide +kernel
theorem dX9_score_15 : decode cX9_score 15 = .ok (.iconst 1, 1) := by decide +kernel
theorem dX9_score_16 : decode cX9_score 16 = .ok (.invokevirtual 81, 3) := by decide +kernel
theorem dX9_score_19 : decode cX9_score 19 = .ok (.ireturn, 1) := by decide +kernel
theorem dX9_score_20 : decode cX9_score 20 = .ok (.aload_n 0, 1) := by decide +kernel
theorem dX9_score_21 : decode cX9_score 21 = .ok (.iload_n 2, 1) := by decide +kernel
theorem dX9_score_22 : decode cX9_score 22 = .ok (.invokevirtual 219, 3) := by decide +kernel
theorem dX9_score_25 : decode cX9_score 25 = .ok (.aload_n 0, 1) := by decide +kernel
theorem dX9_score_26 : decode cX9_score 26 = .ok (.getfield 70, 3) := by decide +kernel
theorem dX9_score_29 : decode cX9_score 29 = .ok (.aload_n 0, 1) := by decide +kernel
theorem dX9_score_30 : decode cX9_score 30 = .ok (.getfield 10, 3) := by decide +kernel
theorem dX9_score_33 : decode cX9_score 33 = .ok (.iload_n 1, 1) := by decide +kernel
theorem dX9_score_34 : decode cX9_score 34 = .ok (.aload_n 0, 1) := by decide +kernel
theorem dX9_score_35 : decode cX9_score 35 = .ok (.getfield 10, 3) := by decide +kernel
theorem dX9_score_38 : decode cX9_score 38 = .ok (.getfield 88, 3) := by decide +kernel
theorem dX9_score_41 : decode cX9_score 41 = .ok (.invokevirtual 223, 3) := by decide +kernel
theorem dX9_score_44 : decode cX9_score 44 = .ok (.ireturn, 1) := by decide +kernel
theorem dX9_place_0 : decode cX9_place 0 = .ok (.iload_n 1, 1) := by decide +kernel
theorem dX9_place_1 : decode cX9_place 1 = .ok (.invokestatic 197, 3) := by decide +kernel
theorem dX9_place_4 : decode cX9_place 4 = .ok (.ifCond .ne 9, 3) := by decide +kernel
theorem dX9_place_7 : decode cX9_place 7 = .ok (.aload_n 0, 1) := by decide +kernel
theorem dX9_place_8 : decode cX9_place 8 = .ok (.iconst 1, 1) := by decide +kernel
theorem dX9_place_9 : decode cX9_place 9 = .ok (.invokevirtual 81, 3) := by decide +kernel
theorem dX9_place_12 : decode cX9_place 12 = .ok (.ireturn, 1) := by decide +kernel
theorem dX9_place_13 : decode cX9_place 13 = .ok (.aload_n 0, 1) := by decide +kernel
theorem dX9_place_14 : decode cX9_place 14 = .ok (.iload_n 1, 1) := by decide +kernel
theorem dX9_place_15 : decode cX9_place 15 = .ok (.invokevirtual 226, 3) := by decide +kernel
theorem dX9_place_18 : decode cX9_place 18 = .ok (.aload_n 0, 1) := by decide +kernel
theorem dX9_place_19 : decode cX9_place 19 = .ok (.getfield 74, 3) := by decide +kernel
theorem dX9_place_22 : decode cX9_place 22 = .ok (.bipush 64, 2) := by decide +kernel
theorem dX9_place_24 : decode cX9_place 24 = .ok (.invokestatic 229, 3) := by decide +kernel
theorem dX9_place_27 : decode cX9_place 27 = .ok (.ireturn, 1) := by decide +kernel
theorem dX9_fromHere_0 : decode cX9_fromHere 0 = .ok (.iload_n 1, 1) := by decide +kernel
theorem dX9_fromHere_1 : decode cX9_fromHere 1 = .ok (.invokestatic 197, 3) := by decide +kernel
theorem dX9_fromHere_4 : decode cX9_fromHere 4 = .ok (.ifCond .ne 10, 3) := by decide +kernel
theorem dX9_fromHere_7 : decode cX9_fromHere 7 = .ok (.aload_n 0, 1) := by decide +kernel
theorem dX9_fromHere_8 : decode cX9_fromHere 8 = .ok (.iconst 1, 1) := by decide +kernel
theorem dX9_fromHere_9 : decode cX9_fromHere 9 = .ok (.invokevirtual 81, 3) := by decide +kernel
theorem dX9_fromHere_12 : decode cX9_fromHere 12 = .ok (.i2l, 1) := by decide +kernel
theorem dX9_fromHere_13 : decode cX9_fromHere 13 = .ok (.lreturn, 1) := by decide +kernel
theorem dX9_fromHere_14 : decode cX9_fromHere 14 = .ok (.aload_n 0, 1) := by decide +kernel
theorem dX9_fromHere_15 : decode cX9_fromHere 15 = .ok (.iload_n 1, 1) := by decide +kernel
theorem dX9_fromHere_16 : decode cX9_fromHere 16 = .ok (.invokevirtual 226, 3) := by decide +kernel
theorem dX9_fromHere_19 : decode cX9_fromHere 19 = .ok (.aload_n 0, 1) := by decide +kernel
theorem dX9_fromHere_20 : decode cX9_fromHere 20 = .ok (.getfield 74, 3) := by decide +kernel
theorem dX9_fromHere_23 : decode cX9_fromHere 23 = .ok (.aload_n 0, 1) := by decide +kernel
theorem dX9_fromHere_24 : decode cX9_fromHere 24 = .ok (.getfield 74, 3) := by decide +kernel
theorem dX9_fromHere_27 : decode cX9_fromHere 27 = .ok (.bipush 64, 2) := by decide +kernel
theorem dX9_fromHere_29 : decode cX9_fromHere 29 = .ok (.invokestatic 229, 3) := by decide +kernel
theorem dX9_fromHere_32 : decode cX9_fromHere 32 = .ok (.iaload, 1) := by decide +kernel
theorem dX9_fromHere_33 : decode cX9_fromHere 33 = .ok (.istore_n 2, 1) := by decide +kernel
theorem dX9_fromHere_34 : decode cX9_fromHere 34 = .ok (.lconst 0, 1) := by decide +kernel
theorem dX9_fromHere_35 : decode cX9_fromHere 35 = .ok (.lstore_n 3, 1) := by decide +kernel
theorem dX9_fromHere_36 : decode cX9_fromHere 36 = .ok (.iconst 0, 1) := by decide +kernel
theorem dX9_fromHere_37 : decode cX9_fromHere 37 = .ok (.istore 5, 2) := by decide +kernel
theorem dX9_fromHere_39 : decode cX9_fromHere 39 = .ok (.iload 5, 2) := by decide +kernel
theorem dX9_fromHere_41 : decode cX9_fromHere 41 = .ok (.bipush 64, 2) := by decide +kernel
theorem dX9_fromHere_43 : decode cX9_fromHere 43 = .ok (.if_icmp .ge 27, 3) := by decide +kernel
theorem dX9_fromHere_46 : decode cX9_fromHere 46 = .ok (.aload_n 0, 1) := by decide +kernel
theorem dX9_fromHere_47 : decode cX9_fromHere 47 = .ok (.getfield 74, 3) := by decide +kernel
theorem dX9_fromHere_50 : decode cX9_fromHere 50 = .ok (.iload 5, 2) := by decide +kernel
theorem dX9_fromHere_52 : decode cX9_fromHere 52 = .ok (.iaload, 1) := by decide +kernel
theorem dX9_fromHere_53 : decode cX9_fromHere 53 = .ok (.iload_n 2, 1) := by decide +kernel
theorem dX9_fromHere_54 : decode cX9_fromHere 54 = .ok (.if_icmp .ne 10, 3) := by decide +kernel
theorem dX9_fromHere_57 : decode cX9_fromHere 57 = .ok (.lload_n 3, 1) := by decide +kernel
theorem dX9_fromHere_58 : decode cX9_fromHere 58 = .ok (.lconst 1, 1) := by decide +kernel
theorem dX9_fromHere_59 : decode cX9_fromHere 59 = .ok (.iload 5, 2) := by decide +kernel
theorem dX9_fromHere_61 : decode cX9_fromHere 61 = .ok (.lshl, 1) := by decide +kernel
theorem dX9_fromHere_62 : decode cX9_fromHere 62 = .ok (.lor, 1) := by decide +kernel
theorem dX9_fromHere_63 : decode cX9_fromHere 63 = .ok (.lstore_n 3, 1) := by decide +kernel
theorem dX9_fromHere_64 : decode cX9_fromHere 64 = .ok (.iinc 5 1, 3) := by decide +kernel
theorem dX9_fromHere_67 : decode cX9_fromHere 67 = .ok (.goto (-28), 3) := by decide +kernel
theorem dX9_fromHere_70 : decode cX9_fromHere 70 = .ok (.lload_n 3, 1) := by decide +kernel
theorem dX9_fromHere_71 : decode cX9_fromHere 71 = .ok (.lreturn, 1) := by decide +kernel
theorem dX9_mooring_0 : decode cX9_mooring 0 = .ok (.aload_n 0, 1) := by decide +kernel
theorem dX9_mooring_1 : decode cX9_mooring 1 = .ok (.getfield 19, 3) := by decide +kernel
theorem dX9_mooring_4 : decode cX9_mooring 4 = .ok (.getfield 99, 3) := by decide +kernel
theorem dX9_mooring_7 : decode cX9_mooring 7 = .ok (.iload_n 1, 1) := by decide +kernel
theorem dX9_mooring_8 : decode cX9_mooring 8 = .ok (.invokevirtual 112, 3) := by decide +kernel
theorem dX9_mooring_11 : decode cX9_mooring 11 = .ok (.ifCond .eq 17, 3) := by decide +kernel
theorem dX9_mooring_14 : decode cX9_mooring 14 = .ok (.iload_n 2, 1) := by decide +kernel
theorem dX9_mooring_15 : decode cX9_mooring 15 = .ok (.invokestatic 96, 3) := by decide +kernel
theorem dX9_mooring_18 : decode cX9_mooring 18 = .ok (.ifCond .eq 10, 3) := by decide +kernel
theorem dX9_mooring_21 : decode cX9_mooring 21 = .ok (.iload_n 3, 1) := by decide +kernel
theorem dX9_mooring_22 : decode cX9_mooring 22 = .ok (.invokestatic 197, 3) := by decide +kernel
theorem dX9_mooring_25 : decode cX9_mooring 25 = .ok (.ifCond .ne 9, 3) := by decide +kernel
theorem dX9_mooring_28 : decode cX9_mooring 28 = .ok (.aload_n 0, 1) := by decide +kernel
theorem dX9_mooring_29 : decode cX9_mooring 29 = .ok (.iconst 1, 1) := by decide +kernel
theorem dX9_mooring_30 : decode cX9_mooring 30 = .ok (.invokevirtual 81, 3) := by decide +kernel
theorem dX9_mooring_33 : decode cX9_mooring 33 = .ok (.ireturn, 1) := by decide +kernel
theorem dX9_mooring_34 : decode cX9_mooring 34 = .ok (.aload_n 0, 1) := by decide +kernel
theorem dX9_mooring_35 : decode cX9_mooring 35 = .ok (.iload_n 3, 1) := by decide +kernel
theorem dX9_mooring_36 : decode cX9_mooring 36 = .ok (.invokevirtual 219, 3) := by decide +kernel
theorem dX9_mooring_39 : decode cX9_mooring 39 = .ok (.iconst 0, 1) := by decide +kernel
theorem dX9_mooring_40 : decode cX9_mooring 40 = .ok (.istore 4, 2) := by decide +kernel
theorem dX9_mooring_42 : decode cX9_mooring 42 = .ok (.iload 4, 2) := by decide +kernel
theorem dX9_mooring_44 : decode cX9_mooring 44 = .ok (.bipush 64, 2) := by decide +kernel
theorem dX9_mooring_46 : decode cX9_mooring 46 = .ok (.if_icmp .ge 61, 3) := by decide +kernel
theorem dX9_mooring_49 : decode cX9_mooring 49 = .ok (.aload_n 0, 1) := by decide +kernel
theorem dX9_mooring_50 : decode cX9_mooring 50 = .ok (.getfield 70, 3) := by decide +kernel
theorem dX9_mooring_53 : decode cX9_mooring 53 = .ok (.getfield 233, 3) := by decide +kernel
theorem dX9_mooring_56 : decode cX9_mooring 56 = .ok (.getfield 121, 3) := by decide +kernel
theorem dX9_mooring_59 : decode cX9_mooring 59 = .ok (.iload_n 1, 1) := by decide +kernel
theorem dX9_mooring_60 : decode cX9_mooring 60 = .ok (.iload 4, 2) := by decide +kernel
theorem dX9_mooring_62 : decode cX9_mooring 62 = .ok (.iastore, 1) := by decide +kernel
theorem dX9_mooring_63 : decode cX9_mooring 63 = .ok (.aload_n 0, 1) := by decide +kernel
theorem dX9_mooring_64 : decode cX9_mooring 64 = .ok (.getfield 70, 3) := by decide +kernel
theorem dX9_mooring_67 : decode cX9_mooring 67 = .ok (.aload_n 0, 1) := by decide +kernel
theorem dX9_mooring_68 : decode cX9_mooring 68 = .ok (.getfield 10, 3) := by decide +kernel
theorem dX9_mooring_71 : decode cX9_mooring 71 = .ok (.iload_n 1, 1) := by decide +kernel
theorem dX9_mooring_72 : decode cX9_mooring 72 = .ok (.invokevirtual 204, 3) := by decide +kernel
theorem dX9_mooring_75 : decode cX9_mooring 75 = .ok (.aload_n 0, 1) := by decide +kernel
theorem dX9_mooring_76 : decode cX9_mooring 76 = .ok (.getfield 74, 3) := by decide +kernel
theorem dX9_mooring_79 : decode cX9_mooring 79 = .ok (.iload 4, 2) := by decide +kernel
theorem dX9_mooring_81 : decode cX9_mooring 81 = .ok (.aload_n 0, 1) := by decide +kernel
theorem dX9_mooring_82 : decode cX9_mooring 82 = .ok (.getfield 70, 3) := by decide +kernel
theorem dX9_mooring_85 : decode cX9_mooring 85 = .ok (.aload_n 0, 1) := by decide +kernel
theorem dX9_mooring_86 : decode cX9_mooring 86 = .ok (.getfield 10, 3) := by decide +kernel
theorem dX9_mooring_89 : decode cX9_mooring 89 = .ok (.iload_n 2, 1) := by decide +kernel
theorem dX9_mooring_90 : decode cX9_mooring 90 = .ok (.aload_n 0, 1) := by decide +kernel
theorem dX9_mooring_91 : decode cX9_mooring 91 = .ok (.getfield 10, 3) := by decide +kernel
theorem dX9_mooring_94 : decode cX9_mooring 94 = .ok (.getfield 88, 3) := by decide +kernel
theorem dX9_mooring_97 : decode cX9_mooring 97 = .ok (.invokevirtual 223, 3) := by decide +kernel
theorem dX9_mooring_100 : decode cX9_mooring 100 = .ok (.iastore, 1) := by decide +kernel
theorem dX9_mooring_101 : decode cX9_mooring 101 = .ok (.iinc 4 1, 3) := by decide +kernel
theorem dX9_mooring_104 : decode cX9_mooring 104 = .ok (.goto (-62), 3) := by decide +kernel
theorem dX9_mooring_107 : decode cX9_mooring 107 = .ok (.aload_n 0, 1) := by decide +kernel
theorem dX9_mooring_108 : decode cX9_mooring 108 = .ok (.getfield 74, 3) := by decide +kernel
theorem dX9_mooring_111 : decode cX9_mooring 111 = .ok (.bipush 64, 2) := by decide +kernel
theorem dX9_mooring_113 : decode cX9_mooring 113 = .ok (.invokestatic 229, 3) := by decide +kernel
theorem dX9_mooring_116 : decode cX9_mooring 116 = .ok (.ireturn, 1) := by decide +kernel
theorem dX9_sooner_0 : decode cX9_sooner 0 = .ok (.aload_n 0, 1) := by decide +kernel
theorem dX9_sooner_1 : decode cX9_sooner 1 = .ok (.getfield 19, 3) := by decide +kernel
theorem dX9_sooner_4 : decode cX9_sooner 4 = .ok (.getfield 99, 3) := by decide +kernel
theorem dX9_sooner_7 : decode cX9_sooner 7 = .ok (.iload_n 1, 1) := by decide +kernel
theorem dX9_sooner_8 : decode cX9_sooner 8 = .ok (.invokevirtual 112, 3) := by decide +kernel
theorem dX9_sooner_11 : decode cX9_sooner 11 = .ok (.ifCond .eq 17, 3) := by decide +kernel
theorem dX9_sooner_14 : decode cX9_sooner 14 = .ok (.iload_n 2, 1) := by decide +kernel
theorem dX9_sooner_15 : decode cX9_sooner 15 = .ok (.invokestatic 96, 3) := by decide +kernel
theorem dX9_sooner_18 : decode cX9_sooner 18 = .ok (.ifCond .eq 10, 3) := by decide +kernel
theorem dX9_sooner_21 : decode cX9_sooner 21 = .ok (.iload_n 3, 1) := by decide +kernel
theorem dX9_sooner_22 : decode cX9_sooner 22 = .ok (.invokestatic 197, 3) := by decide +kernel
theorem dX9_sooner_25 : decode cX9_sooner 25 = .ok (.ifCond .ne 9, 3) := by decide +kernel
theorem dX9_sooner_28 : decode cX9_sooner 28 = .ok (.aload_n 0, 1) := by decide +kernel
theorem dX9_sooner_29 : decode cX9_sooner 29 = .ok (.iconst 1, 1) := by decide +kernel
theorem dX9_sooner_30 : decode cX9_sooner 30 = .ok (.invokevirtual 81, 3) := by decide +kernel
theorem dX9_sooner_33 : decode cX9_sooner 33 = .ok (.ireturn, 1) := by decide +kernel
theorem dX9_sooner_34 : decode cX9_sooner 34 = .ok (.aload_n 0, 1) := by decide +kernel
theorem dX9_sooner_35 : decode cX9_sooner 35 = .ok (.iload_n 3, 1) := by decide +kernel
theorem dX9_sooner_36 : decode cX9_sooner 36 = .ok (.invokevirtual 219, 3) := by decide +kernel
theorem dX9_sooner_39 : decode cX9_sooner 39 = .ok (.iconst 0, 1) := by decide +kernel
theorem dX9_sooner_40 : decode cX9_sooner 40 = .ok (.istore 4, 2) := by decide +kernel
theorem dX9_sooner_42 : decode cX9_sooner 42 = .ok (.iload 4, 2) := by decide +kernel
theorem dX9_sooner_44 : decode cX9_sooner 44 = .ok (.bipush 32, 2) := by decide +kernel
theorem dX9_sooner_46 : decode cX9_sooner 46 = .ok (.if_icmp .ge 76, 3) := by decide +kernel
theorem dX9_sooner_49 : decode cX9_sooner 49 = .ok (.aload_n 0, 1) := by decide +kernel
theorem dX9_sooner_50 : decode cX9_sooner 50 = .ok (.getfield 70, 3) := by decide +kernel
theorem dX9_sooner_53 : decode cX9_sooner 53 = .ok (.getfield 233, 3) := by decide +kernel
theorem dX9_sooner_56 : decode cX9_sooner 56 = .ok (.getfield 124, 3) := by decide +kernel
theorem dX9_sooner_59 : decode cX9_sooner 59 = .ok (.iload_n 1, 1) := by decide +kernel
theorem dX9_sooner_60 : decode cX9_sooner 60 = .ok (.aload_n 0, 1) := by decide +kernel
theorem dX9_sooner_61 : decode cX9_sooner 61 = .ok (.getfield 19, 3) := by decide +kernel
theorem dX9_sooner_64 : decode cX9_sooner 64 = .ok (.getfield 99, 3) := by decide +kernel
theorem dX9_sooner_67 : decode cX9_sooner 67 = .ok (.getfield 124, 3) := by decide +kernel
theorem dX9_sooner_70 : decode cX9_sooner 70 = .ok (.iload_n 1, 1) := by decide +kernel
theorem dX9_sooner_71 : decode cX9_sooner 71 = .ok (.iaload, 1) := by decide +kernel
theorem dX9_sooner_72 : decode cX9_sooner 72 = .ok (.iload 4, 2) := by decide +kernel
theorem dX9_sooner_74 : decode cX9_sooner 74 = .ok (.invokestatic 234, 3) := by decide +kernel
theorem dX9_sooner_77 : decode cX9_sooner 77 = .ok (.iastore, 1) := by decide +kernel
theorem dX9_sooner_78 : decode cX9_sooner 78 = .ok (.aload_n 0, 1) := by decide +kernel
theorem dX9_sooner_79 : decode cX9_sooner 79 = .ok (.getfield 70, 3) := by decide +kernel
theorem dX9_sooner_82 : decode cX9_sooner 82 = .ok (.aload_n 0, 1) := by decide +kernel
theorem dX9_sooner_83 : decode cX9_sooner 83 = .ok (.getfield 10, 3) := by decide +kernel
theorem dX9_sooner_86 : decode cX9_sooner 86 = .ok (.iload_n 1, 1) := by decide +kernel
theorem dX9_sooner_87 : decode cX9_sooner 87 = .ok (.invokevirtual 204, 3) := by decide +kernel
theorem dX9_sooner_90 : decode cX9_sooner 90 = .ok (.aload_n 0, 1) := by decide +kernel
theorem dX9_sooner_91 : decode cX9_sooner 91 = .ok (.getfield 74, 3) := by decide +kernel
theorem dX9_sooner_94 : decode cX9_sooner 94 = .ok (.iload 4, 2) := by decide +kernel
theorem dX9_sooner_96 : decode cX9_sooner 96 = .ok (.aload_n 0, 1) := by decide +kernel
theorem dX9_sooner_97 : decode cX9_sooner 97 = .ok (.getfield 70, 3) := by decide +kernel
theorem dX9_sooner_100 : decode cX9_sooner 100 = .ok (.aload_n 0, 1) := by decide +kernel
theorem dX9_sooner_101 : decode cX9_sooner 101 = .ok (.getfield 10, 3) := by decide +kernel
theorem dX9_sooner_104 : decode cX9_sooner 104 = .ok (.iload_n 2, 1) := by decide +kernel
theorem dX9_sooner_105 : decode cX9_sooner 105 = .ok (.aload_n 0, 1) := by decide +kernel
theorem dX9_sooner_106 : decode cX9_sooner 106 = .ok (.getfield 10, 3) := by decide +kernel
theorem dX9_sooner_109 : decode cX9_sooner 109 = .ok (.getfield 88, 3) := by decide +kernel
theorem dX9_sooner_112 : decode cX9_sooner 112 = .ok (.invokevirtual 223, 3) := by decide +kernel
theorem dX9_sooner_115 : decode cX9_sooner 115 = .ok (.iastore, 1) := by decide +kernel
theorem dX9_sooner_116 : decode cX9_sooner 116 = .ok (.iinc 4 1, 3) := by decide +kernel
theorem dX9_sooner_119 : decode cX9_sooner 119 = .ok (.goto (-77), 3) := by decide +kernel
theorem dX9_sooner_122 : decode cX9_sooner 122 = .ok (.aload_n 0, 1) := by decide +kernel
theorem dX9_sooner_123 : decode cX9_sooner 123 = .ok (.getfield 74, 3) := by decide +kernel
theorem dX9_sooner_126 : decode cX9_sooner 126 = .ok (.bipush 32, 2) := by decide +kernel
theorem dX9_sooner_128 : decode cX9_sooner 128 = .ok (.invokestatic 229, 3) := by decide +kernel
theorem dX9_sooner_131 : decode cX9_sooner 131 = .ok (.ireturn, 1) := by decide +kernel
theorem dX9_fitSpeed_0 : decode cX9_fitSpeed 0 = .ok (.iload_n 1, 1) := by decide +kernel
theorem dX9_fitSpeed_1 : decode cX9_fitSpeed 1 = .ok (.invokestatic 96, 3) := by decide +kernel
theorem dX9_fitSpeed_4 : decode cX9_fitSpeed 4 = .ok (.ifCond .eq 10, 3) := by decide +kernel
theorem dX9_fitSpeed_7 : decode cX9_fitSpeed 7 = .ok (.iload_n 2, 1) := by decide +kernel
theorem dX9_fitSpeed_8 : decode cX9_fitSpeed 8 = .ok (.invokestatic 197, 3) := by decide +kernel
theorem dX9_fitSpeed_11 : decode cX9_fitSpeed 11 = .ok (.ifCond .ne 9, 3) := by decide +kernel
theorem dX9_fitSpeed_14 : decode cX9_fitSpeed 14 = .ok (.aload_n 0, 1) := by decide +kernel
theorem dX9_fitSpeed_15 : decode cX9_fitSpeed 15 = .ok (.iconst 1, 1) := by decide +kernel
theorem dX9_fitSpeed_16 : decode cX9_fitSpeed 16 = .ok (.invokevirtual 81, 3) := by decide +kernel
theorem dX9_fitSpeed_19 : decode cX9_fitSpeed 19 = .ok (.ireturn, 1) := by decide +kernel
theorem dX9_fitSpeed_20 : decode cX9_fitSpeed 20 = .ok (.aload_n 0, 1) := by decide +kernel
theorem dX9_fitSpeed_21 : decode cX9_fitSpeed 21 = .ok (.iload_n 2, 1) := by decide +kernel
theorem dX9_fitSpeed_22 : decode cX9_fitSpeed 22 = .ok (.invokevirtual 219, 3) := by decide +kernel
theorem dX9_fitSpeed_25 : decode cX9_fitSpeed 25 = .ok (.iconst 1, 1) := by decide +kernel
theorem dX9_fitSpeed_26 : decode cX9_fitSpeed 26 = .ok (.istore_n 3, 1) := by decide +kernel
theorem dX9_fitSpeed_27 : decode cX9_fitSpeed 27 = .ok (.iload_n 3, 1) := by decide +kernel
theorem dX9_fitSpeed_28 : decode cX9_fitSpeed 28 = .ok (.bipush 9, 2) := by decide +kernel
theorem dX9_fitSpeed_30 : decode cX9_fitSpeed 30 = .ok (.if_icmp .gt 30, 3) := by decide +kernel
theorem dX9_fitSpeed_33 : decode cX9_fitSpeed 33 = .ok (.aload_n 0, 1) := by decide +kernel
theorem dX9_fitSpeed_34 : decode cX9_fitSpeed 34 = .ok (.getfield 74, 3) := by decide +kernel
theorem dX9_fitSpeed_37 : decode cX9_fitSpeed 37 = .ok (.iload_n 3, 1) := by decide +kernel
theorem dX9_fitSpeed_38 : decode cX9_fitSpeed 38 = .ok (.iconst 1, 1) := by decide +kernel
theorem dX9_fitSpeed_39 : decode cX9_fitSpeed 39 = .ok (.isub, 1) := by decide +kernel
theorem dX9_fitSpeed_40 : decode cX9_fitSpeed 40 = .ok (.aload_n 0, 1) := by decide +kernel
theorem dX9_fitSpeed_41 : decode cX9_fitSpeed 41 = .ok (.getfield 70, 3) := by decide +kernel
theorem dX9_fitSpeed_44 : decode cX9_fitSpeed 44 = .ok (.aload_n 0, 1) := by decide +kernel
theorem dX9_fitSpeed_45 : decode cX9_fitSpeed 45 = .ok (.getfield 10, 3) := by decide +kernel
theorem dX9_fitSpeed_48 : decode cX9_fitSpeed 48 = .ok (.iload_n 1, 1) := by decide +kernel
theorem dX9_fitSpeed_49 : decode cX9_fitSpeed 49 = .ok (.iload_n 3, 1) := by decide +kernel
theorem dX9_fitSpeed_50 : decode cX9_fitSpeed 50 = .ok (.invokevirtual 223, 3) := by decide +kernel
theorem dX9_fitSpeed_53 : decode cX9_fitSpeed 53 = .ok (.iastore, 1) := by decide +kernel
theorem dX9_fitSpeed_54 : decode cX9_fitSpeed 54 = .ok (.iinc 3 1, 3) := by decide +kernel
theorem dX9_fitSpeed_57 : decode cX9_fitSpeed 57 = .ok (.goto (-30), 3) := by decide +kernel
theorem dX9_fitSpeed_60 : decode cX9_fitSpeed 60 = .ok (.aload_n 0, 1) := by decide +kernel
theorem dX9_fitSpeed_61 : decode cX9_fitSpeed 61 = .ok (.getfield 74, 3) := by decide +kernel
theorem dX9_fitSpeed_64 : decode cX9_fitSpeed 64 = .ok (.bipush 9, 2) := by decide +kernel
theorem dX9_fitSpeed_66 : decode cX9_fitSpeed 66 = .ok (.invokestatic 229, 3) := by decide +kernel
theorem dX9_fitSpeed_69 : decode cX9_fitSpeed 69 = .ok (.iconst 1, 1) := by decide +kernel
theorem dX9_fitSpeed_70 : decode cX9_fitSpeed 70 = .ok (.iadd, 1) := by decide +kernel
theorem dX9_fitSpeed_71 : decode cX9_fitSpeed 71 = .ok (.ireturn, 1) := by decide +kernel
theorem dX9_fromWhere_0 : decode cX9_fromWhere 0 = .ok (.iload_n 1, 1) := by decide +kernel
theorem dX9_fromWhere_1 : decode cX9_fromWhere 1 = .ok (.invokestatic 239, 3) := by decide +kernel
theorem dX9_fromWhere_4 : decode cX9_fromWhere 4 = .ok (.ifCond .eq 10, 3) := by decide +kernel
theorem dX9_fromWhere_7 : decode cX9_fromWhere 7 = .ok (.iload_n 2, 1) := by decide +kernel
theorem dX9_fromWhere_8 : decode cX9_fromWhere 8 = .ok (.invokestatic 242, 3) := by decide +kernel
theorem dX9_fromWhere_11 : decode cX9_fromWhere 11 = .ok (.ifCond .ne 9, 3) := by decide +kernel
theorem dX9_fromWhere_14 : decode cX9_fromWhere 14 = .ok (.aload_n 0, 1) := by decide +kernel
theorem dX9_fromWhere_15 : decode cX9_fromWhere 15 = .ok (.iconst 1, 1) := by decide +kernel
theorem dX9_fromWhere_16 : decode cX9_fromWhere 16 = .ok (.invokevirtual 81, 3) := by decide +kernel
theorem dX9_fromWhere_19 : decode cX9_fromWhere 19 = .ok (.ireturn, 1) := by decide +kernel
theorem dX9_fromWhere_20 : decode cX9_fromWhere 20 = .ok (.aload_n 0, 1) := by decide +kernel
theorem dX9_fromWhere_21 : decode cX9_fromWhere 21 = .ok (.iload_n 1, 1) := by decide +kernel
theorem dX9_fromWhere_22 : decode cX9_fromWhere 22 = .ok (.iload_n 2, 1) := by decide +kernel
theorem dX9_fromWhere_23 : decode cX9_fromWhere 23 = .ok (.invokevirtual 245, 3) := by decide +kernel
theorem dX9_fromWhere_26 : decode cX9_fromWhere 26 = .ok (.invokestatic 249, 3) := by decide +kernel
theorem dX9_fromWhere_29 : decode cX9_fromWhere 29 = .ok (.ireturn, 1) := by decide +kernel
theorem dX9_whereFrom_0 : decode cX9_whereFrom 0 = .ok (.iload_n 1, 1) := by decide +kernel
theorem dX9_whereFrom_1 : decode cX9_whereFrom 1 = .ok (.invokestatic 239, 3) := by decide +kernel
theorem dX9_whereFrom_4 : decode cX9_whereFrom 4 = .ok (.ifCond .eq 14, 3) := by decide +kernel
theorem dX9_whereFrom_7 : decode cX9_whereFrom 7 = .ok (.iload_n 2, 1) := by decide +kernel
theorem dX9_whereFrom_8 : decode cX9_whereFrom 8 = .ok (.invokestatic 242, 3) := by decide +kernel
theorem dX9_whereFrom_11 : decode cX9_whereFrom 11 = .ok (.ifCond .eq 7, 3) := by decide +kernel
theorem dX9_whereFrom_14 : decode cX9_whereFrom 14 = .ok (.iload_n 3, 1) := by decide +kernel
theorem dX9_whereFrom_15 : decode cX9_whereFrom 15 = .ok (.ifCond .ge 9, 3) := by decide +kernel
theorem dX9_whereFrom_18 : decode cX9_whereFrom 18 = .ok (.aload_n 0, 1) := by decide +kernel
theorem dX9_whereFrom_19 : decode cX9_whereFrom 19 = .ok (.iconst 1, 1) := by decide +kernel
theorem dX9_whereFrom_20 : decode cX9_whereFrom 20 = .ok (.invokevirtual 81, 3) := by decide +kernel
theorem dX9_whereFrom_23 : decode cX9_whereFrom 23 = .ok (.ireturn, 1) := by decide +kernel
theorem dX9_whereFrom_24 : decode cX9_whereFrom 24 = .ok (.aload_n 0, 1) := by decide +kernel
theorem dX9_whereFrom_25 : decode cX9_whereFrom 25 = .ok (.iload_n 1, 1) := by decide +kernel
theorem dX9_whereFrom_26 : decode cX9_whereFrom 26 = .ok (.iload_n 2, 1) := by decide +kernel
theorem dX9_whereFrom_27 : decode cX9_whereFrom 27 = .ok (.invokevirtual 245, 3) := by decide +kernel
theorem dX9_whereFrom_30 : decode cX9_whereFrom 30 = .ok (.lstore 4, 2) := by decide +kernel
theorem dX9_whereFrom_32 : decode cX9_whereFrom 32 = .ok (.iconst 0, 1) := by decide +kernel
theorem dX9_whereFrom_33 : decode cX9_whereFrom 33 = .ok (.istore 6, 2) := by decide +kernel
theorem dX9_whereFrom_35 : decode cX9_whereFrom 35 = .ok (.iconst 0, 1) := by decide +kernel
theorem dX9_whereFrom_36 : decode cX9_whereFrom 36 = .ok (.istore 7, 2) := by decide +kernel
theorem dX9_whereFrom_38 : decode cX9_whereFrom 38 = .ok (.iload 7, 2) := by decide +kernel
theorem dX9_whereFrom_40 : decode cX9_whereFrom 40 = .ok (.bipush 64, 2) := by decide +kernel
theorem dX9_whereFrom_42 : decode cX9_whereFrom 42 = .ok (.if_icmp .ge 36, 3) := by decide +kernel
theorem dX9_whereFrom_45 : decode cX9_whereFrom 45 = .ok (.lload 4, 2) := by decide +kernel
theorem dX9_whereFrom_47 : decode cX9_whereFrom 47 = .ok (.iload 7, 2) := by decide +kernel
theorem dX9_whereFrom_49 : decode cX9_whereFrom 49 = .ok (.lushr, 1) := by decide +kernel
theorem dX9_whereFrom_50 : decode cX9_whereFrom 50 = .ok (.lconst 1, 1) := by decide +kernel
theorem dX9_whereFrom_51 : decode cX9_whereFrom 51 = .ok (.land, 1) := by decide +kernel
theorem dX9_whereFrom_52 : decode cX9_whereFrom 52 = .ok (.lconst 0, 1) := by decide +kernel
theorem dX9_whereFrom_53 : decode cX9_whereFrom 53 = .ok (.lcmp, 1) := by decide +kernel
theorem dX9_whereFrom_54 : decode cX9_whereFrom 54 = .ok (.ifCond .ne 6, 3) := by decide +kernel
theorem dX9_whereFrom_57 : decode cX9_whereFrom 57 = .ok (.goto 15, 3) := by decide +kernel
theorem dX9_whereFrom_60 : decode cX9_whereFrom 60 = .ok (.iload 6, 2) := by decide +kernel
theorem dX9_whereFrom_62 : decode cX9_whereFrom 62 = .ok (.iload_n 3, 1) := by decide +kernel
theorem dX9_whereFrom_63 : decode cX9_whereFrom 63 = .ok (.if_icmp .ne 6, 3) := by decide +kernel
theorem dX9_whereFrom_66 : decode cX9_whereFrom 66 = .ok (.iload 7, 2) := by decide +kernel
theorem dX9_whereFrom_68 : decode cX9_whereFrom 68 = .ok (.ireturn, 1) := by decide +kernel
theorem dX9_whereFrom_69 : decode cX9_whereFrom 69 = .ok (.iinc 6 1, 3) := by decide +kernel
theorem dX9_whereFrom_72 : decode cX9_whereFrom 72 = .ok (.iinc 7 1, 3) := by decide +kernel
theorem dX9_whereFrom_75 : decode cX9_whereFrom 75 = .ok (.goto (-37), 3) := by decide +kernel
theorem dX9_whereFrom_78 : decode cX9_whereFrom 78 = .ok (.aload_n 0, 1) := by decide +kernel
theorem dX9_whereFrom_79 : decode cX9_whereFrom 79 = .ok (.iconst 2, 1) := by decide +kernel
theorem dX9_whereFrom_80 : decode cX9_whereFrom 80 = .ok (.invokevirtual 81, 3) := by decide +kernel
theorem dX9_whereFrom_83 : decode cX9_whereFrom 83 = .ok (.ireturn, 1) := by decide +kernel
theorem dX9_strokes_0 : decode cX9_strokes 0 = .ok (.aload_n 0, 1) := by decide +kernel
theorem dX9_strokes_1 : decode cX9_strokes 1 = .ok (.getfield 19, 3) := by decide +kernel
theorem dX9_strokes_4 : decode cX9_strokes 4 = .ok (.getfield 99, 3) := by decide +kernel
theorem dX9_strokes_7 : decode cX9_strokes 7 = .ok (.iload_n 1, 1) := by decide +kernel
theorem dX9_strokes_8 : decode cX9_strokes 8 = .ok (.invokevirtual 112, 3) := by decide +kernel
theorem dX9_strokes_11 : decode cX9_strokes 11 = .ok (.ifCond .eq 10, 3) := by decide +kernel
theorem dX9_strokes_14 : decode cX9_strokes 14 = .ok (.iload_n 2, 1) := by decide +kernel
theorem dX9_strokes_15 : decode cX9_strokes 15 = .ok (.invokestatic 197, 3) := by decide +kernel
theorem dX9_strokes_18 : decode cX9_strokes 18 = .ok (.ifCond .ne 9, 3) := by decide +kernel
theorem dX9_strokes_21 : decode cX9_strokes 21 = .ok (.aload_n 0, 1) := by decide +kernel
theorem dX9_strokes_22 : decode cX9_strokes 22 = .ok (.iconst 1, 1) := by decide +kernel
theorem dX9_strokes_23 : decode cX9_strokes 23 = .ok (.invokevirtual 81, 3) := by decide +kernel
theorem dX9_strokes_26 : decode cX9_strokes 26 = .ok (.ireturn, 1) := by decide +kernel
theorem dX9_strokes_27 : decode cX9_strokes 27 = .ok (.aload_n 0, 1) := by decide +kernel
theorem dX9_strokes_28 : decode cX9_strokes 28 = .ok (.getfield 70, 3) := by decide +kernel
theorem dX9_strokes_31 : decode cX9_strokes 31 = .ok (.aload_n 0, 1) := by decide +kernel
theorem dX9_strokes_32 : decode cX9_strokes 32 = .ok (.getfield 19, 3) := by decide +kernel
theorem dX9_strokes_35 : decode cX9_strokes 35 = .ok (.iload_n 2, 1) := by decide +kernel
theorem dX9_strokes_36 : decode cX9_strokes 36 = .ok (.invokevirtual 200, 3) := by decide +kernel
theorem dX9_strokes_39 : decode cX9_strokes 39 = .ok (.aload_n 0, 1) := by decide +kernel
theorem dX9_strokes_40 : decode cX9_strokes 40 = .ok (.getfield 70, 3) := by decide +kernel
theorem dX9_strokes_43 : decode cX9_strokes 43 = .ok (.aload_n 0, 1) := by decide +kernel
theorem dX9_strokes_44 : decode cX9_strokes 44 = .ok (.getfield 10, 3) := by decide +kernel
theorem dX9_strokes_47 : decode cX9_strokes 47 = .ok (.iload_n 1, 1) := by decide +kernel
theorem dX9_strokes_48 : decode cX9_strokes 48 = .ok (.invokevirtual 204, 3) := by decide +kernel
theorem dX9_strokes_51 : decode cX9_strokes 51 = .ok (.iconst 0, 1) := by decide +kernel
theorem dX9_strokes_52 : decode cX9_strokes 52 = .ok (.istore_n 3, 1) := by decide +kernel
theorem dX9_strokes_53 : decode cX9_strokes 53 = .ok (.iconst 0, 1) := by decide +kernel
theorem dX9_strokes_54 : decode cX9_strokes 54 = .ok (.istore 4, 2) := by decide +kernel
theorem dX9_strokes_56 : decode cX9_strokes 56 = .ok (.iload 4, 2) := by decide +kernel
theorem dX9_strokes_58 : decode cX9_strokes 58 = .ok (.iload_n 2, 1) := by decide +kernel
theorem dX9_strokes_59 : decode cX9_strokes 59 = .ok (.if_icmp .ge 37, 3) := by decide +kernel
theorem dX9_strokes_62 : decode cX9_strokes 62 = .ok (.aload_n 0, 1) := by decide +kernel
theorem dX9_strokes_63 : decode cX9_strokes 63 = .ok (.getfield 70, 3) := by decide +kernel
theorem dX9_strokes_66 : decode cX9_strokes 66 = .ok (.iload 4, 2) := by decide +kernel
theorem dX9_strokes_68 : decode cX9_strokes 68 = .ok (.iload_n 1, 1) := by decide +kernel
theorem dX9_strokes_69 : decode cX9_strokes 69 = .ok (.invokevirtual 208, 3) := by decide +kernel
theorem dX9_strokes_72 : decode cX9_strokes 72 = .ok (.aload_n 0, 1) := by decide +kernel
theorem dX9_strokes_73 : decode cX9_strokes 73 = .ok (.getfield 70, 3) := by decide +kernel
theorem dX9_strokes_76 : decode cX9_strokes 76 = .ok (.iload 4, 2) := by decide +kernel
theorem dX9_strokes_78 : decode cX9_strokes 78 = .ok (.iconst 1, 1) := by decide +kernel
theorem dX9_strokes_79 : decode cX9_strokes 79 = .ok (.iadd, 1) := by decide +kernel
theorem dX9_strokes_80 : decode cX9_strokes 80 = .ok (.iload_n 1, 1) := by decide +kernel
theorem dX9_strokes_81 : decode cX9_strokes 81 = .ok (.invokevirtual 208, 3) := by decide +kernel
theorem dX9_strokes_84 : decode cX9_strokes 84 = .ok (.if_icmp .eq 6, 3) := by decide +kernel
theorem dX9_strokes_87 : decode cX9_strokes 87 = .ok (.iinc 3 1, 3) := by decide +kernel
theorem dX9_strokes_90 : decode cX9_strokes 90 = .ok (.iinc 4 1, 3) := by decide +kernel
theorem dX9_strokes_93 : decode cX9_strokes 93 = .ok (.goto (-37), 3) := by decide +kernel
theorem dX9_strokes_96 : decode cX9_strokes 96 = .ok (.iload_n 3, 1) := by decide +kernel
theorem dX9_strokes_97 : decode cX9_strokes 97 = .ok (.ireturn, 1) := by decide +kernel
theorem dX9_seed_0 : decode cX9_seed 0 = .ok (.aload_n 0, 1) := by decide +kernel
theorem dX9_seed_1 : decode cX9_seed 1 = .ok (.getfield 19, 3) := by decide +kernel
theorem dX9_seed_4 : decode cX9_seed 4 = .ok (.getfield 255, 3) := by decide +kernel
theorem dX9_seed_7 : decode cX9_seed 7 = .ok (.istore_n 2, 1) := by decide +kernel
theorem dX9_seed_8 : decode cX9_seed 8 = .ok (.aload_n 0, 1) := by decide +kernel
theorem dX9_seed_9 : decode cX9_seed 9 = .ok (.getfield 19, 3) := by decide +kernel
theorem dX9_seed_12 : decode cX9_seed 12 = .ok (.iload_n 1, 1) := by decide +kernel
theorem dX9_seed_13 : decode cX9_seed 13 = .ok (.putfield 255, 3) := by decide +kernel
theorem dX9_seed_16 : decode cX9_seed 16 = .ok (.iload_n 2, 1) := by decide +kernel
theorem dX9_seed_17 : decode cX9_seed 17 = .ok (.ireturn, 1) := by decide +kernel
theorem dX9_voice_0 : decode cX9_voice 0 = .ok (.aload_n 0, 1) := by decide +kernel
theorem dX9_voice_1 : decode cX9_voice 1 = .ok (.getfield 19, 3) := by decide +kernel
theorem dX9_voice_4 : decode cX9_voice 4 = .ok (.getfield 99, 3) := by decide +kernel
theorem dX9_voice_7 : decode cX9_voice 7 = .ok (.astore 4, 2) := by decide +kernel
theorem dX9_voice_9 : decode cX9_voice 9 = .ok (.aload 4, 2) := by decide +kernel
theorem dX9_voice_11 : decode cX9_voice 11 = .ok (.iload_n 1, 1) := by decide +kernel
theorem dX9_voice_12 : decode cX9_voice 12 = .ok (.invokevirtual 112, 3) := by decide +kernel
theorem dX9_voice_15 : decode cX9_voice 15 = .ok (.ifCond .eq 12, 3) := by decide +kernel
theorem dX9_voice_18 : decode cX9_voice 18 = .ok (.iload_n 2, 1) := by decide +kernel
theorem dX9_voice_19 : decode cX9_voice 19 = .ok (.iconst 0, 1) := by decide +kernel
theorem dX9_voice_20 : decode cX9_voice 20 = .ok (.iconst 3, 1) := by decide +kernel
theorem dX9_voice_21 : decode cX9_voice 21 = .ok (.invokestatic 77, 3) := by decide +kernel
theorem dX9_voice_24 : decode cX9_voice 24 = .ok (.ifCond .ne 9, 3) := by decide +kernel
theorem dX9_voice_27 : decode cX9_voice 27 = .ok (.aload_n 0, 1) := by decide +kernel
theorem dX9_voice_28 : decode cX9_voice 28 = .ok (.iconst 1, 1) := by decide +kernel
theorem dX9_voice_29 : decode cX9_voice 29 = .ok (.invokevirtual 81, 3) := by decide +kernel
theorem dX9_voice_32 : decode cX9_voice 32 = .ok (.ireturn, 1) := by decide +kernel
theorem dX9_voice_33 : decode cX9_voice 33 = .ok (.aload_n 0, 1) := by decide +kernel
theorem dX9_voice_34 : decode cX9_voice 34 = .ok (.getfield 49, 3) := by decide +kernel
theorem dX9_voice_37 : decode cX9_voice 37 = .ok (.iload_n 1, 1) := by decide +kernel
theorem dX9_voice_38 : decode cX9_voice 38 = .ok (.aload 4, 2) := by decide +kernel
theorem dX9_voice_40 : decode cX9_voice 40 = .ok (.getfield 115, 3) := by decide +kernel
theorem dX9_voice_43 : decode cX9_voice 43 = .ok (.iload_n 1, 1) := by decide +kernel
theorem dX9_voice_44 : decode cX9_voice 44 = .ok (.iaload, 1) := by decide +kernel
theorem dX9_voice_45 : decode cX9_voice 45 = .ok (.aload 4, 2) := by decide +kernel
theorem dX9_voice_47 : decode cX9_voice 47 = .ok (.getfield 118, 3) := by decide +kernel
theorem dX9_voice_50 : decode cX9_voice 50 = .ok (.iload_n 1, 1) := by decide +kernel
theorem dX9_voice_51 : decode cX9_voice 51 = .ok (.iaload, 1) := by decide +kernel
theorem dX9_voice_52 : decode cX9_voice 52 = .ok (.iload_n 2, 1) := by decide +kernel
theorem dX9_voice_53 : decode cX9_voice 53 = .ok (.iload_n 3, 1) := by decide +kernel
theorem dX9_voice_54 : decode cX9_voice 54 = .ok (.invokevirtual 258, 3) := by decide +kernel
theorem dX9_voice_57 : decode cX9_voice 57 = .ok (.ireturn, 1) := by decide +kernel
theorem dX9_trace_0 : decode cX9_trace 0 = .ok (.iload_n 1, 1) := by decide +kernel
theorem dX9_trace_1 : decode cX9_trace 1 = .ok (.ifCond .lt 26, 3) := by decide +kernel
theorem dX9_trace_4 : decode cX9_trace 4 = .ok (.iload_n 1, 1) := by decide +kernel
theorem dX9_trace_5 : decode cX9_trace 5 = .ok (.aload_n 0, 1) := by decide +kernel
theorem dX9_trace_6 : decode cX9_trace 6 = .ok (.getfield 49, 3) := by decide +kernel
theorem dX9_trace_9 : decode cX9_trace 9 = .ok (.getfield 262, 3) := by decide +kernel
theorem dX9_trace_12 : decode cX9_trace 12 = .ok (.if_icmp .ge 15, 3) := by decide +kernel
theorem dX9_trace_15 : decode cX9_trace 15 = .ok (.iload_n 1, 1) := by decide +kernel
theorem dX9_trace_16 : decode cX9_trace 16 = .ok (.aload_n 0, 1) := by decide +kernel
theorem dX9_trace_17 : decode cX9_trace 17 = .ok (.getfield 49, 3) := by decide +kernel
theorem dX9_trace_20 : decode cX9_trace 20 = .ok (.getfield 265, 3) := by decide +kernel
theorem dX9_trace_23 : decode cX9_trace 23 = .ok (.arraylength, 1) := by decide +kernel
theorem dX9_trace_24 : decode cX9_trace 24 = .ok (.if_icmp .lt 9, 3) := by decide +kernel
theorem dX9_trace_27 : decode cX9_trace 27 = .ok (.aload_n 0, 1) := by decide +kernel
theorem dX9_trace_28 : decode cX9_trace 28 = .ok (.iconst 2, 1) := by decide +kernel
theorem dX9_trace_29 : decode cX9_trace 29 = .ok (.invokevirtual 81, 3) := by decide +kernel
theorem dX9_trace_32 : decode cX9_trace 32 = .ok (.ireturn, 1) := by decide +kernel
theorem dX9_trace_33 : decode cX9_trace 33 = .ok (.aload_n 0, 1) := by decide +kernel
theorem dX9_trace_34 : decode cX9_trace 34 = .ok (.getfield 49, 3) := by decide +kernel
theorem dX9_trace_37 : decode cX9_trace 37 = .ok (.getfield 265, 3) := by decide +kernel
theorem dX9_trace_40 : decode cX9_trace 40 = .ok (.iload_n 1, 1) := by decide +kernel
theorem dX9_trace_41 : decode cX9_trace 41 = .ok (.iaload, 1) := by decide +kernel
theorem dX9_trace_42 : decode cX9_trace 42 = .ok (.ireturn, 1) := by decide +kernel
theorem dX9_sheet_0 : decode cX9_sheet 0 = .ok (.aload_n 0, 1) := by decide +kernel
theorem dX9_sheet_1 : decode cX9_sheet 1 = .ok (.iload_n 1, 1) := by decide +kernel
theorem dX9_sheet_2 : decode cX9_sheet 2 = .ok (.invokevirtual 268, 3) := by decide +kernel
theorem dX9_sheet_5 : decode cX9_sheet 5 = .ok (.astore 4, 2) := by decide +kernel
theorem dX9_sheet_7 : decode cX9_sheet 7 = .ok (.aload 4, 2) := by decide +kernel
theorem dX9_sheet_9 : decode cX9_sheet 9 = .ok (.ifnonnull 9, 3) := by decide +kernel
theorem dX9_sheet_12 : decode cX9_sheet 12 = .ok (.aload_n 0, 1) := by decide +kernel
theorem dX9_sheet_13 : decode cX9_sheet 13 = .ok (.iconst 1, 1) := by decide +kernel
theorem dX9_sheet_14 : decode cX9_sheet 14 = .ok (.invokevirtual 81, 3) := by decide +kernel
theorem dX9_sheet_17 : decode cX9_sheet 17 = .ok (.ireturn, 1) := by decide +kernel
theorem dX9_sheet_18 : decode cX9_sheet 18 = .ok (.iload_n 2, 1) := by decide +kernel
theorem dX9_sheet_19 : decode cX9_sheet 19 = .ok (.ifCond .eq 27, 3) := by decide +kernel
theorem dX9_sheet_22 : decode cX9_sheet 22 = .ok (.iload_n 2, 1) := by decide +kernel
theorem dX9_sheet_23 : decode cX9_sheet 23 = .ok (.bipush 8, 2) := by decide +kernel
theorem dX9_sheet_25 : decode cX9_sheet 25 = .ok (.if_icmp .eq 21, 3) := by decide +kernel
theorem dX9_sheet_28 : decode cX9_sheet 28 = .ok (.iload_n 2, 1) := by decide +kernel
theorem dX9_sheet_29 : decode cX9_sheet 29 = .ok (.bipush 16, 2) := by decide +kernel
theorem dX9_sheet_31 : decode cX9_sheet 31 = .ok (.if_icmp .eq 15, 3) := by decide +kernel
theorem dX9_sheet_34 : decode cX9_sheet 34 = .ok (.iload_n 2, 1) := by decide +kernel
theorem dX9_sheet_35 : decode cX9_sheet 35 = .ok (.bipush 32, 2) := by decide +kernel
theorem dX9_sheet_37 : decode cX9_sheet 37 = .ok (.if_icmp .eq 9, 3) := by decide +kernel
theorem dX9_sheet_40 : decode cX9_sheet 40 = .ok (.aload_n 0, 1) := by decide +kernel
theorem dX9_sheet_41 : decode cX9_sheet 41 = .ok (.iconst 1, 1) := by decide +kernel
theorem dX9_sheet_42 : decode cX9_sheet 42 = .ok (.invokevirtual 81, 3) := by decide +kernel
theorem dX9_sheet_45 : decode cX9_sheet 45 = .ok (.ireturn, 1) := by decide +kernel
theorem dX9_sheet_46 : decode cX9_sheet 46 = .ok (.iload_n 2, 1) := by decide +kernel
theorem dX9_sheet_47 : decode cX9_sheet 47 = .ok (.ifCond .eq 13, 3) := by decide +kernel
theorem dX9_sheet_50 : decode cX9_sheet 50 = .ok (.iload_n 3, 1) := by decide +kernel
theorem dX9_sheet_51 : decode cX9_sheet 51 = .ok (.ifCond .ge 9, 3) := by decide +kernel
theorem dX9_sheet_54 : decode cX9_sheet 54 = .ok (.aload_n 0, 1) := by decide +kernel
theorem dX9_sheet_55 : decode cX9_sheet 55 = .ok (.iconst 3, 1) := by decide +kernel
theorem dX9_sheet_56 : decode cX9_sheet 56 = .ok (.invokevirtual 81, 3) := by decide +kernel
theorem dX9_sheet_59 : decode cX9_sheet 59 = .ok (.ireturn, 1) := by decide +kernel
theorem dX9_sheet_60 : decode cX9_sheet 60 = .ok (.iload_n 2, 1) := by decide +kernel
theorem dX9_sheet_61 : decode cX9_sheet 61 = .ok (.ifCond .eq 15, 3) := by decide +kernel
theorem dX9_sheet_64 : decode cX9_sheet 64 = .ok (.iload_n 3, 1) := by decide +kernel
theorem dX9_sheet_65 : decode cX9_sheet 65 = .ok (.bipush 40, 2) := by decide +kernel
theorem dX9_sheet_67 : decode cX9_sheet 67 = .ok (.if_icmp .le 9, 3) := by decide +kernel
theorem dX9_sheet_70 : decode cX9_sheet 70 = .ok (.aload_n 0, 1) := by decide +kernel
theorem dX9_sheet_71 : decode cX9_sheet 71 = .ok (.iconst 1, 1) := by decide +kernel
theorem dX9_sheet_72 : decode cX9_sheet 72 = .ok (.invokevirtual 81, 3) := by decide +kernel
theorem dX9_sheet_75 : decode cX9_sheet 75 = .ok (.ireturn, 1) := by decide +kernel
theorem dX9_sheet_76 : decode cX9_sheet 76 = .ok (.aload 4, 2) := by decide +kernel
theorem dX9_sheet_78 : decode cX9_sheet 78 = .ok (.iload_n 2, 1) := by decide +kernel
theorem dX9_sheet_79 : decode cX9_sheet 79 = .ok (.iload_n 2, 1) := by decide +kernel
theorem dX9_sheet_80 : decode cX9_sheet 80 = .ok (.ifCond .ne 7, 3) := by decide +kernel
theorem dX9_sheet_83 : decode cX9_sheet 83 = .ok (.iconst 0, 1) := by decide +kernel
theorem dX9_sheet_84 : decode cX9_sheet 84 = .ok (.goto 4, 3) := by decide +kernel
theorem dX9_sheet_87 : decode cX9_sheet 87 = .ok (.iload_n 3, 1) := by decide +kernel
theorem dX9_sheet_88 : decode cX9_sheet 88 = .ok (.invokevirtual 272, 3) := by decide +kernel
theorem dX9_sheet_91 : decode cX9_sheet 91 = .ok (.iconst 1, 1) := by decide +kernel
theorem dX9_sheet_92 : decode cX9_sheet 92 = .ok (.ireturn, 1) := by decide +kernel
theorem dX9_put_0 : decode cX9_put 0 = .ok (.aload_n 0, 1) := by decide +kernel
theorem dX9_put_1 : decode cX9_put 1 = .ok (.iload_n 1, 1) := by decide +kernel
theorem dX9_put_2 : decode cX9_put 2 = .ok (.invokevirtual 268, 3) := by decide +kernel
theorem dX9_put_5 : decode cX9_put 5 = .ok (.astore 4, 2) := by decide +kernel
theorem dX9_put_7 : decode cX9_put 7 = .ok (.aload 4, 2) := by decide +kernel
theorem dX9_put_9 : decode cX9_put 9 = .ok (.ifnonnull 9, 3) := by decide +kernel
theorem dX9_put_12 : decode cX9_put 12 = .ok (.aload_n 0, 1) := by decide +kernel
theorem dX9_put_13 : decode cX9_put 13 = .ok (.iconst 1, 1) := by decide +kernel
theorem dX9_put_14 : decode cX9_put 14 = .ok (.invokevirtual 81, 3) := by decide +kernel
theorem dX9_put_17 : decode cX9_put 17 = .ok (.ireturn, 1) := by decide +kernel
theorem dX9_put_18 : decode cX9_put 18 = .ok (.aload 4, 2) := by decide +kernel
theorem dX9_put_20 : decode cX9_put 20 = .ok (.invokevirtual 276, 3) := by decide +kernel
theorem dX9_put_23 : decode cX9_put 23 = .ok (.ifCond .eq 9, 3) := by decide +kernel
theorem dX9_put_26 : decode cX9_put 26 = .ok (.aload_n 0, 1) := by decide +kernel
theorem dX9_put_27 : decode cX9_put 27 = .ok (.iconst 2, 1) := by decide +kernel
theorem dX9_put_28 : decode cX9_put 28 = .ok (.invokevirtual 81, 3) := by decide +kernel
theorem dX9_put_31 : decode cX9_put 31 = .ok (.ireturn, 1) := by decide +kernel
theorem dX9_put_32 : decode cX9_put 32 = .ok (.aload 4, 2) := by decide +kernel
theorem dX9_put_34 : decode cX9_put 34 = .ok (.iload_n 2, 1) := by decide +kernel
theorem dX9_put_35 : decode cX9_put 35 = .ok (.invokevirtual 280, 3) := by decide +kernel
theorem dX9_put_38 : decode cX9_put 38 = .ok (.ifCond .ne 9, 3) := by decide +kernel
theorem dX9_put_41 : decode cX9_put 41 = .ok (.aload_n 0, 1) := by decide +kernel
theorem dX9_put_42 : decode cX9_put 42 = .ok (.iconst 1, 1) := by decide +kernel
theorem dX9_put_43 : decode cX9_put 43 = .ok (.invokevirtual 81, 3) := by decide +kernel
theorem dX9_put_46 : decode cX9_put 46 = .ok (.ireturn, 1) := by decide +kernel
theorem dX9_put_47 : decode cX9_put 47 = .ok (.aload 4, 2) := by decide +kernel
theorem dX9_put_49 : decode cX9_put 49 = .ok (.iload_n 2, 1) := by decide +kernel
theorem dX9_put_50 : decode cX9_put 50 = .ok (.iload_n 3, 1) := by decide +kernel
theorem dX9_put_51 : decode cX9_put 51 = .ok (.invokevirtual 283, 3) := by decide +kernel
theorem dX9_put_54 : decode cX9_put 54 = .ok (.iconst 1, 1) := by decide +kernel
theorem dX9_put_55 : decode cX9_put 55 = .ok (.ireturn, 1) := by decide +kernel
theorem dX9_move_0 : decode cX9_move 0 = .ok (.aload_n 0, 1) := by decide +kernel
theorem dX9_move_1 : decode cX9_move 1 = .ok (.iload_n 1, 1) := by decide +kernel
theorem dX9_move_2 : decode cX9_move 2 = .ok (.invokevirtual 268, 3) := by decide +kernel
theorem dX9_move_5 : decode cX9_move 5 = .ok (.astore 6, 2) := by decide +kernel
theorem dX9_move_7 : decode cX9_move 7 = .ok (.aload_n 0, 1) := by decide +kernel
theorem dX9_move_8 : decode cX9_move 8 = .ok (.iload_n 3, 1) := by decide +kernel
theorem dX9_move_9 : decode cX9_move 9 = .ok (.invokevirtual 268, 3) := by decide +kernel
theorem dX9_move_12 : decode cX9_move 12 = .ok (.astore 7, 2) := by decide +kernel
theorem dX9_move_14 : decode cX9_move 14 = .ok (.aload 6, 2) := by decide +kernel
theorem dX9_move_16 : decode cX9_move 16 = .ok (.ifnull 8, 3) := by decide +kernel
theorem dX9_move_19 : decode cX9_move 19 = .ok (.aload 7, 2) := by decide +kernel
theorem dX9_move_21 : decode cX9_move 21 = .ok (.ifnonnull 9, 3) := by decide +kernel
theorem dX9_move_24 : decode cX9_move 24 = .ok (.aload_n 0, 1) := by decide +kernel
theorem dX9_move_25 : decode cX9_move 25 = .ok (.iconst 1, 1) := by decide +kernel
theorem dX9_move_26 : decode cX9_move 26 = .ok (.invokevirtual 81, 3) := by decide +kernel
theorem dX9_move_29 : decode cX9_move 29 = .ok (.ireturn, 1) := by decide +kernel
theorem dX9_move_30 : decode cX9_move 30 = .ok (.aload 6, 2) := by decide +kernel
theorem dX9_move_32 : decode cX9_move 32 = .ok (.invokevirtual 276, 3) := by decide +kernel
theorem dX9_move_35 : decode cX9_move 35 = .ok (.ifCond .ne 11, 3) := by decide +kernel
theorem dX9_move_38 : decode cX9_move 38 = .ok (.aload 7, 2) := by decide +kernel
theorem dX9_move_40 : decode cX9_move 40 = .ok (.invokevirtual 276, 3) := by decide +kernel
theorem dX9_move_43 : decode cX9_move 43 = .ok (.ifCond .eq 9, 3) := by decide +kernel
theorem dX9_move_46 : decode cX9_move 46 = .ok (.aload_n 0, 1) := by decide +kernel
theorem dX9_move_47 : decode cX9_move 47 = .ok (.iconst 2, 1) := by decide +kernel
theorem dX9_move_48 : decode cX9_move 48 = .ok (.invokevirtual 81, 3) := by decide +kernel
theorem dX9_move_51 : decode cX9_move 51 = .ok (.ireturn, 1) := by decide +kernel
theorem dX9_move_52 : decode cX9_move 52 = .ok (.aload 6, 2) := by decide +kernel
theorem dX9_move_54 : decode cX9_move 54 = .ok (.getfield 286, 3) := by decide +kernel
theorem dX9_move_57 : decode cX9_move 57 = .ok (.aload 7, 2) := by decide +kernel
theorem dX9_move_59 : decode cX9_move 59 = .ok (.getfield 286, 3) := by decide +kernel
theorem dX9_move_62 : decode cX9_move 62 = .ok (.if_icmp .eq 9, 3) := by decide +kernel
theorem dX9_move_65 : decode cX9_move 65 = .ok (.aload_n 0, 1) := by decide +kernel
theorem dX9_move_66 : decode cX9_move 66 = .ok (.iconst 5, 1) := by decide +kernel
theorem dX9_move_67 : decode cX9_move 67 = .ok (.invokevirtual 81, 3) := by decide +kernel
theorem dX9_move_70 : decode cX9_move 70 = .ok (.ireturn, 1) := by decide +kernel
theorem dX9_move_71 : decode cX9_move 71 = .ok (.aload 6, 2) := by decide +kernel
theorem dX9_move_73 : decode cX9_move 73 = .ok (.iload_n 2, 1) := by decide +kernel
theorem dX9_move_74 : decode cX9_move 74 = .ok (.iload 5, 2) := by decide +kernel
theorem dX9_move_76 : decode cX9_move 76 = .ok (.invokevirtual 289, 3) := by decide +kernel
theorem dX9_move_79 : decode cX9_move 79 = .ok (.ifCond .eq 15, 3) := by decide +kernel
theorem dX9_move_82 : decode cX9_move 82 = .ok (.aload 7, 2) := by decide +kernel
theorem dX9_move_84 : decode cX9_move 84 = .ok (.iload 4, 2) := by decide +kernel
theorem dX9_move_86 : decode cX9_move 86 = .ok (.iload 5, 2) := by decide +kernel
theorem dX9_move_88 : decode cX9_move 88 = .ok (.invokevirtual 289, 3) := by decide +kernel
theorem dX9_move_91 : decode cX9_move 91 = .ok (.ifCond .ne 9, 3) := by decide +kernel
theorem dX9_move_94 : decode cX9_move 94 = .ok (.aload_n 0, 1) := by decide +kernel
theorem dX9_move_95 : decode cX9_move 95 = .ok (.iconst 1, 1) := by decide +kernel
theorem dX9_move_96 : decode cX9_move 96 = .ok (.invokevirtual 81, 3) := by decide +kernel
theorem dX9_move_99 : decode cX9_move 99 = .ok (.ireturn, 1) := by decide +kernel
theorem dX9_move_100 : decode cX9_move 100 = .ok (.aload 6, 2) := by decide +kernel
theorem dX9_move_102 : decode cX9_move 102 = .ok (.getfield 292, 3) := by decide +kernel
theorem dX9_move_105 : decode cX9_move 105 = .ok (.iload_n 2, 1) := by decide +kernel
theorem dX9_move_106 : decode cX9_move 106 = .ok (.aload 7, 2) := by decide +kernel
theorem dX9_move_108 : decode cX9_move 108 = .ok (.getfield 292, 3) := by decide +kernel
theorem dX9_move_111 : decode cX9_move 111 = .ok (.iload 4, 2) := by decide +kernel
theorem dX9_move_113 : decode cX9_move 113 = .ok (.iload 5, 2) := by decide +kernel
theorem dX9_move_115 : decode cX9_move 115 = .ok (.invokestatic 293, 3) := by decide +kernel
theorem dX9_move_118 : decode cX9_move 118 = .ok (.iload 5, 2) := by decide +kernel
theorem dX9_move_120 : decode cX9_move 120 = .ok (.ireturn, 1) := by decide +kernel
theorem dX9_part_0 : decode cX9_part 0 = .ok (.aload_n 0, 1) := by decide +kernel
theorem dX9_part_1 : decode cX9_part 1 = .ok (.iload_n 1, 1) := by decide +kernel
theorem dX9_part_2 : decode cX9_part 2 = .ok (.invokevirtual 268, 3) := by decide +kernel
theorem dX9_part_5 : decode cX9_part 5 = .ok (.astore_n 3, 1) := by decide +kernel
theorem dX9_part_6 : decode cX9_part 6 = .ok (.aload_n 3, 1) := by decide +kernel
theorem dX9_part_7 : decode cX9_part 7 = .ok (.ifnull 17, 3) := by decide +kernel
theorem dX9_part_10 : decode cX9_part 10 = .ok (.aload_n 0, 1) := by decide +kernel
theorem dX9_part_11 : decode cX9_part 11 = .ok (.getfield 19, 3) := by decide +kernel
theorem dX9_part_14 : decode cX9_part 14 = .ok (.getfield 99, 3) := by decide +kernel
theorem dX9_part_17 : decode cX9_part 17 = .ok (.iload_n 2, 1) := by decide +kernel
theorem dX9_part_18 : decode cX9_part 18 = .ok (.invokevirtual 112, 3) := by decide +kernel
theorem dX9_part_21 : decode cX9_part 21 = .ok (.ifCond .ne 9, 3) := by decide +kernel
theorem dX9_part_24 : decode cX9_part 24 = .ok (.aload_n 0, 1) := by decide +kernel
theorem dX9_part_25 : decode cX9_part 25 = .ok (.iconst 1, 1) := by decide +kernel
theorem dX9_part_26 : decode cX9_part 26 = .ok (.invokevirtual 81, 3) := by decide +kernel
theorem dX9_part_29 : decode cX9_part 29 = .ok (.ireturn, 1) := by decide +kernel
theorem dX9_part_30 : decode cX9_part 30 = .ok (.aload_n 3, 1) := by decide +kernel
theorem dX9_part_31 : decode cX9_part 31 = .ok (.invokevirtual 276, 3) := by decide +kernel
theorem dX9_part_34 : decode cX9_part 34 = .ok (.ifCond .eq 9, 3) := by decide +kernel
theorem dX9_part_37 : decode cX9_part 37 = .ok (.aload_n 0, 1) := by decide +kernel
theorem dX9_part_38 : decode cX9_part 38 = .ok (.iconst 2, 1) := by decide +kernel
theorem dX9_part_39 : decode cX9_part 39 = .ok (.invokevirtual 81, 3) := by decide +kernel
theorem dX9_part_42 : decode cX9_part 42 = .ok (.ireturn, 1) := by decide +kernel
theorem dX9_part_43 : decode cX9_part 43 = .ok (.aload_n 3, 1) := by decide +kernel
theorem dX9_part_44 : decode cX9_part 44 = .ok (.invokevirtual 299, 3) := by decide +kernel
theorem dX9_part_47 : decode cX9_part 47 = .ok (.istore 4, 2) := by decide +kernel
theorem dX9_part_49 : decode cX9_part 49 = .ok (.aload_n 0, 1) := by decide +kernel
theorem dX9_part_50 : decode cX9_part 50 = .ok (.getfield 19, 3) := by decide +kernel
theorem dX9_part_53 : decode cX9_part 53 = .ok (.getfield 99, 3) := by decide +kernel
theorem dX9_part_56 : decode cX9_part 56 = .ok (.getfield 124, 3) := by decide +kernel
theorem dX9_part_59 : decode cX9_part 59 = .ok (.iload_n 2, 1) := by decide +kernel
theorem dX9_part_60 : decode cX9_part 60 = .ok (.iload 4, 2) := by decide +kernel
theorem dX9_part_62 : decode cX9_part 62 = .ok (.iastore, 1) := by decide +kernel
theorem dX9_part_63 : decode cX9_part 63 = .ok (.iload 4, 2) := by decide +kernel
theorem dX9_part_65 : decode cX9_part 65 = .ok (.invokestatic 302, 3) := by decide +kernel
theorem dX9_part_68 : decode cX9_part 68 = .ok (.ireturn, 1) := by decide +kernel
theorem dX9_judge_0 : decode cX9_judge 0 = .ok (.aload_n 0, 1) := by decide +kernel
theorem dX9_judge_1 : decode cX9_judge 1 = .ok (.iload_n 1, 1) := by decide +kernel
theorem dX9_judge_2 : decode cX9_judge 2 = .ok (.invokevirtual 268, 3) := by decide +kernel
theorem dX9_judge_5 : decode cX9_judge 5 = .ok (.astore_n 3, 1) := by decide +kernel
theorem dX9_judge_6 : decode cX9_judge 6 = .ok (.aload_n 3, 1) := by decide +kernel
theorem dX9_judge_7 : decode cX9_judge 7 = .ok (.ifnull 17, 3) := by decide +kernel
theorem dX9_judge_10 : decode cX9_judge 10 = .ok (.aload_n 0, 1) := by decide +kernel
theorem dX9_judge_11 : decode cX9_judge 11 = .ok (.getfield 19, 3) := by decide +kernel
theorem dX9_judge_14 : decode cX9_judge 14 = .ok (.getfield 99, 3) := by decide +kernel
theorem dX9_judge_17 : decode cX9_judge 17 = .ok (.iload_n 2, 1) := by decide +kernel
theorem dX9_judge_18 : decode cX9_judge 18 = .ok (.invokevirtual 112, 3) := by decide +kernel
theorem dX9_judge_21 : decode cX9_judge 21 = .ok (.ifCond .ne 9, 3) := by decide +kernel
theorem dX9_judge_24 : decode cX9_judge 24 = .ok (.aload_n 0, 1) := by decide +kernel
theorem dX9_judge_25 : decode cX9_judge 25 = .ok (.iconst 1, 1) := by decide +kernel
theorem dX9_judge_26 : decode cX9_judge 26 = .ok (.invokevirtual 81, 3) := by decide +kernel
theorem dX9_judge_29 : decode cX9_judge 29 = .ok (.ireturn, 1) := by decide +kernel
theorem dX9_judge_30 : decode cX9_judge 30 = .ok (.aload_n 3, 1) := by decide +kernel
theorem dX9_judge_31 : decode cX9_judge 31 = .ok (.invokevirtual 276, 3) := by decide +kernel
theorem dX9_judge_34 : decode cX9_judge 34 = .ok (.ifCond .eq 9, 3) := by decide +kernel
theorem dX9_judge_37 : decode cX9_judge 37 = .ok (.aload_n 0, 1) := by decide +kernel
theorem dX9_judge_38 : decode cX9_judge 38 = .ok (.iconst 2, 1) := by decide +kernel
theorem dX9_judge_39 : decode cX9_judge 39 = .ok (.invokevirtual 81, 3) := by decide +kernel
theorem dX9_judge_42 : decode cX9_judge 42 = .ok (.ireturn, 1) := by decide +kernel
theorem dX9_judge_43 : decode cX9_judge 43 = .ok (.aload_n 0, 1) := by decide +kernel
theorem dX9_judge_44 : decode cX9_judge 44 = .ok (.getfield 70, 3) := by decide +kernel
theorem dX9_judge_47 : decode cX9_judge 47 = .ok (.aload_n 0, 1) := by decide +kernel
theorem dX9_judge_48 : decode cX9_judge 48 = .ok (.getfield 19, 3) := by decide +kernel
theorem dX9_judge_51 : decode cX9_judge 51 = .ok (.aload_n 3, 1) := by decide +kernel
theorem dX9_judge_52 : decode cX9_judge 52 = .ok (.getfield 304, 3) := by decide +kernel
theorem dX9_judge_55 : decode cX9_judge 55 = .ok (.invokevirtual 200, 3) := by decide +kernel
theorem dX9_judge_58 : decode cX9_judge 58 = .ok (.aload_n 0, 1) := by decide +kernel
theorem dX9_judge_59 : decode cX9_judge 59 = .ok (.getfield 70, 3) := by decide +kernel
theorem dX9_judge_62 : decode cX9_judge 62 = .ok (.aload_n 0, 1) := by decide +kernel
theorem dX9_judge_63 : decode cX9_judge 63 = .ok (.getfield 10, 3) := by decide +kernel
theorem dX9_judge_66 : decode cX9_judge 66 = .ok (.iload_n 2, 1) := by decide +kernel
theorem dX9_judge_67 : decode cX9_judge 67 = .ok (.invokevirtual 204, 3) := by decide +kernel
theorem dX9_judge_70 : decode cX9_judge 70 = .ok (.iconst 0, 1) := by decide +kernel
theorem dX9_judge_71 : decode cX9_judge 71 = .ok (.istore 4, 2) := by decide +kernel
theorem dX9_judge_73 : decode cX9_judge 73 = .ok (.iload 4, 2) := by decide +kernel
theorem dX9_judge_75 : decode cX9_judge 75 = .ok (.bipush 40, 2) := by decide +kernel
theorem dX9_judge_77 : decode cX9_judge 77 = .ok (.if_icmp .ge 41, 3) := by decide +kernel
theorem dX9_judge_80 : decode cX9_judge 80 = .ok (.aload_n 3, 1) := by decide +kernel
theorem dX9_judge_81 : decode cX9_judge 81 = .ok (.iload 4, 2) := by decide +kernel
theorem dX9_judge_83 : decode cX9_judge 83 = .ok (.invokevirtual 280, 3) := by decide +kernel
theorem dX9_judge_86 : decode cX9_judge 86 = .ok (.ifCond .eq 32, 3) := by decide +kernel
theorem dX9_judge_89 : decode cX9_judge 89 = .ok (.aload_n 3, 1) := by decide +kernel
theorem dX9_judge_90 : decode cX9_judge 90 = .ok (.getfield 292, 3) := by decide +kernel
theorem dX9_judge_93 : decode cX9_judge 93 = .ok (.iload 4, 2) := by decide +kernel
theorem dX9_judge_95 : decode cX9_judge 95 = .ok (.iaload, 1) := by decide +kernel
theorem dX9_judge_96 : decode cX9_judge 96 = .ok (.aload_n 0, 1) := by decide +kernel
theorem dX9_judge_97 : decode cX9_judge 97 = .ok (.getfield 70, 3) := by decide +kernel
theorem dX9_judge_100 : decode cX9_judge 100 = .ok (.iload 4, 2) := by decide +kernel
theorem dX9_judge_102 : decode cX9_judge 102 = .ok (.iload_n 2, 1) := by decide +kernel
theorem dX9_judge_103 : decode cX9_judge 103 = .ok (.invokevirtual 208, 3) := by decide +kernel
theorem dX9_judge_106 : decode cX9_judge 106 = .ok (.if_icmp .eq 6, 3) := by decide +kernel
theorem dX9_judge_109 : decode cX9_judge 109 = .ok (.iload 4, 2) := by decide +kernel
theorem dX9_judge_111 : decode cX9_judge 111 = .ok (.ireturn, 1) := by decide +kernel
theorem dX9_judge_112 : decode cX9_judge 112 = .ok (.iinc 4 1, 3) := by decide +kernel
theorem dX9_judge_115 : decode cX9_judge 115 = .ok (.goto (-42), 3) := by decide +kernel
theorem dX9_judge_118 : decode cX9_judge 118 = .ok (.aload_n 3, 1) := by decide +kernel
theorem dX9_judge_119 : decode cX9_judge 119 = .ok (.getfield 304, 3) := by decide +kernel
theorem dX9_judge_122 : decode cX9_judge 122 = .ok (.ireturn, 1) := by decide +kernel
theorem dX9_image_0 : decode cX9_image 0 = .ok (.aload_n 0, 1) := by decide +kernel
theorem dX9_image_1 : decode cX9_image 1 = .ok (.getfield 30, 3) := by decide +kernel
theorem dX9_image_4 : decode cX9_image 4 = .ok (.aload_n 0, 1) := by decide +kernel
theorem dX9_image_5 : decode cX9_image 5 = .ok (.getfield 10, 3) := by decide +kernel
theorem dX9_image_8 : decode cX9_image 8 = .ok (.invokevirtual 307, 3) := by decide +kernel
theorem dX9_image_11 : decode cX9_image 11 = .ok (.aload_n 0, 1) := by decide +kernel
theorem dX9_image_12 : decode cX9_image 12 = .ok (.getfield 33, 3) := by decide +kernel
theorem dX9_image_15 : decode cX9_image 15 = .ok (.aload_n 0, 1) := by decide +kernel
theorem dX9_image_16 : decode cX9_image 16 = .ok (.getfield 19, 3) := by decide +kernel
theorem dX9_image_19 : decode cX9_image 19 = .ok (.invokevirtual 211, 3) := by decide +kernel
theorem dX9_image_22 : decode cX9_image 22 = .ok (.aload_n 0, 1) := by decide +kernel
theorem dX9_image_23 : decode cX9_image 23 = .ok (.getfield 36, 3) := by decide +kernel
theorem dX9_image_26 : decode cX9_image 26 = .ok (.aload_n 0, 1) := by decide +kernel
theorem dX9_image_27 : decode cX9_image 27 = .ok (.getfield 26, 3) := by decide +kernel
theorem dX9_image_30 : decode cX9_image 30 = .ok (.invokevirtual 310, 3) := by decide +kernel
theorem dX9_image_33 : decode cX9_image 33 = .ok (.aload_n 0, 1) := by decide +kernel
theorem dX9_image_34 : decode cX9_image 34 = .ok (.dup, 1) := by decide +kernel
theorem dX9_image_35 : decode cX9_image 35 = .ok (.getfield 313, 3) := by decide +kernel
theorem dX9_image_38 : decode cX9_image 38 = .ok (.iconst 1, 1) := by decide +kernel
theorem dX9_image_39 : decode cX9_image 39 = .ok (.iadd, 1) := by decide +kernel
theorem dX9_image_40 : decode cX9_image 40 = .ok (.putfield 313, 3) := by decide +kernel
theorem dX9_image_43 : decode cX9_image 43 = .ok (.aload_n 0, 1) := by decide +kernel
theorem dX9_image_44 : decode cX9_image 44 = .ok (.getfield 313, 3) := by decide +kernel
theorem dX9_image_47 : decode cX9_image 47 = .ok (.ireturn, 1) := by decide +kernel
theorem dX9_restore_0 : decode cX9_restore 0 = .ok (.aload_n 0, 1) := by decide +kernel
theorem dX9_restore_1 : decode cX9_restore 1 = .ok (.getfield 313, 3) := by decide +kernel
theorem dX9_restore_4 : decode cX9_restore 4 = .ok (.ifCond .ne 9, 3) := by decide +kernel
theorem dX9_restore_7 : decode cX9_restore 7 = .ok (.aload_n 0, 1) := by decide +kernel
theorem dX9_restore_8 : decode cX9_restore 8 = .ok (.iconst 2, 1) := by decide +kernel
theorem dX9_restore_9 : decode cX9_restore 9 = .ok (.invokevirtual 81, 3) := by decide +kernel
theorem dX9_restore_12 : decode cX9_restore 12 = .ok (.ireturn, 1) := by decide +kernel
theorem dX9_restore_13 : decode cX9_restore 13 = .ok (.aload_n 0, 1) := by decide +kernel
theorem dX9_restore_14 : decode cX9_restore 14 = .ok (.getfield 10, 3) := by decide +kernel
theorem dX9_restore_17 : decode cX9_restore 17 = .ok (.aload_n 0, 1) := by decide +kernel
theorem dX9_restore_18 : decode cX9_restore 18 = .ok (.getfield 30, 3) := by decide +kernel
theorem dX9_restore_21 : decode cX9_restore 21 = .ok (.invokevirtual 307, 3) := by decide +kernel
theorem dX9_restore_24 : decode cX9_restore 24 = .ok (.aload_n 0, 1) := by decide +kernel
theorem dX9_restore_25 : decode cX9_restore 25 = .ok (.getfield 19, 3) := by decide +kernel
theorem dX9_restore_28 : decode cX9_restore 28 = .ok (.aload_n 0, 1) := by decide +kernel
theorem dX9_restore_29 : decode cX9_restore 29 = .ok (.getfield 33, 3) := by decide +kernel
theorem dX9_restore_32 : decode cX9_restore 32 = .ok (.invokevirtual 211, 3) := by decide +kernel
theorem dX9_restore_35 : decode cX9_restore 35 = .ok (.aload_n 0, 1) := by decide +kernel
theorem dX9_restore_36 : decode cX9_restore 36 = .ok (.getfield 26, 3) := by decide +kernel
theorem dX9_restore_39 : decode cX9_restore 39 = .ok (.aload_n 0, 1) := by decide +kernel
theorem dX9_restore_40 : decode cX9_restore 40 = .ok (.getfield 36, 3) := by decide +kernel
theorem dX9_restore_43 : decode cX9_restore 43 = .ok (.invokevirtual 310, 3) := by decide +kernel
theorem dX9_restore_46 : decode cX9_restore 46 = .ok (.aload_n 0, 1) := by decide +kernel
theorem dX9_restore_47 : decode cX9_restore 47 = .ok (.getfield 19, 3) := by decide +kernel
theorem dX9_restore_50 : decode cX9_restore 50 = .ok (.getfield 316, 3) := by decide +kernel
theorem dX9_restore_53 : decode cX9_restore 53 = .ok (.ireturn, 1) := by decide +kernel
theorem dX9_tell_0 : decode cX9_tell 0 = .ok (.aload_n 0, 1) := by decide +kernel
theorem dX9_tell_1 : decode cX9_tell 1 = .ok (.getfield 26, 3) := by decide +kernel
theorem dX9_tell_4 : decode cX9_tell 4 = .ok (.getfield 319, 3) := by decide +kernel
theorem dX9_tell_7 : decode cX9_tell 7 = .ok (.bipush 20, 2) := by decide +kernel
theorem dX9_tell_9 : decode cX9_tell 9 = .ok (.if_icmp .lt 9, 3) := by decide +kernel
theorem dX9_tell_12 : decode cX9_tell 12 = .ok (.aload_n 0, 1) := by decide +kernel
theorem dX9_tell_13 : decode cX9_tell 13 = .ok (.iconst 4, 1) := by decide +kernel
theorem dX9_tell_14 : decode cX9_tell 14 = .ok (.invokevirtual 81, 3) := by decide +kernel
theorem dX9_tell_17 : decode cX9_tell 17 = .ok (.ireturn, 1) := by decide +kernel
theorem dX9_tell_18 : decode cX9_tell 18 = .ok (.aload_n 0, 1) := by decide +kernel
theorem dX9_tell_19 : decode cX9_tell 19 = .ok (.getfield 26, 3) := by decide +kernel
theorem dX9_tell_22 : decode cX9_tell 22 = .ok (.iload_n 1, 1) := by decide +kernel
theorem dX9_tell_23 : decode cX9_tell 23 = .ok (.invokevirtual 322, 3) := by decide +kernel
theorem dX9_tell_26 : decode cX9_tell 26 = .ok (.ireturn, 1) := by decide +kernel
theorem dX9_check_0 : decode cX9_check 0 = .ok (.aload_n 0, 1) := by decide +kernel
theorem dX9_check_1 : decode cX9_check 1 = .ok (.getfield 26, 3) := by decide +kernel
theorem dX9_check_4 : decode cX9_check 4 = .ok (.getfield 319, 3) := by decide +kernel
theorem dX9_check_7 : decode cX9_check 7 = .ok (.istore_n 2, 1) := by decide +kernel
theorem dX9_check_8 : decode cX9_check 8 = .ok (.aload_n 0, 1) := by decide +kernel
theorem dX9_check_9 : decode cX9_check 9 = .ok (.getfield 26, 3) := by decide +kernel
theorem dX9_check_12 : decode cX9_check 12 = .ok (.iconst 0, 1) := by decide +kernel
theorem dX9_check_13 : decode cX9_check 13 = .ok (.putfield 319, 3) := by decide +kernel
theorem dX9_check_16 : decode cX9_check 16 = .ok (.aload_n 0, 1) := by decide +kernel
theorem dX9_check_17 : decode cX9_check 17 = .ok (.getfield 19, 3) := by decide +kernel
theorem dX9_check_20 : decode cX9_check 20 = .ok (.iload_n 1, 1) := by decide +kernel
theorem dX9_check_21 : decode cX9_check 21 = .ok (.invokevirtual 154, 3) := by decide +kernel
theorem dX9_check_24 : decode cX9_check 24 = .ok (.ifCond .ne 9, 3) := by decide +kernel
theorem dX9_check_27 : decode cX9_check 27 = .ok (.aload_n 0, 1) := by decide +kernel
theorem dX9_check_28 : decode cX9_check 28 = .ok (.iconst 1, 1) := by decide +kernel
theorem dX9_check_29 : decode cX9_check 29 = .ok (.invokevirtual 81, 3) := by decide +kernel
theorem dX9_check_32 : decode cX9_check 32 = .ok (.ireturn, 1) := by decide +kernel
theorem dX9_check_33 : decode cX9_check 33 = .ok (.aload_n 0, 1) := by decide +kernel
theorem dX9_check_34 : decode cX9_check 34 = .ok (.getfield 64, 3) := by decide +kernel
theorem dX9_check_37 : decode cX9_check 37 = .ok (.aload_n 0, 1) := by decide +kernel
theorem dX9_check_38 : decode cX9_check 38 = .ok (.getfield 19, 3) := by decide +kernel
theorem dX9_check_41 : decode cX9_check 41 = .ok (.invokevirtual 211, 3) := by decide +kernel
theorem dX9_check_44 : decode cX9_check 44 = .ok (.iconst 0, 1) := by decide +kernel
theorem dX9_check_45 : decode cX9_check 45 = .ok (.istore_n 3, 1) := by decide +kernel
theorem dX9_check_46 : decode cX9_check 46 = .ok (.iload_n 3, 1) := by decide +kernel
theorem dX9_check_47 : decode cX9_check 47 = .ok (.iload_n 2, 1) := by decide +kernel
theorem dX9_check_48 : decode cX9_check 48 = .ok (.if_icmp .ge 52, 3) := by decide +kernel
theorem dX9_check_51 : decode cX9_check 51 = .ok (.iload_n 3, 1) := by decide +kernel
theorem dX9_check_52 : decode cX9_check 52 = .ok (.bipush 20, 2) := by decide +kernel
theorem dX9_check_54 : decode cX9_check 54 = .ok (.if_icmp .ge 46, 3) := by decide +kernel
theorem dX9_check_57 : decode cX9_check 57 = .ok (.aload_n 0, 1) := by decide +kernel
theorem dX9_check_58 : decode cX9_check 58 = .ok (.getfield 64, 3) := by decide +kernel
theorem dX9_check_61 : decode cX9_check 61 = .ok (.aload_n 0, 1) := by decide +kernel
theorem dX9_check_62 : decode cX9_check 62 = .ok (.getfield 10, 3) := by decide +kernel
theorem dX9_check_65 : decode cX9_check 65 = .ok (.iconst 0, 1) := by decide +kernel
theorem dX9_check_66 : decode cX9_check 66 = .ok (.invokevirtual 215, 3) := by decide +kernel
theorem dX9_check_69 : decode cX9_check 69 = .ok (.aload_n 0, 1) := by decide +kernel
theorem dX9_check_70 : decode cX9_check 70 = .ok (.getfield 26, 3) := by decide +kernel
theorem dX9_check_73 : decode cX9_check 73 = .ok (.getfield 325, 3) := by decide +kernel
theorem dX9_check_76 : decode cX9_check 76 = .ok (.iload_n 3, 1) := by decide +kernel
theorem dX9_check_77 : decode cX9_check 77 = .ok (.iaload, 1) := by decide +kernel
theorem dX9_check_78 : decode cX9_check 78 = .ok (.aload_n 0, 1) := by decide +kernel
theorem dX9_check_79 : decode cX9_check 79 = .ok (.getfield 64, 3) := by decide +kernel
theorem dX9_check_82 : decode cX9_check 82 = .ok (.getfield 326, 3) := by decide +kernel
theorem dX9_check_85 : decode cX9_check 85 = .ok (.iload_n 1, 1) := by decide +kernel
theorem dX9_check_86 : decode cX9_check 86 = .ok (.iaload, 1) := by decide +kernel
theorem dX9_check_87 : decode cX9_check 87 = .ok (.if_icmp .eq 7, 3) := by decide +kernel
theorem dX9_check_90 : decode cX9_check 90 = .ok (.iconst 1, 1) := by decide +kernel
theorem dX9_check_91 : decode cX9_check 91 = .ok (.iload_n 3, 1) := by decide +kernel
theorem dX9_check_92 : decode cX9_check 92 = .ok (.iadd, 1) := by decide +kernel
theorem dX9_check_93 : decode cX9_check 93 = .ok (.ireturn, 1) := by decide +kernel
theorem dX9_check_94 : decode cX9_check 94 = .ok (.iinc 3 1, 3) := by decide +kernel
theorem dX9_check_97 : decode cX9_check 97 = .ok (.goto (-51), 3) := by decide +kernel
theorem dX9_check_100 : decode cX9_check 100 = .ok (.iconst 0, 1) := by decide +kernel
theorem dX9_check_101 : decode cX9_check 101 = .ok (.ireturn, 1) := by decide +kernel
theorem dX9_count_0 : decode cX9_count 0 = .ok (.iload_n 1, 1) := by decide +kernel
theorem dX9_count_1 : decode cX9_count 1 = .ok (.tableswitch 163 0 10 #[59, 67, 78, 86, 107, 115, 123, 131, 139, 147, 155], 59) := by decide +kernel
theorem dX9_count_60 : decode cX9_count 60 = .ok (.aload_n 0, 1) := by decide +kernel
theorem dX9_count_61 : decode cX9_count 61 = .ok (.getfield 19, 3) := by decide +kernel
theorem dX9_count_64 : decode cX9_count 64 = .ok (.getfield 316, 3) := by decide +kernel
theorem dX9_count_67 : decode cX9_count 67 = .ok (.ireturn, 1) := by decide +kernel
theorem dX9_count_68 : decode cX9_count 68 = .ok (.aload_n 0, 1) := by decide +kernel
theorem dX9_count_69 : decode cX9_count 69 = .ok (.getfield 19, 3) := by decide +kernel
theorem dX9_count_72 : decode cX9_count 72 = .ok (.getfield 99, 3) := by decide +kernel
theorem dX9_count_75 : decode cX9_count 75 = .ok (.getfield 103, 3) := by decide +kernel
theorem dX9_count_78 : decode cX9_count 78 = .ok (.ireturn, 1) := by decide +kernel
theorem dX9_count_79 : decode cX9_count 79 = .ok (.aload_n 0, 1) := by decide +kernel
theorem dX9_count_80 : decode cX9_count 80 = .ok (.getfield 19, 3) := by decide +kernel
theorem dX9_count_83 : decode cX9_count 83 = .ok (.getfield 148, 3) := by decide +kernel
theorem dX9_count_86 : decode cX9_count 86 = .ok (.ireturn, 1) := by decide +kernel
theorem dX9_count_87 : decode cX9_count 87 = .ok (.aload_n 0, 1) := by decide +kernel
theorem dX9_count_88 : decode cX9_count 88 = .ok (.getfield 19, 3) := by decide +kernel
theorem dX9_count_91 : decode cX9_count 91 = .ok (.getfield 99, 3) := by decide +kernel
theorem dX9_count_94 : decode cX9_count 94 = .ok (.aload_n 0, 1) := by decide +kernel
theorem dX9_count_95 : decode cX9_count 95 = .ok (.getfield 19, 3) := by decide +kernel
theorem dX9_count_98 : decode cX9_count 98 = .ok (.invokevirtual 127, 3) := by decide +kernel
theorem dX9_count_101 : decode cX9_count 101 = .ok (.invokevirtual 328, 3) := by decide +kernel
theorem dX9_count_104 : decode cX9_count 104 = .ok (.invokestatic 302, 3) := by decide +kernel
theorem dX9_count_107 : decode cX9_count 107 = .ok (.ireturn, 1) := by decide +kernel
theorem dX9_count_108 : decode cX9_count 108 = .ok (.aload_n 0, 1) := by decide +kernel
theorem dX9_count_109 : decode cX9_count 109 = .ok (.getfield 19, 3) := by decide +kernel
theorem dX9_count_112 : decode cX9_count 112 = .ok (.getfield 331, 3) := by decide +kernel
theorem dX9_count_115 : decode cX9_count 115 = .ok (.ireturn, 1) := by decide +kernel
theorem dX9_count_116 : decode cX9_count 116 = .ok (.aload_n 0, 1) := by decide +kernel
theorem dX9_count_117 : decode cX9_count 117 = .ok (.getfield 19, 3) := by decide +kernel
theorem dX9_count_120 : decode cX9_count 120 = .ok (.invokevirtual 334, 3) := by decide +kernel
theorem dX9_count_123 : decode cX9_count 123 = .ok (.ireturn, 1) := by decide +kernel
theorem dX9_count_124 : decode cX9_count 124 = .ok (.aload_n 0, 1) := by decide +kernel
theorem dX9_count_125 : decode cX9_count 125 = .ok (.getfield 10, 3) := by decide +kernel
theorem dX9_count_128 : decode cX9_count 128 = .ok (.getfield 88, 3) := by decide +kernel
theorem dX9_count_131 : decode cX9_count 131 = .ok (.ireturn, 1) := by decide +kernel
theorem dX9_count_132 : decode cX9_count 132 = .ok (.aload_n 0, 1) := by decide +kernel
theorem dX9_count_133 : decode cX9_count 133 = .ok (.getfield 26, 3) := by decide +kernel
theorem dX9_count_136 : decode cX9_count 136 = .ok (.getfield 164, 3) := by decide +kernel
theorem dX9_count_139 : decode cX9_count 139 = .ok (.ireturn, 1) := by decide +kernel
theorem dX9_count_140 : decode cX9_count 140 = .ok (.aload_n 0, 1) := by decide +kernel
theorem dX9_count_141 : decode cX9_count 141 = .ok (.getfield 26, 3) := by decide +kernel
theorem dX9_count_144 : decode cX9_count 144 = .ok (.getfield 319, 3) := by decide +kernel
theorem dX9_count_147 : decode cX9_count 147 = .ok (.ireturn, 1) := by decide +kernel
theorem dX9_count_148 : decode cX9_count 148 = .ok (.aload_n 0, 1) := by decide +kernel
theorem dX9_count_149 : decode cX9_count 149 = .ok (.getfield 49, 3) := by decide +kernel
theorem dX9_count_152 : decode cX9_count 152 = .ok (.getfield 262, 3) := by decide +kernel
theorem dX9_count_155 : decode cX9_count 155 = .ok (.ireturn, 1) := by decide +kernel
theorem dX9_count_156 : decode cX9_count 156 = .ok (.aload_n 0, 1) := by decide +kernel
theorem dX9_count_157 : decode cX9_count 157 = .ok (.getfield 19, 3) := by decide +kernel
theorem dX9_count_160 : decode cX9_count 160 = .ok (.getfield 255, 3) := by decide +kernel
theorem dX9_count_163 : decode cX9_count 163 = .ok (.ireturn, 1) := by decide +kernel
theorem dX9_count_164 : decode cX9_count 164 = .ok (.aload_n 0, 1) := by decide +kernel
theorem dX9_count_165 : decode cX9_count 165 = .ok (.iconst 1, 1) := by decide +kernel
theorem dX9_count_166 : decode cX9_count 166 = .ok (.invokevirtual 81, 3) := by decide +kernel
theorem dX9_count_169 : decode cX9_count 169 = .ok (.ireturn, 1) := by decide +kernel
theorem dX9_told_0 : decode cX9_told 0 = .ok (.iload_n 1, 1) := by decide +kernel
theorem dX9_told_1 : decode cX9_told 1 = .ok (.iconst 1, 1) := by decide +kernel
theorem dX9_told_2 : decode cX9_told 2 = .ok (.iconst 5, 1) := by decide +kernel
theorem dX9_told_3 : decode cX9_told 3 = .ok (.invokestatic 77, 3) := by decide +kernel
theorem dX9_told_6 : decode cX9_told 6 = .ok (.ifCond .ne 9, 3) := by decide +kernel
theorem dX9_told_9 : decode cX9_told 9 = .ok (.aload_n 0, 1) := by decide +kernel
theorem dX9_told_10 : decode cX9_told 10 = .ok (.iconst 1, 1) := by decide +kernel
theorem dX9_told_11 : decode cX9_told 11 = .ok (.invokevirtual 81, 3) := by decide +kernel
theorem dX9_told_14 : decode cX9_told 14 = .ok (.ireturn, 1) := by decide +kernel
theorem dX9_told_15 : decode cX9_told 15 = .ok (.aload_n 0, 1) := by decide +kernel
theorem dX9_told_16 : decode cX9_told 16 = .ok (.getfield 53, 3) := by decide +kernel
theorem dX9_told_19 : decode cX9_told 19 = .ok (.iload_n 1, 1) := by decide +kernel
theorem dX9_told_20 : decode cX9_told 20 = .ok (.iaload, 1) := by decide +kernel
theorem dX9_told_21 : decode cX9_told 21 = .ok (.ireturn, 1) := by decide +kernel
theorem dX9_refuse_0 : decode cX9_refuse 0 = .ok (.iload_n 1, 1) := by decide +kernel
theorem dX9_refuse_1 : decode cX9_refuse 1 = .ok (.ifCond .lt 22, 3) := by decide +kernel
theorem dX9_refuse_4 : decode cX9_refuse 4 = .ok (.iload_n 1, 1) := by decide +kernel
theorem dX9_refuse_5 : decode cX9_refuse 5 = .ok (.aload_n 0, 1) := by decide +kernel
theorem dX9_refuse_6 : decode cX9_refuse 6 = .ok (.getfield 53, 3) := by decide +kernel
theorem dX9_refuse_9 : decode cX9_refuse 9 = .ok (.arraylength, 1) := by decide +kernel
theorem dX9_refuse_10 : decode cX9_refuse 10 = .ok (.if_icmp .ge 13, 3) := by decide +kernel
theorem dX9_refuse_13 : decode cX9_refuse 13 = .ok (.aload_n 0, 1) := by decide +kernel
theorem dX9_refuse_14 : decode cX9_refuse 14 = .ok (.getfield 53, 3) := by decide +kernel
theorem dX9_refuse_17 : decode cX9_refuse 17 = .ok (.iload_n 1, 1) := by decide +kernel
theorem dX9_refuse_18 : decode cX9_refuse 18 = .ok (.dup2, 1) := by decide +kernel
theorem dX9_refuse_19 : decode cX9_refuse 19 = .ok (.iaload, 1) := by decide +kernel
theorem dX9_refuse_20 : decode cX9_refuse 20 = .ok (.iconst 1, 1) := by decide +kernel
theorem dX9_refuse_21 : decode cX9_refuse 21 = .ok (.iadd, 1) := by decide +kernel
theorem dX9_refuse_22 : decode cX9_refuse 22 = .ok (.iastore, 1) := by decide +kernel
theorem dX9_refuse_23 : decode cX9_refuse 23 = .ok (.ldc_w 337, 3) := by decide +kernel
theorem dX9_refuse_26 : decode cX9_refuse 26 = .ok (.iload_n 1, 1) := by decide +kernel
theorem dX9_refuse_27 : decode cX9_refuse 27 = .ok (.isub, 1) := by decide +kernel
theorem dX9_refuse_28 : decode cX9_refuse 28 = .ok (.ireturn, 1) := by decide +kernel
theorem dX9_goOn_0 : decode cX9_goOn 0 = .ok (.iload_n 1, 1) := by decide +kernel
theorem dX9_goOn_1 : decode cX9_goOn 1 = .ok (.iconst 1, 1) := by decide +kernel
theorem dX9_goOn_2 : decode cX9_goOn 2 = .ok (.sipush 128, 3) := by decide +kernel
theorem dX9_goOn_5 : decode cX9_goOn 5 = .ok (.invokestatic 77, 3) := by decide +kernel
theorem dX9_goOn_8 : decode cX9_goOn 8 = .ok (.ifCond .ne 9, 3) := by decide +kernel
theorem dX9_goOn_11 : decode cX9_goOn 11 = .ok (.aload_n 0, 1) := by decide +kernel
theorem dX9_goOn_12 : decode cX9_goOn 12 = .ok (.iconst 1, 1) := by decide +kernel
theorem dX9_goOn_13 : decode cX9_goOn 13 = .ok (.invokevirtual 81, 3) := by decide +kernel
theorem dX9_goOn_16 : decode cX9_goOn 16 = .ok (.ireturn, 1) := by decide +kernel
theorem dX9_goOn_17 : decode cX9_goOn 17 = .ok (.aload_n 0, 1) := by decide +kernel
theorem dX9_goOn_18 : decode cX9_goOn 18 = .ok (.getfield 19, 3) := by decide +kernel
theorem dX9_goOn_21 : decode cX9_goOn 21 = .ok (.getfield 316, 3) := by decide +kernel
theorem dX9_goOn_24 : decode cX9_goOn 24 = .ok (.iload_n 1, 1) := by decide +kernel
theorem dX9_goOn_25 : decode cX9_goOn 25 = .ok (.iadd, 1) := by decide +kernel
theorem dX9_goOn_26 : decode cX9_goOn 26 = .ok (.sipush 9999, 3) := by decide +kernel
theorem dX9_goOn_29 : decode cX9_goOn 29 = .ok (.if_icmp .le 9, 3) := by decide +kernel
theorem dX9_goOn_32 : decode cX9_goOn 32 = .ok (.aload_n 0, 1) := by decide +kernel
theorem dX9_goOn_33 : decode cX9_goOn 33 = .ok (.iconst 3, 1) := by decide +kernel
theorem dX9_goOn_34 : decode cX9_goOn 34 = .ok (.invokevirtual 81, 3) := by decide +kernel
theorem dX9_goOn_37 : decode cX9_goOn 37 = .ok (.ireturn, 1) := by decide +kernel
theorem dX9_goOn_38 : decode cX9_goOn 38 = .ok (.iconst 0, 1) := by decide +kernel
theorem dX9_goOn_39 : decode cX9_goOn 39 = .ok (.istore_n 3, 1) := by decide +kernel
theorem dX9_goOn_40 : decode cX9_goOn 40 = .ok (.iload_n 3, 1) := by decide +kernel
theorem dX9_goOn_41 : decode cX9_goOn 41 = .ok (.iload_n 1, 1) := by decide +kernel
theorem dX9_goOn_42 : decode cX9_goOn 42 = .ok (.if_icmp .ge 21, 3) := by decide +kernel
theorem dX9_goOn_45 : decode cX9_goOn 45 = .ok (.aload_n 0, 1) := by decide +kernel
theorem dX9_goOn_46 : decode cX9_goOn 46 = .ok (.getfield 19, 3) := by decide +kernel
theorem dX9_goOn_49 : decode cX9_goOn 49 = .ok (.aload_n 0, 1) := by decide +kernel
theorem dX9_goOn_50 : decode cX9_goOn 50 = .ok (.getfield 10, 3) := by decide +kernel
theorem dX9_goOn_53 : decode cX9_goOn 53 = .ok (.iload_n 2, 1) := by decide +kernel
theorem dX9_goOn_54 : decode cX9_goOn 54 = .ok (.invokevirtual 215, 3) := by decide +kernel
theorem dX9_goOn_57 : decode cX9_goOn 57 = .ok (.iinc 3 1, 3) := by decide +kernel
theorem dX9_goOn_60 : decode cX9_goOn 60 = .ok (.goto (-20), 3) := by decide +kernel
theorem dX9_goOn_63 : decode cX9_goOn 63 = .ok (.aload_n 0, 1) := by decide +kernel
theorem dX9_goOn_64 : decode cX9_goOn 64 = .ok (.getfield 19, 3) := by decide +kernel
theorem dX9_goOn_67 : decode cX9_goOn 67 = .ok (.getfield 331, 3) := by decide +kernel
theorem dX9_goOn_70 : decode cX9_goOn 70 = .ok (.ireturn, 1) := by decide +kernel
theorem dX9_watchAll_0 : decode cX9_watchAll 0 = .ok (.aload_n 0, 1) := by decide +kernel
theorem dX9_watchAll_1 : decode cX9_watchAll 1 = .ok (.getfield 70, 3) := by decide +kernel
theorem dX9_watchAll_4 : decode cX9_watchAll 4 = .ok (.aload_n 0, 1) := by decide +kernel
theorem dX9_watchAll_5 : decode cX9_watchAll 5 = .ok (.getfield 19, 3) := by decide +kernel
theorem dX9_watchAll_8 : decode cX9_watchAll 8 = .ok (.iload_n 1, 1) := by decide +kernel
theorem dX9_watchAll_9 : decode cX9_watchAll 9 = .ok (.invokevirtual 200, 3) := by decide +kernel
theorem dX9_watchAll_12 : decode cX9_watchAll 12 = .ok (.iconst 0, 1) := by decide +kernel
theorem dX9_watchAll_13 : decode cX9_watchAll 13 = .ok (.istore_n 2, 1) := by decide +kernel
theorem dX9_watchAll_14 : decode cX9_watchAll 14 = .ok (.iload_n 2, 1) := by decide +kernel
theorem dX9_watchAll_15 : decode cX9_watchAll 15 = .ok (.bipush 9, 2) := by decide +kernel
theorem dX9_watchAll_17 : decode cX9_watchAll 17 = .ok (.if_icmp .ge 35, 3) := by decide +kernel
theorem dX9_watchAll_20 : decode cX9_watchAll 20 = .ok (.aload_n 0, 1) := by decide +kernel
theorem dX9_watchAll_21 : decode cX9_watchAll 21 = .ok (.getfield 19, 3) := by decide +kernel
theorem dX9_watchAll_24 : decode cX9_watchAll 24 = .ok (.getfield 99, 3) := by decide +kernel
theorem dX9_watchAll_27 : decode cX9_watchAll 27 = .ok (.iload_n 2, 1) := by decide +kernel
theorem dX9_watchAll_28 : decode cX9_watchAll 28 = .ok (.invokevirtual 112, 3) := by decide +kernel
theorem dX9_watchAll_31 : decode cX9_watchAll 31 = .ok (.ifCond .eq 15, 3) := by decide +kernel
theorem dX9_watchAll_34 : decode cX9_watchAll 34 = .ok (.aload_n 0, 1) := by decide +kernel
theorem dX9_watchAll_35 : decode cX9_watchAll 35 = .ok (.getfield 70, 3) := by decide +kernel
theorem dX9_watchAll_38 : decode cX9_watchAll 38 = .ok (.aload_n 0, 1) := by decide +kernel
theorem dX9_watchAll_39 : decode cX9_watchAll 39 = .ok (.getfield 10, 3) := by decide +kernel
theorem dX9_watchAll_42 : decode cX9_watchAll 42 = .ok (.iload_n 2, 1) := by decide +kernel
theorem dX9_watchAll_43 : decode cX9_watchAll 43 = .ok (.invokevirtual 204, 3) := by decide +kernel
theorem dX9_watchAll_46 : decode cX9_watchAll 46 = .ok (.iinc 2 1, 3) := by decide +kernel
theorem dX9_watchAll_49 : decode cX9_watchAll 49 = .ok (.goto (-35), 3) := by decide +kernel
theorem dX9_watchAll_52 : decode cX9_watchAll 52 = .ok (.return_, 1) := by decide +kernel
theorem dX9_scoreAll_0 : decode cX9_scoreAll 0 = .ok (.aload_n 0, 1) := by decide +kernel
theorem dX9_scoreAll_1 : decode cX9_scoreAll 1 = .ok (.iload_n 1, 1) := by decide +kernel
theorem dX9_scoreAll_2 : decode cX9_scoreAll 2 = .ok (.invokevirtual 219, 3) := by decide +kernel
theorem dX9_scoreAll_5 : decode cX9_scoreAll 5 = .ok (.iconst 0, 1) := by decide +kernel
theorem dX9_scoreAll_6 : decode cX9_scoreAll 6 = .ok (.istore_n 2, 1) := by decide +kernel
theorem dX9_scoreAll_7 : decode cX9_scoreAll 7 = .ok (.iload_n 2, 1) := by decide +kernel
theorem dX9_scoreAll_8 : decode cX9_scoreAll 8 = .ok (.bipush 64, 2) := by decide +kernel
theorem dX9_scoreAll_10 : decode cX9_scoreAll 10 = .ok (.if_icmp .ge 34, 3) := by decide +kernel
theorem dX9_scoreAll_13 : decode cX9_scoreAll 13 = .ok (.aload_n 0, 1) := by decide +kernel
theorem dX9_scoreAll_14 : decode cX9_scoreAll 14 = .ok (.getfield 74, 3) := by decide +kernel
theorem dX9_scoreAll_17 : decode cX9_scoreAll 17 = .ok (.iload_n 2, 1) := by decide +kernel
theorem dX9_scoreAll_18 : decode cX9_scoreAll 18 = .ok (.aload_n 0, 1) := by decide +kernel
theorem dX9_scoreAll_19 : decode cX9_scoreAll 19 = .ok (.getfield 70, 3) := by decide +kernel
theorem dX9_scoreAll_22 : decode cX9_scoreAll 22 = .ok (.aload_n 0, 1) := by decide +kernel
theorem dX9_scoreAll_23 : decode cX9_scoreAll 23 = .ok (.getfield 10, 3) := by decide +kernel
theorem dX9_scoreAll_26 : decode cX9_scoreAll 26 = .ok (.iload_n 2, 1) := by decide +kernel
theorem dX9_scoreAll_27 : decode cX9_scoreAll 27 = .ok (.aload_n 0, 1) := by decide +kernel
theorem dX9_scoreAll_28 : decode cX9_scoreAll 28 = .ok (.getfield 10, 3) := by decide +kernel
theorem dX9_scoreAll_31 : decode cX9_scoreAll 31 = .ok (.getfield 88, 3) := by decide +kernel
theorem dX9_scoreAll_34 : decode cX9_scoreAll 34 = .ok (.invokevirtual 223, 3) := by decide +kernel
theorem dX9_scoreAll_37 : decode cX9_scoreAll 37 = .ok (.iastore, 1) := by decide +kernel
theorem dX9_scoreAll_38 : decode cX9_scoreAll 38 = .ok (.iinc 2 1, 3) := by decide +kernel
theorem dX9_scoreAll_41 : decode cX9_scoreAll 41 = .ok (.goto (-34), 3) := by decide +kernel
theorem dX9_scoreAll_44 : decode cX9_scoreAll 44 = .ok (.return_, 1) := by decide +kernel
theorem dX9_origins_0 : decode cX9_origins 0 = .ok (.lconst 0, 1) := by decide +kernel
theorem dX9_origins_1 : decode cX9_origins 1 = .ok (.lstore_n 3, 1) := by decide +kernel
theorem dX9_origins_2 : decode cX9_origins 2 = .ok (.iconst 0, 1) := by decide +kernel
theorem dX9_origins_3 : decode cX9_origins 3 = .ok (.istore 5, 2) := by decide +kernel
theorem dX9_origins_5 : decode cX9_origins 5 = .ok (.iload 5, 2) := by decide +kernel
theorem dX9_origins_7 : decode cX9_origins 7 = .ok (.bipush 64, 2) := by decide +kernel
theorem dX9_origins_9 : decode cX9_origins 9 = .ok (.if_icmp .ge 87, 3) := by decide +kernel
theorem dX9_origins_12 : decode cX9_origins 12 = .ok (.aload_n 0, 1) := by decide +kernel
theorem dX9_origins_13 : decode cX9_origins 13 = .ok (.iload 5, 2) := by decide +kernel
theorem dX9_origins_15 : decode cX9_origins 15 = .ok (.iload_n 1, 1) := by decide +kernel
theorem dX9_origins_16 : decode cX9_origins 16 = .ok (.sipush 4096, 3) := by decide +kernel
theorem dX9_origins_19 : decode cX9_origins 19 = .ok (.idiv, 1) := by decide +kernel
theorem dX9_origins_20 : decode cX9_origins 20 = .ok (.iload_n 2, 1) := by decide +kernel
theorem dX9_origins_21 : decode cX9_origins 21 = .ok (.sipush 10000, 3) := by decide +kernel
theorem dX9_origins_24 : decode cX9_origins 24 = .ok (.idiv, 1) := by decide +kernel
theorem dX9_origins_25 : decode cX9_origins 25 = .ok (.invokevirtual 338, 3) := by decide +kernel
theorem dX9_origins_28 : decode cX9_origins 28 = .ok (.istore 6, 2) := by decide +kernel
theorem dX9_origins_30 : decode cX9_origins 30 = .ok (.aload_n 0, 1) := by decide +kernel
theorem dX9_origins_31 : decode cX9_origins 31 = .ok (.iload 5, 2) := by decide +kernel
theorem dX9_origins_33 : decode cX9_origins 33 = .ok (.iload_n 1, 1) := by decide +kernel
theorem dX9_origins_34 : decode cX9_origins 34 = .ok (.bipush 64, 2) := by decide +kernel
theorem dX9_origins_36 : decode cX9_origins 36 = .ok (.idiv, 1) := by decide +kernel
theorem dX9_origins_37 : decode cX9_origins 37 = .ok (.bipush 64, 2) := by decide +kernel
theorem dX9_origins_39 : decode cX9_origins 39 = .ok (.irem, 1) := by decide +kernel
theorem dX9_origins_40 : decode cX9_origins 40 = .ok (.iload_n 2, 1) := by decide +kernel
theorem dX9_origins_41 : decode cX9_origins 41 = .ok (.bipush 100, 2) := by decide +kernel
theorem dX9_origins_43 : decode cX9_origins 43 = .ok (.idiv, 1) := by decide +kernel
theorem dX9_origins_44 : decode cX9_origins 44 = .ok (.bipush 100, 2) := by decide +kernel
theorem dX9_origins_46 : decode cX9_origins 46 = .ok (.irem, 1) := by decide +kernel
theorem dX9_origins_47 : decode cX9_origins 47 = .ok (.invokevirtual 338, 3) := by decide +kernel
theorem dX9_origins_50 : decode cX9_origins 50 = .ok (.istore 7, 2) := by decide +kernel
theorem dX9_origins_52 : decode cX9_origins 52 = .ok (.aload_n 0, 1) := by decide +kernel
theorem dX9_origins_53 : decode cX9_origins 53 = .ok (.iload 5, 2) := by decide +kernel
theorem dX9_origins_55 : decode cX9_origins 55 = .ok (.iload_n 1, 1) := by decide +kernel
theorem dX9_origins_56 : decode cX9_origins 56 = .ok (.bipush 64, 2) := by decide +kernel
theorem dX9_origins_58 : decode cX9_origins 58 = .ok (.irem, 1) := by decide +kernel
theorem dX9_origins_59 : decode cX9_origins 59 = .ok (.iload_n 2, 1) := by decide +kernel
theorem dX9_origins_60 : decode cX9_origins 60 = .ok (.bipush 100, 2) := by decide +kernel
theorem dX9_origins_62 : decode cX9_origins 62 = .ok (.irem, 1) := by decide +kernel
theorem dX9_origins_63 : decode cX9_origins 63 = .ok (.invokevirtual 338, 3) := by decide +kernel
theorem dX9_origins_66 : decode cX9_origins 66 = .ok (.istore 8, 2) := by decide +kernel
theorem dX9_origins_68 : decode cX9_origins 68 = .ok (.iload 6, 2) := by decide +kernel
theorem dX9_origins_70 : decode cX9_origins 70 = .ok (.ifCond .eq 20, 3) := by decide +kernel
theorem dX9_origins_73 : decode cX9_origins 73 = .ok (.iload 7, 2) := by decide +kernel
theorem dX9_origins_75 : decode cX9_origins 75 = .ok (.ifCond .eq 15, 3) := by decide +kernel
theorem dX9_origins_78 : decode cX9_origins 78 = .ok (.iload 8, 2) := by decide +kernel
theorem dX9_origins_80 : decode cX9_origins 80 = .ok (.ifCond .eq 10, 3) := by decide +kernel
theorem dX9_origins_83 : decode cX9_origins 83 = .ok (.lload_n 3, 1) := by decide +kernel
theorem dX9_origins_84 : decode cX9_origins 84 = .ok (.lconst 1, 1) := by decide +kernel
theorem dX9_origins_85 : decode cX9_origins 85 = .ok (.iload 5, 2) := by decide +kernel
theorem dX9_origins_87 : decode cX9_origins 87 = .ok (.lshl, 1) := by decide +kernel
theorem dX9_origins_88 : decode cX9_origins 88 = .ok (.lor, 1) := by decide +kernel
theorem dX9_origins_89 : decode cX9_origins 89 = .ok (.lstore_n 3, 1) := by decide +kernel
theorem dX9_origins_90 : decode cX9_origins 90 = .ok (.iinc 5 1, 3) := by decide +kernel
theorem dX9_origins_93 : decode cX9_origins 93 = .ok (.goto (-88), 3) := by decide +kernel
theorem dX9_origins_96 : decode cX9_origins 96 = .ok (.lload_n 3, 1) := by decide +kernel
theorem dX9_origins_97 : decode cX9_origins 97 = .ok (.lreturn, 1) := by decide +kernel
theorem dX9_isHeardBehind_0 : decode cX9_isHeardBehind 0 = .ok (.aload_n 0, 1) := by decide +kernel
theorem dX9_isHeardBehind_1 : decode cX9_isHeardBehind 1 = .ok (.getfield 10, 3) := by decide +kernel
theorem dX9_isHeardBehind_4 : decode cX9_isHeardBehind 4 = .ok (.iload_n 1, 1) := by decide +kernel
theorem dX9_isHeardBehind_5 : decode cX9_isHeardBehind 5 = .ok (.iload_n 2, 1) := by decide +kernel
theorem dX9_isHeardBehind_6 : decode cX9_isHeardBehind 6 = .ok (.invokestatic 138, 3) := by decide +kernel
theorem dX9_isHeardBehind_9 : decode cX9_isHeardBehind 9 = .ok (.aload_n 0, 1) := by decide +kernel
theorem dX9_isHeardBehind_10 : decode cX9_isHeardBehind 10 = .ok (.getfield 10, 3) := by decide +kernel
theorem dX9_isHeardBehind_13 : decode cX9_isHeardBehind 13 = .ok (.getfield 88, 3) := by decide +kernel
theorem dX9_isHeardBehind_16 : decode cX9_isHeardBehind 16 = .ok (.aload_n 0, 1) := by decide +kernel
theorem dX9_isHeardBehind_17 : decode cX9_isHeardBehind 17 = .ok (.getfield 19, 3) := by decide +kernel
theorem dX9_isHeardBehind_20 : decode cX9_isHeardBehind 20 = .ok (.invokevirtual 127, 3) := by decide +kernel
theorem dX9_isHeardBehind_23 : decode cX9_isHeardBehind 23 = .ok (.invokevirtual 141, 3) := by decide +kernel
theorem dX9_isHeardBehind_26 : decode cX9_isHeardBehind 26 = .ok (.iload_n 3, 1) := by decide +kernel
theorem dX9_isHeardBehind_27 : decode cX9_isHeardBehind 27 = .ok (.if_icmp .ne 7, 3) := by decide +kernel
theorem dX9_isHeardBehind_30 : decode cX9_isHeardBehind 30 = .ok (.iconst 1, 1) := by decide +kernel
theorem dX9_isHeardBehind_31 : decode cX9_isHeardBehind 31 = .ok (.goto 4, 3) := by decide +kernel
theorem dX9_isHeardBehind_34 : decode cX9_isHeardBehind 34 = .ok (.iconst 0, 1) := by decide +kernel
theorem dX9_isHeardBehind_35 : decode cX9_isHeardBehind 35 = .ok (.ireturn, 1) := by decide +kernel
theorem dX9_sheetOf_0 : decode cX9_sheetOf 0 = .ok (.iload_n 1, 1) := by decide +kernel
theorem dX9_sheetOf_1 : decode cX9_sheetOf 1 = .ok (.ifCond .lt 26, 3) := by decide +kernel
theorem dX9_sheetOf_4 : decode cX9_sheetOf 4 = .ok (.iload_n 1, 1) := by decide +kernel
theorem dX9_sheetOf_5 : decode cX9_sheetOf 5 = .ok (.iconst 4, 1) := by decide +kernel
theorem dX9_sheetOf_6 : decode cX9_sheetOf 6 = .ok (.if_icmp .ge 21, 3) := by decide +kernel
theorem dX9_sheetOf_9 : decode cX9_sheetOf 9 = .ok (.iload_n 1, 1) := by decide +kernel
theorem dX9_sheetOf_10 : decode cX9_sheetOf 10 = .ok (.aload_n 0, 1) := by decide +kernel
theorem dX9_sheetOf_11 : decode cX9_sheetOf 11 = .ok (.getfield 42, 3) := by decide +kernel
theorem dX9_sheetOf_14 : decode cX9_sheetOf 14 = .ok (.arraylength, 1) := by decide +kernel
theorem dX9_sheetOf_15 : decode cX9_sheetOf 15 = .ok (.if_icmp .ge 12, 3) := by decide +kernel
theorem dX9_sheetOf_18 : decode cX9_sheetOf 18 = .ok (.aload_n 0, 1) := by decide +kernel
theorem dX9_sheetOf_19 : decode cX9_sheetOf 19 = .ok (.getfield 42, 3) := by decide +kernel
theorem dX9_sheetOf_22 : decode cX9_sheetOf 22 = .ok (.iload_n 1, 1) := by decide +kernel
theorem dX9_sheetOf_23 : decode cX9_sheetOf 23 = .ok (.aaload, 1) := by decide +kernel
theorem dX9_sheetOf_24 : decode cX9_sheetOf 24 = .ok (.goto 4, 3) := by decide +kernel
theorem dX9_sheetOf_27 : decode cX9_sheetOf 27 = .ok (.aconst_null, 1) := by decide +kernel
theorem dX9_sheetOf_28 : decode cX9_sheetOf 28 = .ok (.areturn, 1) := by decide +kernel
theorem dX9_within_0 : decode cX9_within 0 = .ok (.iload_n 0, 1) := by decide +kernel
theorem dX9_within_1 : decode cX9_within 1 = .ok (.iload_n 1, 1) := by decide +kernel
theorem dX9_within_2 : decode cX9_within 2 = .ok (.if_icmp .lt 12, 3) := by decide +kernel
theorem dX9_within_5 : decode cX9_within 5 = .ok (.iload_n 0, 1) := by decide +kernel
theorem dX9_within_6 : decode cX9_within 6 = .ok (.iload_n 2, 1) := by decide +kernel
theorem dX9_within_7 : decode cX9_within 7 = .ok (.if_icmp .gt 7, 3) := by decide +kernel
theorem dX9_within_10 : decode cX9_within 10 = .ok (.iconst 1, 1) := by decide +kernel
theorem dX9_within_11 : decode cX9_within 11 = .ok (.goto 4, 3) := by decide +kernel
theorem dX9_within_14 : decode cX9_within 14 = .ok (.iconst 0, 1) := by decide +kernel
theorem dX9_within_15 : decode cX9_within 15 = .ok (.ireturn, 1) := by decide +kernel
theorem dX9_isCell_0 : decode cX9_isCell 0 = .ok (.iload_n 0, 1) := by decide +kernel
theorem dX9_isCell_1 : decode cX9_isCell 1 = .ok (.iconst 0, 1) := by decide +kernel
theorem dX9_isCell_2 : decode cX9_isCell 2 = .ok (.bipush 63, 2) := by decide +kernel
theorem dX9_isCell_4 : decode cX9_isCell 4 = .ok (.invokestatic 77, 3) := by decide +kernel
theorem dX9_isCell_7 : decode cX9_isCell 7 = .ok (.ireturn, 1) := by decide +kernel
theorem dX9_isAhead_0 : decode cX9_isAhead 0 = .ok (.iload_n 0, 1) := by decide +kernel
theorem dX9_isAhead_1 : decode cX9_isAhead 1 = .ok (.iconst 0, 1) := by decide +kernel
theorem dX9_isAhead_2 : decode cX9_isAhead 2 = .ok (.sipush 128, 3) := by decide +kernel
theorem dX9_isAhead_5 : decode cX9_isAhead 5 = .ok (.invokestatic 77, 3) := by decide +kernel
theorem dX9_isAhead_8 : decode cX9_isAhead 8 = .ok (.ireturn, 1) := by decide +kernel
theorem dX9_isKindAndNumber_0 : decode cX9_isKindAndNumber 0 = .ok (.iload_n 0, 1) := by decide +kernel
theorem dX9_isKindAndNumber_1 : decode cX9_isKindAndNumber 1 = .ok (.iconst 0, 1) := by decide +kernel
theorem dX9_isKindAndNumber_2 : decode cX9_isKindAndNumber 2 = .ok (.bipush 69, 2) := by decide +kernel
theorem dX9_isKindAndNumber_4 : decode cX9_isKindAndNumber 4 = .ok (.invokestatic 77, 3) := by decide +kernel
theorem dX9_isKindAndNumber_7 : decode cX9_isKindAndNumber 7 = .ok (.ireturn, 1) := by decide +kernel
theorem dX9_areThreeCells_0 : decode cX9_areThreeCells 0 = .ok (.iload_n 0, 1) := by decide +kernel
theorem dX9_areThreeCells_1 : decode cX9_areThreeCells 1 = .ok (.iconst 0, 1) := by decide +kernel
theorem dX9_areThreeCells_2 : decode cX9_areThreeCells 2 = .ok (.ldc_w 341, 3) := by decide +kernel
theorem dX9_areThreeCells_5 : decode cX9_areThreeCells 5 = .ok (.invokestatic 77, 3) := by decide +kernel
theorem dX9_areThreeCells_8 : decode cX9_areThreeCells 8 = .ok (.ireturn, 1) := by decide +kernel
theorem dX9_areThreeLags_0 : decode cX9_areThreeLags 0 = .ok (.iload_n 0, 1) := by decide +kernel
theorem dX9_areThreeLags_1 : decode cX9_areThreeLags 1 = .ok (.iconst 0, 1) := by decide +kernel
theorem dX9_areThreeLags_2 : decode cX9_areThreeLags 2 = .ok (.ldc_w 342, 3) := by decide +kernel
theorem dX9_areThreeLags_5 : decode cX9_areThreeLags 5 = .ok (.invokestatic 77, 3) := by decide +kernel
theorem dX9_areThreeLags_8 : decode cX9_areThreeLags 8 = .ok (.ireturn, 1) := by decide +kernel
theorem dX9_above_0 : decode cX9_above 0 = .ok (.iload_n 0, 1) := by decide +kernel
theorem dX9_above_1 : decode cX9_above 1 = .ok (.ifCond .lt 19, 3) := by decide +kernel
theorem dX9_above_4 : decode cX9_above 4 = .ok (.iload_n 0, 1) := by decide +kernel
theorem dX9_above_5 : decode cX9_above 5 = .ok (.getstatic 343, 3) := by decide +kernel
theorem dX9_above_8 : decode cX9_above 8 = .ok (.arraylength, 1) := by decide +kernel
theorem dX9_above_9 : decode cX9_above 9 = .ok (.if_icmp .ge 11, 3) := by decide +kernel
theorem dX9_above_12 : decode cX9_above 12 = .ok (.getstatic 343, 3) := by decide +kernel
theorem dX9_above_15 : decode cX9_above 15 = .ok (.iload_n 0, 1) := by decide +kernel
theorem dX9_above_16 : decode cX9_above 16 = .ok (.iaload, 1) := by decide +kernel
theorem dX9_above_17 : decode cX9_above 17 = .ok (.goto 4, 3) := by decide +kernel
theorem dX9_above_20 : decode cX9_above 20 = .ok (.iconst (-1), 1) := by decide +kernel
theorem dX9_above_21 : decode cX9_above 21 = .ok (.ireturn, 1) := by decide +kernel
theorem dX9_isUnder_0 : decode cX9_isUnder 0 = .ok (.iload_n 0, 1) := by decide +kernel
theorem dX9_isUnder_1 : decode cX9_isUnder 1 = .ok (.istore_n 2, 1) := by decide +kernel
theorem dX9_isUnder_2 : decode cX9_isUnder 2 = .ok (.iconst 0, 1) := by decide +kernel
theorem dX9_isUnder_3 : decode cX9_isUnder 3 = .ok (.istore_n 3, 1) := by decide +kernel
theorem dX9_isUnder_4 : decode cX9_isUnder 4 = .ok (.iload_n 3, 1) := by decide +kernel
theorem dX9_isUnder_5 : decode cX9_isUnder 5 = .ok (.getstatic 343, 3) := by decide +kernel
theorem dX9_isUnder_8 : decode cX9_isUnder 8 = .ok (.arraylength, 1) := by decide +kernel
theorem dX9_isUnder_9 : decode cX9_isUnder 9 = .ok (.if_icmp .ge 25, 3) := by decide +kernel
theorem dX9_isUnder_12 : decode cX9_isUnder 12 = .ok (.iload_n 2, 1) := by decide +kernel
theorem dX9_isUnder_13 : decode cX9_isUnder 13 = .ok (.ifCond .lt 21, 3) := by decide +kernel
theorem dX9_isUnder_16 : decode cX9_isUnder 16 = .ok (.iload_n 2, 1) := by decide +kernel
theorem dX9_isUnder_17 : decode cX9_isUnder 17 = .ok (.iload_n 1, 1) := by decide +kernel
theorem dX9_isUnder_18 : decode cX9_isUnder 18 = .ok (.if_icmp .ne 5, 3) := by decide +kernel
theorem dX9_isUnder_21 : decode cX9_isUnder 21 = .ok (.iconst 1, 1) := by decide +kernel
theorem dX9_isUnder_22 : decode cX9_isUnder 22 = .ok (.ireturn, 1) := by decide +kernel
theorem dX9_isUnder_23 : decode cX9_isUnder 23 = .ok (.iload_n 2, 1) := by decide +kernel
theorem dX9_isUnder_24 : decode cX9_isUnder 24 = .ok (.invokestatic 346, 3) := by decide +kernel
theorem dX9_isUnder_27 : decode cX9_isUnder 27 = .ok (.istore_n 2, 1) := by decide +kernel
theorem dX9_isUnder_28 : decode cX9_isUnder 28 = .ok (.iinc 3 1, 3) := by decide +kernel
theorem dX9_isUnder_31 : decode cX9_isUnder 31 = .ok (.goto (-27), 3) := by decide +kernel
theorem dX9_isUnder_34 : decode cX9_isUnder 34 = .ok (.iconst 0, 1) := by decide +kernel
theorem dX9_isUnder_35 : decode cX9_isUnder 35 = .ok (.ireturn, 1) := by decide +kernel
theorem dX9_far_0 : decode cX9_far 0 = .ok (.iload_n 0, 1) := by decide +kernel
theorem dX9_far_1 : decode cX9_far 1 = .ok (.iconst 3, 1) := by decide +kernel
theorem dX9_far_2 : decode cX9_far 2 = .ok (.ishr, 1) := by decide +kernel
theorem dX9_far_3 : decode cX9_far 3 = .ok (.iload_n 1, 1) := by decide +kernel
theorem dX9_far_4 : decode cX9_far 4 = .ok (.iconst 3, 1) := by decide +kernel
theorem dX9_far_5 : decode cX9_far 5 = .ok (.ishr, 1) := by decide +kernel
theorem dX9_far_6 : decode cX9_far 6 = .ok (.isub, 1) := by decide +kernel
theorem dX9_far_7 : decode cX9_far 7 = .ok (.invokestatic 349, 3) := by decide +kernel
theorem dX9_far_10 : decode cX9_far 10 = .ok (.istore_n 2, 1) := by decide +kernel
theorem dX9_far_11 : decode cX9_far 11 = .ok (.iload_n 0, 1) := by decide +kernel
theorem dX9_far_12 : decode cX9_far 12 = .ok (.bipush 7, 2) := by decide +kernel
theorem dX9_far_14 : decode cX9_far 14 = .ok (.iand, 1) := by decide +kernel
theorem dX9_far_15 : decode cX9_far 15 = .ok (.iload_n 1, 1) := by decide +kernel
theorem dX9_far_16 : decode cX9_far 16 = .ok (.bipush 7, 2) := by decide +kernel
theorem dX9_far_18 : decode cX9_far 18 = .ok (.iand, 1) := by decide +kernel
theorem dX9_far_19 : decode cX9_far 19 = .ok (.isub, 1) := by decide +kernel
theorem dX9_far_20 : decode cX9_far 20 = .ok (.invokestatic 349, 3) := by decide +kernel
theorem dX9_far_23 : decode cX9_far 23 = .ok (.istore_n 3, 1) := by decide +kernel
theorem dX9_far_24 : decode cX9_far 24 = .ok (.iload_n 2, 1) := by decide +kernel
theorem dX9_far_25 : decode cX9_far 25 = .ok (.iload_n 3, 1) := by decide +kernel
theorem dX9_far_26 : decode cX9_far 26 = .ok (.invokestatic 354, 3) := by decide +kernel
theorem dX9_far_29 : decode cX9_far 29 = .ok (.ireturn, 1) := by decide +kernel
theorem dX9_nextCell_0 : decode cX9_nextCell 0 = .ok (.iload_n 1, 1) := by decide +kernel
theorem dX9_nextCell_1 : decode cX9_nextCell 1 = .ok (.tableswitch 95 1 4 #[31, 46, 63, 80], 31) := by decide +kernel
theorem dX9_nextCell_32 : decode cX9_nextCell 32 = .ok (.iload_n 0, 1) := by decide +kernel
theorem dX9_nextCell_33 : decode cX9_nextCell 33 = .ok (.iconst 3, 1) := by decide +kernel
theorem dX9_nextCell_34 : decode cX9_nextCell 34 = .ok (.ishr, 1) := by decide +kernel
theorem dX9_nextCell_35 : decode cX9_nextCell 35 = .ok (.ifCond .ne 7, 3) := by decide +kernel
theorem dX9_nextCell_38 : decode cX9_nextCell 38 = .ok (.iload_n 0, 1) := by decide +kernel
theorem dX9_nextCell_39 : decode cX9_nextCell 39 = .ok (.goto 7, 3) := by decide +kernel
theorem dX9_nextCell_42 : decode cX9_nextCell 42 = .ok (.iload_n 0, 1) := by decide +kernel
theorem dX9_nextCell_43 : decode cX9_nextCell 43 = .ok (.bipush 8, 2) := by decide +kernel
theorem dX9_nextCell_45 : decode cX9_nextCell 45 = .ok (.isub, 1) := by decide +kernel
theorem dX9_nextCell_46 : decode cX9_nextCell 46 = .ok (.ireturn, 1) := by decide +kernel
theorem dX9_nextCell_47 : decode cX9_nextCell 47 = .ok (.iload_n 0, 1) := by decide +kernel
theorem dX9_nextCell_48 : decode cX9_nextCell 48 = .ok (.bipush 7, 2) := by decide +kernel
theorem dX9_nextCell_50 : decode cX9_nextCell 50 = .ok (.iand, 1) := by decide +kernel
theorem dX9_nextCell_51 : decode cX9_nextCell 51 = .ok (.bipush 7, 2) := by decide +kernel
theorem dX9_nextCell_53 : decode cX9_nextCell 53 = .ok (.if_icmp .ne 7, 3) := by decide +kernel
theorem dX9_nextCell_56 : decode cX9_nextCell 56 = .ok (.iload_n 0, 1) := by decide +kernel
theorem dX9_nextCell_57 : decode cX9_nextCell 57 = .ok (.goto 6, 3) := by decide +kernel
theorem dX9_nextCell_60 : decode cX9_nextCell 60 = .ok (.iload_n 0, 1) := by decide +kernel
theorem dX9_nextCell_61 : decode cX9_nextCell 61 = .ok (.iconst 1, 1) := by decide +kernel
theorem dX9_nextCell_62 : decode cX9_nextCell 62 = .ok (.iadd, 1) := by decide +kernel
theorem dX9_nextCell_63 : decode cX9_nextCell 63 = .ok (.ireturn, 1) := by decide +kernel
theorem dX9_nextCell_64 : decode cX9_nextCell 64 = .ok (.iload_n 0, 1) := by decide +kernel
theorem dX9_nextCell_65 : decode cX9_nextCell 65 = .ok (.iconst 3, 1) := by decide +kernel
theorem dX9_nextCell_66 : decode cX9_nextCell 66 = .ok (.ishr, 1) := by decide +kernel
theorem dX9_nextCell_67 : decode cX9_nextCell 67 = .ok (.bipush 7, 2) := by decide +kernel
theorem dX9_nextCell_69 : decode cX9_nextCell 69 = .ok (.if_icmp .ne 7, 3) := by decide +kernel
theorem dX9_nextCell_72 : decode cX9_nextCell 72 = .ok (.iload_n 0, 1) := by decide +kernel
theorem dX9_nextCell_73 : decode cX9_nextCell 73 = .ok (.goto 7, 3) := by decide +kernel
theorem dX9_nextCell_76 : decode cX9_nextCell 76 = .ok (.iload_n 0, 1) := by decide +kernel
theorem dX9_nextCell_77 : decode cX9_nextCell 77 = .ok (.bipush 8, 2) := by decide +kernel
theorem dX9_nextCell_79 : decode cX9_nextCell 79 = .ok (.iadd, 1) := by decide +kernel
theorem dX9_nextCell_80 : decode cX9_nextCell 80 = .ok (.ireturn, 1) := by decide +kernel
theorem dX9_nextCell_81 : decode cX9_nextCell 81 = .ok (.iload_n 0, 1) := by decide +kernel
theorem dX9_nextCell_82 : decode cX9_nextCell 82 = .ok (.bipush 7, 2) := by decide +kernel
theorem dX9_nextCell_84 : decode cX9_nextCell 84 = .ok (.iand, 1) := by decide +kernel
theorem dX9_nextCell_85 : decode cX9_nextCell 85 = .ok (.ifCond .ne 7, 3) := by decide +kernel
theorem dX9_nextCell_88 : decode cX9_nextCell 88 = .ok (.iload_n 0, 1) := by decide +kernel
theorem dX9_nextCell_89 : decode cX9_nextCell 89 = .ok (.goto 6, 3) := by decide +kernel
theorem dX9_nextCell_92 : decode cX9_nextCell 92 = .ok (.iload_n 0, 1) := by decide +kernel
theorem dX9_nextCell_93 : decode cX9_nextCell 93 = .ok (.iconst 1, 1) := by decide +kernel
theorem dX9_nextCell_94 : decode cX9_nextCell 94 = .ok (.isub, 1) := by decide +kernel
theorem dX9_nextCell_95 : decode cX9_nextCell 95 = .ok (.ireturn, 1) := by decide +kernel
theorem dX9_nextCell_96 : decode cX9_nextCell 96 = .ok (.iload_n 0, 1) := by decide +kernel
theorem dX9_nextCell_97 : decode cX9_nextCell 97 = .ok (.ireturn, 1) := by decide +kernel
theorem dX9_firstOfMost_0 : decode cX9_firstOfMost 0 = .ok (.iconst 0, 1) := by decide +kernel
theorem dX9_firstOfMost_1 : decode cX9_firstOfMost 1 = .ok (.istore_n 2, 1) := by decide +kernel
theorem dX9_firstOfMost_2 : decode cX9_firstOfMost 2 = .ok (.iconst 1, 1) := by decide +kernel
theorem dX9_firstOfMost_3 : decode cX9_firstOfMost 3 = .ok (.istore_n 3, 1) := by decide +kernel
theorem dX9_firstOfMost_4 : decode cX9_firstOfMost 4 = .ok (.iload_n 3, 1) := by decide +kernel
theorem dX9_firstOfMost_5 : decode cX9_firstOfMost 5 = .ok (.iload_n 1, 1) := by decide +kernel
theorem dX9_firstOfMost_6 : decode cX9_firstOfMost 6 = .ok (.if_icmp .ge 26, 3) := by decide +kernel
theorem dX9_firstOfMost_9 : decode cX9_firstOfMost 9 = .ok (.iload_n 3, 1) := by decide +kernel
theorem dX9_firstOfMost_10 : decode cX9_firstOfMost 10 = .ok (.aload_n 0, 1) := by decide +kernel
theorem dX9_firstOfMost_11 : decode cX9_firstOfMost 11 = .ok (.arraylength, 1) := by decide +kernel
theorem dX9_firstOfMost_12 : decode cX9_firstOfMost 12 = .ok (.if_icmp .ge 20, 3) := by decide +kernel
theorem dX9_firstOfMost_15 : decode cX9_firstOfMost 15 = .ok (.aload_n 0, 1) := by decide +kernel
theorem dX9_firstOfMost_16 : decode cX9_firstOfMost 16 = .ok (.iload_n 3, 1) := by decide +kernel
theorem dX9_firstOfMost_17 : decode cX9_firstOfMost 17 = .ok (.iaload, 1) := by decide +kernel
theorem dX9_firstOfMost_18 : decode cX9_firstOfMost 18 = .ok (.aload_n 0, 1) := by decide +kernel
theorem dX9_firstOfMost_19 : decode cX9_firstOfMost 19 = .ok (.iload_n 2, 1) := by decide +kernel
theorem dX9_firstOfMost_20 : decode cX9_firstOfMost 20 = .ok (.iaload, 1) := by decide +kernel
theorem dX9_firstOfMost_21 : decode cX9_firstOfMost 21 = .ok (.if_icmp .le 5, 3) := by decide +kernel
theorem dX9_firstOfMost_24 : decode cX9_firstOfMost 24 = .ok (.iload_n 3, 1) := by decide +kernel
theorem dX9_firstOfMost_25 : decode cX9_firstOfMost 25 = .ok (.istore_n 2, 1) := by decide +kernel
theorem dX9_firstOfMost_26 : decode cX9_firstOfMost 26 = .ok (.iinc 3 1, 3) := by decide +kernel
theorem dX9_firstOfMost_29 : decode cX9_firstOfMost 29 = .ok (.goto (-25), 3) := by decide +kernel
theorem dX9_firstOfMost_32 : decode cX9_firstOfMost 32 = .ok (.iload_n 2, 1) := by decide +kernel
theorem dX9_firstOfMost_33 : decode cX9_firstOfMost 33 = .ok (.ireturn, 1) := by decide +kernel
