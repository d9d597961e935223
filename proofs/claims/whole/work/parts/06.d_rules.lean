theorem dX4_init_0 : decode cX4_init 0 = .ok (.aload_n 0, 1) := by decide +kernel
theorem dX4_init_1 : decode cX4_init 1 = .ok (.invokespecial 1, 3) := by decide +kernel
theorem dX4_init_4 : decode cX4_init 4 = .ok (.aload_n 0, 1) := by decide +kernel
theorem dX4_init_5 : decode cX4_init 5 = .ok (.new 7, 3) := by decide +kernel
theorem dX4_init_8 : decode cX4_init 8 = .ok (.dup, 1) := by decide +kernel
theorem dX4_init_9 : decode cX4_init 9 = .ok (.invokespecial 9, 3) := by decide +kernel
theorem dX4_init_12 : decode cX4_init 12 = .ok (.putfield 10, 3) := by decide +kernel
theorem dX4_init_15 : decode cX4_init 15 = .ok (.aload_n 0, 1) := by decide +kernel
theorem dX4_init_16 : decode cX4_init 16 = .ok (.new 16, 3) := by decide +kernel
theorem dX4_init_19 : decode cX4_init 19 = .ok (.dup, 1) := by decide +kernel
theorem dX4_init_20 : decode cX4_init 20 = .ok (.invokespecial 18, 3) := by decide +kernel
theorem dX4_init_23 : decode cX4_init 23 = .ok (.putfield 19, 3) := by decide +kernel
theorem dX4_init_26 : decode cX4_init 26 = .ok (.aload_n 0, 1) := by decide +kernel
theorem dX4_init_27 : decode cX4_init 27 = .ok (.new 23, 3) := by decide +kernel
theorem dX4_init_30 : decode cX4_init 30 = .ok (.dup, 1) := by decide +kernel
theorem dX4_init_31 : decode cX4_init 31 = .ok (.invokespecial 25, 3) := by decide +kernel
theorem dX4_init_34 : decode cX4_init 34 = .ok (.putfield 26, 3) := by decide +kernel
theorem dX4_init_37 : decode cX4_init 37 = .ok (.aload_n 0, 1) := by decide +kernel
theorem dX4_init_38 : decode cX4_init 38 = .ok (.bipush 8, 2) := by decide +kernel
theorem dX4_init_40 : decode cX4_init 40 = .ok (.newarray .int, 2) := by decide +kernel
theorem dX4_init_42 : decode cX4_init 42 = .ok (.putfield 30, 3) := by decide +kernel
theorem dX4_init_45 : decode cX4_init 45 = .ok (.aload_n 0, 1) := by decide +kernel
theorem dX4_init_46 : decode cX4_init 46 = .ok (.bipush 8, 2) := by decide +kernel
theorem dX4_init_48 : decode cX4_init 48 = .ok (.newarray .int, 2) := by decide +kernel
theorem dX4_init_50 : decode cX4_init 50 = .ok (.putfield 34, 3) := by decide +kernel
theorem dX4_init_53 : decode cX4_init 53 = .ok (.aload_n 0, 1) := by decide +kernel
theorem dX4_init_54 : decode cX4_init 54 = .ok (.bipush 8, 2) := by decide +kernel
theorem dX4_init_56 : decode cX4_init 56 = .ok (.newarray .int, 2) := by decide +kernel
theorem dX4_init_58 : decode cX4_init 58 = .ok (.putfield 37, 3) := by decide +kernel
theorem dX4_init_61 : decode cX4_init 61 = .ok (.aload_n 0, 1) := by decide +kernel
theorem dX4_init_62 : decode cX4_init 62 = .ok (.bipush 8, 2) := by decide +kernel
theorem dX4_init_64 : decode cX4_init 64 = .ok (.newarray .int, 2) := by decide +kernel
theorem dX4_init_66 : decode cX4_init 66 = .ok (.putfield 40, 3) := by decide +kernel
theorem dX4_init_69 : decode cX4_init 69 = .ok (.iconst 0, 1) := by decide +kernel
theorem dX4_init_70 : decode cX4_init 70 = .ok (.istore_n 1, 1) := by decide +kernel
theorem dX4_init_71 : decode cX4_init 71 = .ok (.iload_n 1, 1) := by decide +kernel
theorem dX4_init_72 : decode cX4_init 72 = .ok (.bipush 8, 2) := by decide +kernel
theorem dX4_init_74 : decode cX4_init 74 = .ok (.if_icmp .ge 16, 3) := by decide +kernel
theorem dX4_init_77 : decode cX4_init 77 = .ok (.aload_n 0, 1) := by decide +kernel
theorem dX4_init_78 : decode cX4_init 78 = .ok (.getfield 37, 3) := by decide +kernel
theorem dX4_init_81 : decode cX4_init 81 = .ok (.iload_n 1, 1) := by decide +kernel
theorem dX4_init_82 : decode cX4_init 82 = .ok (.iconst 1, 1) := by decide +kernel
theorem dX4_init_83 : decode cX4_init 83 = .ok (.iastore, 1) := by decide +kernel
theorem dX4_init_84 : decode cX4_init 84 = .ok (.iinc 1 1, 3) := by decide +kernel
theorem dX4_init_87 : decode cX4_init 87 = .ok (.goto (-16), 3) := by decide +kernel
theorem dX4_init_90 : decode cX4_init 90 = .ok (.aload_n 0, 1) := by decide +kernel
theorem dX4_init_91 : decode cX4_init 91 = .ok (.iconst 0, 1) := by decide +kernel
theorem dX4_init_92 : decode cX4_init 92 = .ok (.putfield 43, 3) := by decide +kernel
theorem dX4_init_95 : decode cX4_init 95 = .ok (.aload_n 0, 1) := by decide +kernel
theorem dX4_init_96 : decode cX4_init 96 = .ok (.iconst 0, 1) := by decide +kernel
theorem dX4_init_97 : decode cX4_init 97 = .ok (.putfield 47, 3) := by decide +kernel
theorem dX4_init_100 : decode cX4_init 100 = .ok (.return_, 1) := by decide +kernel
theorem dX4_count_0 : decode cX4_count 0 = .ok (.iload_n 1, 1) := by decide +kernel
theorem dX4_count_1 : decode cX4_count 1 = .ok (.tableswitch 63 0 3 #[31, 39, 47, 55], 31) := by decide +kernel
theorem dX4_count_32 : decode cX4_count 32 = .ok (.aload_n 0, 1) := by decide +kernel
theorem dX4_count_33 : decode cX4_count 33 = .ok (.getfield 10, 3) := by decide +kernel
theorem dX4_count_36 : decode cX4_count 36 = .ok (.getfield 100, 3) := by decide +kernel
theorem dX4_count_39 : decode cX4_count 39 = .ok (.ireturn, 1) := by decide +kernel
theorem dX4_count_40 : decode cX4_count 40 = .ok (.aload_n 0, 1) := by decide +kernel
theorem dX4_count_41 : decode cX4_count 41 = .ok (.getfield 19, 3) := by decide +kernel
theorem dX4_count_44 : decode cX4_count 44 = .ok (.getfield 229, 3) := by decide +kernel
theorem dX4_count_47 : decode cX4_count 47 = .ok (.ireturn, 1) := by decide +kernel
theorem dX4_count_48 : decode cX4_count 48 = .ok (.aload_n 0, 1) := by decide +kernel
theorem dX4_count_49 : decode cX4_count 49 = .ok (.getfield 26, 3) := by decide +kernel
theorem dX4_count_52 : decode cX4_count 52 = .ok (.getfield 230, 3) := by decide +kernel
theorem dX4_count_55 : decode cX4_count 55 = .ok (.ireturn, 1) := by decide +kernel
theorem dX4_count_56 : decode cX4_count 56 = .ok (.aload_n 0, 1) := by decide +kernel
theorem dX4_count_57 : decode cX4_count 57 = .ok (.getfield 19, 3) := by decide +kernel
theorem dX4_count_60 : decode cX4_count 60 = .ok (.getfield 233, 3) := by decide +kernel
theorem dX4_count_63 : decode cX4_count 63 = .ok (.ireturn, 1) := by decide +kernel
theorem dX4_count_64 : decode cX4_count 64 = .ok (.iconst (-1), 1) := by decide +kernel
theorem dX4_count_65 : decode cX4_count 65 = .ok (.ireturn, 1) := by decide +kernel
theorem dX4_lot_0 : decode cX4_lot 0 = .ok (.iload_n 1, 1) := by decide +kernel
theorem dX4_lot_1 : decode cX4_lot 1 = .ok (.iconst 0, 1) := by decide +kernel
theorem dX4_lot_2 : decode cX4_lot 2 = .ok (.bipush 9, 2) := by decide +kernel
theorem dX4_lot_4 : decode cX4_lot 4 = .ok (.invokestatic 50, 3) := by decide +kernel
theorem dX4_lot_7 : decode cX4_lot 7 = .ok (.iload_n 2, 1) := by decide +kernel
theorem dX4_lot_8 : decode cX4_lot 8 = .ok (.iconst 0, 1) := by decide +kernel
theorem dX4_lot_9 : decode cX4_lot 9 = .ok (.bipush 7, 2) := by decide +kernel
theorem dX4_lot_11 : decode cX4_lot 11 = .ok (.invokestatic 50, 3) := by decide +kernel
theorem dX4_lot_14 : decode cX4_lot 14 = .ok (.iload_n 3, 1) := by decide +kernel
theorem dX4_lot_15 : decode cX4_lot 15 = .ok (.iconst 0, 1) := by decide +kernel
theorem dX4_lot_16 : decode cX4_lot 16 = .ok (.ldc 54, 2) := by decide +kernel
theorem dX4_lot_18 : decode cX4_lot 18 = .ok (.invokestatic 50, 3) := by decide +kernel
theorem dX4_lot_21 : decode cX4_lot 21 = .ok (.iload 4, 2) := by decide +kernel
theorem dX4_lot_23 : decode cX4_lot 23 = .ok (.iconst 0, 1) := by decide +kernel
theorem dX4_lot_24 : decode cX4_lot 24 = .ok (.ldc 54, 2) := by decide +kernel
theorem dX4_lot_26 : decode cX4_lot 26 = .ok (.invokestatic 50, 3) := by decide +kernel
theorem dX4_lot_29 : decode cX4_lot 29 = .ok (.iload_n 3, 1) := by decide +kernel
theorem dX4_lot_30 : decode cX4_lot 30 = .ok (.iload 4, 2) := by decide +kernel
theorem dX4_lot_32 : decode cX4_lot 32 = .ok (.if_icmp .ge 5, 3) := by decide +kernel
theorem dX4_lot_35 : decode cX4_lot 35 = .ok (.iconst 0, 1) := by decide +kernel
theorem dX4_lot_36 : decode cX4_lot 36 = .ok (.ireturn, 1) := by decide +kernel
theorem dX4_lot_37 : decode cX4_lot 37 = .ok (.aload_n 0, 1) := by decide +kernel
theorem dX4_lot_38 : decode cX4_lot 38 = .ok (.getfield 10, 3) := by decide +kernel
theorem dX4_lot_41 : decode cX4_lot 41 = .ok (.invokevirtual 55, 3) := by decide +kernel
theorem dX4_lot_44 : decode cX4_lot 44 = .ok (.ifCond .eq 18, 3) := by decide +kernel
theorem dX4_lot_47 : decode cX4_lot 47 = .ok (.aload_n 0, 1) := by decide +kernel
theorem dX4_lot_48 : decode cX4_lot 48 = .ok (.getfield 26, 3) := by decide +kernel
theorem dX4_lot_51 : decode cX4_lot 51 = .ok (.iconst 1, 1) := by decide +kernel
theorem dX4_lot_52 : decode cX4_lot 52 = .ok (.invokevirtual 59, 3) := by decide +kernel
theorem dX4_lot_55 : decode cX4_lot 55 = .ok (.ifCond .eq 7, 3) := by decide +kernel
theorem dX4_lot_58 : decode cX4_lot 58 = .ok (.iconst 1, 1) := by decide +kernel
theorem dX4_lot_59 : decode cX4_lot 59 = .ok (.goto 4, 3) := by decide +kernel
theorem dX4_lot_62 : decode cX4_lot 62 = .ok (.iconst 0, 1) := by decide +kernel
theorem dX4_lot_63 : decode cX4_lot 63 = .ok (.invokestatic 63, 3) := by decide +kernel
theorem dX4_lot_66 : decode cX4_lot 66 = .ok (.aload_n 0, 1) := by decide +kernel
theorem dX4_lot_67 : decode cX4_lot 67 = .ok (.getfield 10, 3) := by decide +kernel
theorem dX4_lot_70 : decode cX4_lot 70 = .ok (.iload_n 1, 1) := by decide +kernel
theorem dX4_lot_71 : decode cX4_lot 71 = .ok (.iload_n 2, 1) := by decide +kernel
theorem dX4_lot_72 : decode cX4_lot 72 = .ok (.iload_n 3, 1) := by decide +kernel
theorem dX4_lot_73 : decode cX4_lot 73 = .ok (.iload 4, 2) := by decide +kernel
theorem dX4_lot_75 : decode cX4_lot 75 = .ok (.invokevirtual 67, 3) := by decide +kernel
theorem dX4_lot_78 : decode cX4_lot 78 = .ok (.istore 5, 2) := by decide +kernel
theorem dX4_lot_80 : decode cX4_lot 80 = .ok (.aload_n 0, 1) := by decide +kernel
theorem dX4_lot_81 : decode cX4_lot 81 = .ok (.getfield 26, 3) := by decide +kernel
theorem dX4_lot_84 : decode cX4_lot 84 = .ok (.iload 5, 2) := by decide +kernel
theorem dX4_lot_86 : decode cX4_lot 86 = .ok (.iconst 1, 1) := by decide +kernel
theorem dX4_lot_87 : decode cX4_lot 87 = .ok (.iconst 0, 1) := by decide +kernel
theorem dX4_lot_88 : decode cX4_lot 88 = .ok (.invokevirtual 71, 3) := by decide +kernel
theorem dX4_lot_91 : decode cX4_lot 91 = .ok (.iload 5, 2) := by decide +kernel
theorem dX4_lot_93 : decode cX4_lot 93 = .ok (.ireturn, 1) := by decide +kernel
theorem dX4_requireRange_0 : decode cX4_requireRange 0 = .ok (.iload_n 0, 1) := by decide +kernel
theorem dX4_requireRange_1 : decode cX4_requireRange 1 = .ok (.iload_n 1, 1) := by decide +kernel
theorem dX4_requireRange_2 : decode cX4_requireRange 2 = .ok (.if_icmp .lt 8, 3) := by decide +kernel
theorem dX4_requireRange_5 : decode cX4_requireRange 5 = .ok (.iload_n 0, 1) := by decide +kernel
theorem dX4_requireRange_6 : decode cX4_requireRange 6 = .ok (.iload_n 2, 1) := by decide +kernel
theorem dX4_requireRange_7 : decode cX4_requireRange 7 = .ok (.if_icmp .le 13, 3) := by decide +kernel
theorem dX4_requireRange_10 : decode cX4_requireRange 10 = .ok (.new 170, 3) := by decide +kernel
theorem dX4_requireRange_13 : decode cX4_requireRange 13 = .ok (.dup, 1) := by decide +kernel
theorem dX4_requireRange_14 : decode cX4_requireRange 14 = .ok (.ldc 246, 2) := by decide +kernel
theorem dX4_requireRange_16 : decode cX4_requireRange 16 = .ok (.invokespecial 174, 3) := by decide +kernel
theorem dX4_requireRange_19 : decode cX4_requireRange 19 = .ok (.athrow, 1) := by decide +kernel
theorem dX4_requireRange_20 : decode cX4_requireRange 20 = .ok (.return_, 1) := by decide +kernel
theorem dX4_requireRoom_0 : decode cX4_requireRoom 0 = .ok (.iload_n 0, 1) := by decide +kernel
theorem dX4_requireRoom_1 : decode cX4_requireRoom 1 = .ok (.ifCond .ne 13, 3) := by decide +kernel
theorem dX4_requireRoom_4 : decode cX4_requireRoom 4 = .ok (.new 252, 3) := by decide +kernel
theorem dX4_requireRoom_7 : decode cX4_requireRoom 7 = .ok (.dup, 1) := by decide +kernel
theorem dX4_requireRoom_8 : decode cX4_requireRoom 8 = .ok (.ldc 254, 2) := by decide +kernel
theorem dX4_requireRoom_10 : decode cX4_requireRoom 10 = .ok (.invokespecial 256, 3) := by decide +kernel
theorem dX4_requireRoom_13 : decode cX4_requireRoom 13 = .ok (.athrow, 1) := by decide +kernel
theorem dX4_requireRoom_14 : decode cX4_requireRoom 14 = .ok (.return_, 1) := by decide +kernel
theorem dX4_rule_0 : decode cX4_rule 0 = .ok (.iload_n 1, 1) := by decide +kernel
theorem dX4_rule_1 : decode cX4_rule 1 = .ok (.iconst 0, 1) := by decide +kernel
theorem dX4_rule_2 : decode cX4_rule 2 = .ok (.bipush 7, 2) := by decide +kernel
theorem dX4_rule_4 : decode cX4_rule 4 = .ok (.invokestatic 50, 3) := by decide +kernel
theorem dX4_rule_7 : decode cX4_rule 7 = .ok (.iload_n 2, 1) := by decide +kernel
theorem dX4_rule_8 : decode cX4_rule 8 = .ok (.iconst 0, 1) := by decide +kernel
theorem dX4_rule_9 : decode cX4_rule 9 = .ok (.iconst 1, 1) := by decide +kernel
theorem dX4_rule_10 : decode cX4_rule 10 = .ok (.invokestatic 50, 3) := by decide +kernel
theorem dX4_rule_13 : decode cX4_rule 13 = .ok (.iload_n 2, 1) := by decide +kernel
theorem dX4_rule_14 : decode cX4_rule 14 = .ok (.ifCond .ne 19, 3) := by decide +kernel
theorem dX4_rule_17 : decode cX4_rule 17 = .ok (.iload_n 3, 1) := by decide +kernel
theorem dX4_rule_18 : decode cX4_rule 18 = .ok (.iconst 0, 1) := by decide +kernel
theorem dX4_rule_19 : decode cX4_rule 19 = .ok (.iconst 2, 1) := by decide +kernel
theorem dX4_rule_20 : decode cX4_rule 20 = .ok (.invokestatic 50, 3) := by decide +kernel
theorem dX4_rule_23 : decode cX4_rule 23 = .ok (.aload_n 0, 1) := by decide +kernel
theorem dX4_rule_24 : decode cX4_rule 24 = .ok (.getfield 30, 3) := by decide +kernel
theorem dX4_rule_27 : decode cX4_rule 27 = .ok (.iload_n 1, 1) := by decide +kernel
theorem dX4_rule_28 : decode cX4_rule 28 = .ok (.iload_n 3, 1) := by decide +kernel
theorem dX4_rule_29 : decode cX4_rule 29 = .ok (.iastore, 1) := by decide +kernel
theorem dX4_rule_30 : decode cX4_rule 30 = .ok (.goto 18, 3) := by decide +kernel
theorem dX4_rule_33 : decode cX4_rule 33 = .ok (.iload_n 3, 1) := by decide +kernel
theorem dX4_rule_34 : decode cX4_rule 34 = .ok (.iconst 0, 1) := by decide +kernel
theorem dX4_rule_35 : decode cX4_rule 35 = .ok (.sipush 1000, 3) := by decide +kernel
theorem dX4_rule_38 : decode cX4_rule 38 = .ok (.invokestatic 50, 3) := by decide +kernel
theorem dX4_rule_41 : decode cX4_rule 41 = .ok (.aload_n 0, 1) := by decide +kernel
theorem dX4_rule_42 : decode cX4_rule 42 = .ok (.getfield 34, 3) := by decide +kernel
theorem dX4_rule_45 : decode cX4_rule 45 = .ok (.iload_n 1, 1) := by decide +kernel
theorem dX4_rule_46 : decode cX4_rule 46 = .ok (.iload_n 3, 1) := by decide +kernel
theorem dX4_rule_47 : decode cX4_rule 47 = .ok (.iastore, 1) := by decide +kernel
theorem dX4_rule_48 : decode cX4_rule 48 = .ok (.return_, 1) := by decide +kernel
theorem dX4_wants_0 : decode cX4_wants 0 = .ok (.iload_n 1, 1) := by decide +kernel
theorem dX4_wants_1 : decode cX4_wants 1 = .ok (.iconst 0, 1) := by decide +kernel
theorem dX4_wants_2 : decode cX4_wants 2 = .ok (.bipush 7, 2) := by decide +kernel
theorem dX4_wants_4 : decode cX4_wants 4 = .ok (.invokestatic 50, 3) := by decide +kernel
theorem dX4_wants_7 : decode cX4_wants 7 = .ok (.iload_n 2, 1) := by decide +kernel
theorem dX4_wants_8 : decode cX4_wants 8 = .ok (.iconst 1, 1) := by decide +kernel
theorem dX4_wants_9 : decode cX4_wants 9 = .ok (.sipush 1000, 3) := by decide +kernel
theorem dX4_wants_12 : decode cX4_wants 12 = .ok (.invokestatic 50, 3) := by decide +kernel
theorem dX4_wants_15 : decode cX4_wants 15 = .ok (.aload_n 0, 1) := by decide +kernel
theorem dX4_wants_16 : decode cX4_wants 16 = .ok (.getfield 37, 3) := by decide +kernel
theorem dX4_wants_19 : decode cX4_wants 19 = .ok (.iload_n 1, 1) := by decide +kernel
theorem dX4_wants_20 : decode cX4_wants 20 = .ok (.iload_n 2, 1) := by decide +kernel
theorem dX4_wants_21 : decode cX4_wants 21 = .ok (.iastore, 1) := by decide +kernel
theorem dX4_wants_22 : decode cX4_wants 22 = .ok (.return_, 1) := by decide +kernel
theorem dX4_right_0 : decode cX4_right 0 = .ok (.iload_n 1, 1) := by decide +kernel
theorem dX4_right_1 : decode cX4_right 1 = .ok (.iconst 0, 1) := by decide +kernel
theorem dX4_right_2 : decode cX4_right 2 = .ok (.bipush 7, 2) := by decide +kernel
theorem dX4_right_4 : decode cX4_right 4 = .ok (.invokestatic 50, 3) := by decide +kernel
theorem dX4_right_7 : decode cX4_right 7 = .ok (.iload_n 2, 1) := by decide +kernel
theorem dX4_right_8 : decode cX4_right 8 = .ok (.iconst 1, 1) := by decide +kernel
theorem dX4_right_9 : decode cX4_right 9 = .ok (.bipush 9, 2) := by decide +kernel
theorem dX4_right_11 : decode cX4_right 11 = .ok (.invokestatic 50, 3) := by decide +kernel
theorem dX4_right_14 : decode cX4_right 14 = .ok (.iload_n 3, 1) := by decide +kernel
theorem dX4_right_15 : decode cX4_right 15 = .ok (.ifCond .eq 18, 3) := by decide +kernel
theorem dX4_right_18 : decode cX4_right 18 = .ok (.aload_n 0, 1) := by decide +kernel
theorem dX4_right_19 : decode cX4_right 19 = .ok (.getfield 40, 3) := by decide +kernel
theorem dX4_right_22 : decode cX4_right 22 = .ok (.iload_n 1, 1) := by decide +kernel
theorem dX4_right_23 : decode cX4_right 23 = .ok (.dup2, 1) := by decide +kernel
theorem dX4_right_24 : decode cX4_right 24 = .ok (.iaload, 1) := by decide +kernel
theorem dX4_right_25 : decode cX4_right 25 = .ok (.iconst 1, 1) := by decide +kernel
theorem dX4_right_26 : decode cX4_right 26 = .ok (.iload_n 2, 1) := by decide +kernel
theorem dX4_right_27 : decode cX4_right 27 = .ok (.ishl, 1) := by decide +kernel
theorem dX4_right_28 : decode cX4_right 28 = .ok (.ior, 1) := by decide +kernel
theorem dX4_right_29 : decode cX4_right 29 = .ok (.iastore, 1) := by decide +kernel
theorem dX4_right_30 : decode cX4_right 30 = .ok (.goto 17, 3) := by decide +kernel
theorem dX4_right_33 : decode cX4_right 33 = .ok (.aload_n 0, 1) := by decide +kernel
theorem dX4_right_34 : decode cX4_right 34 = .ok (.getfield 40, 3) := by decide +kernel
theorem dX4_right_37 : decode cX4_right 37 = .ok (.iload_n 1, 1) := by decide +kernel
theorem dX4_right_38 : decode cX4_right 38 = .ok (.dup2, 1) := by decide +kernel
theorem dX4_right_39 : decode cX4_right 39 = .ok (.iaload, 1) := by decide +kernel
theorem dX4_right_40 : decode cX4_right 40 = .ok (.iconst 1, 1) := by decide +kernel
theorem dX4_right_41 : decode cX4_right 41 = .ok (.iload_n 2, 1) := by decide +kernel
theorem dX4_right_42 : decode cX4_right 42 = .ok (.ishl, 1) := by decide +kernel
theorem dX4_right_43 : decode cX4_right 43 = .ok (.iconst (-1), 1) := by decide +kernel
theorem dX4_right_44 : decode cX4_right 44 = .ok (.ixor, 1) := by decide +kernel
theorem dX4_right_45 : decode cX4_right 45 = .ok (.iand, 1) := by decide +kernel
theorem dX4_right_46 : decode cX4_right 46 = .ok (.iastore, 1) := by decide +kernel
theorem dX4_right_47 : decode cX4_right 47 = .ok (.return_, 1) := by decide +kernel
theorem dX4_block_0 : decode cX4_block 0 = .ok (.aload_n 0, 1) := by decide +kernel
theorem dX4_block_1 : decode cX4_block 1 = .ok (.iload_n 1, 1) := by decide +kernel
theorem dX4_block_2 : decode cX4_block 2 = .ok (.invokevirtual 74, 3) := by decide +kernel
theorem dX4_block_5 : decode cX4_block 5 = .ok (.iload_n 2, 1) := by decide +kernel
theorem dX4_block_6 : decode cX4_block 6 = .ok (.iconst 1, 1) := by decide +kernel
theorem dX4_block_7 : decode cX4_block 7 = .ok (.bipush 9, 2) := by decide +kernel
theorem dX4_block_9 : decode cX4_block 9 = .ok (.invokestatic 50, 3) := by decide +kernel
theorem dX4_block_12 : decode cX4_block 12 = .ok (.iconst 1, 1) := by decide +kernel
theorem dX4_block_13 : decode cX4_block 13 = .ok (.iload_n 2, 1) := by decide +kernel
theorem dX4_block_14 : decode cX4_block 14 = .ok (.ishl, 1) := by decide +kernel
theorem dX4_block_15 : decode cX4_block 15 = .ok (.istore_n 3, 1) := by decide +kernel
theorem dX4_block_16 : decode cX4_block 16 = .ok (.aload_n 0, 1) := by decide +kernel
theorem dX4_block_17 : decode cX4_block 17 = .ok (.getfield 10, 3) := by decide +kernel
theorem dX4_block_20 : decode cX4_block 20 = .ok (.getfield 78, 3) := by decide +kernel
theorem dX4_block_23 : decode cX4_block 23 = .ok (.iload_n 1, 1) := by decide +kernel
theorem dX4_block_24 : decode cX4_block 24 = .ok (.baload, 1) := by decide +kernel
theorem dX4_block_25 : decode cX4_block 25 = .ok (.ifCond .eq 21, 3) := by decide +kernel
theorem dX4_block_28 : decode cX4_block 28 = .ok (.aload_n 0, 1) := by decide +kernel
theorem dX4_block_29 : decode cX4_block 29 = .ok (.getfield 10, 3) := by decide +kernel
theorem dX4_block_32 : decode cX4_block 32 = .ok (.getfield 82, 3) := by decide +kernel
theorem dX4_block_35 : decode cX4_block 35 = .ok (.iload_n 1, 1) := by decide +kernel
theorem dX4_block_36 : decode cX4_block 36 = .ok (.iaload, 1) := by decide +kernel
theorem dX4_block_37 : decode cX4_block 37 = .ok (.iload_n 3, 1) := by decide +kernel
theorem dX4_block_38 : decode cX4_block 38 = .ok (.iand, 1) := by decide +kernel
theorem dX4_block_39 : decode cX4_block 39 = .ok (.ifCond .ne 7, 3) := by decide +kernel
theorem dX4_block_42 : decode cX4_block 42 = .ok (.iconst 1, 1) := by decide +kernel
theorem dX4_block_43 : decode cX4_block 43 = .ok (.goto 4, 3) := by decide +kernel
theorem dX4_block_46 : decode cX4_block 46 = .ok (.iconst 0, 1) := by decide +kernel
theorem dX4_block_47 : decode cX4_block 47 = .ok (.invokestatic 85, 3) := by decide +kernel
theorem dX4_block_50 : decode cX4_block 50 = .ok (.aload_n 0, 1) := by decide +kernel
theorem dX4_block_51 : decode cX4_block 51 = .ok (.getfield 26, 3) := by decide +kernel
theorem dX4_block_54 : decode cX4_block 54 = .ok (.iconst 1, 1) := by decide +kernel
theorem dX4_block_55 : decode cX4_block 55 = .ok (.invokevirtual 59, 3) := by decide +kernel
theorem dX4_block_58 : decode cX4_block 58 = .ok (.invokestatic 63, 3) := by decide +kernel
theorem dX4_block_61 : decode cX4_block 61 = .ok (.aload_n 0, 1) := by decide +kernel
theorem dX4_block_62 : decode cX4_block 62 = .ok (.getfield 10, 3) := by decide +kernel
theorem dX4_block_65 : decode cX4_block 65 = .ok (.getfield 82, 3) := by decide +kernel
theorem dX4_block_68 : decode cX4_block 68 = .ok (.iload_n 1, 1) := by decide +kernel
theorem dX4_block_69 : decode cX4_block 69 = .ok (.dup2, 1) := by decide +kernel
theorem dX4_block_70 : decode cX4_block 70 = .ok (.iaload, 1) := by decide +kernel
theorem dX4_block_71 : decode cX4_block 71 = .ok (.iload_n 3, 1) := by decide +kernel
theorem dX4_block_72 : decode cX4_block 72 = .ok (.ior, 1) := by decide +kernel
theorem dX4_block_73 : decode cX4_block 73 = .ok (.iastore, 1) := by decide +kernel
theorem dX4_block_74 : decode cX4_block 74 = .ok (.aload_n 0, 1) := by decide +kernel
theorem dX4_block_75 : decode cX4_block 75 = .ok (.getfield 26, 3) := by decide +kernel
theorem dX4_block_78 : decode cX4_block 78 = .ok (.iload_n 1, 1) := by decide +kernel
theorem dX4_block_79 : decode cX4_block 79 = .ok (.bipush 6, 2) := by decide +kernel
theorem dX4_block_81 : decode cX4_block 81 = .ok (.iload_n 2, 1) := by decide +kernel
theorem dX4_block_82 : decode cX4_block 82 = .ok (.invokevirtual 71, 3) := by decide +kernel
theorem dX4_block_85 : decode cX4_block 85 = .ok (.aload_n 0, 1) := by decide +kernel
theorem dX4_block_86 : decode cX4_block 86 = .ok (.getfield 10, 3) := by decide +kernel
theorem dX4_block_89 : decode cX4_block 89 = .ok (.getfield 82, 3) := by decide +kernel
theorem dX4_block_92 : decode cX4_block 92 = .ok (.iload_n 1, 1) := by decide +kernel
theorem dX4_block_93 : decode cX4_block 93 = .ok (.iaload, 1) := by decide +kernel
theorem dX4_block_94 : decode cX4_block 94 = .ok (.invokestatic 88, 3) := by decide +kernel
theorem dX4_block_97 : decode cX4_block 97 = .ok (.ireturn, 1) := by decide +kernel
theorem dX4_requireLot_0 : decode cX4_requireLot 0 = .ok (.iload_n 1, 1) := by decide +kernel
theorem dX4_requireLot_1 : decode cX4_requireLot 1 = .ok (.iconst 1, 1) := by decide +kernel
theorem dX4_requireLot_2 : decode cX4_requireLot 2 = .ok (.if_icmp .lt 14, 3) := by decide +kernel
theorem dX4_requireLot_5 : decode cX4_requireLot 5 = .ok (.iload_n 1, 1) := by decide +kernel
theorem dX4_requireLot_6 : decode cX4_requireLot 6 = .ok (.aload_n 0, 1) := by decide +kernel
theorem dX4_requireLot_7 : decode cX4_requireLot 7 = .ok (.getfield 10, 3) := by decide +kernel
theorem dX4_requireLot_10 : decode cX4_requireLot 10 = .ok (.getfield 100, 3) := by decide +kernel
theorem dX4_requireLot_13 : decode cX4_requireLot 13 = .ok (.if_icmp .le 13, 3) := by decide +kernel
theorem dX4_requireLot_16 : decode cX4_requireLot 16 = .ok (.new 178, 3) := by decide +kernel
theorem dX4_requireLot_19 : decode cX4_requireLot 19 = .ok (.dup, 1) := by decide +kernel
theorem dX4_requireLot_20 : decode cX4_requireLot 20 = .ok (.ldc 242, 2) := by decide +kernel
theorem dX4_requireLot_22 : decode cX4_requireLot 22 = .ok (.invokespecial 182, 3) := by decide +kernel
theorem dX4_requireLot_25 : decode cX4_requireLot 25 = .ok (.athrow, 1) := by decide +kernel
theorem dX4_requireLot_26 : decode cX4_requireLot 26 = .ok (.return_, 1) := by decide +kernel
theorem dX4_requireState_0 : decode cX4_requireState 0 = .ok (.iload_n 0, 1) := by decide +kernel
theorem dX4_requireState_1 : decode cX4_requireState 1 = .ok (.ifCond .ne 13, 3) := by decide +kernel
theorem dX4_requireState_4 : decode cX4_requireState 4 = .ok (.new 146, 3) := by decide +kernel
theorem dX4_requireState_7 : decode cX4_requireState 7 = .ok (.dup, 1) := by decide +kernel
theorem dX4_requireState_8 : decode cX4_requireState 8 = .ok (.ldc 250, 2) := by decide +kernel
theorem dX4_requireState_10 : decode cX4_requireState 10 = .ok (.invokespecial 150, 3) := by decide +kernel
theorem dX4_requireState_13 : decode cX4_requireState 13 = .ok (.athrow, 1) := by decide +kernel
theorem dX4_requireState_14 : decode cX4_requireState 14 = .ok (.return_, 1) := by decide +kernel
theorem dX4_release_0 : decode cX4_release 0 = .ok (.aload_n 0, 1) := by decide +kernel
theorem dX4_release_1 : decode cX4_release 1 = .ok (.iload_n 1, 1) := by decide +kernel
theorem dX4_release_2 : decode cX4_release 2 = .ok (.invokevirtual 74, 3) := by decide +kernel
theorem dX4_release_5 : decode cX4_release 5 = .ok (.iload_n 2, 1) := by decide +kernel
theorem dX4_release_6 : decode cX4_release 6 = .ok (.iconst 0, 1) := by decide +kernel
theorem dX4_release_7 : decode cX4_release 7 = .ok (.bipush 7, 2) := by decide +kernel
theorem dX4_release_9 : decode cX4_release 9 = .ok (.invokestatic 50, 3) := by decide +kernel
theorem dX4_release_12 : decode cX4_release 12 = .ok (.aload_n 0, 1) := by decide +kernel
theorem dX4_release_13 : decode cX4_release 13 = .ok (.getfield 10, 3) := by decide +kernel
theorem dX4_release_16 : decode cX4_release 16 = .ok (.getfield 82, 3) := by decide +kernel
theorem dX4_release_19 : decode cX4_release 19 = .ok (.iload_n 1, 1) := by decide +kernel
theorem dX4_release_20 : decode cX4_release 20 = .ok (.iaload, 1) := by decide +kernel
theorem dX4_release_21 : decode cX4_release 21 = .ok (.aload_n 0, 1) := by decide +kernel
theorem dX4_release_22 : decode cX4_release 22 = .ok (.getfield 40, 3) := by decide +kernel
theorem dX4_release_25 : decode cX4_release 25 = .ok (.iload_n 2, 1) := by decide +kernel
theorem dX4_release_26 : decode cX4_release 26 = .ok (.iaload, 1) := by decide +kernel
theorem dX4_release_27 : decode cX4_release 27 = .ok (.iand, 1) := by decide +kernel
theorem dX4_release_28 : decode cX4_release 28 = .ok (.istore_n 3, 1) := by decide +kernel
theorem dX4_release_29 : decode cX4_release 29 = .ok (.aload_n 0, 1) := by decide +kernel
theorem dX4_release_30 : decode cX4_release 30 = .ok (.getfield 10, 3) := by decide +kernel
theorem dX4_release_33 : decode cX4_release 33 = .ok (.getfield 78, 3) := by decide +kernel
theorem dX4_release_36 : decode cX4_release 36 = .ok (.iload_n 1, 1) := by decide +kernel
theorem dX4_release_37 : decode cX4_release 37 = .ok (.baload, 1) := by decide +kernel
theorem dX4_release_38 : decode cX4_release 38 = .ok (.ifCond .eq 11, 3) := by decide +kernel
theorem dX4_release_41 : decode cX4_release 41 = .ok (.iload_n 3, 1) := by decide +kernel
theorem dX4_release_42 : decode cX4_release 42 = .ok (.ifCond .eq 7, 3) := by decide +kernel
theorem dX4_release_45 : decode cX4_release 45 = .ok (.iconst 1, 1) := by decide +kernel
theorem dX4_release_46 : decode cX4_release 46 = .ok (.goto 4, 3) := by decide +kernel
theorem dX4_release_49 : decode cX4_release 49 = .ok (.iconst 0, 1) := by decide +kernel
theorem dX4_release_50 : decode cX4_release 50 = .ok (.invokestatic 85, 3) := by decide +kernel
theorem dX4_release_53 : decode cX4_release 53 = .ok (.aload_n 0, 1) := by decide +kernel
theorem dX4_release_54 : decode cX4_release 54 = .ok (.getfield 26, 3) := by decide +kernel
theorem dX4_release_57 : decode cX4_release 57 = .ok (.iconst 1, 1) := by decide +kernel
theorem dX4_release_58 : decode cX4_release 58 = .ok (.invokevirtual 59, 3) := by decide +kernel
theorem dX4_release_61 : decode cX4_release 61 = .ok (.invokestatic 63, 3) := by decide +kernel
theorem dX4_release_64 : decode cX4_release 64 = .ok (.aload_n 0, 1) := by decide +kernel
theorem dX4_release_65 : decode cX4_release 65 = .ok (.getfield 10, 3) := by decide +kernel
theorem dX4_release_68 : decode cX4_release 68 = .ok (.getfield 82, 3) := by decide +kernel
theorem dX4_release_71 : decode cX4_release 71 = .ok (.iload_n 1, 1) := by decide +kernel
theorem dX4_release_72 : decode cX4_release 72 = .ok (.dup2, 1) := by decide +kernel
theorem dX4_release_73 : decode cX4_release 73 = .ok (.iaload, 1) := by decide +kernel
theorem dX4_release_74 : decode cX4_release 74 = .ok (.iload_n 3, 1) := by decide +kernel
theorem dX4_release_75 : decode cX4_release 75 = .ok (.iconst (-1), 1) := by decide +kernel
theorem dX4_release_76 : decode cX4_release 76 = .ok (.ixor, 1) := by decide +kernel
theorem dX4_release_77 : decode cX4_release 77 = .ok (.iand, 1) := by decide +kernel
theorem dX4_release_78 : decode cX4_release 78 = .ok (.iastore, 1) := by decide +kernel
theorem dX4_release_79 : decode cX4_release 79 = .ok (.aload_n 0, 1) := by decide +kernel
theorem dX4_release_80 : decode cX4_release 80 = .ok (.getfield 26, 3) := by decide +kernel
theorem dX4_release_83 : decode cX4_release 83 = .ok (.iload_n 1, 1) := by decide +kernel
theorem dX4_release_84 : decode cX4_release 84 = .ok (.bipush 7, 2) := by decide +kernel
theorem dX4_release_86 : decode cX4_release 86 = .ok (.iload_n 2, 1) := by decide +kernel
theorem dX4_release_87 : decode cX4_release 87 = .ok (.invokevirtual 71, 3) := by decide +kernel
theorem dX4_release_90 : decode cX4_release 90 = .ok (.iload_n 3, 1) := by decide +kernel
theorem dX4_release_91 : decode cX4_release 91 = .ok (.invokestatic 88, 3) := by decide +kernel
theorem dX4_release_94 : decode cX4_release 94 = .ok (.ireturn, 1) := by decide +kernel
theorem dX4_quarantine_0 : decode cX4_quarantine 0 = .ok (.aload_n 0, 1) := by decide +kernel
theorem dX4_quarantine_1 : decode cX4_quarantine 1 = .ok (.iload_n 1, 1) := by decide +kernel
theorem dX4_quarantine_2 : decode cX4_quarantine 2 = .ok (.invokevirtual 74, 3) := by decide +kernel
theorem dX4_quarantine_5 : decode cX4_quarantine 5 = .ok (.aload_n 0, 1) := by decide +kernel
theorem dX4_quarantine_6 : decode cX4_quarantine 6 = .ok (.getfield 10, 3) := by decide +kernel
theorem dX4_quarantine_9 : decode cX4_quarantine 9 = .ok (.getfield 78, 3) := by decide +kernel
theorem dX4_quarantine_12 : decode cX4_quarantine 12 = .ok (.iload_n 1, 1) := by decide +kernel
theorem dX4_quarantine_13 : decode cX4_quarantine 13 = .ok (.baload, 1) := by decide +kernel
theorem dX4_quarantine_14 : decode cX4_quarantine 14 = .ok (.ifCond .eq 20, 3) := by decide +kernel
theorem dX4_quarantine_17 : decode cX4_quarantine 17 = .ok (.aload_n 0, 1) := by decide +kernel
theorem dX4_quarantine_18 : decode cX4_quarantine 18 = .ok (.getfield 10, 3) := by decide +kernel
theorem dX4_quarantine_21 : decode cX4_quarantine 21 = .ok (.getfield 94, 3) := by decide +kernel
theorem dX4_quarantine_24 : decode cX4_quarantine 24 = .ok (.iload_n 1, 1) := by decide +kernel
theorem dX4_quarantine_25 : decode cX4_quarantine 25 = .ok (.baload, 1) := by decide +kernel
theorem dX4_quarantine_26 : decode cX4_quarantine 26 = .ok (.iload_n 2, 1) := by decide +kernel
theorem dX4_quarantine_27 : decode cX4_quarantine 27 = .ok (.if_icmp .eq 7, 3) := by decide +kernel
theorem dX4_quarantine_30 : decode cX4_quarantine 30 = .ok (.iconst 1, 1) := by decide +kernel
theorem dX4_quarantine_31 : decode cX4_quarantine 31 = .ok (.goto 4, 3) := by decide +kernel
theorem dX4_quarantine_34 : decode cX4_quarantine 34 = .ok (.iconst 0, 1) := by decide +kernel
theorem dX4_quarantine_35 : decode cX4_quarantine 35 = .ok (.invokestatic 85, 3) := by decide +kernel
theorem dX4_quarantine_38 : decode cX4_quarantine 38 = .ok (.aload_n 0, 1) := by decide +kernel
theorem dX4_quarantine_39 : decode cX4_quarantine 39 = .ok (.getfield 26, 3) := by decide +kernel
theorem dX4_quarantine_42 : decode cX4_quarantine 42 = .ok (.iconst 1, 1) := by decide +kernel
theorem dX4_quarantine_43 : decode cX4_quarantine 43 = .ok (.invokevirtual 59, 3) := by decide +kernel
theorem dX4_quarantine_46 : decode cX4_quarantine 46 = .ok (.invokestatic 63, 3) := by decide +kernel
theorem dX4_quarantine_49 : decode cX4_quarantine 49 = .ok (.aload_n 0, 1) := by decide +kernel
theorem dX4_quarantine_50 : decode cX4_quarantine 50 = .ok (.getfield 10, 3) := by decide +kernel
theorem dX4_quarantine_53 : decode cX4_quarantine 53 = .ok (.getfield 94, 3) := by decide +kernel
theorem dX4_quarantine_56 : decode cX4_quarantine 56 = .ok (.iload_n 1, 1) := by decide +kernel
theorem dX4_quarantine_57 : decode cX4_quarantine 57 = .ok (.iload_n 2, 1) := by decide +kernel
theorem dX4_quarantine_58 : decode cX4_quarantine 58 = .ok (.bastore, 1) := by decide +kernel
theorem dX4_quarantine_59 : decode cX4_quarantine 59 = .ok (.aload_n 0, 1) := by decide +kernel
theorem dX4_quarantine_60 : decode cX4_quarantine 60 = .ok (.getfield 26, 3) := by decide +kernel
theorem dX4_quarantine_63 : decode cX4_quarantine 63 = .ok (.iload_n 1, 1) := by decide +kernel
theorem dX4_quarantine_64 : decode cX4_quarantine 64 = .ok (.iload_n 2, 1) := by decide +kernel
theorem dX4_quarantine_65 : decode cX4_quarantine 65 = .ok (.ifCond .eq 8, 3) := by decide +kernel
theorem dX4_quarantine_68 : decode cX4_quarantine 68 = .ok (.bipush 8, 2) := by decide +kernel
theorem dX4_quarantine_70 : decode cX4_quarantine 70 = .ok (.goto 5, 3) := by decide +kernel
theorem dX4_quarantine_73 : decode cX4_quarantine 73 = .ok (.bipush 9, 2) := by decide +kernel
theorem dX4_quarantine_75 : decode cX4_quarantine 75 = .ok (.iconst 0, 1) := by decide +kernel
theorem dX4_quarantine_76 : decode cX4_quarantine 76 = .ok (.invokevirtual 71, 3) := by decide +kernel
theorem dX4_quarantine_79 : decode cX4_quarantine 79 = .ok (.return_, 1) := by decide +kernel
theorem dX4_order_0 : decode cX4_order 0 = .ok (.iload_n 1, 1) := by decide +kernel
theorem dX4_order_1 : decode cX4_order 1 = .ok (.iconst 0, 1) := by decide +kernel
theorem dX4_order_2 : decode cX4_order 2 = .ok (.bipush 9, 2) := by decide +kernel
theorem dX4_order_4 : decode cX4_order 4 = .ok (.invokestatic 50, 3) := by decide +kernel
theorem dX4_order_7 : decode cX4_order 7 = .ok (.iload_n 2, 1) := by decide +kernel
theorem dX4_order_8 : decode cX4_order 8 = .ok (.iconst 0, 1) := by decide +kernel
theorem dX4_order_9 : decode cX4_order 9 = .ok (.bipush 7, 2) := by decide +kernel
theorem dX4_order_11 : decode cX4_order 11 = .ok (.invokestatic 50, 3) := by decide +kernel
theorem dX4_order_14 : decode cX4_order 14 = .ok (.iload_n 3, 1) := by decide +kernel
theorem dX4_order_15 : decode cX4_order 15 = .ok (.invokestatic 97, 3) := by decide +kernel
theorem dX4_order_18 : decode cX4_order 18 = .ok (.iconst 1, 1) := by decide +kernel
theorem dX4_order_19 : decode cX4_order 19 = .ok (.istore 4, 2) := by decide +kernel
theorem dX4_order_21 : decode cX4_order 21 = .ok (.iload 4, 2) := by decide +kernel
theorem dX4_order_23 : decode cX4_order 23 = .ok (.aload_n 0, 1) := by decide +kernel
theorem dX4_order_24 : decode cX4_order 24 = .ok (.getfield 10, 3) := by decide +kernel
theorem dX4_order_27 : decode cX4_order 27 = .ok (.getfield 100, 3) := by decide +kernel
theorem dX4_order_30 : decode cX4_order 30 = .ok (.if_icmp .gt 45, 3) := by decide +kernel
theorem dX4_order_33 : decode cX4_order 33 = .ok (.aload_n 0, 1) := by decide +kernel
theorem dX4_order_34 : decode cX4_order 34 = .ok (.getfield 10, 3) := by decide +kernel
theorem dX4_order_37 : decode cX4_order 37 = .ok (.iload 4, 2) := by decide +kernel
theorem dX4_order_39 : decode cX4_order 39 = .ok (.iload_n 1, 1) := by decide +kernel
theorem dX4_order_40 : decode cX4_order 40 = .ok (.iload_n 2, 1) := by decide +kernel
theorem dX4_order_41 : decode cX4_order 41 = .ok (.invokevirtual 103, 3) := by decide +kernel
theorem dX4_order_44 : decode cX4_order 44 = .ok (.ifCond .eq 25, 3) := by decide +kernel
theorem dX4_order_47 : decode cX4_order 47 = .ok (.aload_n 0, 1) := by decide +kernel
theorem dX4_order_48 : decode cX4_order 48 = .ok (.getfield 10, 3) := by decide +kernel
theorem dX4_order_51 : decode cX4_order 51 = .ok (.iload 4, 2) := by decide +kernel
theorem dX4_order_53 : decode cX4_order 53 = .ok (.aload_n 0, 1) := by decide +kernel
theorem dX4_order_54 : decode cX4_order 54 = .ok (.getfield 30, 3) := by decide +kernel
theorem dX4_order_57 : decode cX4_order 57 = .ok (.iload_n 2, 1) := by decide +kernel
theorem dX4_order_58 : decode cX4_order 58 = .ok (.iaload, 1) := by decide +kernel
theorem dX4_order_59 : decode cX4_order 59 = .ok (.invokevirtual 107, 3) := by decide +kernel
theorem dX4_order_62 : decode cX4_order 62 = .ok (.iload_n 3, 1) := by decide +kernel
theorem dX4_order_63 : decode cX4_order 63 = .ok (.if_icmp .ne 6, 3) := by decide +kernel
theorem dX4_order_66 : decode cX4_order 66 = .ok (.iload 4, 2) := by decide +kernel
theorem dX4_order_68 : decode cX4_order 68 = .ok (.ireturn, 1) := by decide +kernel
theorem dX4_order_69 : decode cX4_order 69 = .ok (.iinc 4 1, 3) := by decide +kernel
theorem dX4_order_72 : decode cX4_order 72 = .ok (.goto (-51), 3) := by decide +kernel
theorem dX4_order_75 : decode cX4_order 75 = .ok (.iconst (-1), 1) := by decide +kernel
theorem dX4_order_76 : decode cX4_order 76 = .ok (.ireturn, 1) := by decide +kernel
theorem dX4_requireNotNegative_0 : decode cX4_requireNotNegative 0 = .ok (.iload_n 0, 1) := by decide +kernel
theorem dX4_requireNotNegative_1 : decode cX4_requireNotNegative 1 = .ok (.ifCond .ge 13, 3) := by decide +kernel
theorem dX4_requireNotNegative_4 : decode cX4_requireNotNegative 4 = .ok (.new 170, 3) := by decide +kernel
theorem dX4_requireNotNegative_7 : decode cX4_requireNotNegative 7 = .ok (.dup, 1) := by decide +kernel
theorem dX4_requireNotNegative_8 : decode cX4_requireNotNegative 8 = .ok (.ldc 248, 2) := by decide +kernel
theorem dX4_requireNotNegative_10 : decode cX4_requireNotNegative 10 = .ok (.invokespecial 174, 3) := by decide +kernel
theorem dX4_requireNotNegative_13 : decode cX4_requireNotNegative 13 = .ok (.athrow, 1) := by decide +kernel
theorem dX4_requireNotNegative_14 : decode cX4_requireNotNegative 14 = .ok (.return_, 1) := by decide +kernel
theorem dX4_allowed_0 : decode cX4_allowed 0 = .ok (.aload_n 0, 1) := by decide +kernel
theorem dX4_allowed_1 : decode cX4_allowed 1 = .ok (.iload_n 1, 1) := by decide +kernel
theorem dX4_allowed_2 : decode cX4_allowed 2 = .ok (.invokevirtual 74, 3) := by decide +kernel
theorem dX4_allowed_5 : decode cX4_allowed 5 = .ok (.iload_n 2, 1) := by decide +kernel
theorem dX4_allowed_6 : decode cX4_allowed 6 = .ok (.iconst 0, 1) := by decide +kernel
theorem dX4_allowed_7 : decode cX4_allowed 7 = .ok (.bipush 7, 2) := by decide +kernel
theorem dX4_allowed_9 : decode cX4_allowed 9 = .ok (.invokestatic 50, 3) := by decide +kernel
theorem dX4_allowed_12 : decode cX4_allowed 12 = .ok (.iload_n 3, 1) := by decide +kernel
theorem dX4_allowed_13 : decode cX4_allowed 13 = .ok (.iconst 0, 1) := by decide +kernel
theorem dX4_allowed_14 : decode cX4_allowed 14 = .ok (.ldc 54, 2) := by decide +kernel
theorem dX4_allowed_16 : decode cX4_allowed 16 = .ok (.invokestatic 50, 3) := by decide +kernel
theorem dX4_allowed_19 : decode cX4_allowed 19 = .ok (.aload_n 0, 1) := by decide +kernel
theorem dX4_allowed_20 : decode cX4_allowed 20 = .ok (.iload_n 1, 1) := by decide +kernel
theorem dX4_allowed_21 : decode cX4_allowed 21 = .ok (.iload_n 2, 1) := by decide +kernel
theorem dX4_allowed_22 : decode cX4_allowed 22 = .ok (.iload_n 3, 1) := by decide +kernel
theorem dX4_allowed_23 : decode cX4_allowed 23 = .ok (.invokevirtual 111, 3) := by decide +kernel
theorem dX4_allowed_26 : decode cX4_allowed 26 = .ok (.ireturn, 1) := by decide +kernel
theorem dX4_mayGo_0 : decode cX4_mayGo 0 = .ok (.aload_n 0, 1) := by decide +kernel
theorem dX4_mayGo_1 : decode cX4_mayGo 1 = .ok (.getfield 10, 3) := by decide +kernel
theorem dX4_mayGo_4 : decode cX4_mayGo 4 = .ok (.iload_n 1, 1) := by decide +kernel
theorem dX4_mayGo_5 : decode cX4_mayGo 5 = .ok (.invokevirtual 236, 3) := by decide +kernel
theorem dX4_mayGo_8 : decode cX4_mayGo 8 = .ok (.ifCond .eq 55, 3) := by decide +kernel
theorem dX4_mayGo_11 : decode cX4_mayGo 11 = .ok (.iload_n 3, 1) := by decide +kernel
theorem dX4_mayGo_12 : decode cX4_mayGo 12 = .ok (.aload_n 0, 1) := by decide +kernel
theorem dX4_mayGo_13 : decode cX4_mayGo 13 = .ok (.getfield 10, 3) := by decide +kernel
theorem dX4_mayGo_16 : decode cX4_mayGo 16 = .ok (.getfield 198, 3) := by decide +kernel
theorem dX4_mayGo_19 : decode cX4_mayGo 19 = .ok (.iload_n 1, 1) := by decide +kernel
theorem dX4_mayGo_20 : decode cX4_mayGo 20 = .ok (.iaload, 1) := by decide +kernel
theorem dX4_mayGo_21 : decode cX4_mayGo 21 = .ok (.if_icmp .lt 42, 3) := by decide +kernel
theorem dX4_mayGo_24 : decode cX4_mayGo 24 = .ok (.iload_n 3, 1) := by decide +kernel
theorem dX4_mayGo_25 : decode cX4_mayGo 25 = .ok (.aload_n 0, 1) := by decide +kernel
theorem dX4_mayGo_26 : decode cX4_mayGo 26 = .ok (.getfield 10, 3) := by decide +kernel
theorem dX4_mayGo_29 : decode cX4_mayGo 29 = .ok (.getfield 195, 3) := by decide +kernel
theorem dX4_mayGo_32 : decode cX4_mayGo 32 = .ok (.iload_n 1, 1) := by decide +kernel
theorem dX4_mayGo_33 : decode cX4_mayGo 33 = .ok (.iaload, 1) := by decide +kernel
theorem dX4_mayGo_34 : decode cX4_mayGo 34 = .ok (.if_icmp .gt 29, 3) := by decide +kernel
theorem dX4_mayGo_37 : decode cX4_mayGo 37 = .ok (.aload_n 0, 1) := by decide +kernel
theorem dX4_mayGo_38 : decode cX4_mayGo 38 = .ok (.getfield 10, 3) := by decide +kernel
theorem dX4_mayGo_41 : decode cX4_mayGo 41 = .ok (.getfield 195, 3) := by decide +kernel
theorem dX4_mayGo_44 : decode cX4_mayGo 44 = .ok (.iload_n 1, 1) := by decide +kernel
theorem dX4_mayGo_45 : decode cX4_mayGo 45 = .ok (.iaload, 1) := by decide +kernel
theorem dX4_mayGo_46 : decode cX4_mayGo 46 = .ok (.iload_n 3, 1) := by decide +kernel
theorem dX4_mayGo_47 : decode cX4_mayGo 47 = .ok (.isub, 1) := by decide +kernel
theorem dX4_mayGo_48 : decode cX4_mayGo 48 = .ok (.iconst 1, 1) := by decide +kernel
theorem dX4_mayGo_49 : decode cX4_mayGo 49 = .ok (.iadd, 1) := by decide +kernel
theorem dX4_mayGo_50 : decode cX4_mayGo 50 = .ok (.aload_n 0, 1) := by decide +kernel
theorem dX4_mayGo_51 : decode cX4_mayGo 51 = .ok (.getfield 37, 3) := by decide +kernel
theorem dX4_mayGo_54 : decode cX4_mayGo 54 = .ok (.iload_n 2, 1) := by decide +kernel
theorem dX4_mayGo_55 : decode cX4_mayGo 55 = .ok (.iaload, 1) := by decide +kernel
theorem dX4_mayGo_56 : decode cX4_mayGo 56 = .ok (.if_icmp .lt 7, 3) := by decide +kernel
theorem dX4_mayGo_59 : decode cX4_mayGo 59 = .ok (.iconst 1, 1) := by decide +kernel
theorem dX4_mayGo_60 : decode cX4_mayGo 60 = .ok (.goto 4, 3) := by decide +kernel
theorem dX4_mayGo_63 : decode cX4_mayGo 63 = .ok (.iconst 0, 1) := by decide +kernel
theorem dX4_mayGo_64 : decode cX4_mayGo 64 = .ok (.ireturn, 1) := by decide +kernel
theorem dX4_split_0 : decode cX4_split 0 = .ok (.aload_n 0, 1) := by decide +kernel
theorem dX4_split_1 : decode cX4_split 1 = .ok (.iload_n 1, 1) := by decide +kernel
theorem dX4_split_2 : decode cX4_split 2 = .ok (.invokevirtual 74, 3) := by decide +kernel
theorem dX4_split_5 : decode cX4_split 5 = .ok (.aload_n 0, 1) := by decide +kernel
theorem dX4_split_6 : decode cX4_split 6 = .ok (.getfield 10, 3) := by decide +kernel
theorem dX4_split_9 : decode cX4_split 9 = .ok (.getfield 78, 3) := by decide +kernel
theorem dX4_split_12 : decode cX4_split 12 = .ok (.iload_n 1, 1) := by decide +kernel
theorem dX4_split_13 : decode cX4_split 13 = .ok (.baload, 1) := by decide +kernel
theorem dX4_split_14 : decode cX4_split 14 = .ok (.invokestatic 85, 3) := by decide +kernel
theorem dX4_split_17 : decode cX4_split 17 = .ok (.aload_n 0, 1) := by decide +kernel
theorem dX4_split_18 : decode cX4_split 18 = .ok (.getfield 10, 3) := by decide +kernel
theorem dX4_split_21 : decode cX4_split 21 = .ok (.invokevirtual 55, 3) := by decide +kernel
theorem dX4_split_24 : decode cX4_split 24 = .ok (.ifCond .eq 18, 3) := by decide +kernel
theorem dX4_split_27 : decode cX4_split 27 = .ok (.aload_n 0, 1) := by decide +kernel
theorem dX4_split_28 : decode cX4_split 28 = .ok (.getfield 26, 3) := by decide +kernel
theorem dX4_split_31 : decode cX4_split 31 = .ok (.iconst 2, 1) := by decide +kernel
theorem dX4_split_32 : decode cX4_split 32 = .ok (.invokevirtual 59, 3) := by decide +kernel
theorem dX4_split_35 : decode cX4_split 35 = .ok (.ifCond .eq 7, 3) := by decide +kernel
theorem dX4_split_38 : decode cX4_split 38 = .ok (.iconst 1, 1) := by decide +kernel
theorem dX4_split_39 : decode cX4_split 39 = .ok (.goto 4, 3) := by decide +kernel
theorem dX4_split_42 : decode cX4_split 42 = .ok (.iconst 0, 1) := by decide +kernel
theorem dX4_split_43 : decode cX4_split 43 = .ok (.invokestatic 63, 3) := by decide +kernel
theorem dX4_split_46 : decode cX4_split 46 = .ok (.aload_n 0, 1) := by decide +kernel
theorem dX4_split_47 : decode cX4_split 47 = .ok (.getfield 10, 3) := by decide +kernel
theorem dX4_split_50 : decode cX4_split 50 = .ok (.iload_n 1, 1) := by decide +kernel
theorem dX4_split_51 : decode cX4_split 51 = .ok (.invokevirtual 114, 3) := by decide +kernel
theorem dX4_split_54 : decode cX4_split 54 = .ok (.istore_n 2, 1) := by decide +kernel
theorem dX4_split_55 : decode cX4_split 55 = .ok (.aload_n 0, 1) := by decide +kernel
theorem dX4_split_56 : decode cX4_split 56 = .ok (.getfield 26, 3) := by decide +kernel
theorem dX4_split_59 : decode cX4_split 59 = .ok (.iload_n 2, 1) := by decide +kernel
theorem dX4_split_60 : decode cX4_split 60 = .ok (.iconst 2, 1) := by decide +kernel
theorem dX4_split_61 : decode cX4_split 61 = .ok (.iload_n 1, 1) := by decide +kernel
theorem dX4_split_62 : decode cX4_split 62 = .ok (.invokevirtual 71, 3) := by decide +kernel
theorem dX4_split_65 : decode cX4_split 65 = .ok (.aload_n 0, 1) := by decide +kernel
theorem dX4_split_66 : decode cX4_split 66 = .ok (.getfield 26, 3) := by decide +kernel
theorem dX4_split_69 : decode cX4_split 69 = .ok (.iload_n 1, 1) := by decide +kernel
theorem dX4_split_70 : decode cX4_split 70 = .ok (.iconst 3, 1) := by decide +kernel
theorem dX4_split_71 : decode cX4_split 71 = .ok (.iload_n 2, 1) := by decide +kernel
theorem dX4_split_72 : decode cX4_split 72 = .ok (.invokevirtual 71, 3) := by decide +kernel
theorem dX4_split_75 : decode cX4_split 75 = .ok (.iload_n 2, 1) := by decide +kernel
theorem dX4_split_76 : decode cX4_split 76 = .ok (.ireturn, 1) := by decide +kernel
theorem dX4_join_0 : decode cX4_join 0 = .ok (.aload_n 0, 1) := by decide +kernel
theorem dX4_join_1 : decode cX4_join 1 = .ok (.iload_n 1, 1) := by decide +kernel
theorem dX4_join_2 : decode cX4_join 2 = .ok (.invokevirtual 74, 3) := by decide +kernel
theorem dX4_join_5 : decode cX4_join 5 = .ok (.aload_n 0, 1) := by decide +kernel
theorem dX4_join_6 : decode cX4_join 6 = .ok (.iload_n 2, 1) := by decide +kernel
theorem dX4_join_7 : decode cX4_join 7 = .ok (.invokevirtual 74, 3) := by decide +kernel
theorem dX4_join_10 : decode cX4_join 10 = .ok (.iload_n 1, 1) := by decide +kernel
theorem dX4_join_11 : decode cX4_join 11 = .ok (.iload_n 2, 1) := by decide +kernel
theorem dX4_join_12 : decode cX4_join 12 = .ok (.if_icmp .eq 43, 3) := by decide +kernel
theorem dX4_join_15 : decode cX4_join 15 = .ok (.aload_n 0, 1) := by decide +kernel
theorem dX4_join_16 : decode cX4_join 16 = .ok (.getfield 10, 3) := by decide +kernel
theorem dX4_join_19 : decode cX4_join 19 = .ok (.getfield 78, 3) := by decide +kernel
theorem dX4_join_22 : decode cX4_join 22 = .ok (.iload_n 1, 1) := by decide +kernel
theorem dX4_join_23 : decode cX4_join 23 = .ok (.baload, 1) := by decide +kernel
theorem dX4_join_24 : decode cX4_join 24 = .ok (.ifCond .eq 31, 3) := by decide +kernel
theorem dX4_join_27 : decode cX4_join 27 = .ok (.aload_n 0, 1) := by decide +kernel
theorem dX4_join_28 : decode cX4_join 28 = .ok (.getfield 10, 3) := by decide +kernel
theorem dX4_join_31 : decode cX4_join 31 = .ok (.getfield 78, 3) := by decide +kernel
theorem dX4_join_34 : decode cX4_join 34 = .ok (.iload_n 2, 1) := by decide +kernel
theorem dX4_join_35 : decode cX4_join 35 = .ok (.baload, 1) := by decide +kernel
theorem dX4_join_36 : decode cX4_join 36 = .ok (.ifCond .eq 19, 3) := by decide +kernel
theorem dX4_join_39 : decode cX4_join 39 = .ok (.aload_n 0, 1) := by decide +kernel
theorem dX4_join_40 : decode cX4_join 40 = .ok (.getfield 10, 3) := by decide +kernel
theorem dX4_join_43 : decode cX4_join 43 = .ok (.iload_n 1, 1) := by decide +kernel
theorem dX4_join_44 : decode cX4_join 44 = .ok (.iload_n 2, 1) := by decide +kernel
theorem dX4_join_45 : decode cX4_join 45 = .ok (.invokevirtual 117, 3) := by decide +kernel
theorem dX4_join_48 : decode cX4_join 48 = .ok (.ifCond .eq 7, 3) := by decide +kernel
theorem dX4_join_51 : decode cX4_join 51 = .ok (.iconst 1, 1) := by decide +kernel
theorem dX4_join_52 : decode cX4_join 52 = .ok (.goto 4, 3) := by decide +kernel
theorem dX4_join_55 : decode cX4_join 55 = .ok (.iconst 0, 1) := by decide +kernel
theorem dX4_join_56 : decode cX4_join 56 = .ok (.invokestatic 85, 3) := by decide +kernel
theorem dX4_join_59 : decode cX4_join 59 = .ok (.aload_n 0, 1) := by decide +kernel
theorem dX4_join_60 : decode cX4_join 60 = .ok (.getfield 26, 3) := by decide +kernel
theorem dX4_join_63 : decode cX4_join 63 = .ok (.iconst 2, 1) := by decide +kernel
theorem dX4_join_64 : decode cX4_join 64 = .ok (.invokevirtual 59, 3) := by decide +kernel
theorem dX4_join_67 : decode cX4_join 67 = .ok (.invokestatic 63, 3) := by decide +kernel
theorem dX4_join_70 : decode cX4_join 70 = .ok (.aload_n 0, 1) := by decide +kernel
theorem dX4_join_71 : decode cX4_join 71 = .ok (.getfield 10, 3) := by decide +kernel
theorem dX4_join_74 : decode cX4_join 74 = .ok (.iload_n 1, 1) := by decide +kernel
theorem dX4_join_75 : decode cX4_join 75 = .ok (.iload_n 2, 1) := by decide +kernel
theorem dX4_join_76 : decode cX4_join 76 = .ok (.invokevirtual 121, 3) := by decide +kernel
theorem dX4_join_79 : decode cX4_join 79 = .ok (.aload_n 0, 1) := by decide +kernel
theorem dX4_join_80 : decode cX4_join 80 = .ok (.getfield 19, 3) := by decide +kernel
theorem dX4_join_83 : decode cX4_join 83 = .ok (.iload_n 2, 1) := by decide +kernel
theorem dX4_join_84 : decode cX4_join 84 = .ok (.iload_n 1, 1) := by decide +kernel
theorem dX4_join_85 : decode cX4_join 85 = .ok (.invokevirtual 125, 3) := by decide +kernel
theorem dX4_join_88 : decode cX4_join 88 = .ok (.aload_n 0, 1) := by decide +kernel
theorem dX4_join_89 : decode cX4_join 89 = .ok (.getfield 26, 3) := by decide +kernel
theorem dX4_join_92 : decode cX4_join 92 = .ok (.iload_n 1, 1) := by decide +kernel
theorem dX4_join_93 : decode cX4_join 93 = .ok (.iconst 4, 1) := by decide +kernel
theorem dX4_join_94 : decode cX4_join 94 = .ok (.iload_n 2, 1) := by decide +kernel
theorem dX4_join_95 : decode cX4_join 95 = .ok (.invokevirtual 71, 3) := by decide +kernel
theorem dX4_join_98 : decode cX4_join 98 = .ok (.aload_n 0, 1) := by decide +kernel
theorem dX4_join_99 : decode cX4_join 99 = .ok (.getfield 26, 3) := by decide +kernel
theorem dX4_join_102 : decode cX4_join 102 = .ok (.iload_n 2, 1) := by decide +kernel
theorem dX4_join_103 : decode cX4_join 103 = .ok (.iconst 5, 1) := by decide +kernel
theorem dX4_join_104 : decode cX4_join 104 = .ok (.iload_n 1, 1) := by decide +kernel
theorem dX4_join_105 : decode cX4_join 105 = .ok (.invokevirtual 71, 3) := by decide +kernel
theorem dX4_join_108 : decode cX4_join 108 = .ok (.return_, 1) := by decide +kernel
theorem dX4_unit_0 : decode cX4_unit 0 = .ok (.aload_n 0, 1) := by decide +kernel
theorem dX4_unit_1 : decode cX4_unit 1 = .ok (.iload_n 1, 1) := by decide +kernel
theorem dX4_unit_2 : decode cX4_unit 2 = .ok (.invokevirtual 74, 3) := by decide +kernel
theorem dX4_unit_5 : decode cX4_unit 5 = .ok (.aload_n 0, 1) := by decide +kernel
theorem dX4_unit_6 : decode cX4_unit 6 = .ok (.getfield 10, 3) := by decide +kernel
theorem dX4_unit_9 : decode cX4_unit 9 = .ok (.getfield 78, 3) := by decide +kernel
theorem dX4_unit_12 : decode cX4_unit 12 = .ok (.iload_n 1, 1) := by decide +kernel
theorem dX4_unit_13 : decode cX4_unit 13 = .ok (.baload, 1) := by decide +kernel
theorem dX4_unit_14 : decode cX4_unit 14 = .ok (.invokestatic 85, 3) := by decide +kernel
theorem dX4_unit_17 : decode cX4_unit 17 = .ok (.aload_n 0, 1) := by decide +kernel
theorem dX4_unit_18 : decode cX4_unit 18 = .ok (.getfield 19, 3) := by decide +kernel
theorem dX4_unit_21 : decode cX4_unit 21 = .ok (.invokevirtual 128, 3) := by decide +kernel
theorem dX4_unit_24 : decode cX4_unit 24 = .ok (.ifCond .eq 18, 3) := by decide +kernel
theorem dX4_unit_27 : decode cX4_unit 27 = .ok (.aload_n 0, 1) := by decide +kernel
theorem dX4_unit_28 : decode cX4_unit 28 = .ok (.getfield 26, 3) := by decide +kernel
theorem dX4_unit_31 : decode cX4_unit 31 = .ok (.iconst 1, 1) := by decide +kernel
theorem dX4_unit_32 : decode cX4_unit 32 = .ok (.invokevirtual 59, 3) := by decide +kernel
theorem dX4_unit_35 : decode cX4_unit 35 = .ok (.ifCond .eq 7, 3) := by decide +kernel
theorem dX4_unit_38 : decode cX4_unit 38 = .ok (.iconst 1, 1) := by decide +kernel
theorem dX4_unit_39 : decode cX4_unit 39 = .ok (.goto 4, 3) := by decide +kernel
theorem dX4_unit_42 : decode cX4_unit 42 = .ok (.iconst 0, 1) := by decide +kernel
theorem dX4_unit_43 : decode cX4_unit 43 = .ok (.invokestatic 63, 3) := by decide +kernel
theorem dX4_unit_46 : decode cX4_unit 46 = .ok (.aload_n 0, 1) := by decide +kernel
theorem dX4_unit_47 : decode cX4_unit 47 = .ok (.getfield 19, 3) := by decide +kernel
theorem dX4_unit_50 : decode cX4_unit 50 = .ok (.iload_n 1, 1) := by decide +kernel
theorem dX4_unit_51 : decode cX4_unit 51 = .ok (.invokevirtual 129, 3) := by decide +kernel
theorem dX4_unit_54 : decode cX4_unit 54 = .ok (.istore_n 2, 1) := by decide +kernel
theorem dX4_unit_55 : decode cX4_unit 55 = .ok (.aload_n 0, 1) := by decide +kernel
theorem dX4_unit_56 : decode cX4_unit 56 = .ok (.getfield 26, 3) := by decide +kernel
theorem dX4_unit_59 : decode cX4_unit 59 = .ok (.iload_n 1, 1) := by decide +kernel
theorem dX4_unit_60 : decode cX4_unit 60 = .ok (.bipush 10, 2) := by decide +kernel
theorem dX4_unit_62 : decode cX4_unit 62 = .ok (.iload_n 2, 1) := by decide +kernel
theorem dX4_unit_63 : decode cX4_unit 63 = .ok (.invokevirtual 71, 3) := by decide +kernel
theorem dX4_unit_66 : decode cX4_unit 66 = .ok (.iload_n 2, 1) := by decide +kernel
theorem dX4_unit_67 : decode cX4_unit 67 = .ok (.ireturn, 1) := by decide +kernel
theorem dX4_put_0 : decode cX4_put 0 = .ok (.aload_n 0, 1) := by decide +kernel
theorem dX4_put_1 : decode cX4_put 1 = .ok (.iload_n 1, 1) := by decide +kernel
theorem dX4_put_2 : decode cX4_put 2 = .ok (.invokevirtual 131, 3) := by decide +kernel
theorem dX4_put_5 : decode cX4_put 5 = .ok (.iload_n 2, 1) := by decide +kernel
theorem dX4_put_6 : decode cX4_put 6 = .ok (.iconst 0, 1) := by decide +kernel
theorem dX4_put_7 : decode cX4_put 7 = .ok (.bipush 19, 2) := by decide +kernel
theorem dX4_put_9 : decode cX4_put 9 = .ok (.invokestatic 50, 3) := by decide +kernel
theorem dX4_put_12 : decode cX4_put 12 = .ok (.aload_n 0, 1) := by decide +kernel
theorem dX4_put_13 : decode cX4_put 13 = .ok (.getfield 19, 3) := by decide +kernel
theorem dX4_put_16 : decode cX4_put 16 = .ok (.iload_n 1, 1) := by decide +kernel
theorem dX4_put_17 : decode cX4_put 17 = .ok (.invokevirtual 134, 3) := by decide +kernel
theorem dX4_put_20 : decode cX4_put 20 = .ok (.ifCond .ne 20, 3) := by decide +kernel
theorem dX4_put_23 : decode cX4_put 23 = .ok (.aload_n 0, 1) := by decide +kernel
theorem dX4_put_24 : decode cX4_put 24 = .ok (.getfield 19, 3) := by decide +kernel
theorem dX4_put_27 : decode cX4_put 27 = .ok (.getfield 137, 3) := by decide +kernel
theorem dX4_put_30 : decode cX4_put 30 = .ok (.iload_n 1, 1) := by decide +kernel
theorem dX4_put_31 : decode cX4_put 31 = .ok (.iaload, 1) := by decide +kernel
theorem dX4_put_32 : decode cX4_put 32 = .ok (.iload_n 2, 1) := by decide +kernel
theorem dX4_put_33 : decode cX4_put 33 = .ok (.if_icmp .eq 7, 3) := by decide +kernel
theorem dX4_put_36 : decode cX4_put 36 = .ok (.iconst 1, 1) := by decide +kernel
theorem dX4_put_37 : decode cX4_put 37 = .ok (.goto 4, 3) := by decide +kernel
theorem dX4_put_40 : decode cX4_put 40 = .ok (.iconst 0, 1) := by decide +kernel
theorem dX4_put_41 : decode cX4_put 41 = .ok (.invokestatic 85, 3) := by decide +kernel
theorem dX4_put_44 : decode cX4_put 44 = .ok (.aload_n 0, 1) := by decide +kernel
theorem dX4_put_45 : decode cX4_put 45 = .ok (.iload_n 1, 1) := by decide +kernel
theorem dX4_put_46 : decode cX4_put 46 = .ok (.iload_n 2, 1) := by decide +kernel
theorem dX4_put_47 : decode cX4_put 47 = .ok (.invokevirtual 140, 3) := by decide +kernel
theorem dX4_put_50 : decode cX4_put 50 = .ok (.istore_n 3, 1) := by decide +kernel
theorem dX4_put_51 : decode cX4_put 51 = .ok (.iload_n 3, 1) := by decide +kernel
theorem dX4_put_52 : decode cX4_put 52 = .ok (.ifCond .eq 31, 3) := by decide +kernel
theorem dX4_put_55 : decode cX4_put 55 = .ok (.aload_n 0, 1) := by decide +kernel
theorem dX4_put_56 : decode cX4_put 56 = .ok (.aload_n 0, 1) := by decide +kernel
theorem dX4_put_57 : decode cX4_put 57 = .ok (.getfield 19, 3) := by decide +kernel
theorem dX4_put_60 : decode cX4_put 60 = .ok (.getfield 143, 3) := by decide +kernel
theorem dX4_put_63 : decode cX4_put 63 = .ok (.iload_n 1, 1) := by decide +kernel
theorem dX4_put_64 : decode cX4_put 64 = .ok (.iaload, 1) := by decide +kernel
theorem dX4_put_65 : decode cX4_put 65 = .ok (.putfield 43, 3) := by decide +kernel
theorem dX4_put_68 : decode cX4_put 68 = .ok (.aload_n 0, 1) := by decide +kernel
theorem dX4_put_69 : decode cX4_put 69 = .ok (.iload_n 3, 1) := by decide +kernel
theorem dX4_put_70 : decode cX4_put 70 = .ok (.putfield 47, 3) := by decide +kernel
theorem dX4_put_73 : decode cX4_put 73 = .ok (.new 146, 3) := by decide +kernel
theorem dX4_put_76 : decode cX4_put 76 = .ok (.dup, 1) := by decide +kernel
theorem dX4_put_77 : decode cX4_put 77 = .ok (.ldc 148, 2) := by decide +kernel
theorem dX4_put_79 : decode cX4_put 79 = .ok (.invokespecial 150, 3) := by decide +kernel
theorem dX4_put_82 : decode cX4_put 82 = .ok (.athrow, 1) := by decide +kernel
theorem dX4_put_83 : decode cX4_put 83 = .ok (.aload_n 0, 1) := by decide +kernel
theorem dX4_put_84 : decode cX4_put 84 = .ok (.getfield 19, 3) := by decide +kernel
theorem dX4_put_87 : decode cX4_put 87 = .ok (.getfield 137, 3) := by decide +kernel
theorem dX4_put_90 : decode cX4_put 90 = .ok (.iload_n 1, 1) := by decide +kernel
theorem dX4_put_91 : decode cX4_put 91 = .ok (.iload_n 2, 1) := by decide +kernel
theorem dX4_put_92 : decode cX4_put 92 = .ok (.iastore, 1) := by decide +kernel
theorem dX4_put_93 : decode cX4_put 93 = .ok (.return_, 1) := by decide +kernel
theorem dX4_requireUnit_0 : decode cX4_requireUnit 0 = .ok (.iload_n 1, 1) := by decide +kernel
theorem dX4_requireUnit_1 : decode cX4_requireUnit 1 = .ok (.iconst 1, 1) := by decide +kernel
theorem dX4_requireUnit_2 : decode cX4_requireUnit 2 = .ok (.if_icmp .lt 14, 3) := by decide +kernel
theorem dX4_requireUnit_5 : decode cX4_requireUnit 5 = .ok (.iload_n 1, 1) := by decide +kernel
theorem dX4_requireUnit_6 : decode cX4_requireUnit 6 = .ok (.aload_n 0, 1) := by decide +kernel
theorem dX4_requireUnit_7 : decode cX4_requireUnit 7 = .ok (.getfield 19, 3) := by decide +kernel
theorem dX4_requireUnit_10 : decode cX4_requireUnit 10 = .ok (.getfield 229, 3) := by decide +kernel
theorem dX4_requireUnit_13 : decode cX4_requireUnit 13 = .ok (.if_icmp .le 13, 3) := by decide +kernel
theorem dX4_requireUnit_16 : decode cX4_requireUnit 16 = .ok (.new 178, 3) := by decide +kernel
theorem dX4_requireUnit_19 : decode cX4_requireUnit 19 = .ok (.dup, 1) := by decide +kernel
theorem dX4_requireUnit_20 : decode cX4_requireUnit 20 = .ok (.ldc 244, 2) := by decide +kernel
theorem dX4_requireUnit_22 : decode cX4_requireUnit 22 = .ok (.invokespecial 182, 3) := by decide +kernel
theorem dX4_requireUnit_25 : decode cX4_requireUnit 25 = .ok (.athrow, 1) := by decide +kernel
theorem dX4_requireUnit_26 : decode cX4_requireUnit 26 = .ok (.return_, 1) := by decide +kernel
theorem dX4_lotThatHinders_0 : decode cX4_lotThatHinders 0 = .ok (.aload_n 0, 1) := by decide +kernel
theorem dX4_lotThatHinders_1 : decode cX4_lotThatHinders 1 = .ok (.getfield 19, 3) := by decide +kernel
theorem dX4_lotThatHinders_4 : decode cX4_lotThatHinders 4 = .ok (.getfield 143, 3) := by decide +kernel
theorem dX4_lotThatHinders_7 : decode cX4_lotThatHinders 7 = .ok (.iload_n 1, 1) := by decide +kernel
theorem dX4_lotThatHinders_8 : decode cX4_lotThatHinders 8 = .ok (.iaload, 1) := by decide +kernel
theorem dX4_lotThatHinders_9 : decode cX4_lotThatHinders 9 = .ok (.istore_n 3, 1) := by decide +kernel
theorem dX4_lotThatHinders_10 : decode cX4_lotThatHinders 10 = .ok (.aload_n 0, 1) := by decide +kernel
theorem dX4_lotThatHinders_11 : decode cX4_lotThatHinders 11 = .ok (.getfield 34, 3) := by decide +kernel
theorem dX4_lotThatHinders_14 : decode cX4_lotThatHinders 14 = .ok (.aload_n 0, 1) := by decide +kernel
theorem dX4_lotThatHinders_15 : decode cX4_lotThatHinders 15 = .ok (.getfield 10, 3) := by decide +kernel
theorem dX4_lotThatHinders_18 : decode cX4_lotThatHinders 18 = .ok (.getfield 192, 3) := by decide +kernel
theorem dX4_lotThatHinders_21 : decode cX4_lotThatHinders 21 = .ok (.iload_n 3, 1) := by decide +kernel
theorem dX4_lotThatHinders_22 : decode cX4_lotThatHinders 22 = .ok (.iaload, 1) := by decide +kernel
theorem dX4_lotThatHinders_23 : decode cX4_lotThatHinders 23 = .ok (.iaload, 1) := by decide +kernel
theorem dX4_lotThatHinders_24 : decode cX4_lotThatHinders 24 = .ok (.istore 4, 2) := by decide +kernel
theorem dX4_lotThatHinders_26 : decode cX4_lotThatHinders 26 = .ok (.iconst 1, 1) := by decide +kernel
theorem dX4_lotThatHinders_27 : decode cX4_lotThatHinders 27 = .ok (.istore 5, 2) := by decide +kernel
theorem dX4_lotThatHinders_29 : decode cX4_lotThatHinders 29 = .ok (.iload 5, 2) := by decide +kernel
theorem dX4_lotThatHinders_31 : decode cX4_lotThatHinders 31 = .ok (.aload_n 0, 1) := by decide +kernel
theorem dX4_lotThatHinders_32 : decode cX4_lotThatHinders 32 = .ok (.getfield 19, 3) := by decide +kernel
theorem dX4_lotThatHinders_35 : decode cX4_lotThatHinders 35 = .ok (.getfield 229, 3) := by decide +kernel
theorem dX4_lotThatHinders_38 : decode cX4_lotThatHinders 38 = .ok (.if_icmp .gt 57, 3) := by decide +kernel
theorem dX4_lotThatHinders_41 : decode cX4_lotThatHinders 41 = .ok (.aload_n 0, 1) := by decide +kernel
theorem dX4_lotThatHinders_42 : decode cX4_lotThatHinders 42 = .ok (.getfield 19, 3) := by decide +kernel
theorem dX4_lotThatHinders_45 : decode cX4_lotThatHinders 45 = .ok (.getfield 137, 3) := by decide +kernel
theorem dX4_lotThatHinders_48 : decode cX4_lotThatHinders 48 = .ok (.iload 5, 2) := by decide +kernel
theorem dX4_lotThatHinders_50 : decode cX4_lotThatHinders 50 = .ok (.iaload, 1) := by decide +kernel
theorem dX4_lotThatHinders_51 : decode cX4_lotThatHinders 51 = .ok (.iload_n 2, 1) := by decide +kernel
theorem dX4_lotThatHinders_52 : decode cX4_lotThatHinders 52 = .ok (.if_icmp .ne 37, 3) := by decide +kernel
theorem dX4_lotThatHinders_55 : decode cX4_lotThatHinders 55 = .ok (.aload_n 0, 1) := by decide +kernel
theorem dX4_lotThatHinders_56 : decode cX4_lotThatHinders 56 = .ok (.getfield 10, 3) := by decide +kernel
theorem dX4_lotThatHinders_59 : decode cX4_lotThatHinders 59 = .ok (.iload_n 3, 1) := by decide +kernel
theorem dX4_lotThatHinders_60 : decode cX4_lotThatHinders 60 = .ok (.aload_n 0, 1) := by decide +kernel
theorem dX4_lotThatHinders_61 : decode cX4_lotThatHinders 61 = .ok (.getfield 19, 3) := by decide +kernel
theorem dX4_lotThatHinders_64 : decode cX4_lotThatHinders 64 = .ok (.getfield 143, 3) := by decide +kernel
theorem dX4_lotThatHinders_67 : decode cX4_lotThatHinders 67 = .ok (.iload 5, 2) := by decide +kernel
theorem dX4_lotThatHinders_69 : decode cX4_lotThatHinders 69 = .ok (.iaload, 1) := by decide +kernel
theorem dX4_lotThatHinders_70 : decode cX4_lotThatHinders 70 = .ok (.iload 4, 2) := by decide +kernel
theorem dX4_lotThatHinders_72 : decode cX4_lotThatHinders 72 = .ok (.invokevirtual 239, 3) := by decide +kernel
theorem dX4_lotThatHinders_75 : decode cX4_lotThatHinders 75 = .ok (.ifCond .eq 14, 3) := by decide +kernel
theorem dX4_lotThatHinders_78 : decode cX4_lotThatHinders 78 = .ok (.aload_n 0, 1) := by decide +kernel
theorem dX4_lotThatHinders_79 : decode cX4_lotThatHinders 79 = .ok (.getfield 19, 3) := by decide +kernel
theorem dX4_lotThatHinders_82 : decode cX4_lotThatHinders 82 = .ok (.getfield 143, 3) := by decide +kernel
theorem dX4_lotThatHinders_85 : decode cX4_lotThatHinders 85 = .ok (.iload 5, 2) := by decide +kernel
theorem dX4_lotThatHinders_87 : decode cX4_lotThatHinders 87 = .ok (.iaload, 1) := by decide +kernel
theorem dX4_lotThatHinders_88 : decode cX4_lotThatHinders 88 = .ok (.ireturn, 1) := by decide +kernel
theorem dX4_lotThatHinders_89 : decode cX4_lotThatHinders 89 = .ok (.iinc 5 1, 3) := by decide +kernel
theorem dX4_lotThatHinders_92 : decode cX4_lotThatHinders 92 = .ok (.goto (-63), 3) := by decide +kernel
theorem dX4_lotThatHinders_95 : decode cX4_lotThatHinders 95 = .ok (.iconst 0, 1) := by decide +kernel
theorem dX4_lotThatHinders_96 : decode cX4_lotThatHinders 96 = .ok (.ireturn, 1) := by decide +kernel
theorem dX4_mixed_0 : decode cX4_mixed 0 = .ok (.iload_n 1, 1) := by decide +kernel
theorem dX4_mixed_1 : decode cX4_mixed 1 = .ok (.iconst 0, 1) := by decide +kernel
theorem dX4_mixed_2 : decode cX4_mixed 2 = .ok (.iconst 1, 1) := by decide +kernel
theorem dX4_mixed_3 : decode cX4_mixed 3 = .ok (.invokestatic 50, 3) := by decide +kernel
theorem dX4_mixed_6 : decode cX4_mixed 6 = .ok (.iload_n 1, 1) := by decide +kernel
theorem dX4_mixed_7 : decode cX4_mixed 7 = .ok (.ifCond .ne 10, 3) := by decide +kernel
theorem dX4_mixed_10 : decode cX4_mixed 10 = .ok (.aload_n 0, 1) := by decide +kernel
theorem dX4_mixed_11 : decode cX4_mixed 11 = .ok (.getfield 43, 3) := by decide +kernel
theorem dX4_mixed_14 : decode cX4_mixed 14 = .ok (.goto 7, 3) := by decide +kernel
theorem dX4_mixed_17 : decode cX4_mixed 17 = .ok (.aload_n 0, 1) := by decide +kernel
theorem dX4_mixed_18 : decode cX4_mixed 18 = .ok (.getfield 47, 3) := by decide +kernel
theorem dX4_mixed_21 : decode cX4_mixed 21 = .ok (.ireturn, 1) := by decide +kernel
theorem dX4_ship_0 : decode cX4_ship 0 = .ok (.aload_n 0, 1) := by decide +kernel
theorem dX4_ship_1 : decode cX4_ship 1 = .ok (.iload_n 1, 1) := by decide +kernel
theorem dX4_ship_2 : decode cX4_ship 2 = .ok (.invokevirtual 131, 3) := by decide +kernel
theorem dX4_ship_5 : decode cX4_ship 5 = .ok (.iload_n 2, 1) := by decide +kernel
theorem dX4_ship_6 : decode cX4_ship 6 = .ok (.iconst 0, 1) := by decide +kernel
theorem dX4_ship_7 : decode cX4_ship 7 = .ok (.bipush 7, 2) := by decide +kernel
theorem dX4_ship_9 : decode cX4_ship 9 = .ok (.invokestatic 50, 3) := by decide +kernel
theorem dX4_ship_12 : decode cX4_ship 12 = .ok (.iload_n 3, 1) := by decide +kernel
theorem dX4_ship_13 : decode cX4_ship 13 = .ok (.iconst 0, 1) := by decide +kernel
theorem dX4_ship_14 : decode cX4_ship 14 = .ok (.ldc 54, 2) := by decide +kernel
theorem dX4_ship_16 : decode cX4_ship 16 = .ok (.invokestatic 50, 3) := by decide +kernel
theorem dX4_ship_19 : decode cX4_ship 19 = .ok (.aload_n 0, 1) := by decide +kernel
theorem dX4_ship_20 : decode cX4_ship 20 = .ok (.getfield 19, 3) := by decide +kernel
theorem dX4_ship_23 : decode cX4_ship 23 = .ok (.getfield 143, 3) := by decide +kernel
theorem dX4_ship_26 : decode cX4_ship 26 = .ok (.iload_n 1, 1) := by decide +kernel
theorem dX4_ship_27 : decode cX4_ship 27 = .ok (.iaload, 1) := by decide +kernel
theorem dX4_ship_28 : decode cX4_ship 28 = .ok (.istore 4, 2) := by decide +kernel
theorem dX4_ship_30 : decode cX4_ship 30 = .ok (.aload_n 0, 1) := by decide +kernel
theorem dX4_ship_31 : decode cX4_ship 31 = .ok (.getfield 19, 3) := by decide +kernel
theorem dX4_ship_34 : decode cX4_ship 34 = .ok (.iload_n 1, 1) := by decide +kernel
theorem dX4_ship_35 : decode cX4_ship 35 = .ok (.invokevirtual 134, 3) := by decide +kernel
theorem dX4_ship_38 : decode cX4_ship 38 = .ok (.ifCond .ne 18, 3) := by decide +kernel
theorem dX4_ship_41 : decode cX4_ship 41 = .ok (.aload_n 0, 1) := by decide +kernel
theorem dX4_ship_42 : decode cX4_ship 42 = .ok (.iload 4, 2) := by decide +kernel
theorem dX4_ship_44 : decode cX4_ship 44 = .ok (.iload_n 2, 1) := by decide +kernel
theorem dX4_ship_45 : decode cX4_ship 45 = .ok (.iload_n 3, 1) := by decide +kernel
theorem dX4_ship_46 : decode cX4_ship 46 = .ok (.invokevirtual 111, 3) := by decide +kernel
theorem dX4_ship_49 : decode cX4_ship 49 = .ok (.ifCond .eq 7, 3) := by decide +kernel
theorem dX4_ship_52 : decode cX4_ship 52 = .ok (.iconst 1, 1) := by decide +kernel
theorem dX4_ship_53 : decode cX4_ship 53 = .ok (.goto 4, 3) := by decide +kernel
theorem dX4_ship_56 : decode cX4_ship 56 = .ok (.iconst 0, 1) := by decide +kernel
theorem dX4_ship_57 : decode cX4_ship 57 = .ok (.invokestatic 85, 3) := by decide +kernel
theorem dX4_ship_60 : decode cX4_ship 60 = .ok (.aload_n 0, 1) := by decide +kernel
theorem dX4_ship_61 : decode cX4_ship 61 = .ok (.getfield 26, 3) := by decide +kernel
theorem dX4_ship_64 : decode cX4_ship 64 = .ok (.iconst 1, 1) := by decide +kernel
theorem dX4_ship_65 : decode cX4_ship 65 = .ok (.invokevirtual 59, 3) := by decide +kernel
theorem dX4_ship_68 : decode cX4_ship 68 = .ok (.invokestatic 63, 3) := by decide +kernel
theorem dX4_ship_71 : decode cX4_ship 71 = .ok (.aload_n 0, 1) := by decide +kernel
theorem dX4_ship_72 : decode cX4_ship 72 = .ok (.getfield 19, 3) := by decide +kernel
theorem dX4_ship_75 : decode cX4_ship 75 = .ok (.iload_n 1, 1) := by decide +kernel
theorem dX4_ship_76 : decode cX4_ship 76 = .ok (.iload_n 2, 1) := by decide +kernel
theorem dX4_ship_77 : decode cX4_ship 77 = .ok (.iload_n 3, 1) := by decide +kernel
theorem dX4_ship_78 : decode cX4_ship 78 = .ok (.invokevirtual 153, 3) := by decide +kernel
theorem dX4_ship_81 : decode cX4_ship 81 = .ok (.aload_n 0, 1) := by decide +kernel
theorem dX4_ship_82 : decode cX4_ship 82 = .ok (.getfield 26, 3) := by decide +kernel
theorem dX4_ship_85 : decode cX4_ship 85 = .ok (.iload 4, 2) := by decide +kernel
theorem dX4_ship_87 : decode cX4_ship 87 = .ok (.bipush 11, 2) := by decide +kernel
theorem dX4_ship_89 : decode cX4_ship 89 = .ok (.iload_n 1, 1) := by decide +kernel
theorem dX4_ship_90 : decode cX4_ship 90 = .ok (.invokevirtual 71, 3) := by decide +kernel
theorem dX4_ship_93 : decode cX4_ship 93 = .ok (.return_, 1) := by decide +kernel
theorem dX4_recall_0 : decode cX4_recall 0 = .ok (.aload_n 0, 1) := by decide +kernel
theorem dX4_recall_1 : decode cX4_recall 1 = .ok (.iload_n 1, 1) := by decide +kernel
theorem dX4_recall_2 : decode cX4_recall 2 = .ok (.invokevirtual 74, 3) := by decide +kernel
theorem dX4_recall_5 : decode cX4_recall 5 = .ok (.iload_n 2, 1) := by decide +kernel
theorem dX4_recall_6 : decode cX4_recall 6 = .ok (.invokestatic 97, 3) := by decide +kernel
theorem dX4_recall_9 : decode cX4_recall 9 = .ok (.aload_n 0, 1) := by decide +kernel
theorem dX4_recall_10 : decode cX4_recall 10 = .ok (.getfield 19, 3) := by decide +kernel
theorem dX4_recall_13 : decode cX4_recall 13 = .ok (.aload_n 0, 1) := by decide +kernel
theorem dX4_recall_14 : decode cX4_recall 14 = .ok (.getfield 10, 3) := by decide +kernel
theorem dX4_recall_17 : decode cX4_recall 17 = .ok (.iload_n 1, 1) := by decide +kernel
theorem dX4_recall_18 : decode cX4_recall 18 = .ok (.invokevirtual 156, 3) := by decide +kernel
theorem dX4_recall_21 : decode cX4_recall 21 = .ok (.iload_n 2, 1) := by decide +kernel
theorem dX4_recall_22 : decode cX4_recall 22 = .ok (.invokevirtual 160, 3) := by decide +kernel
theorem dX4_recall_25 : decode cX4_recall 25 = .ok (.ireturn, 1) := by decide +kernel
theorem dX4_where_0 : decode cX4_where 0 = .ok (.aload_n 0, 1) := by decide +kernel
theorem dX4_where_1 : decode cX4_where 1 = .ok (.iload_n 1, 1) := by decide +kernel
theorem dX4_where_2 : decode cX4_where 2 = .ok (.invokevirtual 131, 3) := by decide +kernel
theorem dX4_where_5 : decode cX4_where 5 = .ok (.iload_n 2, 1) := by decide +kernel
theorem dX4_where_6 : decode cX4_where 6 = .ok (.tableswitch 70 0 3 #[30, 40, 50, 60], 30) := by decide +kernel
theorem dX4_where_36 : decode cX4_where 36 = .ok (.aload_n 0, 1) := by decide +kernel
theorem dX4_where_37 : decode cX4_where 37 = .ok (.getfield 19, 3) := by decide +kernel
theorem dX4_where_40 : decode cX4_where 40 = .ok (.getfield 143, 3) := by decide +kernel
theorem dX4_where_43 : decode cX4_where 43 = .ok (.iload_n 1, 1) := by decide +kernel
theorem dX4_where_44 : decode cX4_where 44 = .ok (.iaload, 1) := by decide +kernel
theorem dX4_where_45 : decode cX4_where 45 = .ok (.ireturn, 1) := by decide +kernel
theorem dX4_where_46 : decode cX4_where 46 = .ok (.aload_n 0, 1) := by decide +kernel
theorem dX4_where_47 : decode cX4_where 47 = .ok (.getfield 19, 3) := by decide +kernel
theorem dX4_where_50 : decode cX4_where 50 = .ok (.getfield 137, 3) := by decide +kernel
theorem dX4_where_53 : decode cX4_where 53 = .ok (.iload_n 1, 1) := by decide +kernel
theorem dX4_where_54 : decode cX4_where 54 = .ok (.iaload, 1) := by decide +kernel
theorem dX4_where_55 : decode cX4_where 55 = .ok (.ireturn, 1) := by decide +kernel
theorem dX4_where_56 : decode cX4_where 56 = .ok (.aload_n 0, 1) := by decide +kernel
theorem dX4_where_57 : decode cX4_where 57 = .ok (.getfield 19, 3) := by decide +kernel
theorem dX4_where_60 : decode cX4_where 60 = .ok (.getfield 164, 3) := by decide +kernel
theorem dX4_where_63 : decode cX4_where 63 = .ok (.iload_n 1, 1) := by decide +kernel
theorem dX4_where_64 : decode cX4_where 64 = .ok (.iaload, 1) := by decide +kernel
theorem dX4_where_65 : decode cX4_where 65 = .ok (.ireturn, 1) := by decide +kernel
theorem dX4_where_66 : decode cX4_where 66 = .ok (.aload_n 0, 1) := by decide +kernel
theorem dX4_where_67 : decode cX4_where 67 = .ok (.getfield 19, 3) := by decide +kernel
theorem dX4_where_70 : decode cX4_where 70 = .ok (.getfield 167, 3) := by decide +kernel
theorem dX4_where_73 : decode cX4_where 73 = .ok (.iload_n 1, 1) := by decide +kernel
theorem dX4_where_74 : decode cX4_where 74 = .ok (.iaload, 1) := by decide +kernel
theorem dX4_where_75 : decode cX4_where 75 = .ok (.ireturn, 1) := by decide +kernel
theorem dX4_where_76 : decode cX4_where 76 = .ok (.new 170, 3) := by decide +kernel
theorem dX4_where_79 : decode cX4_where 79 = .ok (.dup, 1) := by decide +kernel
theorem dX4_where_80 : decode cX4_where 80 = .ok (.ldc 172, 2) := by decide +kernel
theorem dX4_where_82 : decode cX4_where 82 = .ok (.invokespecial 174, 3) := by decide +kernel
theorem dX4_where_85 : decode cX4_where 85 = .ok (.athrow, 1) := by decide +kernel
theorem dX4_history_0 : decode cX4_history 0 = .ok (.aload_n 0, 1) := by decide +kernel
theorem dX4_history_1 : decode cX4_history 1 = .ok (.iload_n 1, 1) := by decide +kernel
theorem dX4_history_2 : decode cX4_history 2 = .ok (.invokevirtual 74, 3) := by decide +kernel
theorem dX4_history_5 : decode cX4_history 5 = .ok (.aload_n 0, 1) := by decide +kernel
theorem dX4_history_6 : decode cX4_history 6 = .ok (.getfield 26, 3) := by decide +kernel
theorem dX4_history_9 : decode cX4_history 9 = .ok (.iload_n 1, 1) := by decide +kernel
theorem dX4_history_10 : decode cX4_history 10 = .ok (.iload_n 2, 1) := by decide +kernel
theorem dX4_history_11 : decode cX4_history 11 = .ok (.invokevirtual 175, 3) := by decide +kernel
theorem dX4_history_14 : decode cX4_history 14 = .ok (.istore 4, 2) := by decide +kernel
theorem dX4_history_16 : decode cX4_history 16 = .ok (.iload 4, 2) := by decide +kernel
theorem dX4_history_18 : decode cX4_history 18 = .ok (.iconst (-1), 1) := by decide +kernel
theorem dX4_history_19 : decode cX4_history 19 = .ok (.if_icmp .ne 13, 3) := by decide +kernel
theorem dX4_history_22 : decode cX4_history 22 = .ok (.new 178, 3) := by decide +kernel
theorem dX4_history_25 : decode cX4_history 25 = .ok (.dup, 1) := by decide +kernel
theorem dX4_history_26 : decode cX4_history 26 = .ok (.ldc 180, 2) := by decide +kernel
theorem dX4_history_28 : decode cX4_history 28 = .ok (.invokespecial 182, 3) := by decide +kernel
theorem dX4_history_31 : decode cX4_history 31 = .ok (.athrow, 1) := by decide +kernel
theorem dX4_history_32 : decode cX4_history 32 = .ok (.iload_n 3, 1) := by decide +kernel
theorem dX4_history_33 : decode cX4_history 33 = .ok (.iconst 0, 1) := by decide +kernel
theorem dX4_history_34 : decode cX4_history 34 = .ok (.iconst 1, 1) := by decide +kernel
theorem dX4_history_35 : decode cX4_history 35 = .ok (.invokestatic 50, 3) := by decide +kernel
theorem dX4_history_38 : decode cX4_history 38 = .ok (.iload_n 3, 1) := by decide +kernel
theorem dX4_history_39 : decode cX4_history 39 = .ok (.ifCond .ne 16, 3) := by decide +kernel
theorem dX4_history_42 : decode cX4_history 42 = .ok (.aload_n 0, 1) := by decide +kernel
theorem dX4_history_43 : decode cX4_history 43 = .ok (.getfield 26, 3) := by decide +kernel
theorem dX4_history_46 : decode cX4_history 46 = .ok (.getfield 183, 3) := by decide +kernel
theorem dX4_history_49 : decode cX4_history 49 = .ok (.iload 4, 2) := by decide +kernel
theorem dX4_history_51 : decode cX4_history 51 = .ok (.iaload, 1) := by decide +kernel
theorem dX4_history_52 : decode cX4_history 52 = .ok (.goto 13, 3) := by decide +kernel
theorem dX4_history_55 : decode cX4_history 55 = .ok (.aload_n 0, 1) := by decide +kernel
theorem dX4_history_56 : decode cX4_history 56 = .ok (.getfield 26, 3) := by decide +kernel
theorem dX4_history_59 : decode cX4_history 59 = .ok (.getfield 186, 3) := by decide +kernel
theorem dX4_history_62 : decode cX4_history 62 = .ok (.iload 4, 2) := by decide +kernel
theorem dX4_history_64 : decode cX4_history 64 = .ok (.iaload, 1) := by decide +kernel
theorem dX4_history_65 : decode cX4_history 65 = .ok (.ireturn, 1) := by decide +kernel
theorem dX4_told_0 : decode cX4_told 0 = .ok (.aload_n 0, 1) := by decide +kernel
theorem dX4_told_1 : decode cX4_told 1 = .ok (.iload_n 1, 1) := by decide +kernel
theorem dX4_told_2 : decode cX4_told 2 = .ok (.invokevirtual 74, 3) := by decide +kernel
theorem dX4_told_5 : decode cX4_told 5 = .ok (.iload_n 2, 1) := by decide +kernel
theorem dX4_told_6 : decode cX4_told 6 = .ok (.tableswitch 141 0 7 #[46, 56, 66, 76, 86, 104, 114, 132], 46) := by decide +kernel
theorem dX4_told_52 : decode cX4_told 52 = .ok (.aload_n 0, 1) := by decide +kernel
theorem dX4_told_53 : decode cX4_told 53 = .ok (.getfield 10, 3) := by decide +kernel
theorem dX4_told_56 : decode cX4_told 56 = .ok (.getfield 189, 3) := by decide +kernel
theorem dX4_told_59 : decode cX4_told 59 = .ok (.iload_n 1, 1) := by decide +kernel
theorem dX4_told_60 : decode cX4_told 60 = .ok (.iaload, 1) := by decide +kernel
theorem dX4_told_61 : decode cX4_told 61 = .ok (.ireturn, 1) := by decide +kernel
theorem dX4_told_62 : decode cX4_told 62 = .ok (.aload_n 0, 1) := by decide +kernel
theorem dX4_told_63 : decode cX4_told 63 = .ok (.getfield 10, 3) := by decide +kernel
theorem dX4_told_66 : decode cX4_told 66 = .ok (.getfield 192, 3) := by decide +kernel
theorem dX4_told_69 : decode cX4_told 69 = .ok (.iload_n 1, 1) := by decide +kernel
theorem dX4_told_70 : decode cX4_told 70 = .ok (.iaload, 1) := by decide +kernel
theorem dX4_told_71 : decode cX4_told 71 = .ok (.ireturn, 1) := by decide +kernel
theorem dX4_told_72 : decode cX4_told 72 = .ok (.aload_n 0, 1) := by decide +kernel
theorem dX4_told_73 : decode cX4_told 73 = .ok (.getfield 10, 3) := by decide +kernel
theorem dX4_told_76 : decode cX4_told 76 = .ok (.getfield 195, 3) := by decide +kernel
theorem dX4_told_79 : decode cX4_told 79 = .ok (.iload_n 1, 1) := by decide +kernel
theorem dX4_told_80 : decode cX4_told 80 = .ok (.iaload, 1) := by decide +kernel
theorem dX4_told_81 : decode cX4_told 81 = .ok (.ireturn, 1) := by decide +kernel
theorem dX4_told_82 : decode cX4_told 82 = .ok (.aload_n 0, 1) := by decide +kernel
theorem dX4_told_83 : decode cX4_told 83 = .ok (.getfield 10, 3) := by decide +kernel
theorem dX4_told_86 : decode cX4_told 86 = .ok (.getfield 198, 3) := by decide +kernel
theorem dX4_told_89 : decode cX4_told 89 = .ok (.iload_n 1, 1) := by decide +kernel
theorem dX4_told_90 : decode cX4_told 90 = .ok (.iaload, 1) := by decide +kernel
theorem dX4_told_91 : decode cX4_told 91 = .ok (.ireturn, 1) := by decide +kernel
theorem dX4_told_92 : decode cX4_told 92 = .ok (.aload_n 0, 1) := by decide +kernel
theorem dX4_told_93 : decode cX4_told 93 = .ok (.getfield 10, 3) := by decide +kernel
theorem dX4_told_96 : decode cX4_told 96 = .ok (.getfield 78, 3) := by decide +kernel
theorem dX4_told_99 : decode cX4_told 99 = .ok (.iload_n 1, 1) := by decide +kernel
theorem dX4_told_100 : decode cX4_told 100 = .ok (.baload, 1) := by decide +kernel
theorem dX4_told_101 : decode cX4_told 101 = .ok (.ifCond .eq 7, 3) := by decide +kernel
theorem dX4_told_104 : decode cX4_told 104 = .ok (.iconst 1, 1) := by decide +kernel
theorem dX4_told_105 : decode cX4_told 105 = .ok (.goto 4, 3) := by decide +kernel
theorem dX4_told_108 : decode cX4_told 108 = .ok (.iconst 0, 1) := by decide +kernel
theorem dX4_told_109 : decode cX4_told 109 = .ok (.ireturn, 1) := by decide +kernel
theorem dX4_told_110 : decode cX4_told 110 = .ok (.aload_n 0, 1) := by decide +kernel
theorem dX4_told_111 : decode cX4_told 111 = .ok (.getfield 10, 3) := by decide +kernel
theorem dX4_told_114 : decode cX4_told 114 = .ok (.getfield 82, 3) := by decide +kernel
theorem dX4_told_117 : decode cX4_told 117 = .ok (.iload_n 1, 1) := by decide +kernel
theorem dX4_told_118 : decode cX4_told 118 = .ok (.iaload, 1) := by decide +kernel
theorem dX4_told_119 : decode cX4_told 119 = .ok (.ireturn, 1) := by decide +kernel
theorem dX4_told_120 : decode cX4_told 120 = .ok (.aload_n 0, 1) := by decide +kernel
theorem dX4_told_121 : decode cX4_told 121 = .ok (.getfield 10, 3) := by decide +kernel
theorem dX4_told_124 : decode cX4_told 124 = .ok (.getfield 94, 3) := by decide +kernel
theorem dX4_told_127 : decode cX4_told 127 = .ok (.iload_n 1, 1) := by decide +kernel
theorem dX4_told_128 : decode cX4_told 128 = .ok (.baload, 1) := by decide +kernel
theorem dX4_told_129 : decode cX4_told 129 = .ok (.ifCond .eq 7, 3) := by decide +kernel
theorem dX4_told_132 : decode cX4_told 132 = .ok (.iconst 1, 1) := by decide +kernel
theorem dX4_told_133 : decode cX4_told 133 = .ok (.goto 4, 3) := by decide +kernel
theorem dX4_told_136 : decode cX4_told 136 = .ok (.iconst 0, 1) := by decide +kernel
theorem dX4_told_137 : decode cX4_told 137 = .ok (.ireturn, 1) := by decide +kernel
theorem dX4_told_138 : decode cX4_told 138 = .ok (.aload_n 0, 1) := by decide +kernel
theorem dX4_told_139 : decode cX4_told 139 = .ok (.getfield 19, 3) := by decide +kernel
theorem dX4_told_142 : decode cX4_told 142 = .ok (.iload_n 1, 1) := by decide +kernel
theorem dX4_told_143 : decode cX4_told 143 = .ok (.invokevirtual 201, 3) := by decide +kernel
theorem dX4_told_146 : decode cX4_told 146 = .ok (.ireturn, 1) := by decide +kernel
theorem dX4_told_147 : decode cX4_told 147 = .ok (.new 170, 3) := by decide +kernel
theorem dX4_told_150 : decode cX4_told 150 = .ok (.dup, 1) := by decide +kernel
theorem dX4_told_151 : decode cX4_told 151 = .ok (.ldc 204, 2) := by decide +kernel
theorem dX4_told_153 : decode cX4_told 153 = .ok (.invokespecial 174, 3) := by decide +kernel
theorem dX4_told_156 : decode cX4_told 156 = .ok (.athrow, 1) := by decide +kernel
theorem dX4_day_0 : decode cX4_day 0 = .ok (.iload_n 1, 1) := by decide +kernel
theorem dX4_day_1 : decode cX4_day 1 = .ok (.iconst 0, 1) := by decide +kernel
theorem dX4_day_2 : decode cX4_day 2 = .ok (.iconst 2, 1) := by decide +kernel
theorem dX4_day_3 : decode cX4_day 3 = .ok (.invokestatic 50, 3) := by decide +kernel
theorem dX4_day_6 : decode cX4_day 6 = .ok (.iload_n 2, 1) := by decide +kernel
theorem dX4_day_7 : decode cX4_day 7 = .ok (.iconst 0, 1) := by decide +kernel
theorem dX4_day_8 : decode cX4_day 8 = .ok (.iload_n 1, 1) := by decide +kernel
theorem dX4_day_9 : decode cX4_day 9 = .ok (.iconst 2, 1) := by decide +kernel
theorem dX4_day_10 : decode cX4_day 10 = .ok (.if_icmp .ne 8, 3) := by decide +kernel
theorem dX4_day_13 : decode cX4_day 13 = .ok (.ldc 206, 2) := by decide +kernel
theorem dX4_day_15 : decode cX4_day 15 = .ok (.goto 5, 3) := by decide +kernel
theorem dX4_day_18 : decode cX4_day 18 = .ok (.ldc 207, 2) := by decide +kernel
theorem dX4_day_20 : decode cX4_day 20 = .ok (.invokestatic 50, 3) := by decide +kernel
theorem dX4_day_23 : decode cX4_day 23 = .ok (.iload_n 1, 1) := by decide +kernel
theorem dX4_day_24 : decode cX4_day 24 = .ok (.iconst 2, 1) := by decide +kernel
theorem dX4_day_25 : decode cX4_day 25 = .ok (.if_icmp .ne 17, 3) := by decide +kernel
theorem dX4_day_28 : decode cX4_day 28 = .ok (.iload_n 2, 1) := by decide +kernel
theorem dX4_day_29 : decode cX4_day 29 = .ok (.sipush 1000, 3) := by decide +kernel
theorem dX4_day_32 : decode cX4_day 32 = .ok (.idiv, 1) := by decide +kernel
theorem dX4_day_33 : decode cX4_day 33 = .ok (.iload_n 2, 1) := by decide +kernel
theorem dX4_day_34 : decode cX4_day 34 = .ok (.sipush 1000, 3) := by decide +kernel
theorem dX4_day_37 : decode cX4_day 37 = .ok (.irem, 1) := by decide +kernel
theorem dX4_day_38 : decode cX4_day 38 = .ok (.invokestatic 208, 3) := by decide +kernel
theorem dX4_day_41 : decode cX4_day 41 = .ok (.ireturn, 1) := by decide +kernel
theorem dX4_day_42 : decode cX4_day 42 = .ok (.iload_n 2, 1) := by decide +kernel
theorem dX4_day_43 : decode cX4_day 43 = .ok (.sipush 10000, 3) := by decide +kernel
theorem dX4_day_46 : decode cX4_day 46 = .ok (.idiv, 1) := by decide +kernel
theorem dX4_day_47 : decode cX4_day 47 = .ok (.istore_n 3, 1) := by decide +kernel
theorem dX4_day_48 : decode cX4_day 48 = .ok (.iload_n 2, 1) := by decide +kernel
theorem dX4_day_49 : decode cX4_day 49 = .ok (.bipush 100, 2) := by decide +kernel
theorem dX4_day_51 : decode cX4_day 51 = .ok (.idiv, 1) := by decide +kernel
theorem dX4_day_52 : decode cX4_day 52 = .ok (.bipush 100, 2) := by decide +kernel
theorem dX4_day_54 : decode cX4_day 54 = .ok (.irem, 1) := by decide +kernel
theorem dX4_day_55 : decode cX4_day 55 = .ok (.istore 4, 2) := by decide +kernel
theorem dX4_day_57 : decode cX4_day 57 = .ok (.iload_n 2, 1) := by decide +kernel
theorem dX4_day_58 : decode cX4_day 58 = .ok (.bipush 100, 2) := by decide +kernel
theorem dX4_day_60 : decode cX4_day 60 = .ok (.irem, 1) := by decide +kernel
theorem dX4_day_61 : decode cX4_day 61 = .ok (.istore 5, 2) := by decide +kernel
theorem dX4_day_63 : decode cX4_day 63 = .ok (.iload_n 1, 1) := by decide +kernel
theorem dX4_day_64 : decode cX4_day 64 = .ok (.iconst 1, 1) := by decide +kernel
theorem dX4_day_65 : decode cX4_day 65 = .ok (.if_icmp .ne 14, 3) := by decide +kernel
theorem dX4_day_68 : decode cX4_day 68 = .ok (.iload 5, 2) := by decide +kernel
theorem dX4_day_70 : decode cX4_day 70 = .ok (.iload 4, 2) := by decide +kernel
theorem dX4_day_72 : decode cX4_day 72 = .ok (.iload_n 3, 1) := by decide +kernel
theorem dX4_day_73 : decode cX4_day 73 = .ok (.invokestatic 213, 3) := by decide +kernel
theorem dX4_day_76 : decode cX4_day 76 = .ok (.goto 11, 3) := by decide +kernel
theorem dX4_day_79 : decode cX4_day 79 = .ok (.iload_n 3, 1) := by decide +kernel
theorem dX4_day_80 : decode cX4_day 80 = .ok (.iload 4, 2) := by decide +kernel
theorem dX4_day_82 : decode cX4_day 82 = .ok (.iload 5, 2) := by decide +kernel
theorem dX4_day_84 : decode cX4_day 84 = .ok (.invokestatic 213, 3) := by decide +kernel
theorem dX4_day_87 : decode cX4_day 87 = .ok (.ireturn, 1) := by decide +kernel
theorem dX4_date_0 : decode cX4_date 0 = .ok (.iload_n 1, 1) := by decide +kernel
theorem dX4_date_1 : decode cX4_date 1 = .ok (.iconst 0, 1) := by decide +kernel
theorem dX4_date_2 : decode cX4_date 2 = .ok (.iconst 2, 1) := by decide +kernel
theorem dX4_date_3 : decode cX4_date 3 = .ok (.invokestatic 50, 3) := by decide +kernel
theorem dX4_date_6 : decode cX4_date 6 = .ok (.iload_n 2, 1) := by decide +kernel
theorem dX4_date_7 : decode cX4_date 7 = .ok (.iconst 0, 1) := by decide +kernel
theorem dX4_date_8 : decode cX4_date 8 = .ok (.ldc 54, 2) := by decide +kernel
theorem dX4_date_10 : decode cX4_date 10 = .ok (.invokestatic 50, 3) := by decide +kernel
theorem dX4_date_13 : decode cX4_date 13 = .ok (.iload_n 2, 1) := by decide +kernel
theorem dX4_date_14 : decode cX4_date 14 = .ok (.invokestatic 217, 3) := by decide +kernel
theorem dX4_date_17 : decode cX4_date 17 = .ok (.istore_n 3, 1) := by decide +kernel
theorem dX4_date_18 : decode cX4_date 18 = .ok (.iload_n 2, 1) := by decide +kernel
theorem dX4_date_19 : decode cX4_date 19 = .ok (.iload_n 3, 1) := by decide +kernel
theorem dX4_date_20 : decode cX4_date 20 = .ok (.invokestatic 220, 3) := by decide +kernel
theorem dX4_date_23 : decode cX4_date 23 = .ok (.isub, 1) := by decide +kernel
theorem dX4_date_24 : decode cX4_date 24 = .ok (.iconst 1, 1) := by decide +kernel
theorem dX4_date_25 : decode cX4_date 25 = .ok (.iadd, 1) := by decide +kernel
theorem dX4_date_26 : decode cX4_date 26 = .ok (.istore 4, 2) := by decide +kernel
theorem dX4_date_28 : decode cX4_date 28 = .ok (.iload_n 1, 1) := by decide +kernel
theorem dX4_date_29 : decode cX4_date 29 = .ok (.iconst 2, 1) := by decide +kernel
theorem dX4_date_30 : decode cX4_date 30 = .ok (.if_icmp .ne 12, 3) := by decide +kernel
theorem dX4_date_33 : decode cX4_date 33 = .ok (.iload_n 3, 1) := by decide +kernel
theorem dX4_date_34 : decode cX4_date 34 = .ok (.sipush 1000, 3) := by decide +kernel
theorem dX4_date_37 : decode cX4_date 37 = .ok (.imul, 1) := by decide +kernel
theorem dX4_date_38 : decode cX4_date 38 = .ok (.iload 4, 2) := by decide +kernel
theorem dX4_date_40 : decode cX4_date 40 = .ok (.iadd, 1) := by decide +kernel
theorem dX4_date_41 : decode cX4_date 41 = .ok (.ireturn, 1) := by decide +kernel
theorem dX4_date_42 : decode cX4_date 42 = .ok (.iload_n 3, 1) := by decide +kernel
theorem dX4_date_43 : decode cX4_date 43 = .ok (.iload 4, 2) := by decide +kernel
theorem dX4_date_45 : decode cX4_date 45 = .ok (.invokestatic 223, 3) := by decide +kernel
theorem dX4_date_48 : decode cX4_date 48 = .ok (.istore 5, 2) := by decide +kernel
theorem dX4_date_50 : decode cX4_date 50 = .ok (.iload 4, 2) := by decide +kernel
theorem dX4_date_52 : decode cX4_date 52 = .ok (.iload_n 3, 1) := by decide +kernel
theorem dX4_date_53 : decode cX4_date 53 = .ok (.iload 5, 2) := by decide +kernel
theorem dX4_date_55 : decode cX4_date 55 = .ok (.invokestatic 226, 3) := by decide +kernel
theorem dX4_date_58 : decode cX4_date 58 = .ok (.isub, 1) := by decide +kernel
theorem dX4_date_59 : decode cX4_date 59 = .ok (.istore 6, 2) := by decide +kernel
theorem dX4_date_61 : decode cX4_date 61 = .ok (.iload_n 1, 1) := by decide +kernel
theorem dX4_date_62 : decode cX4_date 62 = .ok (.iconst 1, 1) := by decide +kernel
theorem dX4_date_63 : decode cX4_date 63 = .ok (.if_icmp .ne 20, 3) := by decide +kernel
theorem dX4_date_66 : decode cX4_date 66 = .ok (.iload 6, 2) := by decide +kernel
theorem dX4_date_68 : decode cX4_date 68 = .ok (.sipush 10000, 3) := by decide +kernel
theorem dX4_date_71 : decode cX4_date 71 = .ok (.imul, 1) := by decide +kernel
theorem dX4_date_72 : decode cX4_date 72 = .ok (.iload 5, 2) := by decide +kernel
theorem dX4_date_74 : decode cX4_date 74 = .ok (.bipush 100, 2) := by decide +kernel
theorem dX4_date_76 : decode cX4_date 76 = .ok (.imul, 1) := by decide +kernel
theorem dX4_date_77 : decode cX4_date 77 = .ok (.iadd, 1) := by decide +kernel
theorem dX4_date_78 : decode cX4_date 78 = .ok (.iload_n 3, 1) := by decide +kernel
theorem dX4_date_79 : decode cX4_date 79 = .ok (.iadd, 1) := by decide +kernel
theorem dX4_date_80 : decode cX4_date 80 = .ok (.goto 17, 3) := by decide +kernel
theorem dX4_date_83 : decode cX4_date 83 = .ok (.iload_n 3, 1) := by decide +kernel
theorem dX4_date_84 : decode cX4_date 84 = .ok (.sipush 10000, 3) := by decide +kernel
theorem dX4_date_87 : decode cX4_date 87 = .ok (.imul, 1) := by decide +kernel
theorem dX4_date_88 : decode cX4_date 88 = .ok (.iload 5, 2) := by decide +kernel
theorem dX4_date_90 : decode cX4_date 90 = .ok (.bipush 100, 2) := by decide +kernel
theorem dX4_date_92 : decode cX4_date 92 = .ok (.imul, 1) := by decide +kernel
theorem dX4_date_93 : decode cX4_date 93 = .ok (.iadd, 1) := by decide +kernel
theorem dX4_date_94 : decode cX4_date 94 = .ok (.iload 6, 2) := by decide +kernel
theorem dX4_date_96 : decode cX4_date 96 = .ok (.iadd, 1) := by decide +kernel
theorem dX4_date_97 : decode cX4_date 97 = .ok (.ireturn, 1) := by decide +kernel