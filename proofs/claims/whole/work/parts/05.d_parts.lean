theorem dX1_init_0 : decode cX1_init 0 = .ok (.aload_n 0, 1) := by decide +kernel
theorem dX1_init_1 : decode cX1_init 1 = .ok (.invokespecial 3, 3) := by decide +kernel
theorem dX1_init_4 : decode cX1_init 4 = .ok (.aload_n 0, 1) := by decide +kernel
theorem dX1_init_5 : decode cX1_init 5 = .ok (.bipush 41, 2) := by decide +kernel
theorem dX1_init_7 : decode cX1_init 7 = .ok (.newarray .int, 2) := by decide +kernel
theorem dX1_init_9 : decode cX1_init 9 = .ok (.putfield 9, 3) := by decide +kernel
theorem dX1_init_12 : decode cX1_init 12 = .ok (.aload_n 0, 1) := by decide +kernel
theorem dX1_init_13 : decode cX1_init 13 = .ok (.bipush 41, 2) := by decide +kernel
theorem dX1_init_15 : decode cX1_init 15 = .ok (.newarray .int, 2) := by decide +kernel
theorem dX1_init_17 : decode cX1_init 17 = .ok (.putfield 15, 3) := by decide +kernel
theorem dX1_init_20 : decode cX1_init 20 = .ok (.aload_n 0, 1) := by decide +kernel
theorem dX1_init_21 : decode cX1_init 21 = .ok (.bipush 41, 2) := by decide +kernel
theorem dX1_init_23 : decode cX1_init 23 = .ok (.newarray .int, 2) := by decide +kernel
theorem dX1_init_25 : decode cX1_init 25 = .ok (.putfield 18, 3) := by decide +kernel
theorem dX1_init_28 : decode cX1_init 28 = .ok (.aload_n 0, 1) := by decide +kernel
theorem dX1_init_29 : decode cX1_init 29 = .ok (.bipush 41, 2) := by decide +kernel
theorem dX1_init_31 : decode cX1_init 31 = .ok (.newarray .int, 2) := by decide +kernel
theorem dX1_init_33 : decode cX1_init 33 = .ok (.putfield 21, 3) := by decide +kernel
theorem dX1_init_36 : decode cX1_init 36 = .ok (.aload_n 0, 1) := by decide +kernel
theorem dX1_init_37 : decode cX1_init 37 = .ok (.bipush 41, 2) := by decide +kernel
theorem dX1_init_39 : decode cX1_init 39 = .ok (.newarray .boolean, 2) := by decide +kernel
theorem dX1_init_41 : decode cX1_init 41 = .ok (.putfield 24, 3) := by decide +kernel
theorem dX1_init_44 : decode cX1_init 44 = .ok (.aload_n 0, 1) := by decide +kernel
theorem dX1_init_45 : decode cX1_init 45 = .ok (.bipush 41, 2) := by decide +kernel
theorem dX1_init_47 : decode cX1_init 47 = .ok (.newarray .int, 2) := by decide +kernel
theorem dX1_init_49 : decode cX1_init 49 = .ok (.putfield 28, 3) := by decide +kernel
theorem dX1_init_52 : decode cX1_init 52 = .ok (.aload_n 0, 1) := by decide +kernel
theorem dX1_init_53 : decode cX1_init 53 = .ok (.bipush 41, 2) := by decide +kernel
theorem dX1_init_55 : decode cX1_init 55 = .ok (.newarray .boolean, 2) := by decide +kernel
theorem dX1_init_57 : decode cX1_init 57 = .ok (.putfield 31, 3) := by decide +kernel
theorem dX1_init_60 : decode cX1_init 60 = .ok (.aload_n 0, 1) := by decide +kernel
theorem dX1_init_61 : decode cX1_init 61 = .ok (.bipush 41, 2) := by decide +kernel
theorem dX1_init_63 : decode cX1_init 63 = .ok (.newarray .long, 2) := by decide +kernel
theorem dX1_init_65 : decode cX1_init 65 = .ok (.putfield 34, 3) := by decide +kernel
theorem dX1_init_68 : decode cX1_init 68 = .ok (.aload_n 0, 1) := by decide +kernel
theorem dX1_init_69 : decode cX1_init 69 = .ok (.iconst 0, 1) := by decide +kernel
theorem dX1_init_70 : decode cX1_init 70 = .ok (.putfield 38, 3) := by decide +kernel
theorem dX1_init_73 : decode cX1_init 73 = .ok (.return_, 1) := by decide +kernel
theorem dX3_init_0 : decode cX3_init 0 = .ok (.aload_n 0, 1) := by decide +kernel
theorem dX3_init_1 : decode cX3_init 1 = .ok (.invokespecial 3, 3) := by decide +kernel
theorem dX3_init_4 : decode cX3_init 4 = .ok (.aload_n 0, 1) := by decide +kernel
theorem dX3_init_5 : decode cX3_init 5 = .ok (.bipush 121, 2) := by decide +kernel
theorem dX3_init_7 : decode cX3_init 7 = .ok (.newarray .int, 2) := by decide +kernel
theorem dX3_init_9 : decode cX3_init 9 = .ok (.putfield 9, 3) := by decide +kernel
theorem dX3_init_12 : decode cX3_init 12 = .ok (.aload_n 0, 1) := by decide +kernel
theorem dX3_init_13 : decode cX3_init 13 = .ok (.bipush 121, 2) := by decide +kernel
theorem dX3_init_15 : decode cX3_init 15 = .ok (.newarray .int, 2) := by decide +kernel
theorem dX3_init_17 : decode cX3_init 17 = .ok (.putfield 15, 3) := by decide +kernel
theorem dX3_init_20 : decode cX3_init 20 = .ok (.aload_n 0, 1) := by decide +kernel
theorem dX3_init_21 : decode cX3_init 21 = .ok (.bipush 121, 2) := by decide +kernel
theorem dX3_init_23 : decode cX3_init 23 = .ok (.newarray .int, 2) := by decide +kernel
theorem dX3_init_25 : decode cX3_init 25 = .ok (.putfield 18, 3) := by decide +kernel
theorem dX3_init_28 : decode cX3_init 28 = .ok (.aload_n 0, 1) := by decide +kernel
theorem dX3_init_29 : decode cX3_init 29 = .ok (.bipush 121, 2) := by decide +kernel
theorem dX3_init_31 : decode cX3_init 31 = .ok (.newarray .int, 2) := by decide +kernel
theorem dX3_init_33 : decode cX3_init 33 = .ok (.putfield 21, 3) := by decide +kernel
theorem dX3_init_36 : decode cX3_init 36 = .ok (.aload_n 0, 1) := by decide +kernel
theorem dX3_init_37 : decode cX3_init 37 = .ok (.bipush 121, 2) := by decide +kernel
theorem dX3_init_39 : decode cX3_init 39 = .ok (.newarray .int, 2) := by decide +kernel
theorem dX3_init_41 : decode cX3_init 41 = .ok (.putfield 24, 3) := by decide +kernel
theorem dX3_init_44 : decode cX3_init 44 = .ok (.aload_n 0, 1) := by decide +kernel
theorem dX3_init_45 : decode cX3_init 45 = .ok (.iconst 0, 1) := by decide +kernel
theorem dX3_init_46 : decode cX3_init 46 = .ok (.putfield 27, 3) := by decide +kernel
theorem dX3_init_49 : decode cX3_init 49 = .ok (.aload_n 0, 1) := by decide +kernel
theorem dX3_init_50 : decode cX3_init 50 = .ok (.iconst 0, 1) := by decide +kernel
theorem dX3_init_51 : decode cX3_init 51 = .ok (.putfield 31, 3) := by decide +kernel
theorem dX3_init_54 : decode cX3_init 54 = .ok (.return_, 1) := by decide +kernel
theorem dX2_init_0 : decode cX2_init 0 = .ok (.aload_n 0, 1) := by decide +kernel
theorem dX2_init_1 : decode cX2_init 1 = .ok (.invokespecial 3, 3) := by decide +kernel
theorem dX2_init_4 : decode cX2_init 4 = .ok (.aload_n 0, 1) := by decide +kernel
theorem dX2_init_5 : decode cX2_init 5 = .ok (.sipush 400, 3) := by decide +kernel
theorem dX2_init_8 : decode cX2_init 8 = .ok (.newarray .int, 2) := by decide +kernel
theorem dX2_init_10 : decode cX2_init 10 = .ok (.putfield 9, 3) := by decide +kernel
theorem dX2_init_13 : decode cX2_init 13 = .ok (.aload_n 0, 1) := by decide +kernel
theorem dX2_init_14 : decode cX2_init 14 = .ok (.sipush 400, 3) := by decide +kernel
theorem dX2_init_17 : decode cX2_init 17 = .ok (.newarray .int, 2) := by decide +kernel
theorem dX2_init_19 : decode cX2_init 19 = .ok (.putfield 15, 3) := by decide +kernel
theorem dX2_init_22 : decode cX2_init 22 = .ok (.aload_n 0, 1) := by decide +kernel
theorem dX2_init_23 : decode cX2_init 23 = .ok (.sipush 400, 3) := by decide +kernel
theorem dX2_init_26 : decode cX2_init 26 = .ok (.newarray .int, 2) := by decide +kernel
theorem dX2_init_28 : decode cX2_init 28 = .ok (.putfield 18, 3) := by decide +kernel
theorem dX2_init_31 : decode cX2_init 31 = .ok (.aload_n 0, 1) := by decide +kernel
theorem dX2_init_32 : decode cX2_init 32 = .ok (.iconst 0, 1) := by decide +kernel
theorem dX2_init_33 : decode cX2_init 33 = .ok (.putfield 21, 3) := by decide +kernel
theorem dX2_init_36 : decode cX2_init 36 = .ok (.return_, 1) := by decide +kernel
theorem dX1_haveRoom_0 : decode cX1_haveRoom 0 = .ok (.aload_n 0, 1) := by decide +kernel
theorem dX1_haveRoom_1 : decode cX1_haveRoom 1 = .ok (.getfield 38, 3) := by decide +kernel
theorem dX1_haveRoom_4 : decode cX1_haveRoom 4 = .ok (.bipush 40, 2) := by decide +kernel
theorem dX1_haveRoom_6 : decode cX1_haveRoom 6 = .ok (.if_icmp .ge 7, 3) := by decide +kernel
theorem dX1_haveRoom_9 : decode cX1_haveRoom 9 = .ok (.iconst 1, 1) := by decide +kernel
theorem dX1_haveRoom_10 : decode cX1_haveRoom 10 = .ok (.goto 4, 3) := by decide +kernel
theorem dX1_haveRoom_13 : decode cX1_haveRoom 13 = .ok (.iconst 0, 1) := by decide +kernel
theorem dX1_haveRoom_14 : decode cX1_haveRoom 14 = .ok (.ireturn, 1) := by decide +kernel
theorem dX2_haveRoomFor_0 : decode cX2_haveRoomFor 0 = .ok (.aload_n 0, 1) := by decide +kernel
theorem dX2_haveRoomFor_1 : decode cX2_haveRoomFor 1 = .ok (.getfield 21, 3) := by decide +kernel
theorem dX2_haveRoomFor_4 : decode cX2_haveRoomFor 4 = .ok (.iload_n 1, 1) := by decide +kernel
theorem dX2_haveRoomFor_5 : decode cX2_haveRoomFor 5 = .ok (.iadd, 1) := by decide +kernel
theorem dX2_haveRoomFor_6 : decode cX2_haveRoomFor 6 = .ok (.sipush 400, 3) := by decide +kernel
theorem dX2_haveRoomFor_9 : decode cX2_haveRoomFor 9 = .ok (.if_icmp .gt 7, 3) := by decide +kernel
theorem dX2_haveRoomFor_12 : decode cX2_haveRoomFor 12 = .ok (.iconst 1, 1) := by decide +kernel
theorem dX2_haveRoomFor_13 : decode cX2_haveRoomFor 13 = .ok (.goto 4, 3) := by decide +kernel
theorem dX2_haveRoomFor_16 : decode cX2_haveRoomFor 16 = .ok (.iconst 0, 1) := by decide +kernel
theorem dX2_haveRoomFor_17 : decode cX2_haveRoomFor 17 = .ok (.ireturn, 1) := by decide +kernel
theorem dX1_add_0 : decode cX1_add 0 = .ok (.aload_n 0, 1) := by decide +kernel
theorem dX1_add_1 : decode cX1_add 1 = .ok (.dup, 1) := by decide +kernel
theorem dX1_add_2 : decode cX1_add 2 = .ok (.getfield 38, 3) := by decide +kernel
theorem dX1_add_5 : decode cX1_add 5 = .ok (.iconst 1, 1) := by decide +kernel
theorem dX1_add_6 : decode cX1_add 6 = .ok (.iadd, 1) := by decide +kernel
theorem dX1_add_7 : decode cX1_add 7 = .ok (.putfield 38, 3) := by decide +kernel
theorem dX1_add_10 : decode cX1_add 10 = .ok (.aload_n 0, 1) := by decide +kernel
theorem dX1_add_11 : decode cX1_add 11 = .ok (.getfield 9, 3) := by decide +kernel
theorem dX1_add_14 : decode cX1_add 14 = .ok (.aload_n 0, 1) := by decide +kernel
theorem dX1_add_15 : decode cX1_add 15 = .ok (.getfield 38, 3) := by decide +kernel
theorem dX1_add_18 : decode cX1_add 18 = .ok (.iload_n 1, 1) := by decide +kernel
theorem dX1_add_19 : decode cX1_add 19 = .ok (.iastore, 1) := by decide +kernel
theorem dX1_add_20 : decode cX1_add 20 = .ok (.aload_n 0, 1) := by decide +kernel
theorem dX1_add_21 : decode cX1_add 21 = .ok (.getfield 15, 3) := by decide +kernel
theorem dX1_add_24 : decode cX1_add 24 = .ok (.aload_n 0, 1) := by decide +kernel
theorem dX1_add_25 : decode cX1_add 25 = .ok (.getfield 38, 3) := by decide +kernel
theorem dX1_add_28 : decode cX1_add 28 = .ok (.iload_n 2, 1) := by decide +kernel
theorem dX1_add_29 : decode cX1_add 29 = .ok (.iastore, 1) := by decide +kernel
theorem dX1_add_30 : decode cX1_add 30 = .ok (.aload_n 0, 1) := by decide +kernel
theorem dX1_add_31 : decode cX1_add 31 = .ok (.getfield 18, 3) := by decide +kernel
theorem dX1_add_34 : decode cX1_add 34 = .ok (.aload_n 0, 1) := by decide +kernel
theorem dX1_add_35 : decode cX1_add 35 = .ok (.getfield 38, 3) := by decide +kernel
theorem dX1_add_38 : decode cX1_add 38 = .ok (.iload_n 3, 1) := by decide +kernel
theorem dX1_add_39 : decode cX1_add 39 = .ok (.iastore, 1) := by decide +kernel
theorem dX1_add_40 : decode cX1_add 40 = .ok (.aload_n 0, 1) := by decide +kernel
theorem dX1_add_41 : decode cX1_add 41 = .ok (.getfield 21, 3) := by decide +kernel
theorem dX1_add_44 : decode cX1_add 44 = .ok (.aload_n 0, 1) := by decide +kernel
theorem dX1_add_45 : decode cX1_add 45 = .ok (.getfield 38, 3) := by decide +kernel
theorem dX1_add_48 : decode cX1_add 48 = .ok (.iload 4, 2) := by decide +kernel
theorem dX1_add_50 : decode cX1_add 50 = .ok (.iastore, 1) := by decide +kernel
theorem dX1_add_51 : decode cX1_add 51 = .ok (.aload_n 0, 1) := by decide +kernel
theorem dX1_add_52 : decode cX1_add 52 = .ok (.getfield 24, 3) := by decide +kernel
theorem dX1_add_55 : decode cX1_add 55 = .ok (.aload_n 0, 1) := by decide +kernel
theorem dX1_add_56 : decode cX1_add 56 = .ok (.getfield 38, 3) := by decide +kernel
theorem dX1_add_59 : decode cX1_add 59 = .ok (.iconst 1, 1) := by decide +kernel
theorem dX1_add_60 : decode cX1_add 60 = .ok (.bastore, 1) := by decide +kernel
theorem dX1_add_61 : decode cX1_add 61 = .ok (.aload_n 0, 1) := by decide +kernel
theorem dX1_add_62 : decode cX1_add 62 = .ok (.getfield 38, 3) := by decide +kernel
theorem dX1_add_65 : decode cX1_add 65 = .ok (.ireturn, 1) := by decide +kernel
theorem dX2_write_0 : decode cX2_write 0 = .ok (.aload_n 0, 1) := by decide +kernel
theorem dX2_write_1 : decode cX2_write 1 = .ok (.getfield 9, 3) := by decide +kernel
theorem dX2_write_4 : decode cX2_write 4 = .ok (.aload_n 0, 1) := by decide +kernel
theorem dX2_write_5 : decode cX2_write 5 = .ok (.getfield 21, 3) := by decide +kernel
theorem dX2_write_8 : decode cX2_write 8 = .ok (.iload_n 1, 1) := by decide +kernel
theorem dX2_write_9 : decode cX2_write 9 = .ok (.iastore, 1) := by decide +kernel
theorem dX2_write_10 : decode cX2_write 10 = .ok (.aload_n 0, 1) := by decide +kernel
theorem dX2_write_11 : decode cX2_write 11 = .ok (.getfield 15, 3) := by decide +kernel
theorem dX2_write_14 : decode cX2_write 14 = .ok (.aload_n 0, 1) := by decide +kernel
theorem dX2_write_15 : decode cX2_write 15 = .ok (.getfield 21, 3) := by decide +kernel
theorem dX2_write_18 : decode cX2_write 18 = .ok (.iload_n 2, 1) := by decide +kernel
theorem dX2_write_19 : decode cX2_write 19 = .ok (.iastore, 1) := by decide +kernel
theorem dX2_write_20 : decode cX2_write 20 = .ok (.aload_n 0, 1) := by decide +kernel
theorem dX2_write_21 : decode cX2_write 21 = .ok (.getfield 18, 3) := by decide +kernel
theorem dX2_write_24 : decode cX2_write 24 = .ok (.aload_n 0, 1) := by decide +kernel
theorem dX2_write_25 : decode cX2_write 25 = .ok (.getfield 21, 3) := by decide +kernel
theorem dX2_write_28 : decode cX2_write 28 = .ok (.iload_n 3, 1) := by decide +kernel
theorem dX2_write_29 : decode cX2_write 29 = .ok (.iastore, 1) := by decide +kernel
theorem dX2_write_30 : decode cX2_write 30 = .ok (.aload_n 0, 1) := by decide +kernel
theorem dX2_write_31 : decode cX2_write 31 = .ok (.dup, 1) := by decide +kernel
theorem dX2_write_32 : decode cX2_write 32 = .ok (.getfield 21, 3) := by decide +kernel
theorem dX2_write_35 : decode cX2_write 35 = .ok (.iconst 1, 1) := by decide +kernel
theorem dX2_write_36 : decode cX2_write 36 = .ok (.iadd, 1) := by decide +kernel
theorem dX2_write_37 : decode cX2_write 37 = .ok (.putfield 21, 3) := by decide +kernel
theorem dX2_write_40 : decode cX2_write 40 = .ok (.return_, 1) := by decide +kernel
theorem dJ6_bitCount_0 : decode cJ6_bitCount 0 = .ok (.iload_n 0, 1) := by decide +kernel
theorem dJ6_bitCount_1 : decode cJ6_bitCount 1 = .ok (.iload_n 0, 1) := by decide +kernel
theorem dJ6_bitCount_2 : decode cJ6_bitCount 2 = .ok (.iconst 1, 1) := by decide +kernel
theorem dJ6_bitCount_3 : decode cJ6_bitCount 3 = .ok (.iushr, 1) := by decide +kernel
theorem dJ6_bitCount_4 : decode cJ6_bitCount 4 = .ok (.ldc_w 265, 3) := by decide +kernel
theorem dJ6_bitCount_7 : decode cJ6_bitCount 7 = .ok (.iand, 1) := by decide +kernel
theorem dJ6_bitCount_8 : decode cJ6_bitCount 8 = .ok (.isub, 1) := by decide +kernel
theorem dJ6_bitCount_9 : decode cJ6_bitCount 9 = .ok (.istore_n 0, 1) := by decide +kernel
theorem dJ6_bitCount_10 : decode cJ6_bitCount 10 = .ok (.iload_n 0, 1) := by decide +kernel
theorem dJ6_bitCount_11 : decode cJ6_bitCount 11 = .ok (.ldc_w 266, 3) := by decide +kernel
theorem dJ6_bitCount_14 : decode cJ6_bitCount 14 = .ok (.iand, 1) := by decide +kernel
theorem dJ6_bitCount_15 : decode cJ6_bitCount 15 = .ok (.iload_n 0, 1) := by decide +kernel
theorem dJ6_bitCount_16 : decode cJ6_bitCount 16 = .ok (.iconst 2, 1) := by decide +kernel
theorem dJ6_bitCount_17 : decode cJ6_bitCount 17 = .ok (.iushr, 1) := by decide +kernel
theorem dJ6_bitCount_18 : decode cJ6_bitCount 18 = .ok (.ldc_w 266, 3) := by decide +kernel
theorem dJ6_bitCount_21 : decode cJ6_bitCount 21 = .ok (.iand, 1) := by decide +kernel
theorem dJ6_bitCount_22 : decode cJ6_bitCount 22 = .ok (.iadd, 1) := by decide +kernel
theorem dJ6_bitCount_23 : decode cJ6_bitCount 23 = .ok (.istore_n 0, 1) := by decide +kernel
theorem dJ6_bitCount_24 : decode cJ6_bitCount 24 = .ok (.iload_n 0, 1) := by decide +kernel
theorem dJ6_bitCount_25 : decode cJ6_bitCount 25 = .ok (.iload_n 0, 1) := by decide +kernel
theorem dJ6_bitCount_26 : decode cJ6_bitCount 26 = .ok (.iconst 4, 1) := by decide +kernel
theorem dJ6_bitCount_27 : decode cJ6_bitCount 27 = .ok (.iushr, 1) := by decide +kernel
theorem dJ6_bitCount_28 : decode cJ6_bitCount 28 = .ok (.iadd, 1) := by decide +kernel
theorem dJ6_bitCount_29 : decode cJ6_bitCount 29 = .ok (.ldc_w 267, 3) := by decide +kernel
theorem dJ6_bitCount_32 : decode cJ6_bitCount 32 = .ok (.iand, 1) := by decide +kernel
theorem dJ6_bitCount_33 : decode cJ6_bitCount 33 = .ok (.istore_n 0, 1) := by decide +kernel
theorem dJ6_bitCount_34 : decode cJ6_bitCount 34 = .ok (.iload_n 0, 1) := by decide +kernel
theorem dJ6_bitCount_35 : decode cJ6_bitCount 35 = .ok (.iload_n 0, 1) := by decide +kernel
theorem dJ6_bitCount_36 : decode cJ6_bitCount 36 = .ok (.bipush 8, 2) := by decide +kernel
theorem dJ6_bitCount_38 : decode cJ6_bitCount 38 = .ok (.iushr, 1) := by decide +kernel
theorem dJ6_bitCount_39 : decode cJ6_bitCount 39 = .ok (.iadd, 1) := by decide +kernel
theorem dJ6_bitCount_40 : decode cJ6_bitCount 40 = .ok (.istore_n 0, 1) := by decide +kernel
theorem dJ6_bitCount_41 : decode cJ6_bitCount 41 = .ok (.iload_n 0, 1) := by decide +kernel
theorem dJ6_bitCount_42 : decode cJ6_bitCount 42 = .ok (.iload_n 0, 1) := by decide +kernel
theorem dJ6_bitCount_43 : decode cJ6_bitCount 43 = .ok (.bipush 16, 2) := by decide +kernel
theorem dJ6_bitCount_45 : decode cJ6_bitCount 45 = .ok (.iushr, 1) := by decide +kernel
theorem dJ6_bitCount_46 : decode cJ6_bitCount 46 = .ok (.iadd, 1) := by decide +kernel
theorem dJ6_bitCount_47 : decode cJ6_bitCount 47 = .ok (.istore_n 0, 1) := by decide +kernel
theorem dJ6_bitCount_48 : decode cJ6_bitCount 48 = .ok (.iload_n 0, 1) := by decide +kernel
theorem dJ6_bitCount_49 : decode cJ6_bitCount 49 = .ok (.bipush 63, 2) := by decide +kernel
theorem dJ6_bitCount_51 : decode cJ6_bitCount 51 = .ok (.iand, 1) := by decide +kernel
theorem dJ6_bitCount_52 : decode cJ6_bitCount 52 = .ok (.ireturn, 1) := by decide +kernel
theorem dX1_mayBeTakenFor_0 : decode cX1_mayBeTakenFor 0 = .ok (.aload_n 0, 1) := by decide +kernel
theorem dX1_mayBeTakenFor_1 : decode cX1_mayBeTakenFor 1 = .ok (.getfield 9, 3) := by decide +kernel
theorem dX1_mayBeTakenFor_4 : decode cX1_mayBeTakenFor 4 = .ok (.iload_n 1, 1) := by decide +kernel
theorem dX1_mayBeTakenFor_5 : decode cX1_mayBeTakenFor 5 = .ok (.iaload, 1) := by decide +kernel
theorem dX1_mayBeTakenFor_6 : decode cX1_mayBeTakenFor 6 = .ok (.iload_n 2, 1) := by decide +kernel
theorem dX1_mayBeTakenFor_7 : decode cX1_mayBeTakenFor 7 = .ok (.if_icmp .ne 25, 3) := by decide +kernel
theorem dX1_mayBeTakenFor_10 : decode cX1_mayBeTakenFor 10 = .ok (.aload_n 0, 1) := by decide +kernel
theorem dX1_mayBeTakenFor_11 : decode cX1_mayBeTakenFor 11 = .ok (.getfield 15, 3) := by decide +kernel
theorem dX1_mayBeTakenFor_14 : decode cX1_mayBeTakenFor 14 = .ok (.iload_n 1, 1) := by decide +kernel
theorem dX1_mayBeTakenFor_15 : decode cX1_mayBeTakenFor 15 = .ok (.iaload, 1) := by decide +kernel
theorem dX1_mayBeTakenFor_16 : decode cX1_mayBeTakenFor 16 = .ok (.iload_n 3, 1) := by decide +kernel
theorem dX1_mayBeTakenFor_17 : decode cX1_mayBeTakenFor 17 = .ok (.if_icmp .ne 15, 3) := by decide +kernel
theorem dX1_mayBeTakenFor_20 : decode cX1_mayBeTakenFor 20 = .ok (.aload_n 0, 1) := by decide +kernel
theorem dX1_mayBeTakenFor_21 : decode cX1_mayBeTakenFor 21 = .ok (.iload_n 1, 1) := by decide +kernel
theorem dX1_mayBeTakenFor_22 : decode cX1_mayBeTakenFor 22 = .ok (.invokevirtual 52, 3) := by decide +kernel
theorem dX1_mayBeTakenFor_25 : decode cX1_mayBeTakenFor 25 = .ok (.ifCond .eq 7, 3) := by decide +kernel
theorem dX1_mayBeTakenFor_28 : decode cX1_mayBeTakenFor 28 = .ok (.iconst 1, 1) := by decide +kernel
theorem dX1_mayBeTakenFor_29 : decode cX1_mayBeTakenFor 29 = .ok (.goto 4, 3) := by decide +kernel
theorem dX1_mayBeTakenFor_32 : decode cX1_mayBeTakenFor 32 = .ok (.iconst 0, 1) := by decide +kernel
theorem dX1_mayBeTakenFor_33 : decode cX1_mayBeTakenFor 33 = .ok (.ireturn, 1) := by decide +kernel
theorem dX1_mayBeTaken_0 : decode cX1_mayBeTaken 0 = .ok (.aload_n 0, 1) := by decide +kernel
theorem dX1_mayBeTaken_1 : decode cX1_mayBeTaken 1 = .ok (.getfield 24, 3) := by decide +kernel
theorem dX1_mayBeTaken_4 : decode cX1_mayBeTaken 4 = .ok (.iload_n 1, 1) := by decide +kernel
theorem dX1_mayBeTaken_5 : decode cX1_mayBeTaken 5 = .ok (.baload, 1) := by decide +kernel
theorem dX1_mayBeTaken_6 : decode cX1_mayBeTaken 6 = .ok (.ifCond .eq 25, 3) := by decide +kernel
theorem dX1_mayBeTaken_9 : decode cX1_mayBeTaken 9 = .ok (.aload_n 0, 1) := by decide +kernel
theorem dX1_mayBeTaken_10 : decode cX1_mayBeTaken 10 = .ok (.getfield 28, 3) := by decide +kernel
theorem dX1_mayBeTaken_13 : decode cX1_mayBeTaken 13 = .ok (.iload_n 1, 1) := by decide +kernel
theorem dX1_mayBeTaken_14 : decode cX1_mayBeTaken 14 = .ok (.iaload, 1) := by decide +kernel
theorem dX1_mayBeTaken_15 : decode cX1_mayBeTaken 15 = .ok (.ifCond .ne 16, 3) := by decide +kernel
theorem dX1_mayBeTaken_18 : decode cX1_mayBeTaken 18 = .ok (.aload_n 0, 1) := by decide +kernel
theorem dX1_mayBeTaken_19 : decode cX1_mayBeTaken 19 = .ok (.getfield 31, 3) := by decide +kernel
theorem dX1_mayBeTaken_22 : decode cX1_mayBeTaken 22 = .ok (.iload_n 1, 1) := by decide +kernel
theorem dX1_mayBeTaken_23 : decode cX1_mayBeTaken 23 = .ok (.baload, 1) := by decide +kernel
theorem dX1_mayBeTaken_24 : decode cX1_mayBeTaken 24 = .ok (.ifCond .ne 7, 3) := by decide +kernel
theorem dX1_mayBeTaken_27 : decode cX1_mayBeTaken 27 = .ok (.iconst 1, 1) := by decide +kernel
theorem dX1_mayBeTaken_28 : decode cX1_mayBeTaken 28 = .ok (.goto 4, 3) := by decide +kernel
theorem dX1_mayBeTaken_31 : decode cX1_mayBeTaken 31 = .ok (.iconst 0, 1) := by decide +kernel
theorem dX1_mayBeTaken_32 : decode cX1_mayBeTaken 32 = .ok (.ireturn, 1) := by decide +kernel
theorem dX1_rivalsBefore_0 : decode cX1_rivalsBefore 0 = .ok (.iconst 0, 1) := by decide +kernel
theorem dX1_rivalsBefore_1 : decode cX1_rivalsBefore 1 = .ok (.istore_n 3, 1) := by decide +kernel
theorem dX1_rivalsBefore_2 : decode cX1_rivalsBefore 2 = .ok (.iconst 1, 1) := by decide +kernel
theorem dX1_rivalsBefore_3 : decode cX1_rivalsBefore 3 = .ok (.istore 4, 2) := by decide +kernel
theorem dX1_rivalsBefore_5 : decode cX1_rivalsBefore 5 = .ok (.iload 4, 2) := by decide +kernel
theorem dX1_rivalsBefore_7 : decode cX1_rivalsBefore 7 = .ok (.aload_n 0, 1) := by decide +kernel
theorem dX1_rivalsBefore_8 : decode cX1_rivalsBefore 8 = .ok (.getfield 38, 3) := by decide +kernel
theorem dX1_rivalsBefore_11 : decode cX1_rivalsBefore 11 = .ok (.if_icmp .gt 44, 3) := by decide +kernel
theorem dX1_rivalsBefore_14 : decode cX1_rivalsBefore 14 = .ok (.aload_n 0, 1) := by decide +kernel
theorem dX1_rivalsBefore_15 : decode cX1_rivalsBefore 15 = .ok (.iload 4, 2) := by decide +kernel
theorem dX1_rivalsBefore_17 : decode cX1_rivalsBefore 17 = .ok (.aload_n 0, 1) := by decide +kernel
theorem dX1_rivalsBefore_18 : decode cX1_rivalsBefore 18 = .ok (.getfield 9, 3) := by decide +kernel
theorem dX1_rivalsBefore_21 : decode cX1_rivalsBefore 21 = .ok (.iload_n 1, 1) := by decide +kernel
theorem dX1_rivalsBefore_22 : decode cX1_rivalsBefore 22 = .ok (.iaload, 1) := by decide +kernel
theorem dX1_rivalsBefore_23 : decode cX1_rivalsBefore 23 = .ok (.aload_n 0, 1) := by decide +kernel
theorem dX1_rivalsBefore_24 : decode cX1_rivalsBefore 24 = .ok (.getfield 15, 3) := by decide +kernel
theorem dX1_rivalsBefore_27 : decode cX1_rivalsBefore 27 = .ok (.iload_n 1, 1) := by decide +kernel
theorem dX1_rivalsBefore_28 : decode cX1_rivalsBefore 28 = .ok (.iaload, 1) := by decide +kernel
theorem dX1_rivalsBefore_29 : decode cX1_rivalsBefore 29 = .ok (.invokevirtual 56, 3) := by decide +kernel
theorem dX1_rivalsBefore_32 : decode cX1_rivalsBefore 32 = .ok (.ifCond .eq 17, 3) := by decide +kernel
theorem dX1_rivalsBefore_35 : decode cX1_rivalsBefore 35 = .ok (.aload_n 0, 1) := by decide +kernel
theorem dX1_rivalsBefore_36 : decode cX1_rivalsBefore 36 = .ok (.iload 4, 2) := by decide +kernel
theorem dX1_rivalsBefore_38 : decode cX1_rivalsBefore 38 = .ok (.iload_n 1, 1) := by decide +kernel
theorem dX1_rivalsBefore_39 : decode cX1_rivalsBefore 39 = .ok (.iload_n 2, 1) := by decide +kernel
theorem dX1_rivalsBefore_40 : decode cX1_rivalsBefore 40 = .ok (.invokevirtual 60, 3) := by decide +kernel
theorem dX1_rivalsBefore_43 : decode cX1_rivalsBefore 43 = .ok (.ifCond .eq 6, 3) := by decide +kernel
theorem dX1_rivalsBefore_46 : decode cX1_rivalsBefore 46 = .ok (.iinc 3 1, 3) := by decide +kernel
theorem dX1_rivalsBefore_49 : decode cX1_rivalsBefore 49 = .ok (.iinc 4 1, 3) := by decide +kernel
theorem dX1_rivalsBefore_52 : decode cX1_rivalsBefore 52 = .ok (.goto (-47), 3) := by decide +kernel
theorem dX1_rivalsBefore_55 : decode cX1_rivalsBefore 55 = .ok (.iload_n 3, 1) := by decide +kernel
theorem dX1_rivalsBefore_56 : decode cX1_rivalsBefore 56 = .ok (.ireturn, 1) := by decide +kernel
theorem dX1_comesBefore_0 : decode cX1_comesBefore 0 = .ok (.iload_n 3, 1) := by decide +kernel
theorem dX1_comesBefore_1 : decode cX1_comesBefore 1 = .ok (.iconst 2, 1) := by decide +kernel
theorem dX1_comesBefore_2 : decode cX1_comesBefore 2 = .ok (.if_icmp .ne 10, 3) := by decide +kernel
theorem dX1_comesBefore_5 : decode cX1_comesBefore 5 = .ok (.aload_n 0, 1) := by decide +kernel
theorem dX1_comesBefore_6 : decode cX1_comesBefore 6 = .ok (.iload_n 2, 1) := by decide +kernel
theorem dX1_comesBefore_7 : decode cX1_comesBefore 7 = .ok (.iload_n 1, 1) := by decide +kernel
theorem dX1_comesBefore_8 : decode cX1_comesBefore 8 = .ok (.invokevirtual 63, 3) := by decide +kernel
theorem dX1_comesBefore_11 : decode cX1_comesBefore 11 = .ok (.ireturn, 1) := by decide +kernel
theorem dX1_comesBefore_12 : decode cX1_comesBefore 12 = .ok (.iload_n 3, 1) := by decide +kernel
theorem dX1_comesBefore_13 : decode cX1_comesBefore 13 = .ok (.ifCond .ne 39, 3) := by decide +kernel
theorem dX1_comesBefore_16 : decode cX1_comesBefore 16 = .ok (.aload_n 0, 1) := by decide +kernel
theorem dX1_comesBefore_17 : decode cX1_comesBefore 17 = .ok (.getfield 18, 3) := by decide +kernel
theorem dX1_comesBefore_20 : decode cX1_comesBefore 20 = .ok (.iload_n 1, 1) := by decide +kernel
theorem dX1_comesBefore_21 : decode cX1_comesBefore 21 = .ok (.iaload, 1) := by decide +kernel
theorem dX1_comesBefore_22 : decode cX1_comesBefore 22 = .ok (.aload_n 0, 1) := by decide +kernel
theorem dX1_comesBefore_23 : decode cX1_comesBefore 23 = .ok (.getfield 18, 3) := by decide +kernel
theorem dX1_comesBefore_26 : decode cX1_comesBefore 26 = .ok (.iload_n 2, 1) := by decide +kernel
theorem dX1_comesBefore_27 : decode cX1_comesBefore 27 = .ok (.iaload, 1) := by decide +kernel
theorem dX1_comesBefore_28 : decode cX1_comesBefore 28 = .ok (.if_icmp .eq 24, 3) := by decide +kernel
theorem dX1_comesBefore_31 : decode cX1_comesBefore 31 = .ok (.aload_n 0, 1) := by decide +kernel
theorem dX1_comesBefore_32 : decode cX1_comesBefore 32 = .ok (.getfield 18, 3) := by decide +kernel
theorem dX1_comesBefore_35 : decode cX1_comesBefore 35 = .ok (.iload_n 1, 1) := by decide +kernel
theorem dX1_comesBefore_36 : decode cX1_comesBefore 36 = .ok (.iaload, 1) := by decide +kernel
theorem dX1_comesBefore_37 : decode cX1_comesBefore 37 = .ok (.aload_n 0, 1) := by decide +kernel
theorem dX1_comesBefore_38 : decode cX1_comesBefore 38 = .ok (.getfield 18, 3) := by decide +kernel
theorem dX1_comesBefore_41 : decode cX1_comesBefore 41 = .ok (.iload_n 2, 1) := by decide +kernel
theorem dX1_comesBefore_42 : decode cX1_comesBefore 42 = .ok (.iaload, 1) := by decide +kernel
theorem dX1_comesBefore_43 : decode cX1_comesBefore 43 = .ok (.if_icmp .ge 7, 3) := by decide +kernel
theorem dX1_comesBefore_46 : decode cX1_comesBefore 46 = .ok (.iconst 1, 1) := by decide +kernel
theorem dX1_comesBefore_47 : decode cX1_comesBefore 47 = .ok (.goto 4, 3) := by decide +kernel
theorem dX1_comesBefore_50 : decode cX1_comesBefore 50 = .ok (.iconst 0, 1) := by decide +kernel
theorem dX1_comesBefore_51 : decode cX1_comesBefore 51 = .ok (.ireturn, 1) := by decide +kernel
theorem dX1_comesBefore_52 : decode cX1_comesBefore 52 = .ok (.aload_n 0, 1) := by decide +kernel
theorem dX1_comesBefore_53 : decode cX1_comesBefore 53 = .ok (.iload_n 1, 1) := by decide +kernel
theorem dX1_comesBefore_54 : decode cX1_comesBefore 54 = .ok (.iload_n 2, 1) := by decide +kernel
theorem dX1_comesBefore_55 : decode cX1_comesBefore 55 = .ok (.invokevirtual 63, 3) := by decide +kernel
theorem dX1_comesBefore_58 : decode cX1_comesBefore 58 = .ok (.ireturn, 1) := by decide +kernel
theorem dX1_arrivedBefore_0 : decode cX1_arrivedBefore 0 = .ok (.aload_n 0, 1) := by decide +kernel
theorem dX1_arrivedBefore_1 : decode cX1_arrivedBefore 1 = .ok (.getfield 21, 3) := by decide +kernel
theorem dX1_arrivedBefore_4 : decode cX1_arrivedBefore 4 = .ok (.iload_n 1, 1) := by decide +kernel
theorem dX1_arrivedBefore_5 : decode cX1_arrivedBefore 5 = .ok (.iaload, 1) := by decide +kernel
theorem dX1_arrivedBefore_6 : decode cX1_arrivedBefore 6 = .ok (.aload_n 0, 1) := by decide +kernel
theorem dX1_arrivedBefore_7 : decode cX1_arrivedBefore 7 = .ok (.getfield 21, 3) := by decide +kernel
theorem dX1_arrivedBefore_10 : decode cX1_arrivedBefore 10 = .ok (.iload_n 2, 1) := by decide +kernel
theorem dX1_arrivedBefore_11 : decode cX1_arrivedBefore 11 = .ok (.iaload, 1) := by decide +kernel
theorem dX1_arrivedBefore_12 : decode cX1_arrivedBefore 12 = .ok (.if_icmp .eq 24, 3) := by decide +kernel
theorem dX1_arrivedBefore_15 : decode cX1_arrivedBefore 15 = .ok (.aload_n 0, 1) := by decide +kernel
theorem dX1_arrivedBefore_16 : decode cX1_arrivedBefore 16 = .ok (.getfield 21, 3) := by decide +kernel
theorem dX1_arrivedBefore_19 : decode cX1_arrivedBefore 19 = .ok (.iload_n 1, 1) := by decide +kernel
theorem dX1_arrivedBefore_20 : decode cX1_arrivedBefore 20 = .ok (.iaload, 1) := by decide +kernel
theorem dX1_arrivedBefore_21 : decode cX1_arrivedBefore 21 = .ok (.aload_n 0, 1) := by decide +kernel
theorem dX1_arrivedBefore_22 : decode cX1_arrivedBefore 22 = .ok (.getfield 21, 3) := by decide +kernel
theorem dX1_arrivedBefore_25 : decode cX1_arrivedBefore 25 = .ok (.iload_n 2, 1) := by decide +kernel
theorem dX1_arrivedBefore_26 : decode cX1_arrivedBefore 26 = .ok (.iaload, 1) := by decide +kernel
theorem dX1_arrivedBefore_27 : decode cX1_arrivedBefore 27 = .ok (.if_icmp .ge 7, 3) := by decide +kernel
theorem dX1_arrivedBefore_30 : decode cX1_arrivedBefore 30 = .ok (.iconst 1, 1) := by decide +kernel
theorem dX1_arrivedBefore_31 : decode cX1_arrivedBefore 31 = .ok (.goto 4, 3) := by decide +kernel
theorem dX1_arrivedBefore_34 : decode cX1_arrivedBefore 34 = .ok (.iconst 0, 1) := by decide +kernel
theorem dX1_arrivedBefore_35 : decode cX1_arrivedBefore 35 = .ok (.ireturn, 1) := by decide +kernel
theorem dX1_arrivedBefore_36 : decode cX1_arrivedBefore 36 = .ok (.iload_n 1, 1) := by decide +kernel
theorem dX1_arrivedBefore_37 : decode cX1_arrivedBefore 37 = .ok (.iload_n 2, 1) := by decide +kernel
theorem dX1_arrivedBefore_38 : decode cX1_arrivedBefore 38 = .ok (.if_icmp .ge 7, 3) := by decide +kernel
theorem dX1_arrivedBefore_41 : decode cX1_arrivedBefore 41 = .ok (.iconst 1, 1) := by decide +kernel
theorem dX1_arrivedBefore_42 : decode cX1_arrivedBefore 42 = .ok (.goto 4, 3) := by decide +kernel
theorem dX1_arrivedBefore_45 : decode cX1_arrivedBefore 45 = .ok (.iconst 0, 1) := by decide +kernel
theorem dX1_arrivedBefore_46 : decode cX1_arrivedBefore 46 = .ok (.ireturn, 1) := by decide +kernel
theorem dX1_addPartOf_0 : decode cX1_addPartOf 0 = .ok (.aload_n 0, 1) := by decide +kernel
theorem dX1_addPartOf_1 : decode cX1_addPartOf 1 = .ok (.aload_n 0, 1) := by decide +kernel
theorem dX1_addPartOf_2 : decode cX1_addPartOf 2 = .ok (.getfield 9, 3) := by decide +kernel
theorem dX1_addPartOf_5 : decode cX1_addPartOf 5 = .ok (.iload_n 1, 1) := by decide +kernel
theorem dX1_addPartOf_6 : decode cX1_addPartOf 6 = .ok (.iaload, 1) := by decide +kernel
theorem dX1_addPartOf_7 : decode cX1_addPartOf 7 = .ok (.aload_n 0, 1) := by decide +kernel
theorem dX1_addPartOf_8 : decode cX1_addPartOf 8 = .ok (.getfield 15, 3) := by decide +kernel
theorem dX1_addPartOf_11 : decode cX1_addPartOf 11 = .ok (.iload_n 1, 1) := by decide +kernel
theorem dX1_addPartOf_12 : decode cX1_addPartOf 12 = .ok (.iaload, 1) := by decide +kernel
theorem dX1_addPartOf_13 : decode cX1_addPartOf 13 = .ok (.aload_n 0, 1) := by decide +kernel
theorem dX1_addPartOf_14 : decode cX1_addPartOf 14 = .ok (.getfield 18, 3) := by decide +kernel
theorem dX1_addPartOf_17 : decode cX1_addPartOf 17 = .ok (.iload_n 1, 1) := by decide +kernel
theorem dX1_addPartOf_18 : decode cX1_addPartOf 18 = .ok (.iaload, 1) := by decide +kernel
theorem dX1_addPartOf_19 : decode cX1_addPartOf 19 = .ok (.aload_n 0, 1) := by decide +kernel
theorem dX1_addPartOf_20 : decode cX1_addPartOf 20 = .ok (.getfield 21, 3) := by decide +kernel
theorem dX1_addPartOf_23 : decode cX1_addPartOf 23 = .ok (.iload_n 1, 1) := by decide +kernel
theorem dX1_addPartOf_24 : decode cX1_addPartOf 24 = .ok (.iaload, 1) := by decide +kernel
theorem dX1_addPartOf_25 : decode cX1_addPartOf 25 = .ok (.invokevirtual 42, 3) := by decide +kernel
theorem dX1_addPartOf_28 : decode cX1_addPartOf 28 = .ok (.istore_n 2, 1) := by decide +kernel
theorem dX1_addPartOf_29 : decode cX1_addPartOf 29 = .ok (.aload_n 0, 1) := by decide +kernel
theorem dX1_addPartOf_30 : decode cX1_addPartOf 30 = .ok (.getfield 28, 3) := by decide +kernel
theorem dX1_addPartOf_33 : decode cX1_addPartOf 33 = .ok (.iload_n 2, 1) := by decide +kernel
theorem dX1_addPartOf_34 : decode cX1_addPartOf 34 = .ok (.aload_n 0, 1) := by decide +kernel
theorem dX1_addPartOf_35 : decode cX1_addPartOf 35 = .ok (.getfield 28, 3) := by decide +kernel
theorem dX1_addPartOf_38 : decode cX1_addPartOf 38 = .ok (.iload_n 1, 1) := by decide +kernel
theorem dX1_addPartOf_39 : decode cX1_addPartOf 39 = .ok (.iaload, 1) := by decide +kernel
theorem dX1_addPartOf_40 : decode cX1_addPartOf 40 = .ok (.iastore, 1) := by decide +kernel
theorem dX1_addPartOf_41 : decode cX1_addPartOf 41 = .ok (.aload_n 0, 1) := by decide +kernel
theorem dX1_addPartOf_42 : decode cX1_addPartOf 42 = .ok (.getfield 31, 3) := by decide +kernel
theorem dX1_addPartOf_45 : decode cX1_addPartOf 45 = .ok (.iload_n 2, 1) := by decide +kernel
theorem dX1_addPartOf_46 : decode cX1_addPartOf 46 = .ok (.aload_n 0, 1) := by decide +kernel
theorem dX1_addPartOf_47 : decode cX1_addPartOf 47 = .ok (.getfield 31, 3) := by decide +kernel
theorem dX1_addPartOf_50 : decode cX1_addPartOf 50 = .ok (.iload_n 1, 1) := by decide +kernel
theorem dX1_addPartOf_51 : decode cX1_addPartOf 51 = .ok (.baload, 1) := by decide +kernel
theorem dX1_addPartOf_52 : decode cX1_addPartOf 52 = .ok (.bastore, 1) := by decide +kernel
theorem dX1_addPartOf_53 : decode cX1_addPartOf 53 = .ok (.aload_n 0, 1) := by decide +kernel
theorem dX1_addPartOf_54 : decode cX1_addPartOf 54 = .ok (.getfield 34, 3) := by decide +kernel
theorem dX1_addPartOf_57 : decode cX1_addPartOf 57 = .ok (.iload_n 1, 1) := by decide +kernel
theorem dX1_addPartOf_58 : decode cX1_addPartOf 58 = .ok (.dup2, 1) := by decide +kernel
theorem dX1_addPartOf_59 : decode cX1_addPartOf 59 = .ok (.laload, 1) := by decide +kernel
theorem dX1_addPartOf_60 : decode cX1_addPartOf 60 = .ok (.lconst 1, 1) := by decide +kernel
theorem dX1_addPartOf_61 : decode cX1_addPartOf 61 = .ok (.iload_n 2, 1) := by decide +kernel
theorem dX1_addPartOf_62 : decode cX1_addPartOf 62 = .ok (.lshl, 1) := by decide +kernel
theorem dX1_addPartOf_63 : decode cX1_addPartOf 63 = .ok (.lor, 1) := by decide +kernel
theorem dX1_addPartOf_64 : decode cX1_addPartOf 64 = .ok (.lastore, 1) := by decide +kernel
theorem dX1_addPartOf_65 : decode cX1_addPartOf 65 = .ok (.iload_n 2, 1) := by decide +kernel
theorem dX1_addPartOf_66 : decode cX1_addPartOf 66 = .ok (.ireturn, 1) := by decide +kernel
theorem dX1_areAlike_0 : decode cX1_areAlike 0 = .ok (.aload_n 0, 1) := by decide +kernel
theorem dX1_areAlike_1 : decode cX1_areAlike 1 = .ok (.getfield 9, 3) := by decide +kernel
theorem dX1_areAlike_4 : decode cX1_areAlike 4 = .ok (.iload_n 1, 1) := by decide +kernel
theorem dX1_areAlike_5 : decode cX1_areAlike 5 = .ok (.iaload, 1) := by decide +kernel
theorem dX1_areAlike_6 : decode cX1_areAlike 6 = .ok (.aload_n 0, 1) := by decide +kernel
theorem dX1_areAlike_7 : decode cX1_areAlike 7 = .ok (.getfield 9, 3) := by decide +kernel
theorem dX1_areAlike_10 : decode cX1_areAlike 10 = .ok (.iload_n 2, 1) := by decide +kernel
theorem dX1_areAlike_11 : decode cX1_areAlike 11 = .ok (.iaload, 1) := by decide +kernel
theorem dX1_areAlike_12 : decode cX1_areAlike 12 = .ok (.if_icmp .ne 67, 3) := by decide +kernel
theorem dX1_areAlike_15 : decode cX1_areAlike 15 = .ok (.aload_n 0, 1) := by decide +kernel
theorem dX1_areAlike_16 : decode cX1_areAlike 16 = .ok (.getfield 15, 3) := by decide +kernel
theorem dX1_areAlike_19 : decode cX1_areAlike 19 = .ok (.iload_n 1, 1) := by decide +kernel
theorem dX1_areAlike_20 : decode cX1_areAlike 20 = .ok (.iaload, 1) := by decide +kernel
theorem dX1_areAlike_21 : decode cX1_areAlike 21 = .ok (.aload_n 0, 1) := by decide +kernel
theorem dX1_areAlike_22 : decode cX1_areAlike 22 = .ok (.getfield 15, 3) := by decide +kernel
theorem dX1_areAlike_25 : decode cX1_areAlike 25 = .ok (.iload_n 2, 1) := by decide +kernel
theorem dX1_areAlike_26 : decode cX1_areAlike 26 = .ok (.iaload, 1) := by decide +kernel
theorem dX1_areAlike_27 : decode cX1_areAlike 27 = .ok (.if_icmp .ne 52, 3) := by decide +kernel
theorem dX1_areAlike_30 : decode cX1_areAlike 30 = .ok (.aload_n 0, 1) := by decide +kernel
theorem dX1_areAlike_31 : decode cX1_areAlike 31 = .ok (.getfield 18, 3) := by decide +kernel
theorem dX1_areAlike_34 : decode cX1_areAlike 34 = .ok (.iload_n 1, 1) := by decide +kernel
theorem dX1_areAlike_35 : decode cX1_areAlike 35 = .ok (.iaload, 1) := by decide +kernel
theorem dX1_areAlike_36 : decode cX1_areAlike 36 = .ok (.aload_n 0, 1) := by decide +kernel
theorem dX1_areAlike_37 : decode cX1_areAlike 37 = .ok (.getfield 18, 3) := by decide +kernel
theorem dX1_areAlike_40 : decode cX1_areAlike 40 = .ok (.iload_n 2, 1) := by decide +kernel
theorem dX1_areAlike_41 : decode cX1_areAlike 41 = .ok (.iaload, 1) := by decide +kernel
theorem dX1_areAlike_42 : decode cX1_areAlike 42 = .ok (.if_icmp .ne 37, 3) := by decide +kernel
theorem dX1_areAlike_45 : decode cX1_areAlike 45 = .ok (.aload_n 0, 1) := by decide +kernel
theorem dX1_areAlike_46 : decode cX1_areAlike 46 = .ok (.getfield 28, 3) := by decide +kernel
theorem dX1_areAlike_49 : decode cX1_areAlike 49 = .ok (.iload_n 1, 1) := by decide +kernel
theorem dX1_areAlike_50 : decode cX1_areAlike 50 = .ok (.iaload, 1) := by decide +kernel
theorem dX1_areAlike_51 : decode cX1_areAlike 51 = .ok (.aload_n 0, 1) := by decide +kernel
theorem dX1_areAlike_52 : decode cX1_areAlike 52 = .ok (.getfield 28, 3) := by decide +kernel
theorem dX1_areAlike_55 : decode cX1_areAlike 55 = .ok (.iload_n 2, 1) := by decide +kernel
theorem dX1_areAlike_56 : decode cX1_areAlike 56 = .ok (.iaload, 1) := by decide +kernel
theorem dX1_areAlike_57 : decode cX1_areAlike 57 = .ok (.if_icmp .ne 22, 3) := by decide +kernel
theorem dX1_areAlike_60 : decode cX1_areAlike 60 = .ok (.aload_n 0, 1) := by decide +kernel
theorem dX1_areAlike_61 : decode cX1_areAlike 61 = .ok (.getfield 31, 3) := by decide +kernel
theorem dX1_areAlike_64 : decode cX1_areAlike 64 = .ok (.iload_n 1, 1) := by decide +kernel
theorem dX1_areAlike_65 : decode cX1_areAlike 65 = .ok (.baload, 1) := by decide +kernel
theorem dX1_areAlike_66 : decode cX1_areAlike 66 = .ok (.aload_n 0, 1) := by decide +kernel
theorem dX1_areAlike_67 : decode cX1_areAlike 67 = .ok (.getfield 31, 3) := by decide +kernel
theorem dX1_areAlike_70 : decode cX1_areAlike 70 = .ok (.iload_n 2, 1) := by decide +kernel
theorem dX1_areAlike_71 : decode cX1_areAlike 71 = .ok (.baload, 1) := by decide +kernel
theorem dX1_areAlike_72 : decode cX1_areAlike 72 = .ok (.if_icmp .ne 7, 3) := by decide +kernel
theorem dX1_areAlike_75 : decode cX1_areAlike 75 = .ok (.iconst 1, 1) := by decide +kernel
theorem dX1_areAlike_76 : decode cX1_areAlike 76 = .ok (.goto 4, 3) := by decide +kernel
theorem dX1_areAlike_79 : decode cX1_areAlike 79 = .ok (.iconst 0, 1) := by decide +kernel
theorem dX1_areAlike_80 : decode cX1_areAlike 80 = .ok (.ireturn, 1) := by decide +kernel
theorem dX1_closeInto_0 : decode cX1_closeInto 0 = .ok (.aload_n 0, 1) := by decide +kernel
theorem dX1_closeInto_1 : decode cX1_closeInto 1 = .ok (.getfield 24, 3) := by decide +kernel
theorem dX1_closeInto_4 : decode cX1_closeInto 4 = .ok (.iload_n 2, 1) := by decide +kernel
theorem dX1_closeInto_5 : decode cX1_closeInto 5 = .ok (.iconst 0, 1) := by decide +kernel
theorem dX1_closeInto_6 : decode cX1_closeInto 6 = .ok (.bastore, 1) := by decide +kernel
theorem dX1_closeInto_7 : decode cX1_closeInto 7 = .ok (.aload_n 0, 1) := by decide +kernel
theorem dX1_closeInto_8 : decode cX1_closeInto 8 = .ok (.getfield 34, 3) := by decide +kernel
theorem dX1_closeInto_11 : decode cX1_closeInto 11 = .ok (.iload_n 1, 1) := by decide +kernel
theorem dX1_closeInto_12 : decode cX1_closeInto 12 = .ok (.dup2, 1) := by decide +kernel
theorem dX1_closeInto_13 : decode cX1_closeInto 13 = .ok (.laload, 1) := by decide +kernel
theorem dX1_closeInto_14 : decode cX1_closeInto 14 = .ok (.lconst 1, 1) := by decide +kernel
theorem dX1_closeInto_15 : decode cX1_closeInto 15 = .ok (.iload_n 2, 1) := by decide +kernel
theorem dX1_closeInto_16 : decode cX1_closeInto 16 = .ok (.lshl, 1) := by decide +kernel
theorem dX1_closeInto_17 : decode cX1_closeInto 17 = .ok (.lor, 1) := by decide +kernel
theorem dX1_closeInto_18 : decode cX1_closeInto 18 = .ok (.lastore, 1) := by decide +kernel
theorem dX1_closeInto_19 : decode cX1_closeInto 19 = .ok (.return_, 1) := by decide +kernel
theorem dX3_moveAll_0 : decode cX3_moveAll 0 = .ok (.iconst 1, 1) := by decide +kernel
theorem dX3_moveAll_1 : decode cX3_moveAll 1 = .ok (.istore_n 3, 1) := by decide +kernel
theorem dX3_moveAll_2 : decode cX3_moveAll 2 = .ok (.iload_n 3, 1) := by decide +kernel
theorem dX3_moveAll_3 : decode cX3_moveAll 3 = .ok (.aload_n 0, 1) := by decide +kernel
theorem dX3_moveAll_4 : decode cX3_moveAll 4 = .ok (.getfield 27, 3) := by decide +kernel
theorem dX3_moveAll_7 : decode cX3_moveAll 7 = .ok (.if_icmp .gt 26, 3) := by decide +kernel
theorem dX3_moveAll_10 : decode cX3_moveAll 10 = .ok (.aload_n 0, 1) := by decide +kernel
theorem dX3_moveAll_11 : decode cX3_moveAll 11 = .ok (.getfield 9, 3) := by decide +kernel
theorem dX3_moveAll_14 : decode cX3_moveAll 14 = .ok (.iload_n 3, 1) := by decide +kernel
theorem dX3_moveAll_15 : decode cX3_moveAll 15 = .ok (.iaload, 1) := by decide +kernel
theorem dX3_moveAll_16 : decode cX3_moveAll 16 = .ok (.iload_n 1, 1) := by decide +kernel
theorem dX3_moveAll_17 : decode cX3_moveAll 17 = .ok (.if_icmp .ne 10, 3) := by decide +kernel
theorem dX3_moveAll_20 : decode cX3_moveAll 20 = .ok (.aload_n 0, 1) := by decide +kernel
theorem dX3_moveAll_21 : decode cX3_moveAll 21 = .ok (.getfield 9, 3) := by decide +kernel
theorem dX3_moveAll_24 : decode cX3_moveAll 24 = .ok (.iload_n 3, 1) := by decide +kernel
theorem dX3_moveAll_25 : decode cX3_moveAll 25 = .ok (.iload_n 2, 1) := by decide +kernel
theorem dX3_moveAll_26 : decode cX3_moveAll 26 = .ok (.iastore, 1) := by decide +kernel
theorem dX3_moveAll_27 : decode cX3_moveAll 27 = .ok (.iinc 3 1, 3) := by decide +kernel
theorem dX3_moveAll_30 : decode cX3_moveAll 30 = .ok (.goto (-28), 3) := by decide +kernel
theorem dX3_moveAll_33 : decode cX3_moveAll 33 = .ok (.return_, 1) := by decide +kernel
theorem dX3_haveRoom_0 : decode cX3_haveRoom 0 = .ok (.aload_n 0, 1) := by decide +kernel
theorem dX3_haveRoom_1 : decode cX3_haveRoom 1 = .ok (.getfield 27, 3) := by decide +kernel
theorem dX3_haveRoom_4 : decode cX3_haveRoom 4 = .ok (.bipush 120, 2) := by decide +kernel
theorem dX3_haveRoom_6 : decode cX3_haveRoom 6 = .ok (.if_icmp .ge 7, 3) := by decide +kernel
theorem dX3_haveRoom_9 : decode cX3_haveRoom 9 = .ok (.iconst 1, 1) := by decide +kernel
theorem dX3_haveRoom_10 : decode cX3_haveRoom 10 = .ok (.goto 4, 3) := by decide +kernel
theorem dX3_haveRoom_13 : decode cX3_haveRoom 13 = .ok (.iconst 0, 1) := by decide +kernel
theorem dX3_haveRoom_14 : decode cX3_haveRoom 14 = .ok (.ireturn, 1) := by decide +kernel
theorem dX3_add_0 : decode cX3_add 0 = .ok (.aload_n 0, 1) := by decide +kernel
theorem dX3_add_1 : decode cX3_add 1 = .ok (.dup, 1) := by decide +kernel
theorem dX3_add_2 : decode cX3_add 2 = .ok (.getfield 27, 3) := by decide +kernel
theorem dX3_add_5 : decode cX3_add 5 = .ok (.iconst 1, 1) := by decide +kernel
theorem dX3_add_6 : decode cX3_add 6 = .ok (.iadd, 1) := by decide +kernel
theorem dX3_add_7 : decode cX3_add 7 = .ok (.putfield 27, 3) := by decide +kernel
theorem dX3_add_10 : decode cX3_add 10 = .ok (.aload_n 0, 1) := by decide +kernel
theorem dX3_add_11 : decode cX3_add 11 = .ok (.getfield 9, 3) := by decide +kernel
theorem dX3_add_14 : decode cX3_add 14 = .ok (.aload_n 0, 1) := by decide +kernel
theorem dX3_add_15 : decode cX3_add 15 = .ok (.getfield 27, 3) := by decide +kernel
theorem dX3_add_18 : decode cX3_add 18 = .ok (.iload_n 1, 1) := by decide +kernel
theorem dX3_add_19 : decode cX3_add 19 = .ok (.iastore, 1) := by decide +kernel
theorem dX3_add_20 : decode cX3_add 20 = .ok (.aload_n 0, 1) := by decide +kernel
theorem dX3_add_21 : decode cX3_add 21 = .ok (.getfield 15, 3) := by decide +kernel
theorem dX3_add_24 : decode cX3_add 24 = .ok (.aload_n 0, 1) := by decide +kernel
theorem dX3_add_25 : decode cX3_add 25 = .ok (.getfield 27, 3) := by decide +kernel
theorem dX3_add_28 : decode cX3_add 28 = .ok (.iconst (-1), 1) := by decide +kernel
theorem dX3_add_29 : decode cX3_add 29 = .ok (.iastore, 1) := by decide +kernel
theorem dX3_add_30 : decode cX3_add 30 = .ok (.aload_n 0, 1) := by decide +kernel
theorem dX3_add_31 : decode cX3_add 31 = .ok (.getfield 18, 3) := by decide +kernel
theorem dX3_add_34 : decode cX3_add 34 = .ok (.aload_n 0, 1) := by decide +kernel
theorem dX3_add_35 : decode cX3_add 35 = .ok (.getfield 27, 3) := by decide +kernel
theorem dX3_add_38 : decode cX3_add 38 = .ok (.iconst (-1), 1) := by decide +kernel
theorem dX3_add_39 : decode cX3_add 39 = .ok (.iastore, 1) := by decide +kernel
theorem dX3_add_40 : decode cX3_add 40 = .ok (.aload_n 0, 1) := by decide +kernel
theorem dX3_add_41 : decode cX3_add 41 = .ok (.getfield 21, 3) := by decide +kernel
theorem dX3_add_44 : decode cX3_add 44 = .ok (.aload_n 0, 1) := by decide +kernel
theorem dX3_add_45 : decode cX3_add 45 = .ok (.getfield 27, 3) := by decide +kernel
theorem dX3_add_48 : decode cX3_add 48 = .ok (.iconst (-1), 1) := by decide +kernel
theorem dX3_add_49 : decode cX3_add 49 = .ok (.iastore, 1) := by decide +kernel
theorem dX3_add_50 : decode cX3_add 50 = .ok (.aload_n 0, 1) := by decide +kernel
theorem dX3_add_51 : decode cX3_add 51 = .ok (.getfield 24, 3) := by decide +kernel
theorem dX3_add_54 : decode cX3_add 54 = .ok (.aload_n 0, 1) := by decide +kernel
theorem dX3_add_55 : decode cX3_add 55 = .ok (.getfield 27, 3) := by decide +kernel
theorem dX3_add_58 : decode cX3_add 58 = .ok (.iload_n 1, 1) := by decide +kernel
theorem dX3_add_59 : decode cX3_add 59 = .ok (.iastore, 1) := by decide +kernel
theorem dX3_add_60 : decode cX3_add 60 = .ok (.aload_n 0, 1) := by decide +kernel
theorem dX3_add_61 : decode cX3_add 61 = .ok (.getfield 27, 3) := by decide +kernel
theorem dX3_add_64 : decode cX3_add 64 = .ok (.ireturn, 1) := by decide +kernel
theorem dX3_isGone_0 : decode cX3_isGone 0 = .ok (.aload_n 0, 1) := by decide +kernel
theorem dX3_isGone_1 : decode cX3_isGone 1 = .ok (.getfield 18, 3) := by decide +kernel
theorem dX3_isGone_4 : decode cX3_isGone 4 = .ok (.iload_n 1, 1) := by decide +kernel
theorem dX3_isGone_5 : decode cX3_isGone 5 = .ok (.iaload, 1) := by decide +kernel
theorem dX3_isGone_6 : decode cX3_isGone 6 = .ok (.iconst (-1), 1) := by decide +kernel
theorem dX3_isGone_7 : decode cX3_isGone 7 = .ok (.if_icmp .eq 7, 3) := by decide +kernel
theorem dX3_isGone_10 : decode cX3_isGone 10 = .ok (.iconst 1, 1) := by decide +kernel
theorem dX3_isGone_11 : decode cX3_isGone 11 = .ok (.goto 4, 3) := by decide +kernel
theorem dX3_isGone_14 : decode cX3_isGone 14 = .ok (.iconst 0, 1) := by decide +kernel
theorem dX3_isGone_15 : decode cX3_isGone 15 = .ok (.ireturn, 1) := by decide +kernel
theorem dX1_lieTooFarApart_0 : decode cX1_lieTooFarApart 0 = .ok (.aload_n 0, 1) := by decide +kernel
theorem dX1_lieTooFarApart_1 : decode cX1_lieTooFarApart 1 = .ok (.getfield 9, 3) := by decide +kernel
theorem dX1_lieTooFarApart_4 : decode cX1_lieTooFarApart 4 = .ok (.iload_n 1, 1) := by decide +kernel
theorem dX1_lieTooFarApart_5 : decode cX1_lieTooFarApart 5 = .ok (.iaload, 1) := by decide +kernel
theorem dX1_lieTooFarApart_6 : decode cX1_lieTooFarApart 6 = .ok (.aload_n 0, 1) := by decide +kernel
theorem dX1_lieTooFarApart_7 : decode cX1_lieTooFarApart 7 = .ok (.getfield 9, 3) := by decide +kernel
theorem dX1_lieTooFarApart_10 : decode cX1_lieTooFarApart 10 = .ok (.iload_n 2, 1) := by decide +kernel
theorem dX1_lieTooFarApart_11 : decode cX1_lieTooFarApart 11 = .ok (.iaload, 1) := by decide +kernel
theorem dX1_lieTooFarApart_12 : decode cX1_lieTooFarApart 12 = .ok (.if_icmp .ne 42, 3) := by decide +kernel
theorem dX1_lieTooFarApart_15 : decode cX1_lieTooFarApart 15 = .ok (.aload_n 0, 1) := by decide +kernel
theorem dX1_lieTooFarApart_16 : decode cX1_lieTooFarApart 16 = .ok (.getfield 15, 3) := by decide +kernel
theorem dX1_lieTooFarApart_19 : decode cX1_lieTooFarApart 19 = .ok (.iload_n 1, 1) := by decide +kernel
theorem dX1_lieTooFarApart_20 : decode cX1_lieTooFarApart 20 = .ok (.iaload, 1) := by decide +kernel
theorem dX1_lieTooFarApart_21 : decode cX1_lieTooFarApart 21 = .ok (.aload_n 0, 1) := by decide +kernel
theorem dX1_lieTooFarApart_22 : decode cX1_lieTooFarApart 22 = .ok (.getfield 15, 3) := by decide +kernel
theorem dX1_lieTooFarApart_25 : decode cX1_lieTooFarApart 25 = .ok (.iload_n 2, 1) := by decide +kernel
theorem dX1_lieTooFarApart_26 : decode cX1_lieTooFarApart 26 = .ok (.iaload, 1) := by decide +kernel
theorem dX1_lieTooFarApart_27 : decode cX1_lieTooFarApart 27 = .ok (.if_icmp .ne 27, 3) := by decide +kernel
theorem dX1_lieTooFarApart_30 : decode cX1_lieTooFarApart 30 = .ok (.aload_n 0, 1) := by decide +kernel
theorem dX1_lieTooFarApart_31 : decode cX1_lieTooFarApart 31 = .ok (.getfield 18, 3) := by decide +kernel
theorem dX1_lieTooFarApart_34 : decode cX1_lieTooFarApart 34 = .ok (.iload_n 1, 1) := by decide +kernel
theorem dX1_lieTooFarApart_35 : decode cX1_lieTooFarApart 35 = .ok (.iaload, 1) := by decide +kernel
theorem dX1_lieTooFarApart_36 : decode cX1_lieTooFarApart 36 = .ok (.aload_n 0, 1) := by decide +kernel
theorem dX1_lieTooFarApart_37 : decode cX1_lieTooFarApart 37 = .ok (.getfield 18, 3) := by decide +kernel
theorem dX1_lieTooFarApart_40 : decode cX1_lieTooFarApart 40 = .ok (.iload_n 2, 1) := by decide +kernel
theorem dX1_lieTooFarApart_41 : decode cX1_lieTooFarApart 41 = .ok (.iaload, 1) := by decide +kernel
theorem dX1_lieTooFarApart_42 : decode cX1_lieTooFarApart 42 = .ok (.isub, 1) := by decide +kernel
theorem dX1_lieTooFarApart_43 : decode cX1_lieTooFarApart 43 = .ok (.invokestatic 46, 3) := by decide +kernel
theorem dX1_lieTooFarApart_46 : decode cX1_lieTooFarApart 46 = .ok (.iload_n 3, 1) := by decide +kernel
theorem dX1_lieTooFarApart_47 : decode cX1_lieTooFarApart 47 = .ok (.if_icmp .le 7, 3) := by decide +kernel
theorem dX1_lieTooFarApart_50 : decode cX1_lieTooFarApart 50 = .ok (.iconst 1, 1) := by decide +kernel
theorem dX1_lieTooFarApart_51 : decode cX1_lieTooFarApart 51 = .ok (.goto 4, 3) := by decide +kernel
theorem dX1_lieTooFarApart_54 : decode cX1_lieTooFarApart 54 = .ok (.iconst 0, 1) := by decide +kernel
theorem dX1_lieTooFarApart_55 : decode cX1_lieTooFarApart 55 = .ok (.ireturn, 1) := by decide +kernel
theorem dX3_send_0 : decode cX3_send 0 = .ok (.aload_n 0, 1) := by decide +kernel
theorem dX3_send_1 : decode cX3_send 1 = .ok (.getfield 15, 3) := by decide +kernel
theorem dX3_send_4 : decode cX3_send 4 = .ok (.iload_n 1, 1) := by decide +kernel
theorem dX3_send_5 : decode cX3_send 5 = .ok (.iconst (-1), 1) := by decide +kernel
theorem dX3_send_6 : decode cX3_send 6 = .ok (.iastore, 1) := by decide +kernel
theorem dX3_send_7 : decode cX3_send 7 = .ok (.aload_n 0, 1) := by decide +kernel
theorem dX3_send_8 : decode cX3_send 8 = .ok (.getfield 18, 3) := by decide +kernel
theorem dX3_send_11 : decode cX3_send 11 = .ok (.iload_n 1, 1) := by decide +kernel
theorem dX3_send_12 : decode cX3_send 12 = .ok (.iload_n 2, 1) := by decide +kernel
theorem dX3_send_13 : decode cX3_send 13 = .ok (.iastore, 1) := by decide +kernel
theorem dX3_send_14 : decode cX3_send 14 = .ok (.aload_n 0, 1) := by decide +kernel
theorem dX3_send_15 : decode cX3_send 15 = .ok (.getfield 21, 3) := by decide +kernel
theorem dX3_send_18 : decode cX3_send 18 = .ok (.iload_n 1, 1) := by decide +kernel
theorem dX3_send_19 : decode cX3_send 19 = .ok (.iload_n 3, 1) := by decide +kernel
theorem dX3_send_20 : decode cX3_send 20 = .ok (.iastore, 1) := by decide +kernel
theorem dX3_send_21 : decode cX3_send 21 = .ok (.aload_n 0, 1) := by decide +kernel
theorem dX3_send_22 : decode cX3_send 22 = .ok (.dup, 1) := by decide +kernel
theorem dX3_send_23 : decode cX3_send 23 = .ok (.getfield 31, 3) := by decide +kernel
theorem dX3_send_26 : decode cX3_send 26 = .ok (.iconst 1, 1) := by decide +kernel
theorem dX3_send_27 : decode cX3_send 27 = .ok (.iadd, 1) := by decide +kernel
theorem dX3_send_28 : decode cX3_send 28 = .ok (.putfield 31, 3) := by decide +kernel
theorem dX3_send_31 : decode cX3_send 31 = .ok (.return_, 1) := by decide +kernel
theorem dX1_familyOf_0 : decode cX1_familyOf 0 = .ok (.lconst 1, 1) := by decide +kernel
theorem dX1_familyOf_1 : decode cX1_familyOf 1 = .ok (.iload_n 1, 1) := by decide +kernel
theorem dX1_familyOf_2 : decode cX1_familyOf 2 = .ok (.lshl, 1) := by decide +kernel
theorem dX1_familyOf_3 : decode cX1_familyOf 3 = .ok (.lstore_n 2, 1) := by decide +kernel
theorem dX1_familyOf_4 : decode cX1_familyOf 4 = .ok (.iconst 1, 1) := by decide +kernel
theorem dX1_familyOf_5 : decode cX1_familyOf 5 = .ok (.istore 4, 2) := by decide +kernel
theorem dX1_familyOf_7 : decode cX1_familyOf 7 = .ok (.iload 4, 2) := by decide +kernel
theorem dX1_familyOf_9 : decode cX1_familyOf 9 = .ok (.aload_n 0, 1) := by decide +kernel
theorem dX1_familyOf_10 : decode cX1_familyOf 10 = .ok (.getfield 38, 3) := by decide +kernel
theorem dX1_familyOf_13 : decode cX1_familyOf 13 = .ok (.if_icmp .gt 48, 3) := by decide +kernel
theorem dX1_familyOf_16 : decode cX1_familyOf 16 = .ok (.iconst 1, 1) := by decide +kernel
theorem dX1_familyOf_17 : decode cX1_familyOf 17 = .ok (.istore 5, 2) := by decide +kernel
theorem dX1_familyOf_19 : decode cX1_familyOf 19 = .ok (.iload 5, 2) := by decide +kernel
theorem dX1_familyOf_21 : decode cX1_familyOf 21 = .ok (.aload_n 0, 1) := by decide +kernel
theorem dX1_familyOf_22 : decode cX1_familyOf 22 = .ok (.getfield 38, 3) := by decide +kernel
theorem dX1_familyOf_25 : decode cX1_familyOf 25 = .ok (.if_icmp .gt 30, 3) := by decide +kernel
theorem dX1_familyOf_28 : decode cX1_familyOf 28 = .ok (.lload_n 2, 1) := by decide +kernel
theorem dX1_familyOf_29 : decode cX1_familyOf 29 = .ok (.lconst 1, 1) := by decide +kernel
theorem dX1_familyOf_30 : decode cX1_familyOf 30 = .ok (.iload 5, 2) := by decide +kernel
theorem dX1_familyOf_32 : decode cX1_familyOf 32 = .ok (.lshl, 1) := by decide +kernel
theorem dX1_familyOf_33 : decode cX1_familyOf 33 = .ok (.land, 1) := by decide +kernel
theorem dX1_familyOf_34 : decode cX1_familyOf 34 = .ok (.lconst 0, 1) := by decide +kernel
theorem dX1_familyOf_35 : decode cX1_familyOf 35 = .ok (.lcmp, 1) := by decide +kernel
theorem dX1_familyOf_36 : decode cX1_familyOf 36 = .ok (.ifCond .eq 13, 3) := by decide +kernel
theorem dX1_familyOf_39 : decode cX1_familyOf 39 = .ok (.lload_n 2, 1) := by decide +kernel
theorem dX1_familyOf_40 : decode cX1_familyOf 40 = .ok (.aload_n 0, 1) := by decide +kernel
theorem dX1_familyOf_41 : decode cX1_familyOf 41 = .ok (.getfield 34, 3) := by decide +kernel
theorem dX1_familyOf_44 : decode cX1_familyOf 44 = .ok (.iload 5, 2) := by decide +kernel
theorem dX1_familyOf_46 : decode cX1_familyOf 46 = .ok (.laload, 1) := by decide +kernel
theorem dX1_familyOf_47 : decode cX1_familyOf 47 = .ok (.lor, 1) := by decide +kernel
theorem dX1_familyOf_48 : decode cX1_familyOf 48 = .ok (.lstore_n 2, 1) := by decide +kernel
theorem dX1_familyOf_49 : decode cX1_familyOf 49 = .ok (.iinc 5 1, 3) := by decide +kernel
theorem dX1_familyOf_52 : decode cX1_familyOf 52 = .ok (.goto (-33), 3) := by decide +kernel
theorem dX1_familyOf_55 : decode cX1_familyOf 55 = .ok (.iinc 4 1, 3) := by decide +kernel
theorem dX1_familyOf_58 : decode cX1_familyOf 58 = .ok (.goto (-51), 3) := by decide +kernel
theorem dX1_familyOf_61 : decode cX1_familyOf 61 = .ok (.lload_n 2, 1) := by decide +kernel
theorem dX1_familyOf_62 : decode cX1_familyOf 62 = .ok (.lreturn, 1) := by decide +kernel
theorem dX3_everOfFamily_0 : decode cX3_everOfFamily 0 = .ok (.iconst 0, 1) := by decide +kernel
theorem dX3_everOfFamily_1 : decode cX3_everOfFamily 1 = .ok (.istore 4, 2) := by decide +kernel
theorem dX3_everOfFamily_3 : decode cX3_everOfFamily 3 = .ok (.iconst 1, 1) := by decide +kernel
theorem dX3_everOfFamily_4 : decode cX3_everOfFamily 4 = .ok (.istore 5, 2) := by decide +kernel
theorem dX3_everOfFamily_6 : decode cX3_everOfFamily 6 = .ok (.iload 5, 2) := by decide +kernel
theorem dX3_everOfFamily_8 : decode cX3_everOfFamily 8 = .ok (.aload_n 0, 1) := by decide +kernel
theorem dX3_everOfFamily_9 : decode cX3_everOfFamily 9 = .ok (.getfield 27, 3) := by decide +kernel
theorem dX3_everOfFamily_12 : decode cX3_everOfFamily 12 = .ok (.if_icmp .gt 37, 3) := by decide +kernel
theorem dX3_everOfFamily_15 : decode cX3_everOfFamily 15 = .ok (.lload_n 1, 1) := by decide +kernel
theorem dX3_everOfFamily_16 : decode cX3_everOfFamily 16 = .ok (.lconst 1, 1) := by decide +kernel
theorem dX3_everOfFamily_17 : decode cX3_everOfFamily 17 = .ok (.aload_n 0, 1) := by decide +kernel
theorem dX3_everOfFamily_18 : decode cX3_everOfFamily 18 = .ok (.getfield 24, 3) := by decide +kernel
theorem dX3_everOfFamily_21 : decode cX3_everOfFamily 21 = .ok (.iload 5, 2) := by decide +kernel
theorem dX3_everOfFamily_23 : decode cX3_everOfFamily 23 = .ok (.iaload, 1) := by decide +kernel
theorem dX3_everOfFamily_24 : decode cX3_everOfFamily 24 = .ok (.lshl, 1) := by decide +kernel
theorem dX3_everOfFamily_25 : decode cX3_everOfFamily 25 = .ok (.land, 1) := by decide +kernel
theorem dX3_everOfFamily_26 : decode cX3_everOfFamily 26 = .ok (.lconst 0, 1) := by decide +kernel
theorem dX3_everOfFamily_27 : decode cX3_everOfFamily 27 = .ok (.lcmp, 1) := by decide +kernel
theorem dX3_everOfFamily_28 : decode cX3_everOfFamily 28 = .ok (.ifCond .eq 15, 3) := by decide +kernel
theorem dX3_everOfFamily_31 : decode cX3_everOfFamily 31 = .ok (.iload 4, 2) := by decide +kernel
theorem dX3_everOfFamily_33 : decode cX3_everOfFamily 33 = .ok (.iload_n 3, 1) := by decide +kernel
theorem dX3_everOfFamily_34 : decode cX3_everOfFamily 34 = .ok (.if_icmp .ne 6, 3) := by decide +kernel
theorem dX3_everOfFamily_37 : decode cX3_everOfFamily 37 = .ok (.iload 5, 2) := by decide +kernel
theorem dX3_everOfFamily_39 : decode cX3_everOfFamily 39 = .ok (.ireturn, 1) := by decide +kernel
theorem dX3_everOfFamily_40 : decode cX3_everOfFamily 40 = .ok (.iinc 4 1, 3) := by decide +kernel
theorem dX3_everOfFamily_43 : decode cX3_everOfFamily 43 = .ok (.iinc 5 1, 3) := by decide +kernel
theorem dX3_everOfFamily_46 : decode cX3_everOfFamily 46 = .ok (.goto (-40), 3) := by decide +kernel
theorem dX3_everOfFamily_49 : decode cX3_everOfFamily 49 = .ok (.iconst (-1), 1) := by decide +kernel
theorem dX3_everOfFamily_50 : decode cX3_everOfFamily 50 = .ok (.ireturn, 1) := by decide +kernel
theorem dX2_find_0 : decode cX2_find 0 = .ok (.iconst 0, 1) := by decide +kernel
theorem dX2_find_1 : decode cX2_find 1 = .ok (.istore_n 3, 1) := by decide +kernel
theorem dX2_find_2 : decode cX2_find 2 = .ok (.iconst 0, 1) := by decide +kernel
theorem dX2_find_3 : decode cX2_find 3 = .ok (.istore 4, 2) := by decide +kernel
theorem dX2_find_5 : decode cX2_find 5 = .ok (.iload 4, 2) := by decide +kernel
theorem dX2_find_7 : decode cX2_find 7 = .ok (.aload_n 0, 1) := by decide +kernel
theorem dX2_find_8 : decode cX2_find 8 = .ok (.getfield 21, 3) := by decide +kernel
theorem dX2_find_11 : decode cX2_find 11 = .ok (.if_icmp .ge 31, 3) := by decide +kernel
theorem dX2_find_14 : decode cX2_find 14 = .ok (.aload_n 0, 1) := by decide +kernel
theorem dX2_find_15 : decode cX2_find 15 = .ok (.getfield 9, 3) := by decide +kernel
theorem dX2_find_18 : decode cX2_find 18 = .ok (.iload 4, 2) := by decide +kernel
theorem dX2_find_20 : decode cX2_find 20 = .ok (.iaload, 1) := by decide +kernel
theorem dX2_find_21 : decode cX2_find 21 = .ok (.iload_n 1, 1) := by decide +kernel
theorem dX2_find_22 : decode cX2_find 22 = .ok (.if_icmp .ne 14, 3) := by decide +kernel
theorem dX2_find_25 : decode cX2_find 25 = .ok (.iload_n 3, 1) := by decide +kernel
theorem dX2_find_26 : decode cX2_find 26 = .ok (.iload_n 2, 1) := by decide +kernel
theorem dX2_find_27 : decode cX2_find 27 = .ok (.if_icmp .ne 6, 3) := by decide +kernel
theorem dX2_find_30 : decode cX2_find 30 = .ok (.iload 4, 2) := by decide +kernel
theorem dX2_find_32 : decode cX2_find 32 = .ok (.ireturn, 1) := by decide +kernel
theorem dX2_find_33 : decode cX2_find 33 = .ok (.iinc 3 1, 3) := by decide +kernel
theorem dX2_find_36 : decode cX2_find 36 = .ok (.iinc 4 1, 3) := by decide +kernel
theorem dX2_find_39 : decode cX2_find 39 = .ok (.goto (-34), 3) := by decide +kernel
theorem dX2_find_42 : decode cX2_find 42 = .ok (.iconst (-1), 1) := by decide +kernel
theorem dX2_find_43 : decode cX2_find 43 = .ok (.ireturn, 1) := by decide +kernel
theorem dX3_leftOf_0 : decode cX3_leftOf 0 = .ok (.iconst 0, 1) := by decide +kernel
theorem dX3_leftOf_1 : decode cX3_leftOf 1 = .ok (.istore_n 2, 1) := by decide +kernel
theorem dX3_leftOf_2 : decode cX3_leftOf 2 = .ok (.iconst 1, 1) := by decide +kernel
theorem dX3_leftOf_3 : decode cX3_leftOf 3 = .ok (.istore_n 3, 1) := by decide +kernel
theorem dX3_leftOf_4 : decode cX3_leftOf 4 = .ok (.iload_n 3, 1) := by decide +kernel
theorem dX3_leftOf_5 : decode cX3_leftOf 5 = .ok (.aload_n 0, 1) := by decide +kernel
theorem dX3_leftOf_6 : decode cX3_leftOf 6 = .ok (.getfield 27, 3) := by decide +kernel
theorem dX3_leftOf_9 : decode cX3_leftOf 9 = .ok (.if_icmp .gt 30, 3) := by decide +kernel
theorem dX3_leftOf_12 : decode cX3_leftOf 12 = .ok (.aload_n 0, 1) := by decide +kernel
theorem dX3_leftOf_13 : decode cX3_leftOf 13 = .ok (.getfield 9, 3) := by decide +kernel
theorem dX3_leftOf_16 : decode cX3_leftOf 16 = .ok (.iload_n 3, 1) := by decide +kernel
theorem dX3_leftOf_17 : decode cX3_leftOf 17 = .ok (.iaload, 1) := by decide +kernel
theorem dX3_leftOf_18 : decode cX3_leftOf 18 = .ok (.iload_n 1, 1) := by decide +kernel
theorem dX3_leftOf_19 : decode cX3_leftOf 19 = .ok (.if_icmp .ne 14, 3) := by decide +kernel
theorem dX3_leftOf_22 : decode cX3_leftOf 22 = .ok (.aload_n 0, 1) := by decide +kernel
theorem dX3_leftOf_23 : decode cX3_leftOf 23 = .ok (.iload_n 3, 1) := by decide +kernel
theorem dX3_leftOf_24 : decode cX3_leftOf 24 = .ok (.invokevirtual 34, 3) := by decide +kernel
theorem dX3_leftOf_27 : decode cX3_leftOf 27 = .ok (.ifCond .ne 6, 3) := by decide +kernel
theorem dX3_leftOf_30 : decode cX3_leftOf 30 = .ok (.iinc 2 1, 3) := by decide +kernel
theorem dX3_leftOf_33 : decode cX3_leftOf 33 = .ok (.iinc 3 1, 3) := by decide +kernel
theorem dX3_leftOf_36 : decode cX3_leftOf 36 = .ok (.goto (-32), 3) := by decide +kernel
theorem dX3_leftOf_39 : decode cX3_leftOf 39 = .ok (.iload_n 2, 1) := by decide +kernel
theorem dX3_leftOf_40 : decode cX3_leftOf 40 = .ok (.ireturn, 1) := by decide +kernel
theorem dX0_fromYearDay_0 : decode cX0_fromYearDay 0 = .ok (.iload_n 1, 1) := by decide +kernel
theorem dX0_fromYearDay_1 : decode cX0_fromYearDay 1 = .ok (.iconst 1, 1) := by decide +kernel
theorem dX0_fromYearDay_2 : decode cX0_fromYearDay 2 = .ok (.if_icmp .lt 13, 3) := by decide +kernel
theorem dX0_fromYearDay_5 : decode cX0_fromYearDay 5 = .ok (.iload_n 1, 1) := by decide +kernel
theorem dX0_fromYearDay_6 : decode cX0_fromYearDay 6 = .ok (.iload_n 0, 1) := by decide +kernel
theorem dX0_fromYearDay_7 : decode cX0_fromYearDay 7 = .ok (.bipush 13, 2) := by decide +kernel
theorem dX0_fromYearDay_9 : decode cX0_fromYearDay 9 = .ok (.invokestatic 11, 3) := by decide +kernel
theorem dX0_fromYearDay_12 : decode cX0_fromYearDay 12 = .ok (.if_icmp .le 5, 3) := by decide +kernel
theorem dX0_fromYearDay_15 : decode cX0_fromYearDay 15 = .ok (.iconst (-1), 1) := by decide +kernel
theorem dX0_fromYearDay_16 : decode cX0_fromYearDay 16 = .ok (.ireturn, 1) := by decide +kernel
theorem dX0_fromYearDay_17 : decode cX0_fromYearDay 17 = .ok (.iload_n 0, 1) := by decide +kernel
theorem dX0_fromYearDay_18 : decode cX0_fromYearDay 18 = .ok (.invokestatic 15, 3) := by decide +kernel
theorem dX0_fromYearDay_21 : decode cX0_fromYearDay 21 = .ok (.iload_n 1, 1) := by decide +kernel
theorem dX0_fromYearDay_22 : decode cX0_fromYearDay 22 = .ok (.iadd, 1) := by decide +kernel
theorem dX0_fromYearDay_23 : decode cX0_fromYearDay 23 = .ok (.iconst 1, 1) := by decide +kernel
theorem dX0_fromYearDay_24 : decode cX0_fromYearDay 24 = .ok (.isub, 1) := by decide +kernel
theorem dX0_fromYearDay_25 : decode cX0_fromYearDay 25 = .ok (.ireturn, 1) := by decide +kernel
theorem dX0_daysBefore_0 : decode cX0_daysBefore 0 = .ok (.iload_n 0, 1) := by decide +kernel
theorem dX0_daysBefore_1 : decode cX0_daysBefore 1 = .ok (.iconst 4, 1) := by decide +kernel
theorem dX0_daysBefore_2 : decode cX0_daysBefore 2 = .ok (.irem, 1) := by decide +kernel
theorem dX0_daysBefore_3 : decode cX0_daysBefore 3 = .ok (.ifCond .ne 12, 3) := by decide +kernel
theorem dX0_daysBefore_6 : decode cX0_daysBefore 6 = .ok (.iload_n 1, 1) := by decide +kernel
theorem dX0_daysBefore_7 : decode cX0_daysBefore 7 = .ok (.iconst 2, 1) := by decide +kernel
theorem dX0_daysBefore_8 : decode cX0_daysBefore 8 = .ok (.if_icmp .le 7, 3) := by decide +kernel
theorem dX0_daysBefore_11 : decode cX0_daysBefore 11 = .ok (.iconst 1, 1) := by decide +kernel
theorem dX0_daysBefore_12 : decode cX0_daysBefore 12 = .ok (.goto 4, 3) := by decide +kernel
theorem dX0_daysBefore_15 : decode cX0_daysBefore 15 = .ok (.iconst 0, 1) := by decide +kernel
theorem dX0_daysBefore_16 : decode cX0_daysBefore 16 = .ok (.istore_n 2, 1) := by decide +kernel
theorem dX0_daysBefore_17 : decode cX0_daysBefore 17 = .ok (.getstatic 22, 3) := by decide +kernel
theorem dX0_daysBefore_20 : decode cX0_daysBefore 20 = .ok (.iload_n 1, 1) := by decide +kernel
theorem dX0_daysBefore_21 : decode cX0_daysBefore 21 = .ok (.iconst 1, 1) := by decide +kernel
theorem dX0_daysBefore_22 : decode cX0_daysBefore 22 = .ok (.isub, 1) := by decide +kernel
theorem dX0_daysBefore_23 : decode cX0_daysBefore 23 = .ok (.iaload, 1) := by decide +kernel
theorem dX0_daysBefore_24 : decode cX0_daysBefore 24 = .ok (.iload_n 2, 1) := by decide +kernel
theorem dX0_daysBefore_25 : decode cX0_daysBefore 25 = .ok (.iadd, 1) := by decide +kernel
theorem dX0_daysBefore_26 : decode cX0_daysBefore 26 = .ok (.ireturn, 1) := by decide +kernel
theorem dX0_startOfYear_0 : decode cX0_startOfYear 0 = .ok (.iload_n 0, 1) := by decide +kernel
theorem dX0_startOfYear_1 : decode cX0_startOfYear 1 = .ok (.sipush 365, 3) := by decide +kernel
theorem dX0_startOfYear_4 : decode cX0_startOfYear 4 = .ok (.imul, 1) := by decide +kernel
theorem dX0_startOfYear_5 : decode cX0_startOfYear 5 = .ok (.iload_n 0, 1) := by decide +kernel
theorem dX0_startOfYear_6 : decode cX0_startOfYear 6 = .ok (.iconst 3, 1) := by decide +kernel
theorem dX0_startOfYear_7 : decode cX0_startOfYear 7 = .ok (.iadd, 1) := by decide +kernel
theorem dX0_startOfYear_8 : decode cX0_startOfYear 8 = .ok (.iconst 4, 1) := by decide +kernel
theorem dX0_startOfYear_9 : decode cX0_startOfYear 9 = .ok (.idiv, 1) := by decide +kernel
theorem dX0_startOfYear_10 : decode cX0_startOfYear 10 = .ok (.iadd, 1) := by decide +kernel
theorem dX0_startOfYear_11 : decode cX0_startOfYear 11 = .ok (.ireturn, 1) := by decide +kernel
theorem dX0_fromMonthDay_0 : decode cX0_fromMonthDay 0 = .ok (.iload_n 1, 1) := by decide +kernel
theorem dX0_fromMonthDay_1 : decode cX0_fromMonthDay 1 = .ok (.iconst 1, 1) := by decide +kernel
theorem dX0_fromMonthDay_2 : decode cX0_fromMonthDay 2 = .ok (.if_icmp .lt 14, 3) := by decide +kernel
theorem dX0_fromMonthDay_5 : decode cX0_fromMonthDay 5 = .ok (.iload_n 1, 1) := by decide +kernel
theorem dX0_fromMonthDay_6 : decode cX0_fromMonthDay 6 = .ok (.bipush 12, 2) := by decide +kernel
theorem dX0_fromMonthDay_8 : decode cX0_fromMonthDay 8 = .ok (.if_icmp .gt 8, 3) := by decide +kernel
theorem dX0_fromMonthDay_11 : decode cX0_fromMonthDay 11 = .ok (.iload_n 2, 1) := by decide +kernel
theorem dX0_fromMonthDay_12 : decode cX0_fromMonthDay 12 = .ok (.iconst 1, 1) := by decide +kernel
theorem dX0_fromMonthDay_13 : decode cX0_fromMonthDay 13 = .ok (.if_icmp .ge 5, 3) := by decide +kernel
theorem dX0_fromMonthDay_16 : decode cX0_fromMonthDay 16 = .ok (.iconst (-1), 1) := by decide +kernel
theorem dX0_fromMonthDay_17 : decode cX0_fromMonthDay 17 = .ok (.ireturn, 1) := by decide +kernel
theorem dX0_fromMonthDay_18 : decode cX0_fromMonthDay 18 = .ok (.iload_n 0, 1) := by decide +kernel
theorem dX0_fromMonthDay_19 : decode cX0_fromMonthDay 19 = .ok (.iload_n 1, 1) := by decide +kernel
theorem dX0_fromMonthDay_20 : decode cX0_fromMonthDay 20 = .ok (.invokestatic 11, 3) := by decide +kernel
theorem dX0_fromMonthDay_23 : decode cX0_fromMonthDay 23 = .ok (.iload_n 2, 1) := by decide +kernel
theorem dX0_fromMonthDay_24 : decode cX0_fromMonthDay 24 = .ok (.iadd, 1) := by decide +kernel
theorem dX0_fromMonthDay_25 : decode cX0_fromMonthDay 25 = .ok (.istore_n 3, 1) := by decide +kernel
theorem dX0_fromMonthDay_26 : decode cX0_fromMonthDay 26 = .ok (.iload_n 3, 1) := by decide +kernel
theorem dX0_fromMonthDay_27 : decode cX0_fromMonthDay 27 = .ok (.iload_n 0, 1) := by decide +kernel
theorem dX0_fromMonthDay_28 : decode cX0_fromMonthDay 28 = .ok (.iload_n 1, 1) := by decide +kernel
theorem dX0_fromMonthDay_29 : decode cX0_fromMonthDay 29 = .ok (.iconst 1, 1) := by decide +kernel
theorem dX0_fromMonthDay_30 : decode cX0_fromMonthDay 30 = .ok (.iadd, 1) := by decide +kernel
theorem dX0_fromMonthDay_31 : decode cX0_fromMonthDay 31 = .ok (.invokestatic 11, 3) := by decide +kernel
theorem dX0_fromMonthDay_34 : decode cX0_fromMonthDay 34 = .ok (.if_icmp .le 5, 3) := by decide +kernel
theorem dX0_fromMonthDay_37 : decode cX0_fromMonthDay 37 = .ok (.iconst (-1), 1) := by decide +kernel
theorem dX0_fromMonthDay_38 : decode cX0_fromMonthDay 38 = .ok (.ireturn, 1) := by decide +kernel
theorem dX0_fromMonthDay_39 : decode cX0_fromMonthDay 39 = .ok (.iload_n 0, 1) := by decide +kernel
theorem dX0_fromMonthDay_40 : decode cX0_fromMonthDay 40 = .ok (.iload_n 3, 1) := by decide +kernel
theorem dX0_fromMonthDay_41 : decode cX0_fromMonthDay 41 = .ok (.invokestatic 19, 3) := by decide +kernel
theorem dX0_fromMonthDay_44 : decode cX0_fromMonthDay 44 = .ok (.ireturn, 1) := by decide +kernel
theorem dX0_yearOf_0 : decode cX0_yearOf 0 = .ok (.bipush 99, 2) := by decide +kernel
theorem dX0_yearOf_2 : decode cX0_yearOf 2 = .ok (.istore_n 1, 1) := by decide +kernel
theorem dX0_yearOf_3 : decode cX0_yearOf 3 = .ok (.iload_n 1, 1) := by decide +kernel
theorem dX0_yearOf_4 : decode cX0_yearOf 4 = .ok (.ifCond .le 19, 3) := by decide +kernel
theorem dX0_yearOf_7 : decode cX0_yearOf 7 = .ok (.iload_n 1, 1) := by decide +kernel
theorem dX0_yearOf_8 : decode cX0_yearOf 8 = .ok (.invokestatic 15, 3) := by decide +kernel
theorem dX0_yearOf_11 : decode cX0_yearOf 11 = .ok (.iload_n 0, 1) := by decide +kernel
theorem dX0_yearOf_12 : decode cX0_yearOf 12 = .ok (.if_icmp .gt 5, 3) := by decide +kernel
theorem dX0_yearOf_15 : decode cX0_yearOf 15 = .ok (.iload_n 1, 1) := by decide +kernel
theorem dX0_yearOf_16 : decode cX0_yearOf 16 = .ok (.ireturn, 1) := by decide +kernel
theorem dX0_yearOf_17 : decode cX0_yearOf 17 = .ok (.iinc 1 (-1), 3) := by decide +kernel
theorem dX0_yearOf_20 : decode cX0_yearOf 20 = .ok (.goto (-17), 3) := by decide +kernel
theorem dX0_yearOf_23 : decode cX0_yearOf 23 = .ok (.iconst 0, 1) := by decide +kernel
theorem dX0_yearOf_24 : decode cX0_yearOf 24 = .ok (.ireturn, 1) := by decide +kernel
theorem dX0_monthOf_0 : decode cX0_monthOf 0 = .ok (.bipush 12, 2) := by decide +kernel
theorem dX0_monthOf_2 : decode cX0_monthOf 2 = .ok (.istore_n 2, 1) := by decide +kernel
theorem dX0_monthOf_3 : decode cX0_monthOf 3 = .ok (.iload_n 2, 1) := by decide +kernel
theorem dX0_monthOf_4 : decode cX0_monthOf 4 = .ok (.iconst 1, 1) := by decide +kernel
theorem dX0_monthOf_5 : decode cX0_monthOf 5 = .ok (.if_icmp .le 20, 3) := by decide +kernel
theorem dX0_monthOf_8 : decode cX0_monthOf 8 = .ok (.iload_n 0, 1) := by decide +kernel
theorem dX0_monthOf_9 : decode cX0_monthOf 9 = .ok (.iload_n 2, 1) := by decide +kernel
theorem dX0_monthOf_10 : decode cX0_monthOf 10 = .ok (.invokestatic 11, 3) := by decide +kernel
theorem dX0_monthOf_13 : decode cX0_monthOf 13 = .ok (.iload_n 1, 1) := by decide +kernel
theorem dX0_monthOf_14 : decode cX0_monthOf 14 = .ok (.if_icmp .ge 5, 3) := by decide +kernel
theorem dX0_monthOf_17 : decode cX0_monthOf 17 = .ok (.iload_n 2, 1) := by decide +kernel
theorem dX0_monthOf_18 : decode cX0_monthOf 18 = .ok (.ireturn, 1) := by decide +kernel
theorem dX0_monthOf_19 : decode cX0_monthOf 19 = .ok (.iinc 2 (-1), 3) := by decide +kernel
theorem dX0_monthOf_22 : decode cX0_monthOf 22 = .ok (.goto (-19), 3) := by decide +kernel
theorem dX0_monthOf_25 : decode cX0_monthOf 25 = .ok (.iconst 1, 1) := by decide +kernel
theorem dX0_monthOf_26 : decode cX0_monthOf 26 = .ok (.ireturn, 1) := by decide +kernel