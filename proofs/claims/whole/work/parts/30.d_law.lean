theorem dL_lot_0 : decode cL_lot 0 = .ok (.aload 5, 2) := by decide +kernel
theorem dL_lot_2 : decode cL_lot 2 = .ok (.iconst 0, 1) := by decide +kernel
theorem dL_lot_3 : decode cL_lot 3 = .ok (.aload_n 0, 1) := by decide +kernel
theorem dL_lot_4 : decode cL_lot 4 = .ok (.iload_n 1, 1) := by decide +kernel
theorem dL_lot_5 : decode cL_lot 5 = .ok (.iload_n 2, 1) := by decide +kernel
theorem dL_lot_6 : decode cL_lot 6 = .ok (.iload_n 3, 1) := by decide +kernel
theorem dL_lot_7 : decode cL_lot 7 = .ok (.iload 4, 2) := by decide +kernel
theorem dL_lot_9 : decode cL_lot 9 = .ok (.invokevirtual 7, 3) := by decide +kernel
theorem dL_lot_12 : decode cL_lot 12 = .ok (.i2l, 1) := by decide +kernel
theorem dL_lot_13 : decode cL_lot 13 = .ok (.lastore, 1) := by decide +kernel
theorem dL_lot_14 : decode cL_lot 14 = .ok (.goto 11, 3) := by decide +kernel
theorem dL_lot_17 : decode cL_lot 17 = .ok (.astore 6, 2) := by decide +kernel
theorem dL_lot_19 : decode cL_lot 19 = .ok (.iconst 1, 1) := by decide +kernel
theorem dL_lot_20 : decode cL_lot 20 = .ok (.ireturn, 1) := by decide +kernel
theorem dL_lot_21 : decode cL_lot 21 = .ok (.astore 6, 2) := by decide +kernel
theorem dL_lot_23 : decode cL_lot 23 = .ok (.iconst 2, 1) := by decide +kernel
theorem dL_lot_24 : decode cL_lot 24 = .ok (.ireturn, 1) := by decide +kernel
theorem dL_lot_25 : decode cL_lot 25 = .ok (.iconst 0, 1) := by decide +kernel
theorem dL_lot_26 : decode cL_lot 26 = .ok (.ireturn, 1) := by decide +kernel
theorem dL_rule_0 : decode cL_rule 0 = .ok (.aload_n 0, 1) := by decide +kernel
theorem dL_rule_1 : decode cL_rule 1 = .ok (.iload_n 1, 1) := by decide +kernel
theorem dL_rule_2 : decode cL_rule 2 = .ok (.iload_n 2, 1) := by decide +kernel
theorem dL_rule_3 : decode cL_rule 3 = .ok (.iload_n 3, 1) := by decide +kernel
theorem dL_rule_4 : decode cL_rule 4 = .ok (.invokevirtual 17, 3) := by decide +kernel
theorem dL_rule_7 : decode cL_rule 7 = .ok (.goto 7, 3) := by decide +kernel
theorem dL_rule_10 : decode cL_rule 10 = .ok (.astore 4, 2) := by decide +kernel
theorem dL_rule_12 : decode cL_rule 12 = .ok (.iconst 1, 1) := by decide +kernel
theorem dL_rule_13 : decode cL_rule 13 = .ok (.ireturn, 1) := by decide +kernel
theorem dL_rule_14 : decode cL_rule 14 = .ok (.iconst 0, 1) := by decide +kernel
theorem dL_rule_15 : decode cL_rule 15 = .ok (.ireturn, 1) := by decide +kernel
theorem dL_wants_0 : decode cL_wants 0 = .ok (.aload_n 0, 1) := by decide +kernel
theorem dL_wants_1 : decode cL_wants 1 = .ok (.iload_n 1, 1) := by decide +kernel
theorem dL_wants_2 : decode cL_wants 2 = .ok (.iload_n 2, 1) := by decide +kernel
theorem dL_wants_3 : decode cL_wants 3 = .ok (.invokevirtual 21, 3) := by decide +kernel
theorem dL_wants_6 : decode cL_wants 6 = .ok (.goto 6, 3) := by decide +kernel
theorem dL_wants_9 : decode cL_wants 9 = .ok (.astore_n 3, 1) := by decide +kernel
theorem dL_wants_10 : decode cL_wants 10 = .ok (.iconst 1, 1) := by decide +kernel
theorem dL_wants_11 : decode cL_wants 11 = .ok (.ireturn, 1) := by decide +kernel
theorem dL_wants_12 : decode cL_wants 12 = .ok (.iconst 0, 1) := by decide +kernel
theorem dL_wants_13 : decode cL_wants 13 = .ok (.ireturn, 1) := by decide +kernel
theorem dL_right_0 : decode cL_right 0 = .ok (.aload_n 0, 1) := by decide +kernel
theorem dL_right_1 : decode cL_right 1 = .ok (.iload_n 1, 1) := by decide +kernel
theorem dL_right_2 : decode cL_right 2 = .ok (.iload_n 2, 1) := by decide +kernel
theorem dL_right_3 : decode cL_right 3 = .ok (.iload_n 3, 1) := by decide +kernel
theorem dL_right_4 : decode cL_right 4 = .ok (.invokevirtual 25, 3) := by decide +kernel
theorem dL_right_7 : decode cL_right 7 = .ok (.goto 7, 3) := by decide +kernel
theorem dL_right_10 : decode cL_right 10 = .ok (.astore 4, 2) := by decide +kernel
theorem dL_right_12 : decode cL_right 12 = .ok (.iconst 1, 1) := by decide +kernel
theorem dL_right_13 : decode cL_right 13 = .ok (.ireturn, 1) := by decide +kernel
theorem dL_right_14 : decode cL_right 14 = .ok (.iconst 0, 1) := by decide +kernel
theorem dL_right_15 : decode cL_right 15 = .ok (.ireturn, 1) := by decide +kernel
theorem dL_block_0 : decode cL_block 0 = .ok (.aload_n 3, 1) := by decide +kernel
theorem dL_block_1 : decode cL_block 1 = .ok (.iconst 0, 1) := by decide +kernel
theorem dL_block_2 : decode cL_block 2 = .ok (.aload_n 0, 1) := by decide +kernel
theorem dL_block_3 : decode cL_block 3 = .ok (.iload_n 1, 1) := by decide +kernel
theorem dL_block_4 : decode cL_block 4 = .ok (.iload_n 2, 1) := by decide +kernel
theorem dL_block_5 : decode cL_block 5 = .ok (.invokevirtual 29, 3) := by decide +kernel
theorem dL_block_8 : decode cL_block 8 = .ok (.i2l, 1) := by decide +kernel
theorem dL_block_9 : decode cL_block 9 = .ok (.lastore, 1) := by decide +kernel
theorem dL_block_10 : decode cL_block 10 = .ok (.goto 19, 3) := by decide +kernel
theorem dL_block_13 : decode cL_block 13 = .ok (.astore 4, 2) := by decide +kernel
theorem dL_block_15 : decode cL_block 15 = .ok (.iconst 1, 1) := by decide +kernel
theorem dL_block_16 : decode cL_block 16 = .ok (.ireturn, 1) := by decide +kernel
theorem dL_block_17 : decode cL_block 17 = .ok (.astore 4, 2) := by decide +kernel
theorem dL_block_19 : decode cL_block 19 = .ok (.iconst 2, 1) := by decide +kernel
theorem dL_block_20 : decode cL_block 20 = .ok (.ireturn, 1) := by decide +kernel
theorem dL_block_21 : decode cL_block 21 = .ok (.astore 4, 2) := by decide +kernel
theorem dL_block_23 : decode cL_block 23 = .ok (.iconst 3, 1) := by decide +kernel
theorem dL_block_24 : decode cL_block 24 = .ok (.ireturn, 1) := by decide +kernel
theorem dL_block_25 : decode cL_block 25 = .ok (.astore 4, 2) := by decide +kernel
theorem dL_block_27 : decode cL_block 27 = .ok (.iconst 4, 1) := by decide +kernel
theorem dL_block_28 : decode cL_block 28 = .ok (.ireturn, 1) := by decide +kernel
theorem dL_block_29 : decode cL_block 29 = .ok (.iconst 0, 1) := by decide +kernel
theorem dL_block_30 : decode cL_block 30 = .ok (.ireturn, 1) := by decide +kernel
theorem dL_release_0 : decode cL_release 0 = .ok (.aload_n 3, 1) := by decide +kernel
theorem dL_release_1 : decode cL_release 1 = .ok (.iconst 0, 1) := by decide +kernel
theorem dL_release_2 : decode cL_release 2 = .ok (.aload_n 0, 1) := by decide +kernel
theorem dL_release_3 : decode cL_release 3 = .ok (.iload_n 1, 1) := by decide +kernel
theorem dL_release_4 : decode cL_release 4 = .ok (.iload_n 2, 1) := by decide +kernel
theorem dL_release_5 : decode cL_release 5 = .ok (.invokevirtual 37, 3) := by decide +kernel
theorem dL_release_8 : decode cL_release 8 = .ok (.i2l, 1) := by decide +kernel
theorem dL_release_9 : decode cL_release 9 = .ok (.lastore, 1) := by decide +kernel
theorem dL_release_10 : decode cL_release 10 = .ok (.goto 19, 3) := by decide +kernel
theorem dL_release_13 : decode cL_release 13 = .ok (.astore 4, 2) := by decide +kernel
theorem dL_release_15 : decode cL_release 15 = .ok (.iconst 1, 1) := by decide +kernel
theorem dL_release_16 : decode cL_release 16 = .ok (.ireturn, 1) := by decide +kernel
theorem dL_release_17 : decode cL_release 17 = .ok (.astore 4, 2) := by decide +kernel
theorem dL_release_19 : decode cL_release 19 = .ok (.iconst 2, 1) := by decide +kernel
theorem dL_release_20 : decode cL_release 20 = .ok (.ireturn, 1) := by decide +kernel
theorem dL_release_21 : decode cL_release 21 = .ok (.astore 4, 2) := by decide +kernel
theorem dL_release_23 : decode cL_release 23 = .ok (.iconst 3, 1) := by decide +kernel
theorem dL_release_24 : decode cL_release 24 = .ok (.ireturn, 1) := by decide +kernel
theorem dL_release_25 : decode cL_release 25 = .ok (.astore 4, 2) := by decide +kernel
theorem dL_release_27 : decode cL_release 27 = .ok (.iconst 4, 1) := by decide +kernel
theorem dL_release_28 : decode cL_release 28 = .ok (.ireturn, 1) := by decide +kernel
theorem dL_release_29 : decode cL_release 29 = .ok (.iconst 0, 1) := by decide +kernel
theorem dL_release_30 : decode cL_release 30 = .ok (.ireturn, 1) := by decide +kernel
theorem dL_quarantine_0 : decode cL_quarantine 0 = .ok (.aload_n 0, 1) := by decide +kernel
theorem dL_quarantine_1 : decode cL_quarantine 1 = .ok (.iload_n 1, 1) := by decide +kernel
theorem dL_quarantine_2 : decode cL_quarantine 2 = .ok (.iload_n 2, 1) := by decide +kernel
theorem dL_quarantine_3 : decode cL_quarantine 3 = .ok (.invokevirtual 40, 3) := by decide +kernel
theorem dL_quarantine_6 : decode cL_quarantine 6 = .ok (.goto 12, 3) := by decide +kernel
theorem dL_quarantine_9 : decode cL_quarantine 9 = .ok (.astore_n 3, 1) := by decide +kernel
theorem dL_quarantine_10 : decode cL_quarantine 10 = .ok (.iconst 1, 1) := by decide +kernel
theorem dL_quarantine_11 : decode cL_quarantine 11 = .ok (.ireturn, 1) := by decide +kernel
theorem dL_quarantine_12 : decode cL_quarantine 12 = .ok (.astore_n 3, 1) := by decide +kernel
theorem dL_quarantine_13 : decode cL_quarantine 13 = .ok (.iconst 2, 1) := by decide +kernel
theorem dL_quarantine_14 : decode cL_quarantine 14 = .ok (.ireturn, 1) := by decide +kernel
theorem dL_quarantine_15 : decode cL_quarantine 15 = .ok (.astore_n 3, 1) := by decide +kernel
theorem dL_quarantine_16 : decode cL_quarantine 16 = .ok (.iconst 3, 1) := by decide +kernel
theorem dL_quarantine_17 : decode cL_quarantine 17 = .ok (.ireturn, 1) := by decide +kernel
theorem dL_quarantine_18 : decode cL_quarantine 18 = .ok (.iconst 0, 1) := by decide +kernel
theorem dL_quarantine_19 : decode cL_quarantine 19 = .ok (.ireturn, 1) := by decide +kernel
theorem dL_order_0 : decode cL_order 0 = .ok (.aload 4, 2) := by decide +kernel
theorem dL_order_2 : decode cL_order 2 = .ok (.iconst 0, 1) := by decide +kernel
theorem dL_order_3 : decode cL_order 3 = .ok (.aload_n 0, 1) := by decide +kernel
theorem dL_order_4 : decode cL_order 4 = .ok (.iload_n 1, 1) := by decide +kernel
theorem dL_order_5 : decode cL_order 5 = .ok (.iload_n 2, 1) := by decide +kernel
theorem dL_order_6 : decode cL_order 6 = .ok (.iload_n 3, 1) := by decide +kernel
theorem dL_order_7 : decode cL_order 7 = .ok (.invokevirtual 44, 3) := by decide +kernel
theorem dL_order_10 : decode cL_order 10 = .ok (.i2l, 1) := by decide +kernel
theorem dL_order_11 : decode cL_order 11 = .ok (.lastore, 1) := by decide +kernel
theorem dL_order_12 : decode cL_order 12 = .ok (.goto 7, 3) := by decide +kernel
theorem dL_order_15 : decode cL_order 15 = .ok (.astore 5, 2) := by decide +kernel
theorem dL_order_17 : decode cL_order 17 = .ok (.iconst 1, 1) := by decide +kernel
theorem dL_order_18 : decode cL_order 18 = .ok (.ireturn, 1) := by decide +kernel
theorem dL_order_19 : decode cL_order 19 = .ok (.iconst 0, 1) := by decide +kernel
theorem dL_order_20 : decode cL_order 20 = .ok (.ireturn, 1) := by decide +kernel
theorem dL_allowed_0 : decode cL_allowed 0 = .ok (.aload 4, 2) := by decide +kernel
theorem dL_allowed_2 : decode cL_allowed 2 = .ok (.iconst 0, 1) := by decide +kernel
theorem dL_allowed_3 : decode cL_allowed 3 = .ok (.aload_n 0, 1) := by decide +kernel
theorem dL_allowed_4 : decode cL_allowed 4 = .ok (.iload_n 1, 1) := by decide +kernel
theorem dL_allowed_5 : decode cL_allowed 5 = .ok (.iload_n 2, 1) := by decide +kernel
theorem dL_allowed_6 : decode cL_allowed 6 = .ok (.iload_n 3, 1) := by decide +kernel
theorem dL_allowed_7 : decode cL_allowed 7 = .ok (.invokevirtual 48, 3) := by decide +kernel
theorem dL_allowed_10 : decode cL_allowed 10 = .ok (.ifCond .eq 7, 3) := by decide +kernel
theorem dL_allowed_13 : decode cL_allowed 13 = .ok (.lconst 1, 1) := by decide +kernel
theorem dL_allowed_14 : decode cL_allowed 14 = .ok (.goto 4, 3) := by decide +kernel
theorem dL_allowed_17 : decode cL_allowed 17 = .ok (.lconst 0, 1) := by decide +kernel
theorem dL_allowed_18 : decode cL_allowed 18 = .ok (.lastore, 1) := by decide +kernel
theorem dL_allowed_19 : decode cL_allowed 19 = .ok (.goto 11, 3) := by decide +kernel
theorem dL_allowed_22 : decode cL_allowed 22 = .ok (.astore 5, 2) := by decide +kernel
theorem dL_allowed_24 : decode cL_allowed 24 = .ok (.iconst 1, 1) := by decide +kernel
theorem dL_allowed_25 : decode cL_allowed 25 = .ok (.ireturn, 1) := by decide +kernel
theorem dL_allowed_26 : decode cL_allowed 26 = .ok (.astore 5, 2) := by decide +kernel
theorem dL_allowed_28 : decode cL_allowed 28 = .ok (.iconst 2, 1) := by decide +kernel
theorem dL_allowed_29 : decode cL_allowed 29 = .ok (.ireturn, 1) := by decide +kernel
theorem dL_allowed_30 : decode cL_allowed 30 = .ok (.iconst 0, 1) := by decide +kernel
theorem dL_allowed_31 : decode cL_allowed 31 = .ok (.ireturn, 1) := by decide +kernel
theorem dL_split_0 : decode cL_split 0 = .ok (.aload_n 2, 1) := by decide +kernel
theorem dL_split_1 : decode cL_split 1 = .ok (.iconst 0, 1) := by decide +kernel
theorem dL_split_2 : decode cL_split 2 = .ok (.aload_n 0, 1) := by decide +kernel
theorem dL_split_3 : decode cL_split 3 = .ok (.iload_n 1, 1) := by decide +kernel
theorem dL_split_4 : decode cL_split 4 = .ok (.invokevirtual 52, 3) := by decide +kernel
theorem dL_split_7 : decode cL_split 7 = .ok (.i2l, 1) := by decide +kernel
theorem dL_split_8 : decode cL_split 8 = .ok (.lastore, 1) := by decide +kernel
theorem dL_split_9 : decode cL_split 9 = .ok (.goto 12, 3) := by decide +kernel
theorem dL_split_12 : decode cL_split 12 = .ok (.astore_n 3, 1) := by decide +kernel
theorem dL_split_13 : decode cL_split 13 = .ok (.iconst 1, 1) := by decide +kernel
theorem dL_split_14 : decode cL_split 14 = .ok (.ireturn, 1) := by decide +kernel
theorem dL_split_15 : decode cL_split 15 = .ok (.astore_n 3, 1) := by decide +kernel
theorem dL_split_16 : decode cL_split 16 = .ok (.iconst 2, 1) := by decide +kernel
theorem dL_split_17 : decode cL_split 17 = .ok (.ireturn, 1) := by decide +kernel
theorem dL_split_18 : decode cL_split 18 = .ok (.astore_n 3, 1) := by decide +kernel
theorem dL_split_19 : decode cL_split 19 = .ok (.iconst 3, 1) := by decide +kernel
theorem dL_split_20 : decode cL_split 20 = .ok (.ireturn, 1) := by decide +kernel
theorem dL_split_21 : decode cL_split 21 = .ok (.iconst 0, 1) := by decide +kernel
theorem dL_split_22 : decode cL_split 22 = .ok (.ireturn, 1) := by decide +kernel
theorem dL_join_0 : decode cL_join 0 = .ok (.aload_n 0, 1) := by decide +kernel
theorem dL_join_1 : decode cL_join 1 = .ok (.iload_n 1, 1) := by decide +kernel
theorem dL_join_2 : decode cL_join 2 = .ok (.iload_n 2, 1) := by decide +kernel
theorem dL_join_3 : decode cL_join 3 = .ok (.invokevirtual 56, 3) := by decide +kernel
theorem dL_join_6 : decode cL_join 6 = .ok (.goto 12, 3) := by decide +kernel
theorem dL_join_9 : decode cL_join 9 = .ok (.astore_n 3, 1) := by decide +kernel
theorem dL_join_10 : decode cL_join 10 = .ok (.iconst 1, 1) := by decide +kernel
theorem dL_join_11 : decode cL_join 11 = .ok (.ireturn, 1) := by decide +kernel
theorem dL_join_12 : decode cL_join 12 = .ok (.astore_n 3, 1) := by decide +kernel
theorem dL_join_13 : decode cL_join 13 = .ok (.iconst 2, 1) := by decide +kernel
theorem dL_join_14 : decode cL_join 14 = .ok (.ireturn, 1) := by decide +kernel
theorem dL_join_15 : decode cL_join 15 = .ok (.astore_n 3, 1) := by decide +kernel
theorem dL_join_16 : decode cL_join 16 = .ok (.iconst 3, 1) := by decide +kernel
theorem dL_join_17 : decode cL_join 17 = .ok (.ireturn, 1) := by decide +kernel
theorem dL_join_18 : decode cL_join 18 = .ok (.iconst 0, 1) := by decide +kernel
theorem dL_join_19 : decode cL_join 19 = .ok (.ireturn, 1) := by decide +kernel
theorem dL_unit_0 : decode cL_unit 0 = .ok (.aload_n 2, 1) := by decide +kernel
theorem dL_unit_1 : decode cL_unit 1 = .ok (.iconst 0, 1) := by decide +kernel
theorem dL_unit_2 : decode cL_unit 2 = .ok (.aload_n 0, 1) := by decide +kernel
theorem dL_unit_3 : decode cL_unit 3 = .ok (.iload_n 1, 1) := by decide +kernel
theorem dL_unit_4 : decode cL_unit 4 = .ok (.invokevirtual 59, 3) := by decide +kernel
theorem dL_unit_7 : decode cL_unit 7 = .ok (.i2l, 1) := by decide +kernel
theorem dL_unit_8 : decode cL_unit 8 = .ok (.lastore, 1) := by decide +kernel
theorem dL_unit_9 : decode cL_unit 9 = .ok (.goto 12, 3) := by decide +kernel
theorem dL_unit_12 : decode cL_unit 12 = .ok (.astore_n 3, 1) := by decide +kernel
theorem dL_unit_13 : decode cL_unit 13 = .ok (.iconst 1, 1) := by decide +kernel
theorem dL_unit_14 : decode cL_unit 14 = .ok (.ireturn, 1) := by decide +kernel
theorem dL_unit_15 : decode cL_unit 15 = .ok (.astore_n 3, 1) := by decide +kernel
theorem dL_unit_16 : decode cL_unit 16 = .ok (.iconst 2, 1) := by decide +kernel
theorem dL_unit_17 : decode cL_unit 17 = .ok (.ireturn, 1) := by decide +kernel
theorem dL_unit_18 : decode cL_unit 18 = .ok (.astore_n 3, 1) := by decide +kernel
theorem dL_unit_19 : decode cL_unit 19 = .ok (.iconst 3, 1) := by decide +kernel
theorem dL_unit_20 : decode cL_unit 20 = .ok (.ireturn, 1) := by decide +kernel
theorem dL_unit_21 : decode cL_unit 21 = .ok (.iconst 0, 1) := by decide +kernel
theorem dL_unit_22 : decode cL_unit 22 = .ok (.ireturn, 1) := by decide +kernel
theorem dL_put_0 : decode cL_put 0 = .ok (.aload_n 0, 1) := by decide +kernel
theorem dL_put_1 : decode cL_put 1 = .ok (.iload_n 1, 1) := by decide +kernel
theorem dL_put_2 : decode cL_put 2 = .ok (.iload_n 2, 1) := by decide +kernel
theorem dL_put_3 : decode cL_put 3 = .ok (.invokevirtual 62, 3) := by decide +kernel
theorem dL_put_6 : decode cL_put 6 = .ok (.goto 12, 3) := by decide +kernel
theorem dL_put_9 : decode cL_put 9 = .ok (.astore_n 3, 1) := by decide +kernel
theorem dL_put_10 : decode cL_put 10 = .ok (.iconst 1, 1) := by decide +kernel
theorem dL_put_11 : decode cL_put 11 = .ok (.ireturn, 1) := by decide +kernel
theorem dL_put_12 : decode cL_put 12 = .ok (.astore_n 3, 1) := by decide +kernel
theorem dL_put_13 : decode cL_put 13 = .ok (.iconst 2, 1) := by decide +kernel
theorem dL_put_14 : decode cL_put 14 = .ok (.ireturn, 1) := by decide +kernel
theorem dL_put_15 : decode cL_put 15 = .ok (.astore_n 3, 1) := by decide +kernel
theorem dL_put_16 : decode cL_put 16 = .ok (.iconst 3, 1) := by decide +kernel
theorem dL_put_17 : decode cL_put 17 = .ok (.ireturn, 1) := by decide +kernel
theorem dL_put_18 : decode cL_put 18 = .ok (.iconst 0, 1) := by decide +kernel
theorem dL_put_19 : decode cL_put 19 = .ok (.ireturn, 1) := by decide +kernel
theorem dL_mixed_0 : decode cL_mixed 0 = .ok (.aload_n 2, 1) := by decide +kernel
theorem dL_mixed_1 : decode cL_mixed 1 = .ok (.iconst 0, 1) := by decide +kernel
theorem dL_mixed_2 : decode cL_mixed 2 = .ok (.aload_n 0, 1) := by decide +kernel
theorem dL_mixed_3 : decode cL_mixed 3 = .ok (.iload_n 1, 1) := by decide +kernel
theorem dL_mixed_4 : decode cL_mixed 4 = .ok (.invokevirtual 65, 3) := by decide +kernel
theorem dL_mixed_7 : decode cL_mixed 7 = .ok (.i2l, 1) := by decide +kernel
theorem dL_mixed_8 : decode cL_mixed 8 = .ok (.lastore, 1) := by decide +kernel
theorem dL_mixed_9 : decode cL_mixed 9 = .ok (.goto 6, 3) := by decide +kernel
theorem dL_mixed_12 : decode cL_mixed 12 = .ok (.astore_n 3, 1) := by decide +kernel
theorem dL_mixed_13 : decode cL_mixed 13 = .ok (.iconst 1, 1) := by decide +kernel
theorem dL_mixed_14 : decode cL_mixed 14 = .ok (.ireturn, 1) := by decide +kernel
theorem dL_mixed_15 : decode cL_mixed 15 = .ok (.iconst 0, 1) := by decide +kernel
theorem dL_mixed_16 : decode cL_mixed 16 = .ok (.ireturn, 1) := by decide +kernel
theorem dL_ship_0 : decode cL_ship 0 = .ok (.aload_n 0, 1) := by decide +kernel
theorem dL_ship_1 : decode cL_ship 1 = .ok (.iload_n 1, 1) := by decide +kernel
theorem dL_ship_2 : decode cL_ship 2 = .ok (.iload_n 2, 1) := by decide +kernel
theorem dL_ship_3 : decode cL_ship 3 = .ok (.iload_n 3, 1) := by decide +kernel
theorem dL_ship_4 : decode cL_ship 4 = .ok (.invokevirtual 68, 3) := by decide +kernel
theorem dL_ship_7 : decode cL_ship 7 = .ok (.goto 19, 3) := by decide +kernel
theorem dL_ship_10 : decode cL_ship 10 = .ok (.astore 4, 2) := by decide +kernel
theorem dL_ship_12 : decode cL_ship 12 = .ok (.iconst 1, 1) := by decide +kernel
theorem dL_ship_13 : decode cL_ship 13 = .ok (.ireturn, 1) := by decide +kernel
theorem dL_ship_14 : decode cL_ship 14 = .ok (.astore 4, 2) := by decide +kernel
theorem dL_ship_16 : decode cL_ship 16 = .ok (.iconst 2, 1) := by decide +kernel
theorem dL_ship_17 : decode cL_ship 17 = .ok (.ireturn, 1) := by decide +kernel
theorem dL_ship_18 : decode cL_ship 18 = .ok (.astore 4, 2) := by decide +kernel
theorem dL_ship_20 : decode cL_ship 20 = .ok (.iconst 3, 1) := by decide +kernel
theorem dL_ship_21 : decode cL_ship 21 = .ok (.ireturn, 1) := by decide +kernel
theorem dL_ship_22 : decode cL_ship 22 = .ok (.astore 4, 2) := by decide +kernel
theorem dL_ship_24 : decode cL_ship 24 = .ok (.iconst 4, 1) := by decide +kernel
theorem dL_ship_25 : decode cL_ship 25 = .ok (.ireturn, 1) := by decide +kernel
theorem dL_ship_26 : decode cL_ship 26 = .ok (.iconst 0, 1) := by decide +kernel
theorem dL_ship_27 : decode cL_ship 27 = .ok (.ireturn, 1) := by decide +kernel
theorem dL_recall_0 : decode cL_recall 0 = .ok (.aload_n 3, 1) := by decide +kernel
theorem dL_recall_1 : decode cL_recall 1 = .ok (.iconst 0, 1) := by decide +kernel
theorem dL_recall_2 : decode cL_recall 2 = .ok (.aload_n 0, 1) := by decide +kernel
theorem dL_recall_3 : decode cL_recall 3 = .ok (.iload_n 1, 1) := by decide +kernel
theorem dL_recall_4 : decode cL_recall 4 = .ok (.iload_n 2, 1) := by decide +kernel
theorem dL_recall_5 : decode cL_recall 5 = .ok (.invokevirtual 71, 3) := by decide +kernel
theorem dL_recall_8 : decode cL_recall 8 = .ok (.i2l, 1) := by decide +kernel
theorem dL_recall_9 : decode cL_recall 9 = .ok (.lastore, 1) := by decide +kernel
theorem dL_recall_10 : decode cL_recall 10 = .ok (.goto 11, 3) := by decide +kernel
theorem dL_recall_13 : decode cL_recall 13 = .ok (.astore 4, 2) := by decide +kernel
theorem dL_recall_15 : decode cL_recall 15 = .ok (.iconst 1, 1) := by decide +kernel
theorem dL_recall_16 : decode cL_recall 16 = .ok (.ireturn, 1) := by decide +kernel
theorem dL_recall_17 : decode cL_recall 17 = .ok (.astore 4, 2) := by decide +kernel
theorem dL_recall_19 : decode cL_recall 19 = .ok (.iconst 2, 1) := by decide +kernel
theorem dL_recall_20 : decode cL_recall 20 = .ok (.ireturn, 1) := by decide +kernel
theorem dL_recall_21 : decode cL_recall 21 = .ok (.iconst 0, 1) := by decide +kernel
theorem dL_recall_22 : decode cL_recall 22 = .ok (.ireturn, 1) := by decide +kernel
theorem dL_where_0 : decode cL_where 0 = .ok (.aload_n 3, 1) := by decide +kernel
theorem dL_where_1 : decode cL_where 1 = .ok (.iconst 0, 1) := by decide +kernel
theorem dL_where_2 : decode cL_where 2 = .ok (.aload_n 0, 1) := by decide +kernel
theorem dL_where_3 : decode cL_where 3 = .ok (.iload_n 1, 1) := by decide +kernel
theorem dL_where_4 : decode cL_where 4 = .ok (.iload_n 2, 1) := by decide +kernel
theorem dL_where_5 : decode cL_where 5 = .ok (.invokevirtual 74, 3) := by decide +kernel
theorem dL_where_8 : decode cL_where 8 = .ok (.i2l, 1) := by decide +kernel
theorem dL_where_9 : decode cL_where 9 = .ok (.lastore, 1) := by decide +kernel
theorem dL_where_10 : decode cL_where 10 = .ok (.goto 11, 3) := by decide +kernel
theorem dL_where_13 : decode cL_where 13 = .ok (.astore 4, 2) := by decide +kernel
theorem dL_where_15 : decode cL_where 15 = .ok (.iconst 1, 1) := by decide +kernel
theorem dL_where_16 : decode cL_where 16 = .ok (.ireturn, 1) := by decide +kernel
theorem dL_where_17 : decode cL_where 17 = .ok (.astore 4, 2) := by decide +kernel
theorem dL_where_19 : decode cL_where 19 = .ok (.iconst 2, 1) := by decide +kernel
theorem dL_where_20 : decode cL_where 20 = .ok (.ireturn, 1) := by decide +kernel
theorem dL_where_21 : decode cL_where 21 = .ok (.iconst 0, 1) := by decide +kernel
theorem dL_where_22 : decode cL_where 22 = .ok (.ireturn, 1) := by decide +kernel
theorem dL_history_0 : decode cL_history 0 = .ok (.aload 4, 2) := by decide +kernel
theorem dL_history_2 : decode cL_history 2 = .ok (.iconst 0, 1) := by decide +kernel
theorem dL_history_3 : decode cL_history 3 = .ok (.aload_n 0, 1) := by decide +kernel
theorem dL_history_4 : decode cL_history 4 = .ok (.iload_n 1, 1) := by decide +kernel
theorem dL_history_5 : decode cL_history 5 = .ok (.iload_n 2, 1) := by decide +kernel
theorem dL_history_6 : decode cL_history 6 = .ok (.iload_n 3, 1) := by decide +kernel
theorem dL_history_7 : decode cL_history 7 = .ok (.invokevirtual 77, 3) := by decide +kernel
theorem dL_history_10 : decode cL_history 10 = .ok (.i2l, 1) := by decide +kernel
theorem dL_history_11 : decode cL_history 11 = .ok (.lastore, 1) := by decide +kernel
theorem dL_history_12 : decode cL_history 12 = .ok (.goto 11, 3) := by decide +kernel
theorem dL_history_15 : decode cL_history 15 = .ok (.astore 5, 2) := by decide +kernel
theorem dL_history_17 : decode cL_history 17 = .ok (.iconst 1, 1) := by decide +kernel
theorem dL_history_18 : decode cL_history 18 = .ok (.ireturn, 1) := by decide +kernel
theorem dL_history_19 : decode cL_history 19 = .ok (.astore 5, 2) := by decide +kernel
theorem dL_history_21 : decode cL_history 21 = .ok (.iconst 2, 1) := by decide +kernel
theorem dL_history_22 : decode cL_history 22 = .ok (.ireturn, 1) := by decide +kernel
theorem dL_history_23 : decode cL_history 23 = .ok (.iconst 0, 1) := by decide +kernel
theorem dL_history_24 : decode cL_history 24 = .ok (.ireturn, 1) := by decide +kernel
theorem dL_told_0 : decode cL_told 0 = .ok (.aload_n 3, 1) := by decide +kernel
theorem dL_told_1 : decode cL_told 1 = .ok (.iconst 0, 1) := by decide +kernel
theorem dL_told_2 : decode cL_told 2 = .ok (.aload_n 0, 1) := by decide +kernel
theorem dL_told_3 : decode cL_told 3 = .ok (.iload_n 1, 1) := by decide +kernel
theorem dL_told_4 : decode cL_told 4 = .ok (.iload_n 2, 1) := by decide +kernel
theorem dL_told_5 : decode cL_told 5 = .ok (.invokevirtual 80, 3) := by decide +kernel
theorem dL_told_8 : decode cL_told 8 = .ok (.i2l, 1) := by decide +kernel
theorem dL_told_9 : decode cL_told 9 = .ok (.lastore, 1) := by decide +kernel
theorem dL_told_10 : decode cL_told 10 = .ok (.goto 11, 3) := by decide +kernel
theorem dL_told_13 : decode cL_told 13 = .ok (.astore 4, 2) := by decide +kernel
theorem dL_told_15 : decode cL_told 15 = .ok (.iconst 1, 1) := by decide +kernel
theorem dL_told_16 : decode cL_told 16 = .ok (.ireturn, 1) := by decide +kernel
theorem dL_told_17 : decode cL_told 17 = .ok (.astore 4, 2) := by decide +kernel
theorem dL_told_19 : decode cL_told 19 = .ok (.iconst 2, 1) := by decide +kernel
theorem dL_told_20 : decode cL_told 20 = .ok (.ireturn, 1) := by decide +kernel
theorem dL_told_21 : decode cL_told 21 = .ok (.iconst 0, 1) := by decide +kernel
theorem dL_told_22 : decode cL_told 22 = .ok (.ireturn, 1) := by decide +kernel
theorem dL_day_0 : decode cL_day 0 = .ok (.aload_n 3, 1) := by decide +kernel
theorem dL_day_1 : decode cL_day 1 = .ok (.iconst 0, 1) := by decide +kernel
theorem dL_day_2 : decode cL_day 2 = .ok (.aload_n 0, 1) := by decide +kernel
theorem dL_day_3 : decode cL_day 3 = .ok (.iload_n 1, 1) := by decide +kernel
theorem dL_day_4 : decode cL_day 4 = .ok (.iload_n 2, 1) := by decide +kernel
theorem dL_day_5 : decode cL_day 5 = .ok (.invokevirtual 83, 3) := by decide +kernel
theorem dL_day_8 : decode cL_day 8 = .ok (.i2l, 1) := by decide +kernel
theorem dL_day_9 : decode cL_day 9 = .ok (.lastore, 1) := by decide +kernel
theorem dL_day_10 : decode cL_day 10 = .ok (.goto 7, 3) := by decide +kernel
theorem dL_day_13 : decode cL_day 13 = .ok (.astore 4, 2) := by decide +kernel
theorem dL_day_15 : decode cL_day 15 = .ok (.iconst 1, 1) := by decide +kernel
theorem dL_day_16 : decode cL_day 16 = .ok (.ireturn, 1) := by decide +kernel
theorem dL_day_17 : decode cL_day 17 = .ok (.iconst 0, 1) := by decide +kernel
theorem dL_day_18 : decode cL_day 18 = .ok (.ireturn, 1) := by decide +kernel
theorem dL_date_0 : decode cL_date 0 = .ok (.aload_n 3, 1) := by decide +kernel
theorem dL_date_1 : decode cL_date 1 = .ok (.iconst 0, 1) := by decide +kernel
theorem dL_date_2 : decode cL_date 2 = .ok (.aload_n 0, 1) := by decide +kernel
theorem dL_date_3 : decode cL_date 3 = .ok (.iload_n 1, 1) := by decide +kernel
theorem dL_date_4 : decode cL_date 4 = .ok (.iload_n 2, 1) := by decide +kernel
theorem dL_date_5 : decode cL_date 5 = .ok (.invokevirtual 86, 3) := by decide +kernel
theorem dL_date_8 : decode cL_date 8 = .ok (.i2l, 1) := by decide +kernel
theorem dL_date_9 : decode cL_date 9 = .ok (.lastore, 1) := by decide +kernel
theorem dL_date_10 : decode cL_date 10 = .ok (.goto 7, 3) := by decide +kernel
theorem dL_date_13 : decode cL_date 13 = .ok (.astore 4, 2) := by decide +kernel
theorem dL_date_15 : decode cL_date 15 = .ok (.iconst 1, 1) := by decide +kernel
theorem dL_date_16 : decode cL_date 16 = .ok (.ireturn, 1) := by decide +kernel
theorem dL_date_17 : decode cL_date 17 = .ok (.iconst 0, 1) := by decide +kernel
theorem dL_date_18 : decode cL_date 18 = .ok (.ireturn, 1) := by decide +kernel