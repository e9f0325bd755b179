theorem eL_cell_0 : decode mL_cell.2.1 0 = .ok (.iload_n 1, 1) := by decide +kernel
theorem eL_cell_1 : decode mL_cell.2.1 1 = .ok (.aload_n 0, 1) := by decide +kernel
theorem eL_cell_2 : decode mL_cell.2.1 2 = .ok (.arraylength, 1) := by decide +kernel
theorem eL_cell_3 : decode mL_cell.2.1 3 = .ok (.if_icmp .ge 9, 3) := by decide +kernel
theorem eL_cell_6 : decode mL_cell.2.1 6 = .ok (.aload_n 0, 1) := by decide +kernel
theorem eL_cell_7 : decode mL_cell.2.1 7 = .ok (.iload_n 1, 1) := by decide +kernel
theorem eL_cell_8 : decode mL_cell.2.1 8 = .ok (.iaload, 1) := by decide +kernel
theorem eL_cell_9 : decode mL_cell.2.1 9 = .ok (.goto 4, 3) := by decide +kernel
theorem eL_cell_12 : decode mL_cell.2.1 12 = .ok (.iconst 0, 1) := by decide +kernel
theorem eL_cell_13 : decode mL_cell.2.1 13 = .ok (.ireturn, 1) := by decide +kernel
theorem eL_fork_0 : decode mL_fork.2.1 0 = .ok (.aload_n 2, 1) := by decide +kernel
theorem eL_fork_1 : decode mL_fork.2.1 1 = .ok (.iconst 0, 1) := by decide +kernel
theorem eL_fork_2 : decode mL_fork.2.1 2 = .ok (.aload_n 0, 1) := by decide +kernel
theorem eL_fork_3 : decode mL_fork.2.1 3 = .ok (.iload_n 1, 1) := by decide +kernel
theorem eL_fork_4 : decode mL_fork.2.1 4 = .ok (.invokevirtual 7, 3) := by decide +kernel
theorem eL_fork_7 : decode mL_fork.2.1 7 = .ok (.i2l, 1) := by decide +kernel
theorem eL_fork_8 : decode mL_fork.2.1 8 = .ok (.lastore, 1) := by decide +kernel
theorem eL_fork_9 : decode mL_fork.2.1 9 = .ok (.goto 6, 3) := by decide +kernel
theorem eL_fork_12 : decode mL_fork.2.1 12 = .ok (.astore_n 3, 1) := by decide +kernel
theorem eL_fork_13 : decode mL_fork.2.1 13 = .ok (.iconst 1, 1) := by decide +kernel
theorem eL_fork_14 : decode mL_fork.2.1 14 = .ok (.ireturn, 1) := by decide +kernel
theorem eL_fork_15 : decode mL_fork.2.1 15 = .ok (.iconst 0, 1) := by decide +kernel
theorem eL_fork_16 : decode mL_fork.2.1 16 = .ok (.ireturn, 1) := by decide +kernel
theorem eL_close_0 : decode mL_close.2.1 0 = .ok (.aload_n 2, 1) := by decide +kernel
theorem eL_close_1 : decode mL_close.2.1 1 = .ok (.iconst 0, 1) := by decide +kernel
theorem eL_close_2 : decode mL_close.2.1 2 = .ok (.aload_n 0, 1) := by decide +kernel
theorem eL_close_3 : decode mL_close.2.1 3 = .ok (.iload_n 1, 1) := by decide +kernel
theorem eL_close_4 : decode mL_close.2.1 4 = .ok (.invokevirtual 15, 3) := by decide +kernel
theorem eL_close_7 : decode mL_close.2.1 7 = .ok (.i2l, 1) := by decide +kernel
theorem eL_close_8 : decode mL_close.2.1 8 = .ok (.lastore, 1) := by decide +kernel
theorem eL_close_9 : decode mL_close.2.1 9 = .ok (.goto 6, 3) := by decide +kernel
theorem eL_close_12 : decode mL_close.2.1 12 = .ok (.astore_n 3, 1) := by decide +kernel
theorem eL_close_13 : decode mL_close.2.1 13 = .ok (.iconst 1, 1) := by decide +kernel
theorem eL_close_14 : decode mL_close.2.1 14 = .ok (.ireturn, 1) := by decide +kernel
theorem eL_close_15 : decode mL_close.2.1 15 = .ok (.iconst 0, 1) := by decide +kernel
theorem eL_close_16 : decode mL_close.2.1 16 = .ok (.ireturn, 1) := by decide +kernel
theorem eL_map_0 : decode mL_map.2.1 0 = .ok (.aload 4, 2) := by decide +kernel
theorem eL_map_2 : decode mL_map.2.1 2 = .ok (.iconst 0, 1) := by decide +kernel
theorem eL_map_3 : decode mL_map.2.1 3 = .ok (.aload_n 0, 1) := by decide +kernel
theorem eL_map_4 : decode mL_map.2.1 4 = .ok (.iload_n 1, 1) := by decide +kernel
theorem eL_map_5 : decode mL_map.2.1 5 = .ok (.iload_n 2, 1) := by decide +kernel
theorem eL_map_6 : decode mL_map.2.1 6 = .ok (.iload_n 3, 1) := by decide +kernel
theorem eL_map_7 : decode mL_map.2.1 7 = .ok (.invokevirtual 18, 3) := by decide +kernel
theorem eL_map_10 : decode mL_map.2.1 10 = .ok (.ifCond .eq 7, 3) := by decide +kernel
theorem eL_map_13 : decode mL_map.2.1 13 = .ok (.lconst 1, 1) := by decide +kernel
theorem eL_map_14 : decode mL_map.2.1 14 = .ok (.goto 4, 3) := by decide +kernel
theorem eL_map_17 : decode mL_map.2.1 17 = .ok (.lconst 0, 1) := by decide +kernel
theorem eL_map_18 : decode mL_map.2.1 18 = .ok (.lastore, 1) := by decide +kernel
theorem eL_map_19 : decode mL_map.2.1 19 = .ok (.goto 15, 3) := by decide +kernel
theorem eL_map_22 : decode mL_map.2.1 22 = .ok (.astore 5, 2) := by decide +kernel
theorem eL_map_24 : decode mL_map.2.1 24 = .ok (.iconst 1, 1) := by decide +kernel
theorem eL_map_25 : decode mL_map.2.1 25 = .ok (.ireturn, 1) := by decide +kernel
theorem eL_map_26 : decode mL_map.2.1 26 = .ok (.astore 5, 2) := by decide +kernel
theorem eL_map_28 : decode mL_map.2.1 28 = .ok (.iconst 2, 1) := by decide +kernel
theorem eL_map_29 : decode mL_map.2.1 29 = .ok (.ireturn, 1) := by decide +kernel
theorem eL_map_30 : decode mL_map.2.1 30 = .ok (.astore 5, 2) := by decide +kernel
theorem eL_map_32 : decode mL_map.2.1 32 = .ok (.iconst 3, 1) := by decide +kernel
theorem eL_map_33 : decode mL_map.2.1 33 = .ok (.ireturn, 1) := by decide +kernel
theorem eL_map_34 : decode mL_map.2.1 34 = .ok (.iconst 0, 1) := by decide +kernel
theorem eL_map_35 : decode mL_map.2.1 35 = .ok (.ireturn, 1) := by decide +kernel
theorem eL_unmap_0 : decode mL_unmap.2.1 0 = .ok (.aload_n 3, 1) := by decide +kernel
theorem eL_unmap_1 : decode mL_unmap.2.1 1 = .ok (.iconst 0, 1) := by decide +kernel
theorem eL_unmap_2 : decode mL_unmap.2.1 2 = .ok (.aload_n 0, 1) := by decide +kernel
theorem eL_unmap_3 : decode mL_unmap.2.1 3 = .ok (.iload_n 1, 1) := by decide +kernel
theorem eL_unmap_4 : decode mL_unmap.2.1 4 = .ok (.iload_n 2, 1) := by decide +kernel
theorem eL_unmap_5 : decode mL_unmap.2.1 5 = .ok (.invokevirtual 26, 3) := by decide +kernel
theorem eL_unmap_8 : decode mL_unmap.2.1 8 = .ok (.ifCond .eq 7, 3) := by decide +kernel
theorem eL_unmap_11 : decode mL_unmap.2.1 11 = .ok (.lconst 1, 1) := by decide +kernel
theorem eL_unmap_12 : decode mL_unmap.2.1 12 = .ok (.goto 4, 3) := by decide +kernel
theorem eL_unmap_15 : decode mL_unmap.2.1 15 = .ok (.lconst 0, 1) := by decide +kernel
theorem eL_unmap_16 : decode mL_unmap.2.1 16 = .ok (.lastore, 1) := by decide +kernel
theorem eL_unmap_17 : decode mL_unmap.2.1 17 = .ok (.goto 11, 3) := by decide +kernel
theorem eL_unmap_20 : decode mL_unmap.2.1 20 = .ok (.astore 4, 2) := by decide +kernel
theorem eL_unmap_22 : decode mL_unmap.2.1 22 = .ok (.iconst 1, 1) := by decide +kernel
theorem eL_unmap_23 : decode mL_unmap.2.1 23 = .ok (.ireturn, 1) := by decide +kernel
theorem eL_unmap_24 : decode mL_unmap.2.1 24 = .ok (.astore 4, 2) := by decide +kernel
theorem eL_unmap_26 : decode mL_unmap.2.1 26 = .ok (.iconst 2, 1) := by decide +kernel
theorem eL_unmap_27 : decode mL_unmap.2.1 27 = .ok (.ireturn, 1) := by decide +kernel
theorem eL_unmap_28 : decode mL_unmap.2.1 28 = .ok (.iconst 0, 1) := by decide +kernel
theorem eL_unmap_29 : decode mL_unmap.2.1 29 = .ok (.ireturn, 1) := by decide +kernel
theorem eL_read_0 : decode mL_read.2.1 0 = .ok (.aload_n 3, 1) := by decide +kernel
theorem eL_read_1 : decode mL_read.2.1 1 = .ok (.iconst 0, 1) := by decide +kernel
theorem eL_read_2 : decode mL_read.2.1 2 = .ok (.aload_n 0, 1) := by decide +kernel
theorem eL_read_3 : decode mL_read.2.1 3 = .ok (.iload_n 1, 1) := by decide +kernel
theorem eL_read_4 : decode mL_read.2.1 4 = .ok (.iload_n 2, 1) := by decide +kernel
theorem eL_read_5 : decode mL_read.2.1 5 = .ok (.invokevirtual 30, 3) := by decide +kernel
theorem eL_read_8 : decode mL_read.2.1 8 = .ok (.i2l, 1) := by decide +kernel
theorem eL_read_9 : decode mL_read.2.1 9 = .ok (.lastore, 1) := by decide +kernel
theorem eL_read_10 : decode mL_read.2.1 10 = .ok (.goto 11, 3) := by decide +kernel
theorem eL_read_13 : decode mL_read.2.1 13 = .ok (.astore 4, 2) := by decide +kernel
theorem eL_read_15 : decode mL_read.2.1 15 = .ok (.iconst 1, 1) := by decide +kernel
theorem eL_read_16 : decode mL_read.2.1 16 = .ok (.ireturn, 1) := by decide +kernel
theorem eL_read_17 : decode mL_read.2.1 17 = .ok (.astore 4, 2) := by decide +kernel
theorem eL_read_19 : decode mL_read.2.1 19 = .ok (.iconst 2, 1) := by decide +kernel
theorem eL_read_20 : decode mL_read.2.1 20 = .ok (.ireturn, 1) := by decide +kernel
theorem eL_read_21 : decode mL_read.2.1 21 = .ok (.iconst 0, 1) := by decide +kernel
theorem eL_read_22 : decode mL_read.2.1 22 = .ok (.ireturn, 1) := by decide +kernel
theorem eL_write_0 : decode mL_write.2.1 0 = .ok (.aload 4, 2) := by decide +kernel
theorem eL_write_2 : decode mL_write.2.1 2 = .ok (.iconst 0, 1) := by decide +kernel
theorem eL_write_3 : decode mL_write.2.1 3 = .ok (.aload_n 0, 1) := by decide +kernel
theorem eL_write_4 : decode mL_write.2.1 4 = .ok (.iload_n 1, 1) := by decide +kernel
theorem eL_write_5 : decode mL_write.2.1 5 = .ok (.iload_n 2, 1) := by decide +kernel
theorem eL_write_6 : decode mL_write.2.1 6 = .ok (.iload_n 3, 1) := by decide +kernel
theorem eL_write_7 : decode mL_write.2.1 7 = .ok (.invokevirtual 34, 3) := by decide +kernel
theorem eL_write_10 : decode mL_write.2.1 10 = .ok (.i2l, 1) := by decide +kernel
theorem eL_write_11 : decode mL_write.2.1 11 = .ok (.lastore, 1) := by decide +kernel
theorem eL_write_12 : decode mL_write.2.1 12 = .ok (.goto 15, 3) := by decide +kernel
theorem eL_write_15 : decode mL_write.2.1 15 = .ok (.astore 5, 2) := by decide +kernel
theorem eL_write_17 : decode mL_write.2.1 17 = .ok (.iconst 1, 1) := by decide +kernel
theorem eL_write_18 : decode mL_write.2.1 18 = .ok (.ireturn, 1) := by decide +kernel
theorem eL_write_19 : decode mL_write.2.1 19 = .ok (.astore 5, 2) := by decide +kernel
theorem eL_write_21 : decode mL_write.2.1 21 = .ok (.iconst 2, 1) := by decide +kernel
theorem eL_write_22 : decode mL_write.2.1 22 = .ok (.ireturn, 1) := by decide +kernel
theorem eL_write_23 : decode mL_write.2.1 23 = .ok (.astore 5, 2) := by decide +kernel
theorem eL_write_25 : decode mL_write.2.1 25 = .ok (.iconst 3, 1) := by decide +kernel
theorem eL_write_26 : decode mL_write.2.1 26 = .ok (.ireturn, 1) := by decide +kernel
theorem eL_write_27 : decode mL_write.2.1 27 = .ok (.iconst 0, 1) := by decide +kernel
theorem eL_write_28 : decode mL_write.2.1 28 = .ok (.ireturn, 1) := by decide +kernel
theorem eL_lend_0 : decode mL_lend.2.1 0 = .ok (.aload 5, 2) := by decide +kernel
theorem eL_lend_2 : decode mL_lend.2.1 2 = .ok (.iconst 0, 1) := by decide +kernel
theorem eL_lend_3 : decode mL_lend.2.1 3 = .ok (.aload_n 0, 1) := by decide +kernel
theorem eL_lend_4 : decode mL_lend.2.1 4 = .ok (.iload_n 1, 1) := by decide +kernel
theorem eL_lend_5 : decode mL_lend.2.1 5 = .ok (.iload_n 2, 1) := by decide +kernel
theorem eL_lend_6 : decode mL_lend.2.1 6 = .ok (.iload_n 3, 1) := by decide +kernel
theorem eL_lend_7 : decode mL_lend.2.1 7 = .ok (.iload 4, 2) := by decide +kernel
theorem eL_lend_9 : decode mL_lend.2.1 9 = .ok (.invokevirtual 38, 3) := by decide +kernel
theorem eL_lend_12 : decode mL_lend.2.1 12 = .ok (.ifCond .eq 7, 3) := by decide +kernel
theorem eL_lend_15 : decode mL_lend.2.1 15 = .ok (.lconst 1, 1) := by decide +kernel
theorem eL_lend_16 : decode mL_lend.2.1 16 = .ok (.goto 4, 3) := by decide +kernel
theorem eL_lend_19 : decode mL_lend.2.1 19 = .ok (.lconst 0, 1) := by decide +kernel
theorem eL_lend_20 : decode mL_lend.2.1 20 = .ok (.lastore, 1) := by decide +kernel
theorem eL_lend_21 : decode mL_lend.2.1 21 = .ok (.goto 11, 3) := by decide +kernel
theorem eL_lend_24 : decode mL_lend.2.1 24 = .ok (.astore 6, 2) := by decide +kernel
theorem eL_lend_26 : decode mL_lend.2.1 26 = .ok (.iconst 1, 1) := by decide +kernel
theorem eL_lend_27 : decode mL_lend.2.1 27 = .ok (.ireturn, 1) := by decide +kernel
theorem eL_lend_28 : decode mL_lend.2.1 28 = .ok (.astore 6, 2) := by decide +kernel
theorem eL_lend_30 : decode mL_lend.2.1 30 = .ok (.iconst 2, 1) := by decide +kernel
theorem eL_lend_31 : decode mL_lend.2.1 31 = .ok (.ireturn, 1) := by decide +kernel
theorem eL_lend_32 : decode mL_lend.2.1 32 = .ok (.iconst 0, 1) := by decide +kernel
theorem eL_lend_33 : decode mL_lend.2.1 33 = .ok (.ireturn, 1) := by decide +kernel
theorem eL_join_0 : decode mL_join.2.1 0 = .ok (.aload 5, 2) := by decide +kernel
theorem eL_join_2 : decode mL_join.2.1 2 = .ok (.iconst 0, 1) := by decide +kernel
theorem eL_join_3 : decode mL_join.2.1 3 = .ok (.aload_n 0, 1) := by decide +kernel
theorem eL_join_4 : decode mL_join.2.1 4 = .ok (.iload_n 1, 1) := by decide +kernel
theorem eL_join_5 : decode mL_join.2.1 5 = .ok (.iload_n 2, 1) := by decide +kernel
theorem eL_join_6 : decode mL_join.2.1 6 = .ok (.iload_n 3, 1) := by decide +kernel
theorem eL_join_7 : decode mL_join.2.1 7 = .ok (.iload 4, 2) := by decide +kernel
theorem eL_join_9 : decode mL_join.2.1 9 = .ok (.invokevirtual 42, 3) := by decide +kernel
theorem eL_join_12 : decode mL_join.2.1 12 = .ok (.i2l, 1) := by decide +kernel
theorem eL_join_13 : decode mL_join.2.1 13 = .ok (.lastore, 1) := by decide +kernel
theorem eL_join_14 : decode mL_join.2.1 14 = .ok (.goto 11, 3) := by decide +kernel
theorem eL_join_17 : decode mL_join.2.1 17 = .ok (.astore 6, 2) := by decide +kernel
theorem eL_join_19 : decode mL_join.2.1 19 = .ok (.iconst 1, 1) := by decide +kernel
theorem eL_join_20 : decode mL_join.2.1 20 = .ok (.ireturn, 1) := by decide +kernel
theorem eL_join_21 : decode mL_join.2.1 21 = .ok (.astore 6, 2) := by decide +kernel
theorem eL_join_23 : decode mL_join.2.1 23 = .ok (.iconst 2, 1) := by decide +kernel
theorem eL_join_24 : decode mL_join.2.1 24 = .ok (.ireturn, 1) := by decide +kernel
theorem eL_join_25 : decode mL_join.2.1 25 = .ok (.iconst 0, 1) := by decide +kernel
theorem eL_join_26 : decode mL_join.2.1 26 = .ok (.ireturn, 1) := by decide +kernel
theorem eL_back_0 : decode mL_back.2.1 0 = .ok (.aload_n 2, 1) := by decide +kernel
theorem eL_back_1 : decode mL_back.2.1 1 = .ok (.iconst 0, 1) := by decide +kernel
theorem eL_back_2 : decode mL_back.2.1 2 = .ok (.aload_n 0, 1) := by decide +kernel
theorem eL_back_3 : decode mL_back.2.1 3 = .ok (.iload_n 1, 1) := by decide +kernel
theorem eL_back_4 : decode mL_back.2.1 4 = .ok (.invokevirtual 46, 3) := by decide +kernel
theorem eL_back_7 : decode mL_back.2.1 7 = .ok (.i2l, 1) := by decide +kernel
theorem eL_back_8 : decode mL_back.2.1 8 = .ok (.lastore, 1) := by decide +kernel
theorem eL_back_9 : decode mL_back.2.1 9 = .ok (.goto 6, 3) := by decide +kernel
theorem eL_back_12 : decode mL_back.2.1 12 = .ok (.astore_n 3, 1) := by decide +kernel
theorem eL_back_13 : decode mL_back.2.1 13 = .ok (.iconst 1, 1) := by decide +kernel
theorem eL_back_14 : decode mL_back.2.1 14 = .ok (.ireturn, 1) := by decide +kernel
theorem eL_back_15 : decode mL_back.2.1 15 = .ok (.iconst 0, 1) := by decide +kernel
theorem eL_back_16 : decode mL_back.2.1 16 = .ok (.ireturn, 1) := by decide +kernel
theorem eL_drop_0 : decode mL_drop.2.1 0 = .ok (.aload_n 2, 1) := by decide +kernel
theorem eL_drop_1 : decode mL_drop.2.1 1 = .ok (.iconst 0, 1) := by decide +kernel
theorem eL_drop_2 : decode mL_drop.2.1 2 = .ok (.aload_n 0, 1) := by decide +kernel
theorem eL_drop_3 : decode mL_drop.2.1 3 = .ok (.iload_n 1, 1) := by decide +kernel
theorem eL_drop_4 : decode mL_drop.2.1 4 = .ok (.invokevirtual 49, 3) := by decide +kernel
theorem eL_drop_7 : decode mL_drop.2.1 7 = .ok (.i2l, 1) := by decide +kernel
theorem eL_drop_8 : decode mL_drop.2.1 8 = .ok (.lastore, 1) := by decide +kernel
theorem eL_drop_9 : decode mL_drop.2.1 9 = .ok (.goto 6, 3) := by decide +kernel
theorem eL_drop_12 : decode mL_drop.2.1 12 = .ok (.astore_n 3, 1) := by decide +kernel
theorem eL_drop_13 : decode mL_drop.2.1 13 = .ok (.iconst 1, 1) := by decide +kernel
theorem eL_drop_14 : decode mL_drop.2.1 14 = .ok (.ireturn, 1) := by decide +kernel
theorem eL_drop_15 : decode mL_drop.2.1 15 = .ok (.iconst 0, 1) := by decide +kernel
theorem eL_drop_16 : decode mL_drop.2.1 16 = .ok (.ireturn, 1) := by decide +kernel
theorem eL_holders_0 : decode mL_holders.2.1 0 = .ok (.aload_n 3, 1) := by decide +kernel
theorem eL_holders_1 : decode mL_holders.2.1 1 = .ok (.iconst 0, 1) := by decide +kernel
theorem eL_holders_2 : decode mL_holders.2.1 2 = .ok (.aload_n 0, 1) := by decide +kernel
theorem eL_holders_3 : decode mL_holders.2.1 3 = .ok (.iload_n 1, 1) := by decide +kernel
theorem eL_holders_4 : decode mL_holders.2.1 4 = .ok (.iload_n 2, 1) := by decide +kernel
theorem eL_holders_5 : decode mL_holders.2.1 5 = .ok (.invokevirtual 52, 3) := by decide +kernel
theorem eL_holders_8 : decode mL_holders.2.1 8 = .ok (.i2l, 1) := by decide +kernel
theorem eL_holders_9 : decode mL_holders.2.1 9 = .ok (.lastore, 1) := by decide +kernel
theorem eL_holders_10 : decode mL_holders.2.1 10 = .ok (.goto 11, 3) := by decide +kernel
theorem eL_holders_13 : decode mL_holders.2.1 13 = .ok (.astore 4, 2) := by decide +kernel
theorem eL_holders_15 : decode mL_holders.2.1 15 = .ok (.iconst 1, 1) := by decide +kernel
theorem eL_holders_16 : decode mL_holders.2.1 16 = .ok (.ireturn, 1) := by decide +kernel
theorem eL_holders_17 : decode mL_holders.2.1 17 = .ok (.astore 4, 2) := by decide +kernel
theorem eL_holders_19 : decode mL_holders.2.1 19 = .ok (.iconst 2, 1) := by decide +kernel
theorem eL_holders_20 : decode mL_holders.2.1 20 = .ok (.ireturn, 1) := by decide +kernel
theorem eL_holders_21 : decode mL_holders.2.1 21 = .ok (.iconst 0, 1) := by decide +kernel
theorem eL_holders_22 : decode mL_holders.2.1 22 = .ok (.ireturn, 1) := by decide +kernel
theorem eL_changed_0 : decode mL_changed.2.1 0 = .ok (.aload_n 2, 1) := by decide +kernel
theorem eL_changed_1 : decode mL_changed.2.1 1 = .ok (.iconst 0, 1) := by decide +kernel
theorem eL_changed_2 : decode mL_changed.2.1 2 = .ok (.aload_n 0, 1) := by decide +kernel
theorem eL_changed_3 : decode mL_changed.2.1 3 = .ok (.iload_n 1, 1) := by decide +kernel
theorem eL_changed_4 : decode mL_changed.2.1 4 = .ok (.invokevirtual 55, 3) := by decide +kernel
theorem eL_changed_7 : decode mL_changed.2.1 7 = .ok (.i2l, 1) := by decide +kernel
theorem eL_changed_8 : decode mL_changed.2.1 8 = .ok (.lastore, 1) := by decide +kernel
theorem eL_changed_9 : decode mL_changed.2.1 9 = .ok (.goto 6, 3) := by decide +kernel
theorem eL_changed_12 : decode mL_changed.2.1 12 = .ok (.astore_n 3, 1) := by decide +kernel
theorem eL_changed_13 : decode mL_changed.2.1 13 = .ok (.iconst 1, 1) := by decide +kernel
theorem eL_changed_14 : decode mL_changed.2.1 14 = .ok (.ireturn, 1) := by decide +kernel
theorem eL_changed_15 : decode mL_changed.2.1 15 = .ok (.iconst 0, 1) := by decide +kernel
theorem eL_changed_16 : decode mL_changed.2.1 16 = .ok (.ireturn, 1) := by decide +kernel
theorem eL_law_0 : decode mL_law.2.1 0 = .ok (.new 8, 3) := by decide +kernel
theorem eL_law_3 : decode mL_law.2.1 3 = .ok (.dup, 1) := by decide +kernel
theorem eL_law_4 : decode mL_law.2.1 4 = .ok (.aload_n 0, 1) := by decide +kernel
theorem eL_law_5 : decode mL_law.2.1 5 = .ok (.iconst 0, 1) := by decide +kernel
theorem eL_law_6 : decode mL_law.2.1 6 = .ok (.invokestatic 58, 3) := by decide +kernel
theorem eL_law_9 : decode mL_law.2.1 9 = .ok (.invokespecial 64, 3) := by decide +kernel
theorem eL_law_12 : decode mL_law.2.1 12 = .ok (.astore_n 1, 1) := by decide +kernel
theorem eL_law_13 : decode mL_law.2.1 13 = .ok (.new 67, 3) := by decide +kernel
theorem eL_law_16 : decode mL_law.2.1 16 = .ok (.dup, 1) := by decide +kernel
theorem eL_law_17 : decode mL_law.2.1 17 = .ok (.aload_n 0, 1) := by decide +kernel
theorem eL_law_18 : decode mL_law.2.1 18 = .ok (.iconst 0, 1) := by decide +kernel
theorem eL_law_19 : decode mL_law.2.1 19 = .ok (.invokestatic 58, 3) := by decide +kernel
theorem eL_law_22 : decode mL_law.2.1 22 = .ok (.invokespecial 69, 3) := by decide +kernel
theorem eL_law_25 : decode mL_law.2.1 25 = .ok (.astore_n 2, 1) := by decide +kernel
theorem eL_law_26 : decode mL_law.2.1 26 = .ok (.iconst 1, 1) := by decide +kernel
theorem eL_law_27 : decode mL_law.2.1 27 = .ok (.newarray .long, 2) := by decide +kernel
theorem eL_law_29 : decode mL_law.2.1 29 = .ok (.astore_n 3, 1) := by decide +kernel
theorem eL_law_30 : decode mL_law.2.1 30 = .ok (.iconst 1, 1) := by decide +kernel
theorem eL_law_31 : decode mL_law.2.1 31 = .ok (.istore 4, 2) := by decide +kernel
theorem eL_law_33 : decode mL_law.2.1 33 = .ok (.iload 4, 2) := by decide +kernel
theorem eL_law_35 : decode mL_law.2.1 35 = .ok (.aload_n 0, 1) := by decide +kernel
theorem eL_law_36 : decode mL_law.2.1 36 = .ok (.arraylength, 1) := by decide +kernel
theorem eL_law_37 : decode mL_law.2.1 37 = .ok (.iconst 5, 1) := by decide +kernel
theorem eL_law_38 : decode mL_law.2.1 38 = .ok (.isub, 1) := by decide +kernel
theorem eL_law_39 : decode mL_law.2.1 39 = .ok (.if_icmp .gt 1020, 3) := by decide +kernel
theorem eL_law_42 : decode mL_law.2.1 42 = .ok (.aload_n 0, 1) := by decide +kernel
theorem eL_law_43 : decode mL_law.2.1 43 = .ok (.iload 4, 2) := by decide +kernel
theorem eL_law_45 : decode mL_law.2.1 45 = .ok (.iaload, 1) := by decide +kernel
theorem eL_law_46 : decode mL_law.2.1 46 = .ok (.bipush 15, 2) := by decide +kernel
theorem eL_law_48 : decode mL_law.2.1 48 = .ok (.iand, 1) := by decide +kernel
theorem eL_law_49 : decode mL_law.2.1 49 = .ok (.tableswitch 1004 0 15 #[79, 92, 148, 204, 291, 366, 434, 514, 613, 705, 718, 774, 830, 898, 954, 979], 79) := by decide +kernel
theorem eL_law_128 : decode mL_law.2.1 128 = .ok (.aload_n 1, 1) := by decide +kernel
theorem eL_law_129 : decode mL_law.2.1 129 = .ok (.invokevirtual 70, 3) := by decide +kernel
theorem eL_law_132 : decode mL_law.2.1 132 = .ok (.aload_n 2, 1) := by decide +kernel
theorem eL_law_133 : decode mL_law.2.1 133 = .ok (.invokevirtual 74, 3) := by decide +kernel
theorem eL_law_136 : decode mL_law.2.1 136 = .ok (.if_icmp .eq 917, 3) := by decide +kernel
theorem eL_law_139 : decode mL_law.2.1 139 = .ok (.iconst 0, 1) := by decide +kernel
theorem eL_law_140 : decode mL_law.2.1 140 = .ok (.ireturn, 1) := by decide +kernel
theorem eL_law_141 : decode mL_law.2.1 141 = .ok (.aload_n 1, 1) := by decide +kernel
theorem eL_law_142 : decode mL_law.2.1 142 = .ok (.aload_n 0, 1) := by decide +kernel
theorem eL_law_143 : decode mL_law.2.1 143 = .ok (.iload 4, 2) := by decide +kernel
theorem eL_law_145 : decode mL_law.2.1 145 = .ok (.iconst 1, 1) := by decide +kernel
theorem eL_law_146 : decode mL_law.2.1 146 = .ok (.iadd, 1) := by decide +kernel
theorem eL_law_147 : decode mL_law.2.1 147 = .ok (.iaload, 1) := by decide +kernel
theorem eL_law_148 : decode mL_law.2.1 148 = .ok (.aload_n 3, 1) := by decide +kernel
theorem eL_law_149 : decode mL_law.2.1 149 = .ok (.invokestatic 75, 3) := by decide +kernel
theorem eL_law_152 : decode mL_law.2.1 152 = .ok (.istore 5, 2) := by decide +kernel
theorem eL_law_154 : decode mL_law.2.1 154 = .ok (.aload_n 2, 1) := by decide +kernel
theorem eL_law_155 : decode mL_law.2.1 155 = .ok (.aload_n 0, 1) := by decide +kernel
theorem eL_law_156 : decode mL_law.2.1 156 = .ok (.iload 4, 2) := by decide +kernel
theorem eL_law_158 : decode mL_law.2.1 158 = .ok (.iconst 1, 1) := by decide +kernel
theorem eL_law_159 : decode mL_law.2.1 159 = .ok (.iadd, 1) := by decide +kernel
theorem eL_law_160 : decode mL_law.2.1 160 = .ok (.iaload, 1) := by decide +kernel
theorem eL_law_161 : decode mL_law.2.1 161 = .ok (.invokevirtual 78, 3) := by decide +kernel
theorem eL_law_164 : decode mL_law.2.1 164 = .ok (.istore 6, 2) := by decide +kernel
theorem eL_law_166 : decode mL_law.2.1 166 = .ok (.aload_n 2, 1) := by decide +kernel
theorem eL_law_167 : decode mL_law.2.1 167 = .ok (.invokevirtual 79, 3) := by decide +kernel
theorem eL_law_170 : decode mL_law.2.1 170 = .ok (.iload 5, 2) := by decide +kernel
theorem eL_law_172 : decode mL_law.2.1 172 = .ok (.if_icmp .eq 5, 3) := by decide +kernel
theorem eL_law_175 : decode mL_law.2.1 175 = .ok (.iconst 0, 1) := by decide +kernel
theorem eL_law_176 : decode mL_law.2.1 176 = .ok (.ireturn, 1) := by decide +kernel
theorem eL_law_177 : decode mL_law.2.1 177 = .ok (.iload 5, 2) := by decide +kernel
theorem eL_law_179 : decode mL_law.2.1 179 = .ok (.ifCond .ne 15, 3) := by decide +kernel
theorem eL_law_182 : decode mL_law.2.1 182 = .ok (.aload_n 3, 1) := by decide +kernel
theorem eL_law_183 : decode mL_law.2.1 183 = .ok (.iconst 0, 1) := by decide +kernel
theorem eL_law_184 : decode mL_law.2.1 184 = .ok (.laload, 1) := by decide +kernel
theorem eL_law_185 : decode mL_law.2.1 185 = .ok (.iload 6, 2) := by decide +kernel
theorem eL_law_187 : decode mL_law.2.1 187 = .ok (.i2l, 1) := by decide +kernel
theorem eL_law_188 : decode mL_law.2.1 188 = .ok (.lcmp, 1) := by decide +kernel
theorem eL_law_189 : decode mL_law.2.1 189 = .ok (.ifCond .eq 5, 3) := by decide +kernel
theorem eL_law_192 : decode mL_law.2.1 192 = .ok (.iconst 0, 1) := by decide +kernel
theorem eL_law_193 : decode mL_law.2.1 193 = .ok (.ireturn, 1) := by decide +kernel
theorem eL_law_194 : decode mL_law.2.1 194 = .ok (.goto 859, 3) := by decide +kernel
theorem eL_law_197 : decode mL_law.2.1 197 = .ok (.aload_n 1, 1) := by decide +kernel
theorem eL_law_198 : decode mL_law.2.1 198 = .ok (.aload_n 0, 1) := by decide +kernel
theorem eL_law_199 : decode mL_law.2.1 199 = .ok (.iload 4, 2) := by decide +kernel
theorem eL_law_201 : decode mL_law.2.1 201 = .ok (.iconst 1, 1) := by decide +kernel
theorem eL_law_202 : decode mL_law.2.1 202 = .ok (.iadd, 1) := by decide +kernel
theorem eL_law_203 : decode mL_law.2.1 203 = .ok (.iaload, 1) := by decide +kernel
theorem eL_law_204 : decode mL_law.2.1 204 = .ok (.aload_n 3, 1) := by decide +kernel
theorem eL_law_205 : decode mL_law.2.1 205 = .ok (.invokestatic 82, 3) := by decide +kernel
theorem eL_law_208 : decode mL_law.2.1 208 = .ok (.istore 5, 2) := by decide +kernel
theorem eL_law_210 : decode mL_law.2.1 210 = .ok (.aload_n 2, 1) := by decide +kernel
theorem eL_law_211 : decode mL_law.2.1 211 = .ok (.aload_n 0, 1) := by decide +kernel
theorem eL_law_212 : decode mL_law.2.1 212 = .ok (.iload 4, 2) := by decide +kernel
theorem eL_law_214 : decode mL_law.2.1 214 = .ok (.iconst 1, 1) := by decide +kernel
theorem eL_law_215 : decode mL_law.2.1 215 = .ok (.iadd, 1) := by decide +kernel
theorem eL_law_216 : decode mL_law.2.1 216 = .ok (.iaload, 1) := by decide +kernel
theorem eL_law_217 : decode mL_law.2.1 217 = .ok (.invokevirtual 84, 3) := by decide +kernel
theorem eL_law_220 : decode mL_law.2.1 220 = .ok (.istore 6, 2) := by decide +kernel
theorem eL_law_222 : decode mL_law.2.1 222 = .ok (.aload_n 2, 1) := by decide +kernel
theorem eL_law_223 : decode mL_law.2.1 223 = .ok (.invokevirtual 79, 3) := by decide +kernel
theorem eL_law_226 : decode mL_law.2.1 226 = .ok (.iload 5, 2) := by decide +kernel
theorem eL_law_228 : decode mL_law.2.1 228 = .ok (.if_icmp .eq 5, 3) := by decide +kernel
theorem eL_law_231 : decode mL_law.2.1 231 = .ok (.iconst 0, 1) := by decide +kernel
theorem eL_law_232 : decode mL_law.2.1 232 = .ok (.ireturn, 1) := by decide +kernel
theorem eL_law_233 : decode mL_law.2.1 233 = .ok (.iload 5, 2) := by decide +kernel
theorem eL_law_235 : decode mL_law.2.1 235 = .ok (.ifCond .ne 15, 3) := by decide +kernel
theorem eL_law_238 : decode mL_law.2.1 238 = .ok (.aload_n 3, 1) := by decide +kernel
theorem eL_law_239 : decode mL_law.2.1 239 = .ok (.iconst 0, 1) := by decide +kernel
theorem eL_law_240 : decode mL_law.2.1 240 = .ok (.laload, 1) := by decide +kernel
theorem eL_law_241 : decode mL_law.2.1 241 = .ok (.iload 6, 2) := by decide +kernel
theorem eL_law_243 : decode mL_law.2.1 243 = .ok (.i2l, 1) := by decide +kernel
theorem eL_law_244 : decode mL_law.2.1 244 = .ok (.lcmp, 1) := by decide +kernel
theorem eL_law_245 : decode mL_law.2.1 245 = .ok (.ifCond .eq 5, 3) := by decide +kernel
theorem eL_law_248 : decode mL_law.2.1 248 = .ok (.iconst 0, 1) := by decide +kernel
theorem eL_law_249 : decode mL_law.2.1 249 = .ok (.ireturn, 1) := by decide +kernel
theorem eL_law_250 : decode mL_law.2.1 250 = .ok (.goto 803, 3) := by decide +kernel
theorem eL_law_253 : decode mL_law.2.1 253 = .ok (.aload_n 1, 1) := by decide +kernel
theorem eL_law_254 : decode mL_law.2.1 254 = .ok (.aload_n 0, 1) := by decide +kernel
theorem eL_law_255 : decode mL_law.2.1 255 = .ok (.iload 4, 2) := by decide +kernel
theorem eL_law_257 : decode mL_law.2.1 257 = .ok (.iconst 1, 1) := by decide +kernel
theorem eL_law_258 : decode mL_law.2.1 258 = .ok (.iadd, 1) := by decide +kernel
theorem eL_law_259 : decode mL_law.2.1 259 = .ok (.iaload, 1) := by decide +kernel
theorem eL_law_260 : decode mL_law.2.1 260 = .ok (.aload_n 0, 1) := by decide +kernel
theorem eL_law_261 : decode mL_law.2.1 261 = .ok (.iload 4, 2) := by decide +kernel
theorem eL_law_263 : decode mL_law.2.1 263 = .ok (.iconst 2, 1) := by decide +kernel
theorem eL_law_264 : decode mL_law.2.1 264 = .ok (.iadd, 1) := by decide +kernel
theorem eL_law_265 : decode mL_law.2.1 265 = .ok (.iaload, 1) := by decide +kernel
theorem eL_law_266 : decode mL_law.2.1 266 = .ok (.aload_n 0, 1) := by decide +kernel
theorem eL_law_267 : decode mL_law.2.1 267 = .ok (.iload 4, 2) := by decide +kernel
theorem eL_law_269 : decode mL_law.2.1 269 = .ok (.iconst 3, 1) := by decide +kernel
theorem eL_law_270 : decode mL_law.2.1 270 = .ok (.iadd, 1) := by decide +kernel
theorem eL_law_271 : decode mL_law.2.1 271 = .ok (.iaload, 1) := by decide +kernel
theorem eL_law_272 : decode mL_law.2.1 272 = .ok (.aload_n 3, 1) := by decide +kernel
theorem eL_law_273 : decode mL_law.2.1 273 = .ok (.invokestatic 85, 3) := by decide +kernel
theorem eL_law_276 : decode mL_law.2.1 276 = .ok (.istore 5, 2) := by decide +kernel
theorem eL_law_278 : decode mL_law.2.1 278 = .ok (.aload_n 2, 1) := by decide +kernel
theorem eL_law_279 : decode mL_law.2.1 279 = .ok (.aload_n 0, 1) := by decide +kernel
theorem eL_law_280 : decode mL_law.2.1 280 = .ok (.iload 4, 2) := by decide +kernel
theorem eL_law_282 : decode mL_law.2.1 282 = .ok (.iconst 1, 1) := by decide +kernel
theorem eL_law_283 : decode mL_law.2.1 283 = .ok (.iadd, 1) := by decide +kernel
theorem eL_law_284 : decode mL_law.2.1 284 = .ok (.iaload, 1) := by decide +kernel
theorem eL_law_285 : decode mL_law.2.1 285 = .ok (.aload_n 0, 1) := by decide +kernel
theorem eL_law_286 : decode mL_law.2.1 286 = .ok (.iload 4, 2) := by decide +kernel
theorem eL_law_288 : decode mL_law.2.1 288 = .ok (.iconst 2, 1) := by decide +kernel
theorem eL_law_289 : decode mL_law.2.1 289 = .ok (.iadd, 1) := by decide +kernel
theorem eL_law_290 : decode mL_law.2.1 290 = .ok (.iaload, 1) := by decide +kernel
theorem eL_law_291 : decode mL_law.2.1 291 = .ok (.aload_n 0, 1) := by decide +kernel
theorem eL_law_292 : decode mL_law.2.1 292 = .ok (.iload 4, 2) := by decide +kernel
theorem eL_law_294 : decode mL_law.2.1 294 = .ok (.iconst 3, 1) := by decide +kernel
theorem eL_law_295 : decode mL_law.2.1 295 = .ok (.iadd, 1) := by decide +kernel
theorem eL_law_296 : decode mL_law.2.1 296 = .ok (.iaload, 1) := by decide +kernel
theorem eL_law_297 : decode mL_law.2.1 297 = .ok (.invokevirtual 88, 3) := by decide +kernel
theorem eL_law_300 : decode mL_law.2.1 300 = .ok (.istore 6, 2) := by decide +kernel
theorem eL_law_302 : decode mL_law.2.1 302 = .ok (.aload_n 2, 1) := by decide +kernel
theorem eL_law_303 : decode mL_law.2.1 303 = .ok (.invokevirtual 79, 3) := by decide +kernel
theorem eL_law_306 : decode mL_law.2.1 306 = .ok (.iload 5, 2) := by decide +kernel
theorem eL_law_308 : decode mL_law.2.1 308 = .ok (.if_icmp .eq 5, 3) := by decide +kernel
theorem eL_law_311 : decode mL_law.2.1 311 = .ok (.iconst 0, 1) := by decide +kernel
theorem eL_law_312 : decode mL_law.2.1 312 = .ok (.ireturn, 1) := by decide +kernel
theorem eL_law_313 : decode mL_law.2.1 313 = .ok (.iload 5, 2) := by decide +kernel
theorem eL_law_315 : decode mL_law.2.1 315 = .ok (.ifCond .ne 22, 3) := by decide +kernel
theorem eL_law_318 : decode mL_law.2.1 318 = .ok (.aload_n 3, 1) := by decide +kernel
theorem eL_law_319 : decode mL_law.2.1 319 = .ok (.iconst 0, 1) := by decide +kernel
theorem eL_law_320 : decode mL_law.2.1 320 = .ok (.laload, 1) := by decide +kernel
theorem eL_law_321 : decode mL_law.2.1 321 = .ok (.iload 6, 2) := by decide +kernel
theorem eL_law_323 : decode mL_law.2.1 323 = .ok (.ifCond .eq 7, 3) := by decide +kernel
theorem eL_law_326 : decode mL_law.2.1 326 = .ok (.lconst 1, 1) := by decide +kernel
theorem eL_law_327 : decode mL_law.2.1 327 = .ok (.goto 4, 3) := by decide +kernel
theorem eL_law_330 : decode mL_law.2.1 330 = .ok (.lconst 0, 1) := by decide +kernel
theorem eL_law_331 : decode mL_law.2.1 331 = .ok (.lcmp, 1) := by decide +kernel
theorem eL_law_332 : decode mL_law.2.1 332 = .ok (.ifCond .eq 5, 3) := by decide +kernel
theorem eL_law_335 : decode mL_law.2.1 335 = .ok (.iconst 0, 1) := by decide +kernel
theorem eL_law_336 : decode mL_law.2.1 336 = .ok (.ireturn, 1) := by decide +kernel
theorem eL_law_337 : decode mL_law.2.1 337 = .ok (.goto 716, 3) := by decide +kernel
theorem eL_law_340 : decode mL_law.2.1 340 = .ok (.aload_n 1, 1) := by decide +kernel
theorem eL_law_341 : decode mL_law.2.1 341 = .ok (.aload_n 0, 1) := by decide +kernel
theorem eL_law_342 : decode mL_law.2.1 342 = .ok (.iload 4, 2) := by decide +kernel
theorem eL_law_344 : decode mL_law.2.1 344 = .ok (.iconst 1, 1) := by decide +kernel
theorem eL_law_345 : decode mL_law.2.1 345 = .ok (.iadd, 1) := by decide +kernel
theorem eL_law_346 : decode mL_law.2.1 346 = .ok (.iaload, 1) := by decide +kernel
theorem eL_law_347 : decode mL_law.2.1 347 = .ok (.aload_n 0, 1) := by decide +kernel
theorem eL_law_348 : decode mL_law.2.1 348 = .ok (.iload 4, 2) := by decide +kernel
theorem eL_law_350 : decode mL_law.2.1 350 = .ok (.iconst 2, 1) := by decide +kernel
theorem eL_law_351 : decode mL_law.2.1 351 = .ok (.iadd, 1) := by decide +kernel
theorem eL_law_352 : decode mL_law.2.1 352 = .ok (.iaload, 1) := by decide +kernel
theorem eL_law_353 : decode mL_law.2.1 353 = .ok (.aload_n 3, 1) := by decide +kernel
theorem eL_law_354 : decode mL_law.2.1 354 = .ok (.invokestatic 89, 3) := by decide +kernel
theorem eL_law_357 : decode mL_law.2.1 357 = .ok (.istore 5, 2) := by decide +kernel
theorem eL_law_359 : decode mL_law.2.1 359 = .ok (.aload_n 2, 1) := by decide +kernel
theorem eL_law_360 : decode mL_law.2.1 360 = .ok (.aload_n 0, 1) := by decide +kernel
theorem eL_law_361 : decode mL_law.2.1 361 = .ok (.iload 4, 2) := by decide +kernel
theorem eL_law_363 : decode mL_law.2.1 363 = .ok (.iconst 1, 1) := by decide +kernel
theorem eL_law_364 : decode mL_law.2.1 364 = .ok (.iadd, 1) := by decide +kernel
theorem eL_law_365 : decode mL_law.2.1 365 = .ok (.iaload, 1) := by decide +kernel
theorem eL_law_366 : decode mL_law.2.1 366 = .ok (.aload_n 0, 1) := by decide +kernel
theorem eL_law_367 : decode mL_law.2.1 367 = .ok (.iload 4, 2) := by decide +kernel
theorem eL_law_369 : decode mL_law.2.1 369 = .ok (.iconst 2, 1) := by decide +kernel
theorem eL_law_370 : decode mL_law.2.1 370 = .ok (.iadd, 1) := by decide +kernel
theorem eL_law_371 : decode mL_law.2.1 371 = .ok (.iaload, 1) := by decide +kernel
theorem eL_law_372 : decode mL_law.2.1 372 = .ok (.invokevirtual 92, 3) := by decide +kernel
theorem eL_law_375 : decode mL_law.2.1 375 = .ok (.istore 6, 2) := by decide +kernel
theorem eL_law_377 : decode mL_law.2.1 377 = .ok (.aload_n 2, 1) := by decide +kernel
theorem eL_law_378 : decode mL_law.2.1 378 = .ok (.invokevirtual 79, 3) := by decide +kernel
theorem eL_law_381 : decode mL_law.2.1 381 = .ok (.iload 5, 2) := by decide +kernel
theorem eL_law_383 : decode mL_law.2.1 383 = .ok (.if_icmp .eq 5, 3) := by decide +kernel
theorem eL_law_386 : decode mL_law.2.1 386 = .ok (.iconst 0, 1) := by decide +kernel
theorem eL_law_387 : decode mL_law.2.1 387 = .ok (.ireturn, 1) := by decide +kernel
theorem eL_law_388 : decode mL_law.2.1 388 = .ok (.iload 5, 2) := by decide +kernel
theorem eL_law_390 : decode mL_law.2.1 390 = .ok (.ifCond .ne 22, 3) := by decide +kernel
theorem eL_law_393 : decode mL_law.2.1 393 = .ok (.aload_n 3, 1) := by decide +kernel
theorem eL_law_394 : decode mL_law.2.1 394 = .ok (.iconst 0, 1) := by decide +kernel
theorem eL_law_395 : decode mL_law.2.1 395 = .ok (.laload, 1) := by decide +kernel
theorem eL_law_396 : decode mL_law.2.1 396 = .ok (.iload 6, 2) := by decide +kernel
theorem eL_law_398 : decode mL_law.2.1 398 = .ok (.ifCond .eq 7, 3) := by decide +kernel
theorem eL_law_401 : decode mL_law.2.1 401 = .ok (.lconst 1, 1) := by decide +kernel
theorem eL_law_402 : decode mL_law.2.1 402 = .ok (.goto 4, 3) := by decide +kernel
theorem eL_law_405 : decode mL_law.2.1 405 = .ok (.lconst 0, 1) := by decide +kernel
theorem eL_law_406 : decode mL_law.2.1 406 = .ok (.lcmp, 1) := by decide +kernel
theorem eL_law_407 : decode mL_law.2.1 407 = .ok (.ifCond .eq 5, 3) := by decide +kernel
theorem eL_law_410 : decode mL_law.2.1 410 = .ok (.iconst 0, 1) := by decide +kernel
theorem eL_law_411 : decode mL_law.2.1 411 = .ok (.ireturn, 1) := by decide +kernel
theorem eL_law_412 : decode mL_law.2.1 412 = .ok (.goto 641, 3) := by decide +kernel
theorem eL_law_415 : decode mL_law.2.1 415 = .ok (.aload_n 1, 1) := by decide +kernel
theorem eL_law_416 : decode mL_law.2.1 416 = .ok (.aload_n 0, 1) := by decide +kernel
theorem eL_law_417 : decode mL_law.2.1 417 = .ok (.iload 4, 2) := by decide +kernel
theorem eL_law_419 : decode mL_law.2.1 419 = .ok (.iconst 1, 1) := by decide +kernel
theorem eL_law_420 : decode mL_law.2.1 420 = .ok (.iadd, 1) := by decide +kernel
theorem eL_law_421 : decode mL_law.2.1 421 = .ok (.iaload, 1) := by decide +kernel
theorem eL_law_422 : decode mL_law.2.1 422 = .ok (.aload_n 0, 1) := by decide +kernel
theorem eL_law_423 : decode mL_law.2.1 423 = .ok (.iload 4, 2) := by decide +kernel
theorem eL_law_425 : decode mL_law.2.1 425 = .ok (.iconst 2, 1) := by decide +kernel
theorem eL_law_426 : decode mL_law.2.1 426 = .ok (.iadd, 1) := by decide +kernel
theorem eL_law_427 : decode mL_law.2.1 427 = .ok (.iaload, 1) := by decide +kernel
theorem eL_law_428 : decode mL_law.2.1 428 = .ok (.aload_n 3, 1) := by decide +kernel
theorem eL_law_429 : decode mL_law.2.1 429 = .ok (.invokestatic 93, 3) := by decide +kernel
theorem eL_law_432 : decode mL_law.2.1 432 = .ok (.istore 5, 2) := by decide +kernel
theorem eL_law_434 : decode mL_law.2.1 434 = .ok (.aload_n 2, 1) := by decide +kernel
theorem eL_law_435 : decode mL_law.2.1 435 = .ok (.aload_n 0, 1) := by decide +kernel
theorem eL_law_436 : decode mL_law.2.1 436 = .ok (.iload 4, 2) := by decide +kernel
theorem eL_law_438 : decode mL_law.2.1 438 = .ok (.iconst 1, 1) := by decide +kernel
theorem eL_law_439 : decode mL_law.2.1 439 = .ok (.iadd, 1) := by decide +kernel
theorem eL_law_440 : decode mL_law.2.1 440 = .ok (.iaload, 1) := by decide +kernel
theorem eL_law_441 : decode mL_law.2.1 441 = .ok (.aload_n 0, 1) := by decide +kernel
theorem eL_law_442 : decode mL_law.2.1 442 = .ok (.iload 4, 2) := by decide +kernel
theorem eL_law_444 : decode mL_law.2.1 444 = .ok (.iconst 2, 1) := by decide +kernel
theorem eL_law_445 : decode mL_law.2.1 445 = .ok (.iadd, 1) := by decide +kernel
theorem eL_law_446 : decode mL_law.2.1 446 = .ok (.iaload, 1) := by decide +kernel
theorem eL_law_447 : decode mL_law.2.1 447 = .ok (.invokevirtual 95, 3) := by decide +kernel
theorem eL_law_450 : decode mL_law.2.1 450 = .ok (.istore 6, 2) := by decide +kernel
theorem eL_law_452 : decode mL_law.2.1 452 = .ok (.aload_n 2, 1) := by decide +kernel
theorem eL_law_453 : decode mL_law.2.1 453 = .ok (.invokevirtual 79, 3) := by decide +kernel
theorem eL_law_456 : decode mL_law.2.1 456 = .ok (.iload 5, 2) := by decide +kernel
theorem eL_law_458 : decode mL_law.2.1 458 = .ok (.if_icmp .eq 5, 3) := by decide +kernel
theorem eL_law_461 : decode mL_law.2.1 461 = .ok (.iconst 0, 1) := by decide +kernel
theorem eL_law_462 : decode mL_law.2.1 462 = .ok (.ireturn, 1) := by decide +kernel
theorem eL_law_463 : decode mL_law.2.1 463 = .ok (.iload 5, 2) := by decide +kernel
theorem eL_law_465 : decode mL_law.2.1 465 = .ok (.ifCond .ne 15, 3) := by decide +kernel
theorem eL_law_468 : decode mL_law.2.1 468 = .ok (.aload_n 3, 1) := by decide +kernel
theorem eL_law_469 : decode mL_law.2.1 469 = .ok (.iconst 0, 1) := by decide +kernel
theorem eL_law_470 : decode mL_law.2.1 470 = .ok (.laload, 1) := by decide +kernel
theorem eL_law_471 : decode mL_law.2.1 471 = .ok (.iload 6, 2) := by decide +kernel
theorem eL_law_473 : decode mL_law.2.1 473 = .ok (.i2l, 1) := by decide +kernel
theorem eL_law_474 : decode mL_law.2.1 474 = .ok (.lcmp, 1) := by decide +kernel
theorem eL_law_475 : decode mL_law.2.1 475 = .ok (.ifCond .eq 5, 3) := by decide +kernel
theorem eL_law_478 : decode mL_law.2.1 478 = .ok (.iconst 0, 1) := by decide +kernel
theorem eL_law_479 : decode mL_law.2.1 479 = .ok (.ireturn, 1) := by decide +kernel
theorem eL_law_480 : decode mL_law.2.1 480 = .ok (.goto 573, 3) := by decide +kernel
theorem eL_law_483 : decode mL_law.2.1 483 = .ok (.aload_n 1, 1) := by decide +kernel
theorem eL_law_484 : decode mL_law.2.1 484 = .ok (.aload_n 0, 1) := by decide +kernel
theorem eL_law_485 : decode mL_law.2.1 485 = .ok (.iload 4, 2) := by decide +kernel
theorem eL_law_487 : decode mL_law.2.1 487 = .ok (.iconst 1, 1) := by decide +kernel
theorem eL_law_488 : decode mL_law.2.1 488 = .ok (.iadd, 1) := by decide +kernel
theorem eL_law_489 : decode mL_law.2.1 489 = .ok (.iaload, 1) := by decide +kernel
theorem eL_law_490 : decode mL_law.2.1 490 = .ok (.aload_n 0, 1) := by decide +kernel
theorem eL_law_491 : decode mL_law.2.1 491 = .ok (.iload 4, 2) := by decide +kernel
theorem eL_law_493 : decode mL_law.2.1 493 = .ok (.iconst 2, 1) := by decide +kernel
theorem eL_law_494 : decode mL_law.2.1 494 = .ok (.iadd, 1) := by decide +kernel
theorem eL_law_495 : decode mL_law.2.1 495 = .ok (.iaload, 1) := by decide +kernel
theorem eL_law_496 : decode mL_law.2.1 496 = .ok (.aload_n 0, 1) := by decide +kernel
theorem eL_law_497 : decode mL_law.2.1 497 = .ok (.iload 4, 2) := by decide +kernel
theorem eL_law_499 : decode mL_law.2.1 499 = .ok (.iconst 3, 1) := by decide +kernel
theorem eL_law_500 : decode mL_law.2.1 500 = .ok (.iadd, 1) := by decide +kernel
theorem eL_law_501 : decode mL_law.2.1 501 = .ok (.iaload, 1) := by decide +kernel
theorem eL_law_502 : decode mL_law.2.1 502 = .ok (.aload_n 3, 1) := by decide +kernel
theorem eL_law_503 : decode mL_law.2.1 503 = .ok (.invokestatic 96, 3) := by decide +kernel
theorem eL_law_506 : decode mL_law.2.1 506 = .ok (.istore 5, 2) := by decide +kernel
theorem eL_law_508 : decode mL_law.2.1 508 = .ok (.aload_n 2, 1) := by decide +kernel
theorem eL_law_509 : decode mL_law.2.1 509 = .ok (.aload_n 0, 1) := by decide +kernel
theorem eL_law_510 : decode mL_law.2.1 510 = .ok (.iload 4, 2) := by decide +kernel
theorem eL_law_512 : decode mL_law.2.1 512 = .ok (.iconst 1, 1) := by decide +kernel
theorem eL_law_513 : decode mL_law.2.1 513 = .ok (.iadd, 1) := by decide +kernel
theorem eL_law_514 : decode mL_law.2.1 514 = .ok (.iaload, 1) := by decide +kernel
theorem eL_law_515 : decode mL_law.2.1 515 = .ok (.aload_n 0, 1) := by decide +kernel
