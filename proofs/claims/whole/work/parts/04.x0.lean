theorem eX_open_0 : decode mX_open.2.1 0 = .ok (.aload_n 0, 1) := by decide +kernel
theorem eX_open_1 : decode mX_open.2.1 1 = .ok (.invokevirtual 45, 3) := by decide +kernel
theorem eX_open_4 : decode mX_open.2.1 4 = .ok (.istore_n 1, 1) := by decide +kernel
theorem eX_open_5 : decode mX_open.2.1 5 = .ok (.iload_n 1, 1) := by decide +kernel
theorem eX_open_6 : decode mX_open.2.1 6 = .ok (.iconst (-1), 1) := by decide +kernel
theorem eX_open_7 : decode mX_open.2.1 7 = .ok (.if_icmp .eq 15, 3) := by decide +kernel
theorem eX_open_10 : decode mX_open.2.1 10 = .ok (.aload_n 0, 1) := by decide +kernel
theorem eX_open_11 : decode mX_open.2.1 11 = .ok (.getfield 38, 3) := by decide +kernel
theorem eX_open_14 : decode mX_open.2.1 14 = .ok (.bipush 8, 2) := by decide +kernel
theorem eX_open_16 : decode mX_open.2.1 16 = .ok (.iload_n 1, 1) := by decide +kernel
theorem eX_open_17 : decode mX_open.2.1 17 = .ok (.invokestatic 49, 3) := by decide +kernel
theorem eX_open_20 : decode mX_open.2.1 20 = .ok (.iconst 1, 1) := by decide +kernel
theorem eX_open_21 : decode mX_open.2.1 21 = .ok (.bastore, 1) := by decide +kernel
theorem eX_open_22 : decode mX_open.2.1 22 = .ok (.iload_n 1, 1) := by decide +kernel
theorem eX_open_23 : decode mX_open.2.1 23 = .ok (.ireturn, 1) := by decide +kernel
theorem eX_fork_0 : decode mX_fork.2.1 0 = .ok (.aload_n 0, 1) := by decide +kernel
theorem eX_fork_1 : decode mX_fork.2.1 1 = .ok (.iload_n 1, 1) := by decide +kernel
theorem eX_fork_2 : decode mX_fork.2.1 2 = .ok (.invokevirtual 52, 3) := by decide +kernel
theorem eX_fork_5 : decode mX_fork.2.1 5 = .ok (.aload_n 0, 1) := by decide +kernel
theorem eX_fork_6 : decode mX_fork.2.1 6 = .ok (.invokevirtual 45, 3) := by decide +kernel
theorem eX_fork_9 : decode mX_fork.2.1 9 = .ok (.istore_n 2, 1) := by decide +kernel
theorem eX_fork_10 : decode mX_fork.2.1 10 = .ok (.iload_n 2, 1) := by decide +kernel
theorem eX_fork_11 : decode mX_fork.2.1 11 = .ok (.iconst (-1), 1) := by decide +kernel
theorem eX_fork_12 : decode mX_fork.2.1 12 = .ok (.if_icmp .ne 5, 3) := by decide +kernel
theorem eX_fork_15 : decode mX_fork.2.1 15 = .ok (.iconst (-1), 1) := by decide +kernel
theorem eX_fork_16 : decode mX_fork.2.1 16 = .ok (.ireturn, 1) := by decide +kernel
theorem eX_fork_17 : decode mX_fork.2.1 17 = .ok (.aload_n 0, 1) := by decide +kernel
theorem eX_fork_18 : decode mX_fork.2.1 18 = .ok (.getfield 38, 3) := by decide +kernel
theorem eX_fork_21 : decode mX_fork.2.1 21 = .ok (.bipush 8, 2) := by decide +kernel
theorem eX_fork_23 : decode mX_fork.2.1 23 = .ok (.iload_n 2, 1) := by decide +kernel
theorem eX_fork_24 : decode mX_fork.2.1 24 = .ok (.invokestatic 49, 3) := by decide +kernel
theorem eX_fork_27 : decode mX_fork.2.1 27 = .ok (.iconst 1, 1) := by decide +kernel
theorem eX_fork_28 : decode mX_fork.2.1 28 = .ok (.bastore, 1) := by decide +kernel
theorem eX_fork_29 : decode mX_fork.2.1 29 = .ok (.iconst 0, 1) := by decide +kernel
theorem eX_fork_30 : decode mX_fork.2.1 30 = .ok (.istore_n 3, 1) := by decide +kernel
theorem eX_fork_31 : decode mX_fork.2.1 31 = .ok (.iload_n 3, 1) := by decide +kernel
theorem eX_fork_32 : decode mX_fork.2.1 32 = .ok (.bipush 8, 2) := by decide +kernel
theorem eX_fork_34 : decode mX_fork.2.1 34 = .ok (.if_icmp .ge 28, 3) := by decide +kernel
theorem eX_fork_37 : decode mX_fork.2.1 37 = .ok (.aload_n 0, 1) := by decide +kernel
theorem eX_fork_38 : decode mX_fork.2.1 38 = .ok (.iload_n 2, 1) := by decide +kernel
theorem eX_fork_39 : decode mX_fork.2.1 39 = .ok (.iload_n 3, 1) := by decide +kernel
theorem eX_fork_40 : decode mX_fork.2.1 40 = .ok (.invokestatic 56, 3) := by decide +kernel
theorem eX_fork_43 : decode mX_fork.2.1 43 = .ok (.aload_n 0, 1) := by decide +kernel
theorem eX_fork_44 : decode mX_fork.2.1 44 = .ok (.getfield 29, 3) := by decide +kernel
theorem eX_fork_47 : decode mX_fork.2.1 47 = .ok (.iload_n 1, 1) := by decide +kernel
theorem eX_fork_48 : decode mX_fork.2.1 48 = .ok (.iload_n 3, 1) := by decide +kernel
theorem eX_fork_49 : decode mX_fork.2.1 49 = .ok (.invokestatic 56, 3) := by decide +kernel
theorem eX_fork_52 : decode mX_fork.2.1 52 = .ok (.iaload, 1) := by decide +kernel
theorem eX_fork_53 : decode mX_fork.2.1 53 = .ok (.invokevirtual 59, 3) := by decide +kernel
theorem eX_fork_56 : decode mX_fork.2.1 56 = .ok (.iinc 3 1, 3) := by decide +kernel
theorem eX_fork_59 : decode mX_fork.2.1 59 = .ok (.goto (-28), 3) := by decide +kernel
theorem eX_fork_62 : decode mX_fork.2.1 62 = .ok (.iload_n 2, 1) := by decide +kernel
theorem eX_fork_63 : decode mX_fork.2.1 63 = .ok (.ireturn, 1) := by decide +kernel
theorem eX_close_0 : decode mX_close.2.1 0 = .ok (.aload_n 0, 1) := by decide +kernel
theorem eX_close_1 : decode mX_close.2.1 1 = .ok (.iload_n 1, 1) := by decide +kernel
theorem eX_close_2 : decode mX_close.2.1 2 = .ok (.invokevirtual 52, 3) := by decide +kernel
theorem eX_close_5 : decode mX_close.2.1 5 = .ok (.aload_n 0, 1) := by decide +kernel
theorem eX_close_6 : decode mX_close.2.1 6 = .ok (.iload_n 1, 1) := by decide +kernel
theorem eX_close_7 : decode mX_close.2.1 7 = .ok (.invokevirtual 63, 3) := by decide +kernel
theorem eX_close_10 : decode mX_close.2.1 10 = .ok (.istore_n 2, 1) := by decide +kernel
theorem eX_close_11 : decode mX_close.2.1 11 = .ok (.iconst 0, 1) := by decide +kernel
theorem eX_close_12 : decode mX_close.2.1 12 = .ok (.istore_n 3, 1) := by decide +kernel
theorem eX_close_13 : decode mX_close.2.1 13 = .ok (.iload_n 3, 1) := by decide +kernel
theorem eX_close_14 : decode mX_close.2.1 14 = .ok (.bipush 8, 2) := by decide +kernel
theorem eX_close_16 : decode mX_close.2.1 16 = .ok (.if_icmp .ge 19, 3) := by decide +kernel
theorem eX_close_19 : decode mX_close.2.1 19 = .ok (.aload_n 0, 1) := by decide +kernel
theorem eX_close_20 : decode mX_close.2.1 20 = .ok (.iload_n 1, 1) := by decide +kernel
theorem eX_close_21 : decode mX_close.2.1 21 = .ok (.iload_n 3, 1) := by decide +kernel
theorem eX_close_22 : decode mX_close.2.1 22 = .ok (.invokestatic 56, 3) := by decide +kernel
theorem eX_close_25 : decode mX_close.2.1 25 = .ok (.iconst (-1), 1) := by decide +kernel
theorem eX_close_26 : decode mX_close.2.1 26 = .ok (.invokevirtual 59, 3) := by decide +kernel
theorem eX_close_29 : decode mX_close.2.1 29 = .ok (.iinc 3 1, 3) := by decide +kernel
theorem eX_close_32 : decode mX_close.2.1 32 = .ok (.goto (-19), 3) := by decide +kernel
theorem eX_close_35 : decode mX_close.2.1 35 = .ok (.aload_n 0, 1) := by decide +kernel
theorem eX_close_36 : decode mX_close.2.1 36 = .ok (.getfield 38, 3) := by decide +kernel
theorem eX_close_39 : decode mX_close.2.1 39 = .ok (.bipush 8, 2) := by decide +kernel
theorem eX_close_41 : decode mX_close.2.1 41 = .ok (.iload_n 1, 1) := by decide +kernel
theorem eX_close_42 : decode mX_close.2.1 42 = .ok (.invokestatic 49, 3) := by decide +kernel
theorem eX_close_45 : decode mX_close.2.1 45 = .ok (.iconst 0, 1) := by decide +kernel
theorem eX_close_46 : decode mX_close.2.1 46 = .ok (.bastore, 1) := by decide +kernel
theorem eX_close_47 : decode mX_close.2.1 47 = .ok (.iload_n 2, 1) := by decide +kernel
theorem eX_close_48 : decode mX_close.2.1 48 = .ok (.ireturn, 1) := by decide +kernel
theorem eX_map_0 : decode mX_map.2.1 0 = .ok (.aload_n 0, 1) := by decide +kernel
theorem eX_map_1 : decode mX_map.2.1 1 = .ok (.iload_n 1, 1) := by decide +kernel
theorem eX_map_2 : decode mX_map.2.1 2 = .ok (.invokevirtual 52, 3) := by decide +kernel
theorem eX_map_5 : decode mX_map.2.1 5 = .ok (.aload_n 0, 1) := by decide +kernel
theorem eX_map_6 : decode mX_map.2.1 6 = .ok (.iload_n 2, 1) := by decide +kernel
theorem eX_map_7 : decode mX_map.2.1 7 = .ok (.invokevirtual 67, 3) := by decide +kernel
theorem eX_map_10 : decode mX_map.2.1 10 = .ok (.iload_n 1, 1) := by decide +kernel
theorem eX_map_11 : decode mX_map.2.1 11 = .ok (.iload_n 2, 1) := by decide +kernel
theorem eX_map_12 : decode mX_map.2.1 12 = .ok (.invokestatic 56, 3) := by decide +kernel
theorem eX_map_15 : decode mX_map.2.1 15 = .ok (.istore 4, 2) := by decide +kernel
theorem eX_map_17 : decode mX_map.2.1 17 = .ok (.aload_n 0, 1) := by decide +kernel
theorem eX_map_18 : decode mX_map.2.1 18 = .ok (.aload_n 0, 1) := by decide +kernel
theorem eX_map_19 : decode mX_map.2.1 19 = .ok (.getfield 29, 3) := by decide +kernel
theorem eX_map_22 : decode mX_map.2.1 22 = .ok (.iload 4, 2) := by decide +kernel
theorem eX_map_24 : decode mX_map.2.1 24 = .ok (.iaload, 1) := by decide +kernel
theorem eX_map_25 : decode mX_map.2.1 25 = .ok (.invokevirtual 70, 3) := by decide +kernel
theorem eX_map_28 : decode mX_map.2.1 28 = .ok (.ifCond .eq 5, 3) := by decide +kernel
theorem eX_map_31 : decode mX_map.2.1 31 = .ok (.iconst 0, 1) := by decide +kernel
theorem eX_map_32 : decode mX_map.2.1 32 = .ok (.ireturn, 1) := by decide +kernel
theorem eX_map_33 : decode mX_map.2.1 33 = .ok (.aload_n 0, 1) := by decide +kernel
theorem eX_map_34 : decode mX_map.2.1 34 = .ok (.invokevirtual 74, 3) := by decide +kernel
theorem eX_map_37 : decode mX_map.2.1 37 = .ok (.istore 5, 2) := by decide +kernel
theorem eX_map_39 : decode mX_map.2.1 39 = .ok (.aload_n 0, 1) := by decide +kernel
theorem eX_map_40 : decode mX_map.2.1 40 = .ok (.iload 5, 2) := by decide +kernel
theorem eX_map_42 : decode mX_map.2.1 42 = .ok (.iload_n 3, 1) := by decide +kernel
theorem eX_map_43 : decode mX_map.2.1 43 = .ok (.invokevirtual 77, 3) := by decide +kernel
theorem eX_map_46 : decode mX_map.2.1 46 = .ok (.aload_n 0, 1) := by decide +kernel
theorem eX_map_47 : decode mX_map.2.1 47 = .ok (.iload 4, 2) := by decide +kernel
theorem eX_map_49 : decode mX_map.2.1 49 = .ok (.iload 5, 2) := by decide +kernel
theorem eX_map_51 : decode mX_map.2.1 51 = .ok (.invokevirtual 59, 3) := by decide +kernel
theorem eX_map_54 : decode mX_map.2.1 54 = .ok (.iconst 1, 1) := by decide +kernel
theorem eX_map_55 : decode mX_map.2.1 55 = .ok (.ireturn, 1) := by decide +kernel
theorem eX_unmap_0 : decode mX_unmap.2.1 0 = .ok (.aload_n 0, 1) := by decide +kernel
theorem eX_unmap_1 : decode mX_unmap.2.1 1 = .ok (.iload_n 1, 1) := by decide +kernel
theorem eX_unmap_2 : decode mX_unmap.2.1 2 = .ok (.invokevirtual 52, 3) := by decide +kernel
theorem eX_unmap_5 : decode mX_unmap.2.1 5 = .ok (.aload_n 0, 1) := by decide +kernel
theorem eX_unmap_6 : decode mX_unmap.2.1 6 = .ok (.iload_n 2, 1) := by decide +kernel
theorem eX_unmap_7 : decode mX_unmap.2.1 7 = .ok (.invokevirtual 67, 3) := by decide +kernel
theorem eX_unmap_10 : decode mX_unmap.2.1 10 = .ok (.iload_n 1, 1) := by decide +kernel
theorem eX_unmap_11 : decode mX_unmap.2.1 11 = .ok (.iload_n 2, 1) := by decide +kernel
theorem eX_unmap_12 : decode mX_unmap.2.1 12 = .ok (.invokestatic 56, 3) := by decide +kernel
theorem eX_unmap_15 : decode mX_unmap.2.1 15 = .ok (.istore_n 3, 1) := by decide +kernel
theorem eX_unmap_16 : decode mX_unmap.2.1 16 = .ok (.aload_n 0, 1) := by decide +kernel
theorem eX_unmap_17 : decode mX_unmap.2.1 17 = .ok (.aload_n 0, 1) := by decide +kernel
theorem eX_unmap_18 : decode mX_unmap.2.1 18 = .ok (.getfield 29, 3) := by decide +kernel
theorem eX_unmap_21 : decode mX_unmap.2.1 21 = .ok (.iload_n 3, 1) := by decide +kernel
theorem eX_unmap_22 : decode mX_unmap.2.1 22 = .ok (.iaload, 1) := by decide +kernel
theorem eX_unmap_23 : decode mX_unmap.2.1 23 = .ok (.invokevirtual 70, 3) := by decide +kernel
theorem eX_unmap_26 : decode mX_unmap.2.1 26 = .ok (.istore 4, 2) := by decide +kernel
theorem eX_unmap_28 : decode mX_unmap.2.1 28 = .ok (.aload_n 0, 1) := by decide +kernel
theorem eX_unmap_29 : decode mX_unmap.2.1 29 = .ok (.iload_n 3, 1) := by decide +kernel
theorem eX_unmap_30 : decode mX_unmap.2.1 30 = .ok (.iconst (-1), 1) := by decide +kernel
theorem eX_unmap_31 : decode mX_unmap.2.1 31 = .ok (.invokevirtual 59, 3) := by decide +kernel
theorem eX_unmap_34 : decode mX_unmap.2.1 34 = .ok (.iload 4, 2) := by decide +kernel
theorem eX_unmap_36 : decode mX_unmap.2.1 36 = .ok (.ireturn, 1) := by decide +kernel
theorem eX_read_0 : decode mX_read.2.1 0 = .ok (.aload_n 0, 1) := by decide +kernel
theorem eX_read_1 : decode mX_read.2.1 1 = .ok (.getfield 29, 3) := by decide +kernel
theorem eX_read_4 : decode mX_read.2.1 4 = .ok (.aload_n 0, 1) := by decide +kernel
theorem eX_read_5 : decode mX_read.2.1 5 = .ok (.iload_n 1, 1) := by decide +kernel
theorem eX_read_6 : decode mX_read.2.1 6 = .ok (.iload_n 2, 1) := by decide +kernel
theorem eX_read_7 : decode mX_read.2.1 7 = .ok (.invokevirtual 80, 3) := by decide +kernel
theorem eX_read_10 : decode mX_read.2.1 10 = .ok (.iaload, 1) := by decide +kernel
theorem eX_read_11 : decode mX_read.2.1 11 = .ok (.istore_n 3, 1) := by decide +kernel
theorem eX_read_12 : decode mX_read.2.1 12 = .ok (.aload_n 0, 1) := by decide +kernel
theorem eX_read_13 : decode mX_read.2.1 13 = .ok (.getfield 22, 3) := by decide +kernel
theorem eX_read_16 : decode mX_read.2.1 16 = .ok (.iload_n 3, 1) := by decide +kernel
theorem eX_read_17 : decode mX_read.2.1 17 = .ok (.iload_n 2, 1) := by decide +kernel
theorem eX_read_18 : decode mX_read.2.1 18 = .ok (.invokestatic 83, 3) := by decide +kernel
theorem eX_read_21 : decode mX_read.2.1 21 = .ok (.iaload, 1) := by decide +kernel
theorem eX_read_22 : decode mX_read.2.1 22 = .ok (.ireturn, 1) := by decide +kernel
theorem eX_write_0 : decode mX_write.2.1 0 = .ok (.aload_n 0, 1) := by decide +kernel
theorem eX_write_1 : decode mX_write.2.1 1 = .ok (.aload_n 0, 1) := by decide +kernel
theorem eX_write_2 : decode mX_write.2.1 2 = .ok (.iload_n 1, 1) := by decide +kernel
theorem eX_write_3 : decode mX_write.2.1 3 = .ok (.iload_n 2, 1) := by decide +kernel
theorem eX_write_4 : decode mX_write.2.1 4 = .ok (.invokevirtual 80, 3) := by decide +kernel
theorem eX_write_7 : decode mX_write.2.1 7 = .ok (.invokevirtual 86, 3) := by decide +kernel
theorem eX_write_10 : decode mX_write.2.1 10 = .ok (.istore 4, 2) := by decide +kernel
theorem eX_write_12 : decode mX_write.2.1 12 = .ok (.iload 4, 2) := by decide +kernel
theorem eX_write_14 : decode mX_write.2.1 14 = .ok (.iload_n 2, 1) := by decide +kernel
theorem eX_write_15 : decode mX_write.2.1 15 = .ok (.invokestatic 83, 3) := by decide +kernel
theorem eX_write_18 : decode mX_write.2.1 18 = .ok (.istore 5, 2) := by decide +kernel
theorem eX_write_20 : decode mX_write.2.1 20 = .ok (.aload_n 0, 1) := by decide +kernel
theorem eX_write_21 : decode mX_write.2.1 21 = .ok (.getfield 22, 3) := by decide +kernel
theorem eX_write_24 : decode mX_write.2.1 24 = .ok (.iload 5, 2) := by decide +kernel
theorem eX_write_26 : decode mX_write.2.1 26 = .ok (.iaload, 1) := by decide +kernel
theorem eX_write_27 : decode mX_write.2.1 27 = .ok (.istore 6, 2) := by decide +kernel
theorem eX_write_29 : decode mX_write.2.1 29 = .ok (.aload_n 0, 1) := by decide +kernel
theorem eX_write_30 : decode mX_write.2.1 30 = .ok (.getfield 22, 3) := by decide +kernel
theorem eX_write_33 : decode mX_write.2.1 33 = .ok (.iload 5, 2) := by decide +kernel
theorem eX_write_35 : decode mX_write.2.1 35 = .ok (.iload_n 3, 1) := by decide +kernel
theorem eX_write_36 : decode mX_write.2.1 36 = .ok (.iastore, 1) := by decide +kernel
theorem eX_write_37 : decode mX_write.2.1 37 = .ok (.iload 6, 2) := by decide +kernel
theorem eX_write_39 : decode mX_write.2.1 39 = .ok (.ireturn, 1) := by decide +kernel
theorem eX_lend_0 : decode mX_lend.2.1 0 = .ok (.aload_n 0, 1) := by decide +kernel
theorem eX_lend_1 : decode mX_lend.2.1 1 = .ok (.iload_n 1, 1) := by decide +kernel
theorem eX_lend_2 : decode mX_lend.2.1 2 = .ok (.iload_n 2, 1) := by decide +kernel
theorem eX_lend_3 : decode mX_lend.2.1 3 = .ok (.iload_n 3, 1) := by decide +kernel
theorem eX_lend_4 : decode mX_lend.2.1 4 = .ok (.iload 4, 2) := by decide +kernel
theorem eX_lend_6 : decode mX_lend.2.1 6 = .ok (.invokevirtual 89, 3) := by decide +kernel
theorem eX_lend_9 : decode mX_lend.2.1 9 = .ok (.aload_n 0, 1) := by decide +kernel
theorem eX_lend_10 : decode mX_lend.2.1 10 = .ok (.getfield 29, 3) := by decide +kernel
theorem eX_lend_13 : decode mX_lend.2.1 13 = .ok (.iload_n 1, 1) := by decide +kernel
theorem eX_lend_14 : decode mX_lend.2.1 14 = .ok (.iload_n 2, 1) := by decide +kernel
theorem eX_lend_15 : decode mX_lend.2.1 15 = .ok (.invokestatic 56, 3) := by decide +kernel
theorem eX_lend_18 : decode mX_lend.2.1 18 = .ok (.iaload, 1) := by decide +kernel
theorem eX_lend_19 : decode mX_lend.2.1 19 = .ok (.istore 5, 2) := by decide +kernel
theorem eX_lend_21 : decode mX_lend.2.1 21 = .ok (.iload_n 3, 1) := by decide +kernel
theorem eX_lend_22 : decode mX_lend.2.1 22 = .ok (.iload 4, 2) := by decide +kernel
theorem eX_lend_24 : decode mX_lend.2.1 24 = .ok (.invokestatic 56, 3) := by decide +kernel
theorem eX_lend_27 : decode mX_lend.2.1 27 = .ok (.istore 6, 2) := by decide +kernel
theorem eX_lend_29 : decode mX_lend.2.1 29 = .ok (.aload_n 0, 1) := by decide +kernel
theorem eX_lend_30 : decode mX_lend.2.1 30 = .ok (.getfield 29, 3) := by decide +kernel
theorem eX_lend_33 : decode mX_lend.2.1 33 = .ok (.iload 6, 2) := by decide +kernel
theorem eX_lend_35 : decode mX_lend.2.1 35 = .ok (.iaload, 1) := by decide +kernel
theorem eX_lend_36 : decode mX_lend.2.1 36 = .ok (.iload 5, 2) := by decide +kernel
theorem eX_lend_38 : decode mX_lend.2.1 38 = .ok (.if_icmp .eq 7, 3) := by decide +kernel
theorem eX_lend_41 : decode mX_lend.2.1 41 = .ok (.iconst 1, 1) := by decide +kernel
theorem eX_lend_42 : decode mX_lend.2.1 42 = .ok (.goto 4, 3) := by decide +kernel
theorem eX_lend_45 : decode mX_lend.2.1 45 = .ok (.iconst 0, 1) := by decide +kernel
theorem eX_lend_46 : decode mX_lend.2.1 46 = .ok (.istore 7, 2) := by decide +kernel
theorem eX_lend_48 : decode mX_lend.2.1 48 = .ok (.aload_n 0, 1) := by decide +kernel
theorem eX_lend_49 : decode mX_lend.2.1 49 = .ok (.iload 6, 2) := by decide +kernel
theorem eX_lend_51 : decode mX_lend.2.1 51 = .ok (.iload 5, 2) := by decide +kernel
theorem eX_lend_53 : decode mX_lend.2.1 53 = .ok (.invokevirtual 59, 3) := by decide +kernel
theorem eX_lend_56 : decode mX_lend.2.1 56 = .ok (.iload 7, 2) := by decide +kernel
theorem eX_lend_58 : decode mX_lend.2.1 58 = .ok (.ireturn, 1) := by decide +kernel
theorem eX_join_0 : decode mX_join.2.1 0 = .ok (.aload_n 0, 1) := by decide +kernel
theorem eX_join_1 : decode mX_join.2.1 1 = .ok (.iload_n 1, 1) := by decide +kernel
theorem eX_join_2 : decode mX_join.2.1 2 = .ok (.iload_n 2, 1) := by decide +kernel
theorem eX_join_3 : decode mX_join.2.1 3 = .ok (.iload_n 3, 1) := by decide +kernel
theorem eX_join_4 : decode mX_join.2.1 4 = .ok (.iload 4, 2) := by decide +kernel
theorem eX_join_6 : decode mX_join.2.1 6 = .ok (.invokevirtual 89, 3) := by decide +kernel
theorem eX_join_9 : decode mX_join.2.1 9 = .ok (.aload_n 0, 1) := by decide +kernel
theorem eX_join_10 : decode mX_join.2.1 10 = .ok (.getfield 29, 3) := by decide +kernel
theorem eX_join_13 : decode mX_join.2.1 13 = .ok (.iload_n 1, 1) := by decide +kernel
theorem eX_join_14 : decode mX_join.2.1 14 = .ok (.iload_n 2, 1) := by decide +kernel
theorem eX_join_15 : decode mX_join.2.1 15 = .ok (.invokestatic 56, 3) := by decide +kernel
theorem eX_join_18 : decode mX_join.2.1 18 = .ok (.iaload, 1) := by decide +kernel
theorem eX_join_19 : decode mX_join.2.1 19 = .ok (.istore 5, 2) := by decide +kernel
theorem eX_join_21 : decode mX_join.2.1 21 = .ok (.aload_n 0, 1) := by decide +kernel
theorem eX_join_22 : decode mX_join.2.1 22 = .ok (.getfield 29, 3) := by decide +kernel
theorem eX_join_25 : decode mX_join.2.1 25 = .ok (.iload_n 3, 1) := by decide +kernel
theorem eX_join_26 : decode mX_join.2.1 26 = .ok (.iload 4, 2) := by decide +kernel
theorem eX_join_28 : decode mX_join.2.1 28 = .ok (.invokestatic 56, 3) := by decide +kernel
theorem eX_join_31 : decode mX_join.2.1 31 = .ok (.iaload, 1) := by decide +kernel
theorem eX_join_32 : decode mX_join.2.1 32 = .ok (.istore 6, 2) := by decide +kernel
theorem eX_join_34 : decode mX_join.2.1 34 = .ok (.iload 5, 2) := by decide +kernel
theorem eX_join_36 : decode mX_join.2.1 36 = .ok (.iload 6, 2) := by decide +kernel
theorem eX_join_38 : decode mX_join.2.1 38 = .ok (.if_icmp .eq 32, 3) := by decide +kernel
theorem eX_join_41 : decode mX_join.2.1 41 = .ok (.aload_n 0, 1) := by decide +kernel
theorem eX_join_42 : decode mX_join.2.1 42 = .ok (.iload 5, 2) := by decide +kernel
theorem eX_join_44 : decode mX_join.2.1 44 = .ok (.invokevirtual 70, 3) := by decide +kernel
theorem eX_join_47 : decode mX_join.2.1 47 = .ok (.ifCond .eq 23, 3) := by decide +kernel
theorem eX_join_50 : decode mX_join.2.1 50 = .ok (.aload_n 0, 1) := by decide +kernel
theorem eX_join_51 : decode mX_join.2.1 51 = .ok (.iload 6, 2) := by decide +kernel
theorem eX_join_53 : decode mX_join.2.1 53 = .ok (.invokevirtual 70, 3) := by decide +kernel
theorem eX_join_56 : decode mX_join.2.1 56 = .ok (.ifCond .eq 14, 3) := by decide +kernel
theorem eX_join_59 : decode mX_join.2.1 59 = .ok (.aload_n 0, 1) := by decide +kernel
theorem eX_join_60 : decode mX_join.2.1 60 = .ok (.iload 5, 2) := by decide +kernel
theorem eX_join_62 : decode mX_join.2.1 62 = .ok (.iload 6, 2) := by decide +kernel
theorem eX_join_64 : decode mX_join.2.1 64 = .ok (.invokevirtual 93, 3) := by decide +kernel
theorem eX_join_67 : decode mX_join.2.1 67 = .ok (.ifCond .ne 5, 3) := by decide +kernel
theorem eX_join_70 : decode mX_join.2.1 70 = .ok (.iconst 0, 1) := by decide +kernel
theorem eX_join_71 : decode mX_join.2.1 71 = .ok (.ireturn, 1) := by decide +kernel
theorem eX_join_72 : decode mX_join.2.1 72 = .ok (.aload_n 0, 1) := by decide +kernel
theorem eX_join_73 : decode mX_join.2.1 73 = .ok (.getfield 26, 3) := by decide +kernel
theorem eX_join_76 : decode mX_join.2.1 76 = .ok (.iload 6, 2) := by decide +kernel
theorem eX_join_78 : decode mX_join.2.1 78 = .ok (.iaload, 1) := by decide +kernel
theorem eX_join_79 : decode mX_join.2.1 79 = .ok (.istore 7, 2) := by decide +kernel
theorem eX_join_81 : decode mX_join.2.1 81 = .ok (.aload_n 0, 1) := by decide +kernel
theorem eX_join_82 : decode mX_join.2.1 82 = .ok (.iload 6, 2) := by decide +kernel
theorem eX_join_84 : decode mX_join.2.1 84 = .ok (.iload 5, 2) := by decide +kernel
theorem eX_join_86 : decode mX_join.2.1 86 = .ok (.invokevirtual 97, 3) := by decide +kernel
theorem eX_join_89 : decode mX_join.2.1 89 = .ok (.iload 7, 2) := by decide +kernel
theorem eX_join_91 : decode mX_join.2.1 91 = .ok (.ireturn, 1) := by decide +kernel
theorem eX_take_0 : decode mX_take.2.1 0 = .ok (.aload_n 0, 1) := by decide +kernel
theorem eX_take_1 : decode mX_take.2.1 1 = .ok (.invokevirtual 100, 3) := by decide +kernel
theorem eX_take_4 : decode mX_take.2.1 4 = .ok (.istore_n 1, 1) := by decide +kernel
theorem eX_take_5 : decode mX_take.2.1 5 = .ok (.iload_n 1, 1) := by decide +kernel
theorem eX_take_6 : decode mX_take.2.1 6 = .ok (.iconst (-1), 1) := by decide +kernel
theorem eX_take_7 : decode mX_take.2.1 7 = .ok (.if_icmp .eq 17, 3) := by decide +kernel
theorem eX_take_10 : decode mX_take.2.1 10 = .ok (.aload_n 0, 1) := by decide +kernel
theorem eX_take_11 : decode mX_take.2.1 11 = .ok (.getfield 42, 3) := by decide +kernel
theorem eX_take_14 : decode mX_take.2.1 14 = .ok (.iload_n 1, 1) := by decide +kernel
theorem eX_take_15 : decode mX_take.2.1 15 = .ok (.iconst 1, 1) := by decide +kernel
theorem eX_take_16 : decode mX_take.2.1 16 = .ok (.bastore, 1) := by decide +kernel
theorem eX_take_17 : decode mX_take.2.1 17 = .ok (.aload_n 0, 1) := by decide +kernel
theorem eX_take_18 : decode mX_take.2.1 18 = .ok (.bipush 8, 2) := by decide +kernel
theorem eX_take_20 : decode mX_take.2.1 20 = .ok (.iload_n 1, 1) := by decide +kernel
theorem eX_take_21 : decode mX_take.2.1 21 = .ok (.invokevirtual 103, 3) := by decide +kernel
theorem eX_take_24 : decode mX_take.2.1 24 = .ok (.iload_n 1, 1) := by decide +kernel
theorem eX_take_25 : decode mX_take.2.1 25 = .ok (.ireturn, 1) := by decide +kernel
theorem eX_back_0 : decode mX_back.2.1 0 = .ok (.aload_n 0, 1) := by decide +kernel
theorem eX_back_1 : decode mX_back.2.1 1 = .ok (.iload_n 1, 1) := by decide +kernel
theorem eX_back_2 : decode mX_back.2.1 2 = .ok (.invokevirtual 106, 3) := by decide +kernel
theorem eX_back_5 : decode mX_back.2.1 5 = .ok (.aload_n 0, 1) := by decide +kernel
theorem eX_back_6 : decode mX_back.2.1 6 = .ok (.iload_n 1, 1) := by decide +kernel
theorem eX_back_7 : decode mX_back.2.1 7 = .ok (.bipush 8, 2) := by decide +kernel
theorem eX_back_9 : decode mX_back.2.1 9 = .ok (.invokevirtual 103, 3) := by decide +kernel
theorem eX_back_12 : decode mX_back.2.1 12 = .ok (.aload_n 0, 1) := by decide +kernel
theorem eX_back_13 : decode mX_back.2.1 13 = .ok (.invokevirtual 109, 3) := by decide +kernel
theorem eX_back_16 : decode mX_back.2.1 16 = .ok (.ireturn, 1) := by decide +kernel
theorem eX_drop_0 : decode mX_drop.2.1 0 = .ok (.aload_n 0, 1) := by decide +kernel
theorem eX_drop_1 : decode mX_drop.2.1 1 = .ok (.iload_n 1, 1) := by decide +kernel
theorem eX_drop_2 : decode mX_drop.2.1 2 = .ok (.invokevirtual 106, 3) := by decide +kernel
theorem eX_drop_5 : decode mX_drop.2.1 5 = .ok (.aload_n 0, 1) := by decide +kernel
theorem eX_drop_6 : decode mX_drop.2.1 6 = .ok (.invokevirtual 112, 3) := by decide +kernel
theorem eX_drop_9 : decode mX_drop.2.1 9 = .ok (.istore_n 2, 1) := by decide +kernel
theorem eX_drop_10 : decode mX_drop.2.1 10 = .ok (.aload_n 0, 1) := by decide +kernel
theorem eX_drop_11 : decode mX_drop.2.1 11 = .ok (.iload_n 1, 1) := by decide +kernel
theorem eX_drop_12 : decode mX_drop.2.1 12 = .ok (.invokevirtual 115, 3) := by decide +kernel
theorem eX_drop_15 : decode mX_drop.2.1 15 = .ok (.aload_n 0, 1) := by decide +kernel
theorem eX_drop_16 : decode mX_drop.2.1 16 = .ok (.getfield 42, 3) := by decide +kernel
theorem eX_drop_19 : decode mX_drop.2.1 19 = .ok (.iload_n 1, 1) := by decide +kernel
theorem eX_drop_20 : decode mX_drop.2.1 20 = .ok (.iconst 0, 1) := by decide +kernel
theorem eX_drop_21 : decode mX_drop.2.1 21 = .ok (.bastore, 1) := by decide +kernel
theorem eX_drop_22 : decode mX_drop.2.1 22 = .ok (.iload_n 2, 1) := by decide +kernel
theorem eX_drop_23 : decode mX_drop.2.1 23 = .ok (.aload_n 0, 1) := by decide +kernel
theorem eX_drop_24 : decode mX_drop.2.1 24 = .ok (.invokevirtual 112, 3) := by decide +kernel
theorem eX_drop_27 : decode mX_drop.2.1 27 = .ok (.isub, 1) := by decide +kernel
theorem eX_drop_28 : decode mX_drop.2.1 28 = .ok (.ireturn, 1) := by decide +kernel
theorem eX_holders_0 : decode mX_holders.2.1 0 = .ok (.aload_n 0, 1) := by decide +kernel
theorem eX_holders_1 : decode mX_holders.2.1 1 = .ok (.iload_n 1, 1) := by decide +kernel
theorem eX_holders_2 : decode mX_holders.2.1 2 = .ok (.invokevirtual 52, 3) := by decide +kernel
theorem eX_holders_5 : decode mX_holders.2.1 5 = .ok (.aload_n 0, 1) := by decide +kernel
theorem eX_holders_6 : decode mX_holders.2.1 6 = .ok (.iload_n 2, 1) := by decide +kernel
theorem eX_holders_7 : decode mX_holders.2.1 7 = .ok (.invokevirtual 67, 3) := by decide +kernel
theorem eX_holders_10 : decode mX_holders.2.1 10 = .ok (.aload_n 0, 1) := by decide +kernel
theorem eX_holders_11 : decode mX_holders.2.1 11 = .ok (.getfield 29, 3) := by decide +kernel
theorem eX_holders_14 : decode mX_holders.2.1 14 = .ok (.iload_n 1, 1) := by decide +kernel
theorem eX_holders_15 : decode mX_holders.2.1 15 = .ok (.iload_n 2, 1) := by decide +kernel
theorem eX_holders_16 : decode mX_holders.2.1 16 = .ok (.invokestatic 56, 3) := by decide +kernel
theorem eX_holders_19 : decode mX_holders.2.1 19 = .ok (.iaload, 1) := by decide +kernel
theorem eX_holders_20 : decode mX_holders.2.1 20 = .ok (.istore_n 3, 1) := by decide +kernel
theorem eX_holders_21 : decode mX_holders.2.1 21 = .ok (.aload_n 0, 1) := by decide +kernel
theorem eX_holders_22 : decode mX_holders.2.1 22 = .ok (.iload_n 3, 1) := by decide +kernel
theorem eX_holders_23 : decode mX_holders.2.1 23 = .ok (.invokevirtual 70, 3) := by decide +kernel
theorem eX_holders_26 : decode mX_holders.2.1 26 = .ok (.ifCond .eq 12, 3) := by decide +kernel
theorem eX_holders_29 : decode mX_holders.2.1 29 = .ok (.aload_n 0, 1) := by decide +kernel
theorem eX_holders_30 : decode mX_holders.2.1 30 = .ok (.getfield 26, 3) := by decide +kernel
theorem eX_holders_33 : decode mX_holders.2.1 33 = .ok (.iload_n 3, 1) := by decide +kernel
theorem eX_holders_34 : decode mX_holders.2.1 34 = .ok (.iaload, 1) := by decide +kernel
theorem eX_holders_35 : decode mX_holders.2.1 35 = .ok (.goto 4, 3) := by decide +kernel
theorem eX_holders_38 : decode mX_holders.2.1 38 = .ok (.iconst 0, 1) := by decide +kernel
theorem eX_holders_39 : decode mX_holders.2.1 39 = .ok (.ireturn, 1) := by decide +kernel
theorem eX_changed_0 : decode mX_changed.2.1 0 = .ok (.aload_n 0, 1) := by decide +kernel
theorem eX_changed_1 : decode mX_changed.2.1 1 = .ok (.iload_n 1, 1) := by decide +kernel
theorem eX_changed_2 : decode mX_changed.2.1 2 = .ok (.invokevirtual 106, 3) := by decide +kernel
theorem eX_changed_5 : decode mX_changed.2.1 5 = .ok (.iconst 0, 1) := by decide +kernel
theorem eX_changed_6 : decode mX_changed.2.1 6 = .ok (.istore_n 2, 1) := by decide +kernel
theorem eX_changed_7 : decode mX_changed.2.1 7 = .ok (.iconst 0, 1) := by decide +kernel
theorem eX_changed_8 : decode mX_changed.2.1 8 = .ok (.istore_n 3, 1) := by decide +kernel
theorem eX_changed_9 : decode mX_changed.2.1 9 = .ok (.iload_n 3, 1) := by decide +kernel
theorem eX_changed_10 : decode mX_changed.2.1 10 = .ok (.bipush 48, 2) := by decide +kernel
theorem eX_changed_12 : decode mX_changed.2.1 12 = .ok (.if_icmp .ge 36, 3) := by decide +kernel
theorem eX_changed_15 : decode mX_changed.2.1 15 = .ok (.aload_n 0, 1) := by decide +kernel
theorem eX_changed_16 : decode mX_changed.2.1 16 = .ok (.getfield 29, 3) := by decide +kernel
theorem eX_changed_19 : decode mX_changed.2.1 19 = .ok (.sipush 384, 3) := by decide +kernel
theorem eX_changed_22 : decode mX_changed.2.1 22 = .ok (.iload_n 3, 1) := by decide +kernel
theorem eX_changed_23 : decode mX_changed.2.1 23 = .ok (.iadd, 1) := by decide +kernel
theorem eX_changed_24 : decode mX_changed.2.1 24 = .ok (.iaload, 1) := by decide +kernel
theorem eX_changed_25 : decode mX_changed.2.1 25 = .ok (.aload_n 0, 1) := by decide +kernel
theorem eX_changed_26 : decode mX_changed.2.1 26 = .ok (.getfield 29, 3) := by decide +kernel
theorem eX_changed_29 : decode mX_changed.2.1 29 = .ok (.iload_n 1, 1) := by decide +kernel
theorem eX_changed_30 : decode mX_changed.2.1 30 = .ok (.bipush 48, 2) := by decide +kernel
theorem eX_changed_32 : decode mX_changed.2.1 32 = .ok (.imul, 1) := by decide +kernel
theorem eX_changed_33 : decode mX_changed.2.1 33 = .ok (.iload_n 3, 1) := by decide +kernel
theorem eX_changed_34 : decode mX_changed.2.1 34 = .ok (.iadd, 1) := by decide +kernel
theorem eX_changed_35 : decode mX_changed.2.1 35 = .ok (.iaload, 1) := by decide +kernel
theorem eX_changed_36 : decode mX_changed.2.1 36 = .ok (.if_icmp .eq 6, 3) := by decide +kernel
theorem eX_changed_39 : decode mX_changed.2.1 39 = .ok (.iinc 2 1, 3) := by decide +kernel
theorem eX_changed_42 : decode mX_changed.2.1 42 = .ok (.iinc 3 1, 3) := by decide +kernel
theorem eX_changed_45 : decode mX_changed.2.1 45 = .ok (.goto (-36), 3) := by decide +kernel
theorem eX_changed_48 : decode mX_changed.2.1 48 = .ok (.iload_n 2, 1) := by decide +kernel
theorem eX_changed_49 : decode mX_changed.2.1 49 = .ok (.ireturn, 1) := by decide +kernel
theorem eX_count_0 : decode mX_count.2.1 0 = .ok (.iload_n 1, 1) := by decide +kernel
theorem eX_count_1 : decode mX_count.2.1 1 = .ok (.tableswitch 60 0 4 #[35, 40, 45, 50, 55], 35) := by decide +kernel
theorem eX_count_36 : decode mX_count.2.1 36 = .ok (.aload_n 0, 1) := by decide +kernel
theorem eX_count_37 : decode mX_count.2.1 37 = .ok (.invokevirtual 112, 3) := by decide +kernel
theorem eX_count_40 : decode mX_count.2.1 40 = .ok (.ireturn, 1) := by decide +kernel
theorem eX_count_41 : decode mX_count.2.1 41 = .ok (.aload_n 0, 1) := by decide +kernel
theorem eX_count_42 : decode mX_count.2.1 42 = .ok (.getfield 18, 3) := by decide +kernel
theorem eX_count_45 : decode mX_count.2.1 45 = .ok (.ireturn, 1) := by decide +kernel
theorem eX_count_46 : decode mX_count.2.1 46 = .ok (.aload_n 0, 1) := by decide +kernel
theorem eX_count_47 : decode mX_count.2.1 47 = .ok (.invokevirtual 109, 3) := by decide +kernel
theorem eX_count_50 : decode mX_count.2.1 50 = .ok (.ireturn, 1) := by decide +kernel
theorem eX_count_51 : decode mX_count.2.1 51 = .ok (.aload_n 0, 1) := by decide +kernel
theorem eX_count_52 : decode mX_count.2.1 52 = .ok (.invokevirtual 118, 3) := by decide +kernel
theorem eX_count_55 : decode mX_count.2.1 55 = .ok (.ireturn, 1) := by decide +kernel
theorem eX_count_56 : decode mX_count.2.1 56 = .ok (.aload_n 0, 1) := by decide +kernel
theorem eX_count_57 : decode mX_count.2.1 57 = .ok (.invokevirtual 121, 3) := by decide +kernel
theorem eX_count_60 : decode mX_count.2.1 60 = .ok (.ireturn, 1) := by decide +kernel
theorem eX_count_61 : decode mX_count.2.1 61 = .ok (.iconst (-1), 1) := by decide +kernel
theorem eX_count_62 : decode mX_count.2.1 62 = .ok (.ireturn, 1) := by decide +kernel
theorem eX_isThere_0 : decode mX_isThere.2.1 0 = .ok (.iload_n 1, 1) := by decide +kernel
theorem eX_isThere_1 : decode mX_isThere.2.1 1 = .ok (.ifCond .lt 27, 3) := by decide +kernel
theorem eX_isThere_4 : decode mX_isThere.2.1 4 = .ok (.iload_n 1, 1) := by decide +kernel
theorem eX_isThere_5 : decode mX_isThere.2.1 5 = .ok (.bipush 6, 2) := by decide +kernel
theorem eX_isThere_7 : decode mX_isThere.2.1 7 = .ok (.if_icmp .ge 21, 3) := by decide +kernel
theorem eX_isThere_10 : decode mX_isThere.2.1 10 = .ok (.aload_n 0, 1) := by decide +kernel
theorem eX_isThere_11 : decode mX_isThere.2.1 11 = .ok (.getfield 38, 3) := by decide +kernel
theorem eX_isThere_14 : decode mX_isThere.2.1 14 = .ok (.bipush 8, 2) := by decide +kernel
theorem eX_isThere_16 : decode mX_isThere.2.1 16 = .ok (.iload_n 1, 1) := by decide +kernel
theorem eX_isThere_17 : decode mX_isThere.2.1 17 = .ok (.invokestatic 49, 3) := by decide +kernel
theorem eX_isThere_20 : decode mX_isThere.2.1 20 = .ok (.baload, 1) := by decide +kernel
theorem eX_isThere_21 : decode mX_isThere.2.1 21 = .ok (.ifCond .eq 7, 3) := by decide +kernel
theorem eX_isThere_24 : decode mX_isThere.2.1 24 = .ok (.iconst 1, 1) := by decide +kernel
theorem eX_isThere_25 : decode mX_isThere.2.1 25 = .ok (.goto 4, 3) := by decide +kernel
theorem eX_isThere_28 : decode mX_isThere.2.1 28 = .ok (.iconst 0, 1) := by decide +kernel
theorem eX_isThere_29 : decode mX_isThere.2.1 29 = .ok (.ireturn, 1) := by decide +kernel
theorem eX_needSpace_0 : decode mX_needSpace.2.1 0 = .ok (.aload_n 0, 1) := by decide +kernel
theorem eX_needSpace_1 : decode mX_needSpace.2.1 1 = .ok (.iload_n 1, 1) := by decide +kernel
theorem eX_needSpace_2 : decode mX_needSpace.2.1 2 = .ok (.invokevirtual 124, 3) := by decide +kernel
theorem eX_needSpace_5 : decode mX_needSpace.2.1 5 = .ok (.ifCond .ne 13, 3) := by decide +kernel
theorem eX_needSpace_8 : decode mX_needSpace.2.1 8 = .ok (.new 127, 3) := by decide +kernel
theorem eX_needSpace_11 : decode mX_needSpace.2.1 11 = .ok (.dup, 1) := by decide +kernel
theorem eX_needSpace_12 : decode mX_needSpace.2.1 12 = .ok (.ldc 129, 2) := by decide +kernel
theorem eX_needSpace_14 : decode mX_needSpace.2.1 14 = .ok (.invokespecial 131, 3) := by decide +kernel
theorem eX_needSpace_17 : decode mX_needSpace.2.1 17 = .ok (.athrow, 1) := by decide +kernel
theorem eX_needSpace_18 : decode mX_needSpace.2.1 18 = .ok (.return_, 1) := by decide +kernel
theorem eX_needPage_0 : decode mX_needPage.2.1 0 = .ok (.iload_n 1, 1) := by decide +kernel
theorem eX_needPage_1 : decode mX_needPage.2.1 1 = .ok (.ifCond .lt 9, 3) := by decide +kernel
theorem eX_needPage_4 : decode mX_needPage.2.1 4 = .ok (.iload_n 1, 1) := by decide +kernel
theorem eX_needPage_5 : decode mX_needPage.2.1 5 = .ok (.bipush 8, 2) := by decide +kernel
theorem eX_needPage_7 : decode mX_needPage.2.1 7 = .ok (.if_icmp .lt 13, 3) := by decide +kernel
theorem eX_needPage_10 : decode mX_needPage.2.1 10 = .ok (.new 134, 3) := by decide +kernel
theorem eX_needPage_13 : decode mX_needPage.2.1 13 = .ok (.dup, 1) := by decide +kernel
theorem eX_needPage_14 : decode mX_needPage.2.1 14 = .ok (.ldc 136, 2) := by decide +kernel
theorem eX_needPage_16 : decode mX_needPage.2.1 16 = .ok (.invokespecial 138, 3) := by decide +kernel
theorem eX_needPage_19 : decode mX_needPage.2.1 19 = .ok (.athrow, 1) := by decide +kernel
theorem eX_needPage_20 : decode mX_needPage.2.1 20 = .ok (.return_, 1) := by decide +kernel
theorem eX_needTwoPages_0 : decode mX_needTwoPages.2.1 0 = .ok (.aload_n 0, 1) := by decide +kernel
theorem eX_needTwoPages_1 : decode mX_needTwoPages.2.1 1 = .ok (.iload_n 1, 1) := by decide +kernel
theorem eX_needTwoPages_2 : decode mX_needTwoPages.2.1 2 = .ok (.invokevirtual 52, 3) := by decide +kernel
theorem eX_needTwoPages_5 : decode mX_needTwoPages.2.1 5 = .ok (.aload_n 0, 1) := by decide +kernel
theorem eX_needTwoPages_6 : decode mX_needTwoPages.2.1 6 = .ok (.iload_n 3, 1) := by decide +kernel
theorem eX_needTwoPages_7 : decode mX_needTwoPages.2.1 7 = .ok (.invokevirtual 52, 3) := by decide +kernel
theorem eX_needTwoPages_10 : decode mX_needTwoPages.2.1 10 = .ok (.aload_n 0, 1) := by decide +kernel
theorem eX_needTwoPages_11 : decode mX_needTwoPages.2.1 11 = .ok (.iload_n 2, 1) := by decide +kernel
theorem eX_needTwoPages_12 : decode mX_needTwoPages.2.1 12 = .ok (.invokevirtual 67, 3) := by decide +kernel
theorem eX_needTwoPages_15 : decode mX_needTwoPages.2.1 15 = .ok (.aload_n 0, 1) := by decide +kernel
theorem eX_needTwoPages_16 : decode mX_needTwoPages.2.1 16 = .ok (.iload 4, 2) := by decide +kernel
theorem eX_needTwoPages_18 : decode mX_needTwoPages.2.1 18 = .ok (.invokevirtual 67, 3) := by decide +kernel
theorem eX_needTwoPages_21 : decode mX_needTwoPages.2.1 21 = .ok (.return_, 1) := by decide +kernel
theorem eX_needPicture_0 : decode mX_needPicture.2.1 0 = .ok (.iload_n 1, 1) := by decide +kernel
theorem eX_needPicture_1 : decode mX_needPicture.2.1 1 = .ok (.ifCond .lt 18, 3) := by decide +kernel
theorem eX_needPicture_4 : decode mX_needPicture.2.1 4 = .ok (.iload_n 1, 1) := by decide +kernel
theorem eX_needPicture_5 : decode mX_needPicture.2.1 5 = .ok (.bipush 8, 2) := by decide +kernel
theorem eX_needPicture_7 : decode mX_needPicture.2.1 7 = .ok (.if_icmp .ge 12, 3) := by decide +kernel
theorem eX_needPicture_10 : decode mX_needPicture.2.1 10 = .ok (.aload_n 0, 1) := by decide +kernel
theorem eX_needPicture_11 : decode mX_needPicture.2.1 11 = .ok (.getfield 42, 3) := by decide +kernel
theorem eX_needPicture_14 : decode mX_needPicture.2.1 14 = .ok (.iload_n 1, 1) := by decide +kernel
theorem eX_needPicture_15 : decode mX_needPicture.2.1 15 = .ok (.baload, 1) := by decide +kernel
theorem eX_needPicture_16 : decode mX_needPicture.2.1 16 = .ok (.ifCond .ne 13, 3) := by decide +kernel
theorem eX_needPicture_19 : decode mX_needPicture.2.1 19 = .ok (.new 127, 3) := by decide +kernel
theorem eX_needPicture_22 : decode mX_needPicture.2.1 22 = .ok (.dup, 1) := by decide +kernel
theorem eX_needPicture_23 : decode mX_needPicture.2.1 23 = .ok (.ldc 139, 2) := by decide +kernel
theorem eX_needPicture_25 : decode mX_needPicture.2.1 25 = .ok (.invokespecial 131, 3) := by decide +kernel
theorem eX_needPicture_28 : decode mX_needPicture.2.1 28 = .ok (.athrow, 1) := by decide +kernel
theorem eX_needPicture_29 : decode mX_needPicture.2.1 29 = .ok (.return_, 1) := by decide +kernel
theorem eX_needHolderAt_0 : decode mX_needHolderAt.2.1 0 = .ok (.iload_n 2, 1) := by decide +kernel
theorem eX_needHolderAt_1 : decode mX_needHolderAt.2.1 1 = .ok (.ifCond .lt 10, 3) := by decide +kernel
theorem eX_needHolderAt_4 : decode mX_needHolderAt.2.1 4 = .ok (.iload_n 2, 1) := by decide +kernel
theorem eX_needHolderAt_5 : decode mX_needHolderAt.2.1 5 = .ok (.sipush 128, 3) := by decide +kernel
theorem eX_needHolderAt_8 : decode mX_needHolderAt.2.1 8 = .ok (.if_icmp .lt 13, 3) := by decide +kernel
theorem eX_needHolderAt_11 : decode mX_needHolderAt.2.1 11 = .ok (.new 134, 3) := by decide +kernel
theorem eX_needHolderAt_14 : decode mX_needHolderAt.2.1 14 = .ok (.dup, 1) := by decide +kernel
theorem eX_needHolderAt_15 : decode mX_needHolderAt.2.1 15 = .ok (.ldc 141, 2) := by decide +kernel
theorem eX_needHolderAt_17 : decode mX_needHolderAt.2.1 17 = .ok (.invokespecial 138, 3) := by decide +kernel
theorem eX_needHolderAt_20 : decode mX_needHolderAt.2.1 20 = .ok (.athrow, 1) := by decide +kernel
theorem eX_needHolderAt_21 : decode mX_needHolderAt.2.1 21 = .ok (.aload_n 0, 1) := by decide +kernel
theorem eX_needHolderAt_22 : decode mX_needHolderAt.2.1 22 = .ok (.iload_n 1, 1) := by decide +kernel
theorem eX_needHolderAt_23 : decode mX_needHolderAt.2.1 23 = .ok (.invokevirtual 52, 3) := by decide +kernel
theorem eX_needHolderAt_26 : decode mX_needHolderAt.2.1 26 = .ok (.iload_n 1, 1) := by decide +kernel
theorem eX_needHolderAt_27 : decode mX_needHolderAt.2.1 27 = .ok (.iload_n 2, 1) := by decide +kernel
theorem eX_needHolderAt_28 : decode mX_needHolderAt.2.1 28 = .ok (.bipush 16, 2) := by decide +kernel
theorem eX_needHolderAt_30 : decode mX_needHolderAt.2.1 30 = .ok (.idiv, 1) := by decide +kernel
theorem eX_needHolderAt_31 : decode mX_needHolderAt.2.1 31 = .ok (.invokestatic 56, 3) := by decide +kernel
theorem eX_needHolderAt_34 : decode mX_needHolderAt.2.1 34 = .ok (.istore_n 3, 1) := by decide +kernel
theorem eX_needHolderAt_35 : decode mX_needHolderAt.2.1 35 = .ok (.aload_n 0, 1) := by decide +kernel
theorem eX_needHolderAt_36 : decode mX_needHolderAt.2.1 36 = .ok (.aload_n 0, 1) := by decide +kernel
theorem eX_needHolderAt_37 : decode mX_needHolderAt.2.1 37 = .ok (.getfield 29, 3) := by decide +kernel
theorem eX_needHolderAt_40 : decode mX_needHolderAt.2.1 40 = .ok (.iload_n 3, 1) := by decide +kernel
theorem eX_needHolderAt_41 : decode mX_needHolderAt.2.1 41 = .ok (.iaload, 1) := by decide +kernel
theorem eX_needHolderAt_42 : decode mX_needHolderAt.2.1 42 = .ok (.invokevirtual 70, 3) := by decide +kernel
theorem eX_needHolderAt_45 : decode mX_needHolderAt.2.1 45 = .ok (.ifCond .ne 13, 3) := by decide +kernel
theorem eX_needHolderAt_48 : decode mX_needHolderAt.2.1 48 = .ok (.new 127, 3) := by decide +kernel
theorem eX_needHolderAt_51 : decode mX_needHolderAt.2.1 51 = .ok (.dup, 1) := by decide +kernel
theorem eX_needHolderAt_52 : decode mX_needHolderAt.2.1 52 = .ok (.ldc 143, 2) := by decide +kernel
theorem eX_needHolderAt_54 : decode mX_needHolderAt.2.1 54 = .ok (.invokespecial 131, 3) := by decide +kernel
theorem eX_needHolderAt_57 : decode mX_needHolderAt.2.1 57 = .ok (.athrow, 1) := by decide +kernel
theorem eX_needHolderAt_58 : decode mX_needHolderAt.2.1 58 = .ok (.iload_n 3, 1) := by decide +kernel
theorem eX_needHolderAt_59 : decode mX_needHolderAt.2.1 59 = .ok (.ireturn, 1) := by decide +kernel
theorem eX_needFreeFrame_0 : decode mX_needFreeFrame.2.1 0 = .ok (.iconst 0, 1) := by decide +kernel
theorem eX_needFreeFrame_1 : decode mX_needFreeFrame.2.1 1 = .ok (.istore_n 1, 1) := by decide +kernel
theorem eX_needFreeFrame_2 : decode mX_needFreeFrame.2.1 2 = .ok (.iload_n 1, 1) := by decide +kernel
theorem eX_needFreeFrame_3 : decode mX_needFreeFrame.2.1 3 = .ok (.aload_n 0, 1) := by decide +kernel
theorem eX_needFreeFrame_4 : decode mX_needFreeFrame.2.1 4 = .ok (.getfield 18, 3) := by decide +kernel
theorem eX_needFreeFrame_7 : decode mX_needFreeFrame.2.1 7 = .ok (.if_icmp .ge 20, 3) := by decide +kernel
theorem eX_needFreeFrame_10 : decode mX_needFreeFrame.2.1 10 = .ok (.aload_n 0, 1) := by decide +kernel
theorem eX_needFreeFrame_11 : decode mX_needFreeFrame.2.1 11 = .ok (.getfield 26, 3) := by decide +kernel
theorem eX_needFreeFrame_14 : decode mX_needFreeFrame.2.1 14 = .ok (.iload_n 1, 1) := by decide +kernel
theorem eX_needFreeFrame_15 : decode mX_needFreeFrame.2.1 15 = .ok (.iaload, 1) := by decide +kernel
theorem eX_needFreeFrame_16 : decode mX_needFreeFrame.2.1 16 = .ok (.ifCond .ne 5, 3) := by decide +kernel
theorem eX_needFreeFrame_19 : decode mX_needFreeFrame.2.1 19 = .ok (.iload_n 1, 1) := by decide +kernel
theorem eX_needFreeFrame_20 : decode mX_needFreeFrame.2.1 20 = .ok (.ireturn, 1) := by decide +kernel
theorem eX_needFreeFrame_21 : decode mX_needFreeFrame.2.1 21 = .ok (.iinc 1 1, 3) := by decide +kernel
theorem eX_needFreeFrame_24 : decode mX_needFreeFrame.2.1 24 = .ok (.goto (-22), 3) := by decide +kernel
theorem eX_needFreeFrame_27 : decode mX_needFreeFrame.2.1 27 = .ok (.new 145, 3) := by decide +kernel
theorem eX_needFreeFrame_30 : decode mX_needFreeFrame.2.1 30 = .ok (.dup, 1) := by decide +kernel
theorem eX_needFreeFrame_31 : decode mX_needFreeFrame.2.1 31 = .ok (.ldc 147, 2) := by decide +kernel
theorem eX_needFreeFrame_33 : decode mX_needFreeFrame.2.1 33 = .ok (.invokespecial 149, 3) := by decide +kernel
theorem eX_needFreeFrame_36 : decode mX_needFreeFrame.2.1 36 = .ok (.athrow, 1) := by decide +kernel
theorem eX_needOwnFrame_0 : decode mX_needOwnFrame.2.1 0 = .ok (.aload_n 0, 1) := by decide +kernel
theorem eX_needOwnFrame_1 : decode mX_needOwnFrame.2.1 1 = .ok (.getfield 29, 3) := by decide +kernel
theorem eX_needOwnFrame_4 : decode mX_needOwnFrame.2.1 4 = .ok (.iload_n 1, 1) := by decide +kernel
theorem eX_needOwnFrame_5 : decode mX_needOwnFrame.2.1 5 = .ok (.iaload, 1) := by decide +kernel
theorem eX_needOwnFrame_6 : decode mX_needOwnFrame.2.1 6 = .ok (.istore_n 2, 1) := by decide +kernel
