theorem eY_cell_11 : decode mY_cell.2.1 11 = .ok (.iconst 1, 1) := by decide +kernel
theorem eY_cell_12 : decode mY_cell.2.1 12 = .ok (.goto 4, 3) := by decide +kernel
theorem eY_cell_15 : decode mY_cell.2.1 15 = .ok (.iconst 0, 1) := by decide +kernel
theorem eY_cell_16 : decode mY_cell.2.1 16 = .ok (.istore_n 3, 1) := by decide +kernel
theorem eY_cell_17 : decode mY_cell.2.1 17 = .ok (.iload_n 3, 1) := by decide +kernel
theorem eY_cell_18 : decode mY_cell.2.1 18 = .ok (.ifCond .eq 23, 3) := by decide +kernel
theorem eY_cell_21 : decode mY_cell.2.1 21 = .ok (.aload_n 0, 1) := by decide +kernel
theorem eY_cell_22 : decode mY_cell.2.1 22 = .ok (.iload_n 1, 1) := by decide +kernel
theorem eY_cell_23 : decode mY_cell.2.1 23 = .ok (.invokevirtual 42, 3) := by decide +kernel
theorem eY_cell_26 : decode mY_cell.2.1 26 = .ok (.ifCond .eq 15, 3) := by decide +kernel
theorem eY_cell_29 : decode mY_cell.2.1 29 = .ok (.iconst 0, 1) := by decide +kernel
theorem eY_cell_30 : decode mY_cell.2.1 30 = .ok (.iload_n 1, 1) := by decide +kernel
theorem eY_cell_31 : decode mY_cell.2.1 31 = .ok (.iload_n 2, 1) := by decide +kernel
theorem eY_cell_32 : decode mY_cell.2.1 32 = .ok (.bipush 16, 2) := by decide +kernel
theorem eY_cell_34 : decode mY_cell.2.1 34 = .ok (.idiv, 1) := by decide +kernel
theorem eY_cell_35 : decode mY_cell.2.1 35 = .ok (.invokestatic 34, 3) := by decide +kernel
theorem eY_cell_38 : decode mY_cell.2.1 38 = .ok (.goto 4, 3) := by decide +kernel
theorem eY_cell_41 : decode mY_cell.2.1 41 = .ok (.iconst (-1), 1) := by decide +kernel
theorem eY_cell_42 : decode mY_cell.2.1 42 = .ok (.istore 4, 2) := by decide +kernel
theorem eY_cell_44 : decode mY_cell.2.1 44 = .ok (.iload 4, 2) := by decide +kernel
theorem eY_cell_46 : decode mY_cell.2.1 46 = .ok (.ifCond .lt 26, 3) := by decide +kernel
theorem eY_cell_49 : decode mY_cell.2.1 49 = .ok (.aload_n 0, 1) := by decide +kernel
theorem eY_cell_50 : decode mY_cell.2.1 50 = .ok (.getfield 16, 3) := by decide +kernel
theorem eY_cell_53 : decode mY_cell.2.1 53 = .ok (.iload 4, 2) := by decide +kernel
theorem eY_cell_55 : decode mY_cell.2.1 55 = .ok (.ifCond .ge 7, 3) := by decide +kernel
theorem eY_cell_58 : decode mY_cell.2.1 58 = .ok (.iconst 0, 1) := by decide +kernel
theorem eY_cell_59 : decode mY_cell.2.1 59 = .ok (.goto 5, 3) := by decide +kernel
theorem eY_cell_62 : decode mY_cell.2.1 62 = .ok (.iload 4, 2) := by decide +kernel
theorem eY_cell_64 : decode mY_cell.2.1 64 = .ok (.iaload, 1) := by decide +kernel
theorem eY_cell_65 : decode mY_cell.2.1 65 = .ok (.ifCond .le 7, 3) := by decide +kernel
theorem eY_cell_68 : decode mY_cell.2.1 68 = .ok (.iconst 1, 1) := by decide +kernel
theorem eY_cell_69 : decode mY_cell.2.1 69 = .ok (.goto 4, 3) := by decide +kernel
theorem eY_cell_72 : decode mY_cell.2.1 72 = .ok (.iconst 0, 1) := by decide +kernel
theorem eY_cell_73 : decode mY_cell.2.1 73 = .ok (.istore 5, 2) := by decide +kernel
theorem eY_cell_75 : decode mY_cell.2.1 75 = .ok (.aload_n 0, 1) := by decide +kernel
theorem eY_cell_76 : decode mY_cell.2.1 76 = .ok (.iload_n 3, 1) := by decide +kernel
theorem eY_cell_77 : decode mY_cell.2.1 77 = .ok (.ifCond .ne 7, 3) := by decide +kernel
theorem eY_cell_80 : decode mY_cell.2.1 80 = .ok (.iconst 1, 1) := by decide +kernel
theorem eY_cell_81 : decode mY_cell.2.1 81 = .ok (.goto 4, 3) := by decide +kernel
theorem eY_cell_84 : decode mY_cell.2.1 84 = .ok (.iconst 0, 1) := by decide +kernel
theorem eY_cell_85 : decode mY_cell.2.1 85 = .ok (.iload 5, 2) := by decide +kernel
theorem eY_cell_87 : decode mY_cell.2.1 87 = .ok (.ifCond .ne 7, 3) := by decide +kernel
theorem eY_cell_90 : decode mY_cell.2.1 90 = .ok (.iconst 1, 1) := by decide +kernel
theorem eY_cell_91 : decode mY_cell.2.1 91 = .ok (.goto 4, 3) := by decide +kernel
theorem eY_cell_94 : decode mY_cell.2.1 94 = .ok (.iconst 0, 1) := by decide +kernel
theorem eY_cell_95 : decode mY_cell.2.1 95 = .ok (.iconst 0, 1) := by decide +kernel
theorem eY_cell_96 : decode mY_cell.2.1 96 = .ok (.invokevirtual 46, 3) := by decide +kernel
theorem eY_cell_99 : decode mY_cell.2.1 99 = .ok (.pop, 1) := by decide +kernel
theorem eY_cell_100 : decode mY_cell.2.1 100 = .ok (.iload 5, 2) := by decide +kernel
theorem eY_cell_102 : decode mY_cell.2.1 102 = .ok (.ifCond .eq 16, 3) := by decide +kernel
theorem eY_cell_105 : decode mY_cell.2.1 105 = .ok (.bipush 16, 2) := by decide +kernel
theorem eY_cell_107 : decode mY_cell.2.1 107 = .ok (.iload 4, 2) := by decide +kernel
theorem eY_cell_109 : decode mY_cell.2.1 109 = .ok (.imul, 1) := by decide +kernel
theorem eY_cell_110 : decode mY_cell.2.1 110 = .ok (.iload_n 2, 1) := by decide +kernel
theorem eY_cell_111 : decode mY_cell.2.1 111 = .ok (.bipush 16, 2) := by decide +kernel
theorem eY_cell_113 : decode mY_cell.2.1 113 = .ok (.irem, 1) := by decide +kernel
theorem eY_cell_114 : decode mY_cell.2.1 114 = .ok (.iadd, 1) := by decide +kernel
theorem eY_cell_115 : decode mY_cell.2.1 115 = .ok (.goto 4, 3) := by decide +kernel
theorem eY_cell_118 : decode mY_cell.2.1 118 = .ok (.iconst (-1), 1) := by decide +kernel
theorem eY_cell_119 : decode mY_cell.2.1 119 = .ok (.ireturn, 1) := by decide +kernel
theorem eY_read_0 : decode mY_read.2.1 0 = .ok (.aload_n 0, 1) := by decide +kernel
theorem eY_read_1 : decode mY_read.2.1 1 = .ok (.iload_n 1, 1) := by decide +kernel
theorem eY_read_2 : decode mY_read.2.1 2 = .ok (.iload_n 2, 1) := by decide +kernel
theorem eY_read_3 : decode mY_read.2.1 3 = .ok (.invokevirtual 66, 3) := by decide +kernel
theorem eY_read_6 : decode mY_read.2.1 6 = .ok (.istore_n 3, 1) := by decide +kernel
theorem eY_read_7 : decode mY_read.2.1 7 = .ok (.iload_n 3, 1) := by decide +kernel
theorem eY_read_8 : decode mY_read.2.1 8 = .ok (.ifCond .ge 7, 3) := by decide +kernel
theorem eY_read_11 : decode mY_read.2.1 11 = .ok (.iconst 0, 1) := by decide +kernel
theorem eY_read_12 : decode mY_read.2.1 12 = .ok (.goto 9, 3) := by decide +kernel
theorem eY_read_15 : decode mY_read.2.1 15 = .ok (.aload_n 0, 1) := by decide +kernel
theorem eY_read_16 : decode mY_read.2.1 16 = .ok (.getfield 20, 3) := by decide +kernel
theorem eY_read_19 : decode mY_read.2.1 19 = .ok (.iload_n 3, 1) := by decide +kernel
theorem eY_read_20 : decode mY_read.2.1 20 = .ok (.iaload, 1) := by decide +kernel
theorem eY_read_21 : decode mY_read.2.1 21 = .ok (.ireturn, 1) := by decide +kernel
theorem eY_write_0 : decode mY_write.2.1 0 = .ok (.aload_n 0, 1) := by decide +kernel
theorem eY_write_1 : decode mY_write.2.1 1 = .ok (.iload_n 1, 1) := by decide +kernel
theorem eY_write_2 : decode mY_write.2.1 2 = .ok (.iload_n 2, 1) := by decide +kernel
theorem eY_write_3 : decode mY_write.2.1 3 = .ok (.invokevirtual 66, 3) := by decide +kernel
theorem eY_write_6 : decode mY_write.2.1 6 = .ok (.istore 4, 2) := by decide +kernel
theorem eY_write_8 : decode mY_write.2.1 8 = .ok (.iload 4, 2) := by decide +kernel
theorem eY_write_10 : decode mY_write.2.1 10 = .ok (.ifCond .ge 5, 3) := by decide +kernel
theorem eY_write_13 : decode mY_write.2.1 13 = .ok (.iconst 0, 1) := by decide +kernel
theorem eY_write_14 : decode mY_write.2.1 14 = .ok (.ireturn, 1) := by decide +kernel
theorem eY_write_15 : decode mY_write.2.1 15 = .ok (.iload 4, 2) := by decide +kernel
theorem eY_write_17 : decode mY_write.2.1 17 = .ok (.bipush 16, 2) := by decide +kernel
theorem eY_write_19 : decode mY_write.2.1 19 = .ok (.idiv, 1) := by decide +kernel
theorem eY_write_20 : decode mY_write.2.1 20 = .ok (.istore 5, 2) := by decide +kernel
theorem eY_write_22 : decode mY_write.2.1 22 = .ok (.aload_n 0, 1) := by decide +kernel
theorem eY_write_23 : decode mY_write.2.1 23 = .ok (.aload_n 0, 1) := by decide +kernel
theorem eY_write_24 : decode mY_write.2.1 24 = .ok (.getfield 16, 3) := by decide +kernel
theorem eY_write_27 : decode mY_write.2.1 27 = .ok (.iload 5, 2) := by decide +kernel
theorem eY_write_29 : decode mY_write.2.1 29 = .ok (.iaload, 1) := by decide +kernel
theorem eY_write_30 : decode mY_write.2.1 30 = .ok (.invokevirtual 70, 3) := by decide +kernel
theorem eY_write_33 : decode mY_write.2.1 33 = .ok (.iconst 1, 1) := by decide +kernel
theorem eY_write_34 : decode mY_write.2.1 34 = .ok (.if_icmp .le 7, 3) := by decide +kernel
theorem eY_write_37 : decode mY_write.2.1 37 = .ok (.iconst 1, 1) := by decide +kernel
theorem eY_write_38 : decode mY_write.2.1 38 = .ok (.goto 4, 3) := by decide +kernel
theorem eY_write_41 : decode mY_write.2.1 41 = .ok (.iconst 0, 1) := by decide +kernel
theorem eY_write_42 : decode mY_write.2.1 42 = .ok (.istore 6, 2) := by decide +kernel
theorem eY_write_44 : decode mY_write.2.1 44 = .ok (.aload_n 0, 1) := by decide +kernel
theorem eY_write_45 : decode mY_write.2.1 45 = .ok (.iconst 0, 1) := by decide +kernel
theorem eY_write_46 : decode mY_write.2.1 46 = .ok (.iconst 0, 1) := by decide +kernel
theorem eY_write_47 : decode mY_write.2.1 47 = .ok (.iload 6, 2) := by decide +kernel
theorem eY_write_49 : decode mY_write.2.1 49 = .ok (.ifCond .eq 18, 3) := by decide +kernel
theorem eY_write_52 : decode mY_write.2.1 52 = .ok (.aload_n 0, 1) := by decide +kernel
theorem eY_write_53 : decode mY_write.2.1 53 = .ok (.invokevirtual 60, 3) := by decide +kernel
theorem eY_write_56 : decode mY_write.2.1 56 = .ok (.aload_n 0, 1) := by decide +kernel
theorem eY_write_57 : decode mY_write.2.1 57 = .ok (.getfield 23, 3) := by decide +kernel
theorem eY_write_60 : decode mY_write.2.1 60 = .ok (.if_icmp .ne 7, 3) := by decide +kernel
theorem eY_write_63 : decode mY_write.2.1 63 = .ok (.iconst 1, 1) := by decide +kernel
theorem eY_write_64 : decode mY_write.2.1 64 = .ok (.goto 4, 3) := by decide +kernel
theorem eY_write_67 : decode mY_write.2.1 67 = .ok (.iconst 0, 1) := by decide +kernel
theorem eY_write_68 : decode mY_write.2.1 68 = .ok (.invokevirtual 46, 3) := by decide +kernel
theorem eY_write_71 : decode mY_write.2.1 71 = .ok (.ifCond .eq 5, 3) := by decide +kernel
theorem eY_write_74 : decode mY_write.2.1 74 = .ok (.iconst 0, 1) := by decide +kernel
theorem eY_write_75 : decode mY_write.2.1 75 = .ok (.ireturn, 1) := by decide +kernel
theorem eY_write_76 : decode mY_write.2.1 76 = .ok (.iload 6, 2) := by decide +kernel
theorem eY_write_78 : decode mY_write.2.1 78 = .ok (.ifCond .eq 24, 3) := by decide +kernel
theorem eY_write_81 : decode mY_write.2.1 81 = .ok (.aload_n 0, 1) := by decide +kernel
theorem eY_write_82 : decode mY_write.2.1 82 = .ok (.dup, 1) := by decide +kernel
theorem eY_write_83 : decode mY_write.2.1 83 = .ok (.getfield 63, 3) := by decide +kernel
theorem eY_write_86 : decode mY_write.2.1 86 = .ok (.iconst 1, 1) := by decide +kernel
theorem eY_write_87 : decode mY_write.2.1 87 = .ok (.iadd, 1) := by decide +kernel
theorem eY_write_88 : decode mY_write.2.1 88 = .ok (.putfield 63, 3) := by decide +kernel
theorem eY_write_91 : decode mY_write.2.1 91 = .ok (.aload_n 0, 1) := by decide +kernel
theorem eY_write_92 : decode mY_write.2.1 92 = .ok (.getfield 16, 3) := by decide +kernel
theorem eY_write_95 : decode mY_write.2.1 95 = .ok (.iload 5, 2) := by decide +kernel
theorem eY_write_97 : decode mY_write.2.1 97 = .ok (.aload_n 0, 1) := by decide +kernel
theorem eY_write_98 : decode mY_write.2.1 98 = .ok (.getfield 63, 3) := by decide +kernel
theorem eY_write_101 : decode mY_write.2.1 101 = .ok (.iastore, 1) := by decide +kernel
theorem eY_write_102 : decode mY_write.2.1 102 = .ok (.aload_n 0, 1) := by decide +kernel
theorem eY_write_103 : decode mY_write.2.1 103 = .ok (.getfield 20, 3) := by decide +kernel
theorem eY_write_106 : decode mY_write.2.1 106 = .ok (.iload 4, 2) := by decide +kernel
theorem eY_write_108 : decode mY_write.2.1 108 = .ok (.iaload, 1) := by decide +kernel
theorem eY_write_109 : decode mY_write.2.1 109 = .ok (.istore 7, 2) := by decide +kernel
theorem eY_write_111 : decode mY_write.2.1 111 = .ok (.aload_n 0, 1) := by decide +kernel
theorem eY_write_112 : decode mY_write.2.1 112 = .ok (.getfield 20, 3) := by decide +kernel
theorem eY_write_115 : decode mY_write.2.1 115 = .ok (.iload 4, 2) := by decide +kernel
theorem eY_write_117 : decode mY_write.2.1 117 = .ok (.iload_n 3, 1) := by decide +kernel
theorem eY_write_118 : decode mY_write.2.1 118 = .ok (.iastore, 1) := by decide +kernel
theorem eY_write_119 : decode mY_write.2.1 119 = .ok (.iload 7, 2) := by decide +kernel
theorem eY_write_121 : decode mY_write.2.1 121 = .ok (.ireturn, 1) := by decide +kernel
theorem eY_areFaulty_0 : decode mY_areFaulty.2.1 0 = .ok (.aload_n 0, 1) := by decide +kernel
theorem eY_areFaulty_1 : decode mY_areFaulty.2.1 1 = .ok (.aload_n 0, 1) := by decide +kernel
theorem eY_areFaulty_2 : decode mY_areFaulty.2.1 2 = .ok (.iload_n 1, 1) := by decide +kernel
theorem eY_areFaulty_3 : decode mY_areFaulty.2.1 3 = .ok (.invokevirtual 42, 3) := by decide +kernel
theorem eY_areFaulty_6 : decode mY_areFaulty.2.1 6 = .ok (.ifCond .eq 11, 3) := by decide +kernel
theorem eY_areFaulty_9 : decode mY_areFaulty.2.1 9 = .ok (.aload_n 0, 1) := by decide +kernel
theorem eY_areFaulty_10 : decode mY_areFaulty.2.1 10 = .ok (.iload_n 3, 1) := by decide +kernel
theorem eY_areFaulty_11 : decode mY_areFaulty.2.1 11 = .ok (.invokevirtual 42, 3) := by decide +kernel
theorem eY_areFaulty_14 : decode mY_areFaulty.2.1 14 = .ok (.ifCond .ne 7, 3) := by decide +kernel
theorem eY_areFaulty_17 : decode mY_areFaulty.2.1 17 = .ok (.iconst 1, 1) := by decide +kernel
theorem eY_areFaulty_18 : decode mY_areFaulty.2.1 18 = .ok (.goto 4, 3) := by decide +kernel
theorem eY_areFaulty_21 : decode mY_areFaulty.2.1 21 = .ok (.iconst 0, 1) := by decide +kernel
theorem eY_areFaulty_22 : decode mY_areFaulty.2.1 22 = .ok (.iload_n 2, 1) := by decide +kernel
theorem eY_areFaulty_23 : decode mY_areFaulty.2.1 23 = .ok (.invokestatic 57, 3) := by decide +kernel
theorem eY_areFaulty_26 : decode mY_areFaulty.2.1 26 = .ok (.ifCond .eq 11, 3) := by decide +kernel
theorem eY_areFaulty_29 : decode mY_areFaulty.2.1 29 = .ok (.iload 4, 2) := by decide +kernel
theorem eY_areFaulty_31 : decode mY_areFaulty.2.1 31 = .ok (.invokestatic 57, 3) := by decide +kernel
theorem eY_areFaulty_34 : decode mY_areFaulty.2.1 34 = .ok (.ifCond .ne 7, 3) := by decide +kernel
theorem eY_areFaulty_37 : decode mY_areFaulty.2.1 37 = .ok (.iconst 1, 1) := by decide +kernel
theorem eY_areFaulty_38 : decode mY_areFaulty.2.1 38 = .ok (.goto 4, 3) := by decide +kernel
theorem eY_areFaulty_41 : decode mY_areFaulty.2.1 41 = .ok (.iconst 0, 1) := by decide +kernel
theorem eY_areFaulty_42 : decode mY_areFaulty.2.1 42 = .ok (.iconst 0, 1) := by decide +kernel
theorem eY_areFaulty_43 : decode mY_areFaulty.2.1 43 = .ok (.invokevirtual 46, 3) := by decide +kernel
theorem eY_areFaulty_46 : decode mY_areFaulty.2.1 46 = .ok (.ireturn, 1) := by decide +kernel
theorem eY_lend_0 : decode mY_lend.2.1 0 = .ok (.aload_n 0, 1) := by decide +kernel
theorem eY_lend_1 : decode mY_lend.2.1 1 = .ok (.iload_n 1, 1) := by decide +kernel
theorem eY_lend_2 : decode mY_lend.2.1 2 = .ok (.iload_n 2, 1) := by decide +kernel
theorem eY_lend_3 : decode mY_lend.2.1 3 = .ok (.iload_n 3, 1) := by decide +kernel
theorem eY_lend_4 : decode mY_lend.2.1 4 = .ok (.iload 4, 2) := by decide +kernel
theorem eY_lend_6 : decode mY_lend.2.1 6 = .ok (.invokevirtual 73, 3) := by decide +kernel
theorem eY_lend_9 : decode mY_lend.2.1 9 = .ok (.ifCond .eq 5, 3) := by decide +kernel
theorem eY_lend_12 : decode mY_lend.2.1 12 = .ok (.iconst 0, 1) := by decide +kernel
theorem eY_lend_13 : decode mY_lend.2.1 13 = .ok (.ireturn, 1) := by decide +kernel
theorem eY_lend_14 : decode mY_lend.2.1 14 = .ok (.iconst 0, 1) := by decide +kernel
theorem eY_lend_15 : decode mY_lend.2.1 15 = .ok (.iload_n 3, 1) := by decide +kernel
theorem eY_lend_16 : decode mY_lend.2.1 16 = .ok (.iload 4, 2) := by decide +kernel
theorem eY_lend_18 : decode mY_lend.2.1 18 = .ok (.invokestatic 34, 3) := by decide +kernel
theorem eY_lend_21 : decode mY_lend.2.1 21 = .ok (.istore 5, 2) := by decide +kernel
theorem eY_lend_23 : decode mY_lend.2.1 23 = .ok (.aload_n 0, 1) := by decide +kernel
theorem eY_lend_24 : decode mY_lend.2.1 24 = .ok (.getfield 16, 3) := by decide +kernel
theorem eY_lend_27 : decode mY_lend.2.1 27 = .ok (.iload 5, 2) := by decide +kernel
theorem eY_lend_29 : decode mY_lend.2.1 29 = .ok (.iaload, 1) := by decide +kernel
theorem eY_lend_30 : decode mY_lend.2.1 30 = .ok (.istore 6, 2) := by decide +kernel
theorem eY_lend_32 : decode mY_lend.2.1 32 = .ok (.aload_n 0, 1) := by decide +kernel
theorem eY_lend_33 : decode mY_lend.2.1 33 = .ok (.iconst 0, 1) := by decide +kernel
theorem eY_lend_34 : decode mY_lend.2.1 34 = .ok (.iload_n 1, 1) := by decide +kernel
theorem eY_lend_35 : decode mY_lend.2.1 35 = .ok (.iload_n 2, 1) := by decide +kernel
theorem eY_lend_36 : decode mY_lend.2.1 36 = .ok (.invokestatic 34, 3) := by decide +kernel
theorem eY_lend_39 : decode mY_lend.2.1 39 = .ok (.iload 5, 2) := by decide +kernel
theorem eY_lend_41 : decode mY_lend.2.1 41 = .ok (.invokevirtual 30, 3) := by decide +kernel
theorem eY_lend_44 : decode mY_lend.2.1 44 = .ok (.aload_n 0, 1) := by decide +kernel
theorem eY_lend_45 : decode mY_lend.2.1 45 = .ok (.getfield 16, 3) := by decide +kernel
theorem eY_lend_48 : decode mY_lend.2.1 48 = .ok (.iload 5, 2) := by decide +kernel
theorem eY_lend_50 : decode mY_lend.2.1 50 = .ok (.iaload, 1) := by decide +kernel
theorem eY_lend_51 : decode mY_lend.2.1 51 = .ok (.iload 6, 2) := by decide +kernel
theorem eY_lend_53 : decode mY_lend.2.1 53 = .ok (.if_icmp .eq 7, 3) := by decide +kernel
theorem eY_lend_56 : decode mY_lend.2.1 56 = .ok (.iconst 1, 1) := by decide +kernel
theorem eY_lend_57 : decode mY_lend.2.1 57 = .ok (.goto 4, 3) := by decide +kernel
theorem eY_lend_60 : decode mY_lend.2.1 60 = .ok (.iconst 0, 1) := by decide +kernel
theorem eY_lend_61 : decode mY_lend.2.1 61 = .ok (.ireturn, 1) := by decide +kernel
theorem eY_join_0 : decode mY_join.2.1 0 = .ok (.aload_n 0, 1) := by decide +kernel
theorem eY_join_1 : decode mY_join.2.1 1 = .ok (.iload_n 1, 1) := by decide +kernel
theorem eY_join_2 : decode mY_join.2.1 2 = .ok (.iload_n 2, 1) := by decide +kernel
theorem eY_join_3 : decode mY_join.2.1 3 = .ok (.iload_n 3, 1) := by decide +kernel
theorem eY_join_4 : decode mY_join.2.1 4 = .ok (.iload 4, 2) := by decide +kernel
theorem eY_join_6 : decode mY_join.2.1 6 = .ok (.invokevirtual 73, 3) := by decide +kernel
theorem eY_join_9 : decode mY_join.2.1 9 = .ok (.ifCond .eq 5, 3) := by decide +kernel
theorem eY_join_12 : decode mY_join.2.1 12 = .ok (.iconst 0, 1) := by decide +kernel
theorem eY_join_13 : decode mY_join.2.1 13 = .ok (.ireturn, 1) := by decide +kernel
theorem eY_join_14 : decode mY_join.2.1 14 = .ok (.iconst 0, 1) := by decide +kernel
theorem eY_join_15 : decode mY_join.2.1 15 = .ok (.iload_n 1, 1) := by decide +kernel
theorem eY_join_16 : decode mY_join.2.1 16 = .ok (.iload_n 2, 1) := by decide +kernel
theorem eY_join_17 : decode mY_join.2.1 17 = .ok (.invokestatic 34, 3) := by decide +kernel
theorem eY_join_20 : decode mY_join.2.1 20 = .ok (.istore 5, 2) := by decide +kernel
theorem eY_join_22 : decode mY_join.2.1 22 = .ok (.iconst 0, 1) := by decide +kernel
theorem eY_join_23 : decode mY_join.2.1 23 = .ok (.iload_n 3, 1) := by decide +kernel
theorem eY_join_24 : decode mY_join.2.1 24 = .ok (.iload 4, 2) := by decide +kernel
theorem eY_join_26 : decode mY_join.2.1 26 = .ok (.invokestatic 34, 3) := by decide +kernel
theorem eY_join_29 : decode mY_join.2.1 29 = .ok (.istore 6, 2) := by decide +kernel
theorem eY_join_31 : decode mY_join.2.1 31 = .ok (.aload_n 0, 1) := by decide +kernel
theorem eY_join_32 : decode mY_join.2.1 32 = .ok (.getfield 16, 3) := by decide +kernel
theorem eY_join_35 : decode mY_join.2.1 35 = .ok (.iload 6, 2) := by decide +kernel
theorem eY_join_37 : decode mY_join.2.1 37 = .ok (.iaload, 1) := by decide +kernel
theorem eY_join_38 : decode mY_join.2.1 38 = .ok (.istore 7, 2) := by decide +kernel
theorem eY_join_40 : decode mY_join.2.1 40 = .ok (.aload_n 0, 1) := by decide +kernel
theorem eY_join_41 : decode mY_join.2.1 41 = .ok (.getfield 16, 3) := by decide +kernel
theorem eY_join_44 : decode mY_join.2.1 44 = .ok (.iload 5, 2) := by decide +kernel
theorem eY_join_46 : decode mY_join.2.1 46 = .ok (.iaload, 1) := by decide +kernel
theorem eY_join_47 : decode mY_join.2.1 47 = .ok (.ifCond .le 24, 3) := by decide +kernel
theorem eY_join_50 : decode mY_join.2.1 50 = .ok (.iload 7, 2) := by decide +kernel
theorem eY_join_52 : decode mY_join.2.1 52 = .ok (.ifCond .le 19, 3) := by decide +kernel
theorem eY_join_55 : decode mY_join.2.1 55 = .ok (.aload_n 0, 1) := by decide +kernel
theorem eY_join_56 : decode mY_join.2.1 56 = .ok (.getfield 16, 3) := by decide +kernel
theorem eY_join_59 : decode mY_join.2.1 59 = .ok (.iload 5, 2) := by decide +kernel
theorem eY_join_61 : decode mY_join.2.1 61 = .ok (.iaload, 1) := by decide +kernel
theorem eY_join_62 : decode mY_join.2.1 62 = .ok (.iload 7, 2) := by decide +kernel
theorem eY_join_64 : decode mY_join.2.1 64 = .ok (.if_icmp .eq 7, 3) := by decide +kernel
theorem eY_join_67 : decode mY_join.2.1 67 = .ok (.iconst 1, 1) := by decide +kernel
theorem eY_join_68 : decode mY_join.2.1 68 = .ok (.goto 4, 3) := by decide +kernel
theorem eY_join_71 : decode mY_join.2.1 71 = .ok (.iconst 0, 1) := by decide +kernel
theorem eY_join_72 : decode mY_join.2.1 72 = .ok (.istore 8, 2) := by decide +kernel
theorem eY_join_74 : decode mY_join.2.1 74 = .ok (.iconst 0, 1) := by decide +kernel
theorem eY_join_75 : decode mY_join.2.1 75 = .ok (.istore 9, 2) := by decide +kernel
theorem eY_join_77 : decode mY_join.2.1 77 = .ok (.iload 9, 2) := by decide +kernel
theorem eY_join_79 : decode mY_join.2.1 79 = .ok (.bipush 16, 2) := by decide +kernel
theorem eY_join_81 : decode mY_join.2.1 81 = .ok (.if_icmp .ge 50, 3) := by decide +kernel
theorem eY_join_84 : decode mY_join.2.1 84 = .ok (.iload 8, 2) := by decide +kernel
theorem eY_join_86 : decode mY_join.2.1 86 = .ok (.ifCond .eq 36, 3) := by decide +kernel
theorem eY_join_89 : decode mY_join.2.1 89 = .ok (.aload_n 0, 1) := by decide +kernel
theorem eY_join_90 : decode mY_join.2.1 90 = .ok (.getfield 20, 3) := by decide +kernel
theorem eY_join_93 : decode mY_join.2.1 93 = .ok (.bipush 16, 2) := by decide +kernel
theorem eY_join_95 : decode mY_join.2.1 95 = .ok (.iload 5, 2) := by decide +kernel
theorem eY_join_97 : decode mY_join.2.1 97 = .ok (.imul, 1) := by decide +kernel
theorem eY_join_98 : decode mY_join.2.1 98 = .ok (.iload 9, 2) := by decide +kernel
theorem eY_join_100 : decode mY_join.2.1 100 = .ok (.iadd, 1) := by decide +kernel
theorem eY_join_101 : decode mY_join.2.1 101 = .ok (.iaload, 1) := by decide +kernel
theorem eY_join_102 : decode mY_join.2.1 102 = .ok (.aload_n 0, 1) := by decide +kernel
theorem eY_join_103 : decode mY_join.2.1 103 = .ok (.getfield 20, 3) := by decide +kernel
theorem eY_join_106 : decode mY_join.2.1 106 = .ok (.bipush 16, 2) := by decide +kernel
theorem eY_join_108 : decode mY_join.2.1 108 = .ok (.iload 6, 2) := by decide +kernel
theorem eY_join_110 : decode mY_join.2.1 110 = .ok (.imul, 1) := by decide +kernel
theorem eY_join_111 : decode mY_join.2.1 111 = .ok (.iload 9, 2) := by decide +kernel
theorem eY_join_113 : decode mY_join.2.1 113 = .ok (.iadd, 1) := by decide +kernel
theorem eY_join_114 : decode mY_join.2.1 114 = .ok (.iaload, 1) := by decide +kernel
theorem eY_join_115 : decode mY_join.2.1 115 = .ok (.if_icmp .ne 7, 3) := by decide +kernel
theorem eY_join_118 : decode mY_join.2.1 118 = .ok (.iconst 1, 1) := by decide +kernel
theorem eY_join_119 : decode mY_join.2.1 119 = .ok (.goto 4, 3) := by decide +kernel
theorem eY_join_122 : decode mY_join.2.1 122 = .ok (.iconst 0, 1) := by decide +kernel
theorem eY_join_123 : decode mY_join.2.1 123 = .ok (.istore 8, 2) := by decide +kernel
theorem eY_join_125 : decode mY_join.2.1 125 = .ok (.iinc 9 1, 3) := by decide +kernel
theorem eY_join_128 : decode mY_join.2.1 128 = .ok (.goto (-51), 3) := by decide +kernel
theorem eY_join_131 : decode mY_join.2.1 131 = .ok (.iconst 0, 1) := by decide +kernel
theorem eY_join_132 : decode mY_join.2.1 132 = .ok (.istore 9, 2) := by decide +kernel
theorem eY_join_134 : decode mY_join.2.1 134 = .ok (.iconst 0, 1) := by decide +kernel
theorem eY_join_135 : decode mY_join.2.1 135 = .ok (.istore 10, 2) := by decide +kernel
theorem eY_join_137 : decode mY_join.2.1 137 = .ok (.iload 10, 2) := by decide +kernel
theorem eY_join_139 : decode mY_join.2.1 139 = .ok (.sipush 432, 3) := by decide +kernel
theorem eY_join_142 : decode mY_join.2.1 142 = .ok (.if_icmp .ge 73, 3) := by decide +kernel
theorem eY_join_145 : decode mY_join.2.1 145 = .ok (.iload 8, 2) := by decide +kernel
theorem eY_join_147 : decode mY_join.2.1 147 = .ok (.ifCond .eq 68, 3) := by decide +kernel
theorem eY_join_150 : decode mY_join.2.1 150 = .ok (.aload_n 0, 1) := by decide +kernel
theorem eY_join_151 : decode mY_join.2.1 151 = .ok (.getfield 16, 3) := by decide +kernel
theorem eY_join_154 : decode mY_join.2.1 154 = .ok (.iload 10, 2) := by decide +kernel
theorem eY_join_156 : decode mY_join.2.1 156 = .ok (.iaload, 1) := by decide +kernel
theorem eY_join_157 : decode mY_join.2.1 157 = .ok (.iload 7, 2) := by decide +kernel
theorem eY_join_159 : decode mY_join.2.1 159 = .ok (.if_icmp .ne 10, 3) := by decide +kernel
theorem eY_join_162 : decode mY_join.2.1 162 = .ok (.iload 9, 2) := by decide +kernel
theorem eY_join_164 : decode mY_join.2.1 164 = .ok (.iconst 1, 1) := by decide +kernel
theorem eY_join_165 : decode mY_join.2.1 165 = .ok (.iadd, 1) := by decide +kernel
theorem eY_join_166 : decode mY_join.2.1 166 = .ok (.goto 5, 3) := by decide +kernel
theorem eY_join_169 : decode mY_join.2.1 169 = .ok (.iload 9, 2) := by decide +kernel
theorem eY_join_171 : decode mY_join.2.1 171 = .ok (.istore 9, 2) := by decide +kernel
theorem eY_join_173 : decode mY_join.2.1 173 = .ok (.aload_n 0, 1) := by decide +kernel
theorem eY_join_174 : decode mY_join.2.1 174 = .ok (.getfield 16, 3) := by decide +kernel
theorem eY_join_177 : decode mY_join.2.1 177 = .ok (.iload 10, 2) := by decide +kernel
theorem eY_join_179 : decode mY_join.2.1 179 = .ok (.aload_n 0, 1) := by decide +kernel
theorem eY_join_180 : decode mY_join.2.1 180 = .ok (.getfield 16, 3) := by decide +kernel
theorem eY_join_183 : decode mY_join.2.1 183 = .ok (.iload 10, 2) := by decide +kernel
theorem eY_join_185 : decode mY_join.2.1 185 = .ok (.iaload, 1) := by decide +kernel
theorem eY_join_186 : decode mY_join.2.1 186 = .ok (.iload 7, 2) := by decide +kernel
theorem eY_join_188 : decode mY_join.2.1 188 = .ok (.if_icmp .ne 13, 3) := by decide +kernel
theorem eY_join_191 : decode mY_join.2.1 191 = .ok (.aload_n 0, 1) := by decide +kernel
theorem eY_join_192 : decode mY_join.2.1 192 = .ok (.getfield 16, 3) := by decide +kernel
theorem eY_join_195 : decode mY_join.2.1 195 = .ok (.iload 5, 2) := by decide +kernel
theorem eY_join_197 : decode mY_join.2.1 197 = .ok (.iaload, 1) := by decide +kernel
theorem eY_join_198 : decode mY_join.2.1 198 = .ok (.goto 10, 3) := by decide +kernel
theorem eY_join_201 : decode mY_join.2.1 201 = .ok (.aload_n 0, 1) := by decide +kernel
theorem eY_join_202 : decode mY_join.2.1 202 = .ok (.getfield 16, 3) := by decide +kernel
theorem eY_join_205 : decode mY_join.2.1 205 = .ok (.iload 10, 2) := by decide +kernel
theorem eY_join_207 : decode mY_join.2.1 207 = .ok (.iaload, 1) := by decide +kernel
theorem eY_join_208 : decode mY_join.2.1 208 = .ok (.iastore, 1) := by decide +kernel
theorem eY_join_209 : decode mY_join.2.1 209 = .ok (.iinc 10 1, 3) := by decide +kernel
theorem eY_join_212 : decode mY_join.2.1 212 = .ok (.goto (-75), 3) := by decide +kernel
theorem eY_join_215 : decode mY_join.2.1 215 = .ok (.iload 9, 2) := by decide +kernel
theorem eY_join_217 : decode mY_join.2.1 217 = .ok (.ireturn, 1) := by decide +kernel
theorem eY_take_0 : decode mY_take.2.1 0 = .ok (.aload_n 0, 1) := by decide +kernel
theorem eY_take_1 : decode mY_take.2.1 1 = .ok (.iconst 0, 1) := by decide +kernel
theorem eY_take_2 : decode mY_take.2.1 2 = .ok (.putfield 27, 3) := by decide +kernel
theorem eY_take_5 : decode mY_take.2.1 5 = .ok (.iconst 0, 1) := by decide +kernel
theorem eY_take_6 : decode mY_take.2.1 6 = .ok (.istore_n 1, 1) := by decide +kernel
theorem eY_take_7 : decode mY_take.2.1 7 = .ok (.iload_n 1, 1) := by decide +kernel
theorem eY_take_8 : decode mY_take.2.1 8 = .ok (.bipush 8, 2) := by decide +kernel
theorem eY_take_10 : decode mY_take.2.1 10 = .ok (.if_icmp .ge 20, 3) := by decide +kernel
theorem eY_take_13 : decode mY_take.2.1 13 = .ok (.aload_n 0, 1) := by decide +kernel
theorem eY_take_14 : decode mY_take.2.1 14 = .ok (.getfield 7, 3) := by decide +kernel
theorem eY_take_17 : decode mY_take.2.1 17 = .ok (.iconst 1, 1) := by decide +kernel
theorem eY_take_18 : decode mY_take.2.1 18 = .ok (.iload_n 1, 1) := by decide +kernel
theorem eY_take_19 : decode mY_take.2.1 19 = .ok (.iadd, 1) := by decide +kernel
theorem eY_take_20 : decode mY_take.2.1 20 = .ok (.baload, 1) := by decide +kernel
theorem eY_take_21 : decode mY_take.2.1 21 = .ok (.ifCond .eq 9, 3) := by decide +kernel
theorem eY_take_24 : decode mY_take.2.1 24 = .ok (.iinc 1 1, 3) := by decide +kernel
theorem eY_take_27 : decode mY_take.2.1 27 = .ok (.goto (-20), 3) := by decide +kernel
theorem eY_take_30 : decode mY_take.2.1 30 = .ok (.iload_n 1, 1) := by decide +kernel
theorem eY_take_31 : decode mY_take.2.1 31 = .ok (.bipush 8, 2) := by decide +kernel
theorem eY_take_33 : decode mY_take.2.1 33 = .ok (.if_icmp .ne 5, 3) := by decide +kernel
theorem eY_take_36 : decode mY_take.2.1 36 = .ok (.iconst (-1), 1) := by decide +kernel
theorem eY_take_37 : decode mY_take.2.1 37 = .ok (.ireturn, 1) := by decide +kernel
theorem eY_take_38 : decode mY_take.2.1 38 = .ok (.aload_n 0, 1) := by decide +kernel
theorem eY_take_39 : decode mY_take.2.1 39 = .ok (.getfield 7, 3) := by decide +kernel
theorem eY_take_42 : decode mY_take.2.1 42 = .ok (.iconst 1, 1) := by decide +kernel
theorem eY_take_43 : decode mY_take.2.1 43 = .ok (.iload_n 1, 1) := by decide +kernel
theorem eY_take_44 : decode mY_take.2.1 44 = .ok (.iadd, 1) := by decide +kernel
theorem eY_take_45 : decode mY_take.2.1 45 = .ok (.iconst 1, 1) := by decide +kernel
theorem eY_take_46 : decode mY_take.2.1 46 = .ok (.bastore, 1) := by decide +kernel
theorem eY_take_47 : decode mY_take.2.1 47 = .ok (.aload_n 0, 1) := by decide +kernel
theorem eY_take_48 : decode mY_take.2.1 48 = .ok (.iconst 0, 1) := by decide +kernel
theorem eY_take_49 : decode mY_take.2.1 49 = .ok (.iconst 1, 1) := by decide +kernel
theorem eY_take_50 : decode mY_take.2.1 50 = .ok (.iload_n 1, 1) := by decide +kernel
theorem eY_take_51 : decode mY_take.2.1 51 = .ok (.iadd, 1) := by decide +kernel
theorem eY_take_52 : decode mY_take.2.1 52 = .ok (.invokevirtual 77, 3) := by decide +kernel
theorem eY_take_55 : decode mY_take.2.1 55 = .ok (.iload_n 1, 1) := by decide +kernel
theorem eY_take_56 : decode mY_take.2.1 56 = .ok (.ireturn, 1) := by decide +kernel
theorem eY_isPicture_0 : decode mY_isPicture.2.1 0 = .ok (.iload_n 1, 1) := by decide +kernel
theorem eY_isPicture_1 : decode mY_isPicture.2.1 1 = .ok (.ifCond .lt 24, 3) := by decide +kernel
theorem eY_isPicture_4 : decode mY_isPicture.2.1 4 = .ok (.iload_n 1, 1) := by decide +kernel
theorem eY_isPicture_5 : decode mY_isPicture.2.1 5 = .ok (.bipush 8, 2) := by decide +kernel
theorem eY_isPicture_7 : decode mY_isPicture.2.1 7 = .ok (.if_icmp .ge 18, 3) := by decide +kernel
theorem eY_isPicture_10 : decode mY_isPicture.2.1 10 = .ok (.aload_n 0, 1) := by decide +kernel
theorem eY_isPicture_11 : decode mY_isPicture.2.1 11 = .ok (.getfield 7, 3) := by decide +kernel
theorem eY_isPicture_14 : decode mY_isPicture.2.1 14 = .ok (.iconst 1, 1) := by decide +kernel
theorem eY_isPicture_15 : decode mY_isPicture.2.1 15 = .ok (.iload_n 1, 1) := by decide +kernel
theorem eY_isPicture_16 : decode mY_isPicture.2.1 16 = .ok (.iadd, 1) := by decide +kernel
theorem eY_isPicture_17 : decode mY_isPicture.2.1 17 = .ok (.baload, 1) := by decide +kernel
theorem eY_isPicture_18 : decode mY_isPicture.2.1 18 = .ok (.ifCond .eq 7, 3) := by decide +kernel
theorem eY_isPicture_21 : decode mY_isPicture.2.1 21 = .ok (.iconst 1, 1) := by decide +kernel
theorem eY_isPicture_22 : decode mY_isPicture.2.1 22 = .ok (.goto 4, 3) := by decide +kernel
theorem eY_isPicture_25 : decode mY_isPicture.2.1 25 = .ok (.iconst 0, 1) := by decide +kernel
theorem eY_isPicture_26 : decode mY_isPicture.2.1 26 = .ok (.ireturn, 1) := by decide +kernel
theorem eY_spaces_0 : decode mY_spaces.2.1 0 = .ok (.iconst 0, 1) := by decide +kernel
theorem eY_spaces_1 : decode mY_spaces.2.1 1 = .ok (.istore_n 1, 1) := by decide +kernel
theorem eY_spaces_2 : decode mY_spaces.2.1 2 = .ok (.iconst 0, 1) := by decide +kernel
theorem eY_spaces_3 : decode mY_spaces.2.1 3 = .ok (.istore_n 2, 1) := by decide +kernel
theorem eY_spaces_4 : decode mY_spaces.2.1 4 = .ok (.iload_n 2, 1) := by decide +kernel
theorem eY_spaces_5 : decode mY_spaces.2.1 5 = .ok (.bipush 6, 2) := by decide +kernel
theorem eY_spaces_7 : decode mY_spaces.2.1 7 = .ok (.if_icmp .ge 26, 3) := by decide +kernel
theorem eY_spaces_10 : decode mY_spaces.2.1 10 = .ok (.aload_n 0, 1) := by decide +kernel
theorem eY_spaces_11 : decode mY_spaces.2.1 11 = .ok (.getfield 13, 3) := by decide +kernel
theorem eY_spaces_14 : decode mY_spaces.2.1 14 = .ok (.iload_n 2, 1) := by decide +kernel
theorem eY_spaces_15 : decode mY_spaces.2.1 15 = .ok (.baload, 1) := by decide +kernel
theorem eY_spaces_16 : decode mY_spaces.2.1 16 = .ok (.ifCond .eq 9, 3) := by decide +kernel
theorem eY_spaces_19 : decode mY_spaces.2.1 19 = .ok (.iload_n 1, 1) := by decide +kernel
theorem eY_spaces_20 : decode mY_spaces.2.1 20 = .ok (.iconst 1, 1) := by decide +kernel
theorem eY_spaces_21 : decode mY_spaces.2.1 21 = .ok (.iadd, 1) := by decide +kernel
theorem eY_spaces_22 : decode mY_spaces.2.1 22 = .ok (.goto 4, 3) := by decide +kernel
theorem eY_spaces_25 : decode mY_spaces.2.1 25 = .ok (.iload_n 1, 1) := by decide +kernel
theorem eY_spaces_26 : decode mY_spaces.2.1 26 = .ok (.istore_n 1, 1) := by decide +kernel
theorem eY_spaces_27 : decode mY_spaces.2.1 27 = .ok (.iinc 2 1, 3) := by decide +kernel
theorem eY_spaces_30 : decode mY_spaces.2.1 30 = .ok (.goto (-26), 3) := by decide +kernel
theorem eY_spaces_33 : decode mY_spaces.2.1 33 = .ok (.iload_n 1, 1) := by decide +kernel
theorem eY_spaces_34 : decode mY_spaces.2.1 34 = .ok (.ireturn, 1) := by decide +kernel
theorem eY_back_0 : decode mY_back.2.1 0 = .ok (.aload_n 0, 1) := by decide +kernel
theorem eY_back_1 : decode mY_back.2.1 1 = .ok (.aload_n 0, 1) := by decide +kernel
theorem eY_back_2 : decode mY_back.2.1 2 = .ok (.iload_n 1, 1) := by decide +kernel
theorem eY_back_3 : decode mY_back.2.1 3 = .ok (.invokevirtual 80, 3) := by decide +kernel
theorem eY_back_6 : decode mY_back.2.1 6 = .ok (.ifCond .ne 7, 3) := by decide +kernel
theorem eY_back_9 : decode mY_back.2.1 9 = .ok (.iconst 1, 1) := by decide +kernel
theorem eY_back_10 : decode mY_back.2.1 10 = .ok (.goto 4, 3) := by decide +kernel
theorem eY_back_13 : decode mY_back.2.1 13 = .ok (.iconst 0, 1) := by decide +kernel
theorem eY_back_14 : decode mY_back.2.1 14 = .ok (.iconst 0, 1) := by decide +kernel
theorem eY_back_15 : decode mY_back.2.1 15 = .ok (.iconst 0, 1) := by decide +kernel
theorem eY_back_16 : decode mY_back.2.1 16 = .ok (.invokevirtual 46, 3) := by decide +kernel
theorem eY_back_19 : decode mY_back.2.1 19 = .ok (.ifCond .eq 5, 3) := by decide +kernel
theorem eY_back_22 : decode mY_back.2.1 22 = .ok (.iconst 0, 1) := by decide +kernel
theorem eY_back_23 : decode mY_back.2.1 23 = .ok (.ireturn, 1) := by decide +kernel
theorem eY_back_24 : decode mY_back.2.1 24 = .ok (.aload_n 0, 1) := by decide +kernel
theorem eY_back_25 : decode mY_back.2.1 25 = .ok (.iconst 1, 1) := by decide +kernel
theorem eY_back_26 : decode mY_back.2.1 26 = .ok (.iload_n 1, 1) := by decide +kernel
theorem eY_back_27 : decode mY_back.2.1 27 = .ok (.iadd, 1) := by decide +kernel
theorem eY_back_28 : decode mY_back.2.1 28 = .ok (.iconst 0, 1) := by decide +kernel
theorem eY_back_29 : decode mY_back.2.1 29 = .ok (.invokevirtual 77, 3) := by decide +kernel
theorem eY_back_32 : decode mY_back.2.1 32 = .ok (.aload_n 0, 1) := by decide +kernel
theorem eY_back_33 : decode mY_back.2.1 33 = .ok (.invokevirtual 83, 3) := by decide +kernel
theorem eY_back_36 : decode mY_back.2.1 36 = .ok (.ireturn, 1) := by decide +kernel
theorem eY_drop_0 : decode mY_drop.2.1 0 = .ok (.aload_n 0, 1) := by decide +kernel
theorem eY_drop_1 : decode mY_drop.2.1 1 = .ok (.aload_n 0, 1) := by decide +kernel
theorem eY_drop_2 : decode mY_drop.2.1 2 = .ok (.iload_n 1, 1) := by decide +kernel
theorem eY_drop_3 : decode mY_drop.2.1 3 = .ok (.invokevirtual 80, 3) := by decide +kernel
theorem eY_drop_6 : decode mY_drop.2.1 6 = .ok (.ifCond .ne 7, 3) := by decide +kernel
theorem eY_drop_9 : decode mY_drop.2.1 9 = .ok (.iconst 1, 1) := by decide +kernel
theorem eY_drop_10 : decode mY_drop.2.1 10 = .ok (.goto 4, 3) := by decide +kernel
theorem eY_drop_13 : decode mY_drop.2.1 13 = .ok (.iconst 0, 1) := by decide +kernel
theorem eY_drop_14 : decode mY_drop.2.1 14 = .ok (.iconst 0, 1) := by decide +kernel
theorem eY_drop_15 : decode mY_drop.2.1 15 = .ok (.iconst 0, 1) := by decide +kernel
theorem eY_drop_16 : decode mY_drop.2.1 16 = .ok (.invokevirtual 46, 3) := by decide +kernel
theorem eY_drop_19 : decode mY_drop.2.1 19 = .ok (.ifCond .eq 5, 3) := by decide +kernel
theorem eY_drop_22 : decode mY_drop.2.1 22 = .ok (.iconst 0, 1) := by decide +kernel
theorem eY_drop_23 : decode mY_drop.2.1 23 = .ok (.ireturn, 1) := by decide +kernel
theorem eY_drop_24 : decode mY_drop.2.1 24 = .ok (.aload_n 0, 1) := by decide +kernel
theorem eY_drop_25 : decode mY_drop.2.1 25 = .ok (.invokevirtual 60, 3) := by decide +kernel
theorem eY_drop_28 : decode mY_drop.2.1 28 = .ok (.istore_n 2, 1) := by decide +kernel
theorem eY_drop_29 : decode mY_drop.2.1 29 = .ok (.aload_n 0, 1) := by decide +kernel
theorem eY_drop_30 : decode mY_drop.2.1 30 = .ok (.getfield 7, 3) := by decide +kernel
theorem eY_drop_33 : decode mY_drop.2.1 33 = .ok (.iconst 1, 1) := by decide +kernel
theorem eY_drop_34 : decode mY_drop.2.1 34 = .ok (.iload_n 1, 1) := by decide +kernel
theorem eY_drop_35 : decode mY_drop.2.1 35 = .ok (.iadd, 1) := by decide +kernel
theorem eY_drop_36 : decode mY_drop.2.1 36 = .ok (.iconst 0, 1) := by decide +kernel
theorem eY_drop_37 : decode mY_drop.2.1 37 = .ok (.bastore, 1) := by decide +kernel
theorem eY_drop_38 : decode mY_drop.2.1 38 = .ok (.iconst 0, 1) := by decide +kernel
theorem eY_drop_39 : decode mY_drop.2.1 39 = .ok (.istore_n 3, 1) := by decide +kernel
theorem eY_drop_40 : decode mY_drop.2.1 40 = .ok (.iload_n 3, 1) := by decide +kernel
theorem eY_drop_41 : decode mY_drop.2.1 41 = .ok (.bipush 6, 2) := by decide +kernel
theorem eY_drop_43 : decode mY_drop.2.1 43 = .ok (.if_icmp .ge 17, 3) := by decide +kernel
theorem eY_drop_46 : decode mY_drop.2.1 46 = .ok (.aload_n 0, 1) := by decide +kernel
theorem eY_drop_47 : decode mY_drop.2.1 47 = .ok (.iconst 1, 1) := by decide +kernel
theorem eY_drop_48 : decode mY_drop.2.1 48 = .ok (.iload_n 1, 1) := by decide +kernel
theorem eY_drop_49 : decode mY_drop.2.1 49 = .ok (.iadd, 1) := by decide +kernel
theorem eY_drop_50 : decode mY_drop.2.1 50 = .ok (.iload_n 3, 1) := by decide +kernel
theorem eY_drop_51 : decode mY_drop.2.1 51 = .ok (.invokevirtual 54, 3) := by decide +kernel
theorem eY_drop_54 : decode mY_drop.2.1 54 = .ok (.iinc 3 1, 3) := by decide +kernel
theorem eY_drop_57 : decode mY_drop.2.1 57 = .ok (.goto (-17), 3) := by decide +kernel
theorem eY_drop_60 : decode mY_drop.2.1 60 = .ok (.iload_n 2, 1) := by decide +kernel
theorem eY_drop_61 : decode mY_drop.2.1 61 = .ok (.aload_n 0, 1) := by decide +kernel
theorem eY_drop_62 : decode mY_drop.2.1 62 = .ok (.invokevirtual 60, 3) := by decide +kernel
theorem eY_drop_65 : decode mY_drop.2.1 65 = .ok (.isub, 1) := by decide +kernel
theorem eY_drop_66 : decode mY_drop.2.1 66 = .ok (.ireturn, 1) := by decide +kernel
theorem eY_holders_0 : decode mY_holders.2.1 0 = .ok (.aload_n 0, 1) := by decide +kernel
theorem eY_holders_1 : decode mY_holders.2.1 1 = .ok (.aload_n 0, 1) := by decide +kernel
theorem eY_holders_2 : decode mY_holders.2.1 2 = .ok (.iload_n 1, 1) := by decide +kernel
theorem eY_holders_3 : decode mY_holders.2.1 3 = .ok (.invokevirtual 42, 3) := by decide +kernel
theorem eY_holders_6 : decode mY_holders.2.1 6 = .ok (.ifCond .ne 7, 3) := by decide +kernel
theorem eY_holders_9 : decode mY_holders.2.1 9 = .ok (.iconst 1, 1) := by decide +kernel
theorem eY_holders_10 : decode mY_holders.2.1 10 = .ok (.goto 4, 3) := by decide +kernel
theorem eY_holders_13 : decode mY_holders.2.1 13 = .ok (.iconst 0, 1) := by decide +kernel
theorem eY_holders_14 : decode mY_holders.2.1 14 = .ok (.iload_n 2, 1) := by decide +kernel
theorem eY_holders_15 : decode mY_holders.2.1 15 = .ok (.invokestatic 57, 3) := by decide +kernel
theorem eY_holders_18 : decode mY_holders.2.1 18 = .ok (.ifCond .ne 7, 3) := by decide +kernel
theorem eY_holders_21 : decode mY_holders.2.1 21 = .ok (.iconst 1, 1) := by decide +kernel
theorem eY_holders_22 : decode mY_holders.2.1 22 = .ok (.goto 4, 3) := by decide +kernel
theorem eY_holders_25 : decode mY_holders.2.1 25 = .ok (.iconst 0, 1) := by decide +kernel
theorem eY_holders_26 : decode mY_holders.2.1 26 = .ok (.iconst 0, 1) := by decide +kernel
theorem eY_holders_27 : decode mY_holders.2.1 27 = .ok (.invokevirtual 46, 3) := by decide +kernel
theorem eY_holders_30 : decode mY_holders.2.1 30 = .ok (.ifCond .eq 5, 3) := by decide +kernel
theorem eY_holders_33 : decode mY_holders.2.1 33 = .ok (.iconst 0, 1) := by decide +kernel
theorem eY_holders_34 : decode mY_holders.2.1 34 = .ok (.ireturn, 1) := by decide +kernel
theorem eY_holders_35 : decode mY_holders.2.1 35 = .ok (.aload_n 0, 1) := by decide +kernel
theorem eY_holders_36 : decode mY_holders.2.1 36 = .ok (.aload_n 0, 1) := by decide +kernel
theorem eY_holders_37 : decode mY_holders.2.1 37 = .ok (.getfield 16, 3) := by decide +kernel
theorem eY_holders_40 : decode mY_holders.2.1 40 = .ok (.iconst 0, 1) := by decide +kernel
theorem eY_holders_41 : decode mY_holders.2.1 41 = .ok (.iload_n 1, 1) := by decide +kernel
theorem eY_holders_42 : decode mY_holders.2.1 42 = .ok (.iload_n 2, 1) := by decide +kernel
theorem eY_holders_43 : decode mY_holders.2.1 43 = .ok (.invokestatic 34, 3) := by decide +kernel
theorem eY_holders_46 : decode mY_holders.2.1 46 = .ok (.iaload, 1) := by decide +kernel
theorem eY_holders_47 : decode mY_holders.2.1 47 = .ok (.invokevirtual 70, 3) := by decide +kernel
theorem eY_holders_50 : decode mY_holders.2.1 50 = .ok (.ireturn, 1) := by decide +kernel
theorem eY_changed_0 : decode mY_changed.2.1 0 = .ok (.aload_n 0, 1) := by decide +kernel
theorem eY_changed_1 : decode mY_changed.2.1 1 = .ok (.aload_n 0, 1) := by decide +kernel
theorem eY_changed_2 : decode mY_changed.2.1 2 = .ok (.iload_n 1, 1) := by decide +kernel
theorem eY_changed_3 : decode mY_changed.2.1 3 = .ok (.invokevirtual 80, 3) := by decide +kernel
theorem eY_changed_6 : decode mY_changed.2.1 6 = .ok (.ifCond .ne 7, 3) := by decide +kernel
theorem eY_changed_9 : decode mY_changed.2.1 9 = .ok (.iconst 1, 1) := by decide +kernel
theorem eY_changed_10 : decode mY_changed.2.1 10 = .ok (.goto 4, 3) := by decide +kernel
theorem eY_changed_13 : decode mY_changed.2.1 13 = .ok (.iconst 0, 1) := by decide +kernel
theorem eY_changed_14 : decode mY_changed.2.1 14 = .ok (.iconst 0, 1) := by decide +kernel
theorem eY_changed_15 : decode mY_changed.2.1 15 = .ok (.iconst 0, 1) := by decide +kernel
theorem eY_changed_16 : decode mY_changed.2.1 16 = .ok (.invokevirtual 46, 3) := by decide +kernel
theorem eY_changed_19 : decode mY_changed.2.1 19 = .ok (.ifCond .eq 5, 3) := by decide +kernel
theorem eY_changed_22 : decode mY_changed.2.1 22 = .ok (.iconst 0, 1) := by decide +kernel
theorem eY_changed_23 : decode mY_changed.2.1 23 = .ok (.ireturn, 1) := by decide +kernel
